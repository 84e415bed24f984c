/-! calls tied: move -/
theorem pu_sub {l k : Nat} (h : k ≤ l) : nI l - nI k = nI (l - k) := by
  have e : nI l = nI (l - k) + nI k := by rw [nI_add, Nat.sub_add_cancel h]
  rw [e, Int32.add_sub_cancel]
theorem pu_toInt {k : Nat} (hk : k < 2 ^ 31) : (nI k).toInt = (k : Int) := Int32.toInt_ofNat_of_lt hk
theorem pu_subneg {l k : Nat} (hk : k < 2 ^ 31) (h : l < k) : nI l - nI k < 0 := by
  rw [Int32.lt_iff_toInt_lt, Int32.toInt_sub, pu_toInt (by omega), pu_toInt hk]
  show Int.bmod ((l : Int) - (k : Int)) (2 ^ 32) < 0
  unfold Int.bmod
  dsimp only
  split <;> omega
theorem pu_suble {n i l : Nat} (hn : n < 2 ^ 31) (hi : i < 2 ^ 31) (hl : l ≤ 24) : nI n ≤ nI l - nI i ↔ n + i ≤ l := by
  by_cases q : i ≤ l
  · rw [pu_sub q, nI_leI (by omega) (by omega)]
    omega
  · constructor
    · intro h
      exact (Int32.lt_irrefl (Int32.lt_of_le_of_lt (Int32.le_trans (pu_0 hn) h) (pu_subneg hi (by omega)))).elim
    · intro h
      omega
theorem pu_nonneg {v : Int32} (h : 0 ≤ v) : ∃ k, k < 2 ^ 31 ∧ v = nI k := by
  rw [Int32.le_iff_toInt_le] at h
  have h0 : (0 : Int) ≤ v.toInt := h
  have h1 := Int32.toInt_lt v
  refine ⟨v.toInt.toNat, by omega, ?_⟩
  apply Int32.toInt_inj.mp
  rw [pu_toInt (by omega)]
  omega
theorem sp_holds {L : Nat} {xs : Nat → Int32} {d ms : Nat} {h : am_HI} {sh : am_SH} {Q : am_Q} {o l : Nat} {x v : Int32} (ho : am_objb sh o 5 = true) (ho2 : h o 2 = nI l) (hl : l ≤ 24) (hd : 3 ≤ d) (kt : ∀ i n, v = nI n → x = nI i → i + n ≤ l → Q (some (.int 1)) sh h) (kf : (∀ i n, v = nI n → x = nI i → i + n ≤ l → False) → Q (some (.int 0)) sh h) :
    am_wp L xs d 0 ms 116 0 [.ref o, .int x, .int v] [] sh h Q := by
  refine wp_run 3 (pc' := 3) (ls' := [.ref o, .int x, .int v]) (st' := [.ref o, .int 0, .int v]) rfl ?_
  refine wp_geti (a := 2) (nI l) ho2 rfl rfl ho ?_
  refine wp_callS (as := [.int v, .int 0, .int (nI l)]) (rest := []) (els := [.int v, .int 0, .int (nI l)]) rfl rfl rfl rfl rfl rfl rfl rfl (by omega) ?_
  refine sp_x_within0 (m := l) (Nat.ble_eq_true_of_le (by omega)) rfl ?_ ?_
  · skip
    intro k5 hk5 e5
    subst e5
    show am_wp L xs _ _ _ _ 9 [.ref o, .int x, .int (nI k5)] [.int 1] sh h _
    refine wp_if_f rfl (show ¬ ((1 : Int32) = 0) from by decide) ?_
    refine wp_run 3 (pc' := 15) (ls' := [.ref o, .int x, .int (nI k5)]) (st' := [.ref o, .int 0, .int x]) rfl ?_
    refine wp_geti (a := 2) (nI l) ho2 rfl rfl ho ?_
    refine wp_run 2 (pc' := 20) (ls' := [.ref o, .int x, .int (nI k5)]) (st' := [.int ((nI l) - (nI k5)), .int 0, .int x]) rfl ?_
    refine wp_callS (as := [.int x, .int 0, .int ((nI l) - (nI k5))]) (rest := []) (els := [.int x, .int 0, .int ((nI l) - (nI k5))]) rfl rfl rfl rfl rfl rfl rfl rfl (by omega) ?_
    refine sp_x_within0 (m := l - k5) (Nat.ble_eq_true_of_le (by omega)) (pu_sub hk5) ?_ ?_
    · skip
      intro k6 hk6 e6
      subst e6
      show am_wp L xs _ _ _ _ 23 [.ref o, .int (nI k6), .int (nI k5)] [.int 1] sh h _
      refine wp_if_f rfl (show ¬ ((1 : Int32) = 0) from by decide) ?_
      refine wp_run 2 (pc' := 31) (ls' := [.ref o, .int (nI k6), .int (nI k5)]) (st' := [.int 1]) rfl ?_
      refine wp_retz rfl (Or.inr rfl) ?_
      exact kt k6 k5 rfl rfl (by omega)
    · skip
      intro hno
      show am_wp L xs _ _ _ _ 23 [.ref o, .int x, .int (nI k5)] [.int 0] sh h _
      refine wp_if_t rfl (show (0 : Int32) = 0 from by decide) ?_
      refine wp_run 1 (pc' := 31) (ls' := [.ref o, .int x, .int (nI k5)]) (st' := [.int 0]) rfl ?_
      refine wp_retz rfl (Or.inl rfl) ?_
      exact kf (fun i n q1 q2 q3 => hno i (by have := pu_inj (by omega) (by omega) q1; omega) q2)
  · skip
    intro hno
    show am_wp L xs _ _ _ _ 9 [.ref o, .int x, .int v] [.int 0] sh h _
    refine wp_if_t rfl (show (0 : Int32) = 0 from by decide) ?_
    refine wp_run 1 (pc' := 31) (ls' := [.ref o, .int x, .int v]) (st' := [.int 0]) rfl ?_
    refine wp_retz rfl (Or.inl rfl) ?_
    exact kf (fun i n q1 q2 q3 => hno n (by omega) q1)
