/-! the best giving: the reference's side -/
def bs_T8 (MK : Nat → Nat → Int32) (c n k : Nat) (f : Nat → Int32) : Prop := ∀ q, k ≤ q → q ≤ n → ∀ S, S < 128 → f (128 * q + S) = bs_V MK c n (n - q) S
def ms_l (P : Nat → Bool) (c i : Nat) (v : Int32) : Prop := (v = -1 ∧ ∀ k, i ≤ k → k < c → P k = false) ∨ ∃ t, i ≤ t ∧ t < c ∧ v = nI t ∧ P t = true ∧ ∀ k, i ≤ k → k < t → P k = false
theorem ms_l_t {P : Nat → Bool} {c i : Nat} (hi : i < c) (e : P i = true) : ms_l P c i (nI i) := Or.inr ⟨i, Nat.le_refl _, hi, rfl, e, fun k q1 q2 => by omega⟩
theorem ms_l_f {P : Nat → Bool} {c i : Nat} {v : Int32} (h : ms_l P c (i + 1) v) (e : P i = false) : ms_l P c i v := by
  rcases h with ⟨q1, q2⟩ | ⟨t, q1, q2, q3, q4, q5⟩
  · refine Or.inl ⟨q1, fun k k1 k2 => ?_⟩
    by_cases q : k = i
    · rw [q]; exact e
    · exact q2 k (by omega) k2
  · refine Or.inr ⟨t, by omega, q2, q3, q4, fun k k1 k2 => ?_⟩
    by_cases q : k = i
    · rw [q]; exact e
    · exact q5 k (by omega) k2
theorem ms_l_0 {P : Nat → Bool} {c : Nat} {v : Int32} (h : ms_l P c 0 v) (h7 : c ≤ 7) : bs_lc P c = v := by
  rcases h with ⟨q1, q2⟩ | ⟨t, q1, q2, q3, q4, q5⟩
  · rw [q1]
    exact bs_lc_0 h7 (fun j hj => q2 j (Nat.zero_le _) hj)
  · rw [q3]
    exact bs_lc_1 h7 q2 q4 (fun k hk => q5 k (Nat.zero_le _) hk)
theorem lp_fv1 {L : Nat} {xs : Nat → Int32} {d ms b : Nat} {h : am_HI} {Q : am_Q} {n c : Nat} {MK : Nat → Nat → Int32} (hm2 : h 75 2 = nI n) (hn7 : n ≤ 7) (hm3 : h 75 3 = nI c) (hc7 : c ≤ 7) (hd : 9 ≤ d) (kk : ∀ gz, (∀ g, g < n → ∀ j, j < c → gz 86 (7 * g + j) = MK j g) → (∀ S, S < 128 → gz 85 (128 * n + S) = 0) → ∀ (u3 u4 u5 u6 u7 : Value), am_wp L xs d 0 ms 186 35 [.ref 74, .int (nI n), .int (nI 128), u3, u4, u5, u6, u7] [] (am_S b) (am_ov h [83, 84, 85, 86, 87, 88] gz) Q) :
    ∀ (m i : Nat) (gz : am_HI) (u3 u4 u5 u6 u7 : Value) (e86 : ∀ g, g < n → ∀ j, j < c → gz 86 (7 * g + j) = MK j g) (f85 : ∀ S, S < i → gz 85 (128 * n + S) = 0), i + m = 128 → am_wp L xs d 0 ms 186 9 [.ref 74, .int (nI n), .int (nI i), u3, u4, u5, u6, u7] [] (am_S b) (am_ov h [83, 84, 85, 86, 87, 88] gz) Q := by
  intro m
  induction m with
  | zero =>
    intro i gz u3 u4 u5 u6 u7 e86 f85 hi
    have e9 : i = 128 := by omega
    rw [e9] at f85 ⊢
    refine wp_run 2 (pc' := 13) (ls' := [.ref 74, .int (nI n), .int (nI 128), u3, u4, u5, u6, u7]) (st' := [.int 128, .int (nI 128)]) rfl ?_
    refine wp_icmp_t rfl (show 128 ≤ (nI 128) from (nI_leI (a := 128) (b := 128) (by omega) (by omega)).mpr (by omega)) ?_
    exact kk gz e86 f85 _ _ _ _ _
  | succ m ih =>
    intro i gz u3 u4 u5 u6 u7 e86 f85 hi
    refine wp_run 2 (pc' := 13) (ls' := [.ref 74, .int (nI n), .int (nI i), u3, u4, u5, u6, u7]) (st' := [.int 128, .int (nI i)]) rfl ?_
    refine wp_icmp_f rfl (show ¬ (128 ≤ (nI i)) from mt (nI_leI (a := 128) (b := i) (by omega) (by omega)).mp (by omega)) ?_
    refine wp_run 1 (pc' := 17) (ls' := [.ref 74, .int (nI n), .int (nI i), u3, u4, u5, u6, u7]) (st' := [.ref 74]) rfl ?_
    refine wp_getr 85 rfl rfl rfl ?_
    refine wp_run 6 (pc' := 28) (ls' := [.ref 74, .int (nI n), .int (nI i), u3, u4, u5, u6, u7]) (st' := [.int 0, .int ((128 * (nI n)) + (nI i)), .ref 85]) rfl ?_
    rw [show ((128 * (nI n)) : Int32) = (nI (128 * n)) from pk_mul 128 n]
    rw [show (((nI (128 * n)) + (nI i)) : Int32) = (nI ((128 * n) + i)) from nI_add (128 * n) i]
    refine wp_ast rfl rfl rfl (by omega) rfl ?_
    refine wp_run 2 (pc' := 9) (ls' := [.ref 74, .int (nI n), .int ((nI i) + 1), u3, u4, u5, u6, u7]) (st' := []) rfl ?_
    rw [show (((nI i) + 1) : Int32) = (nI (i + 1)) from nI_add i 1]
    refine am_gen (fun X hX => ?_)
    have eX : X = am_ov h [83, 84, 85, 86, 87, 88] X := am_ov_of (fun a ha => by rw [hX]; rw [am_u_off _ _ _ (am_nel ha rfl), am_ov_off (am_sub ha rfl)])
    rw [eX]
    refine ih (i + 1) X _ _ _ _ _ (by rw [hX]; exact e86) ?_ (by omega)
    intro S hS
    rw [hX]
    show upd (gz 85) (128 * n + i) 0 (128 * n + S) = 0
    by_cases ej : S = i
    · rw [ej, pk_us]
    · rw [pk_un (by omega)]; exact f85 S (by omega)
theorem lp_fv2 {L : Nat} {xs : Nat → Int32} {d ms b : Nat} {h : am_HI} {Q : am_Q} {n c : Nat} {MK : Nat → Nat → Int32} (hm2 : h 75 2 = nI n) (hn7 : n ≤ 7) (hm3 : h 75 3 = nI c) (hc7 : c ≤ 7) (hd : 9 ≤ d) {g S : Nat} {V : Nat → Int32} (hg : g < n) (hS : S < 128) (hW : ∀ j, j < c → h 86 (7 * g + j) = MK j g) (hV : ∀ S, S < 128 → h 85 (128 * (g + 1) + S) = V S) (kk : ∀ u6 u7, am_wp L xs d 0 ms 186 164 [.ref 74, .int (nI n), .int (nI g), .int (nI S), .int (bs_f (fun j => MK j g) V S c), .int (nI c), u6, u7] [] (am_S b) h Q) :
    ∀ (m i : Nat) (u6 u7 : Value), i + m = c → am_wp L xs d 0 ms 186 71 [.ref 74, .int (nI n), .int (nI g), .int (nI S), .int (bs_f (fun j => MK j g) V S i), .int (nI i), u6, u7] [] (am_S b) h Q := by
  intro m
  induction m with
  | zero =>
    intro i u6 u7 hi
    have e9 : i = c := by omega
    rw [e9]
    refine wp_run 2 (pc' := 74) (ls' := [.ref 74, .int (nI n), .int (nI g), .int (nI S), .int (bs_f (fun j => MK j g) V S c), .int (nI c), u6, u7]) (st' := [.ref 74, .int (nI c)]) rfl ?_
    refine wp_getr 75 rfl rfl rfl ?_
    refine wp_run 1 (pc' := 78) (ls' := [.ref 74, .int (nI n), .int (nI g), .int (nI S), .int (bs_f (fun j => MK j g) V S c), .int (nI c), u6, u7]) (st' := [.int 3, .ref 75, .int (nI c)]) rfl ?_
    refine wp_ald (i := 3) (nI c) hm3 rfl rfl rfl (by decide) rfl ?_
    refine wp_icmp_t rfl (show (nI c) ≤ (nI c) from (nI_leI (a := c) (b := c) (by omega) (by omega)).mpr (by omega)) ?_
    exact kk _ _
  | succ m ih =>
    intro i u6 u7 hi
    refine wp_run 2 (pc' := 74) (ls' := [.ref 74, .int (nI n), .int (nI g), .int (nI S), .int (bs_f (fun j => MK j g) V S i), .int (nI i), u6, u7]) (st' := [.ref 74, .int (nI i)]) rfl ?_
    refine wp_getr 75 rfl rfl rfl ?_
    refine wp_run 1 (pc' := 78) (ls' := [.ref 74, .int (nI n), .int (nI g), .int (nI S), .int (bs_f (fun j => MK j g) V S i), .int (nI i), u6, u7]) (st' := [.int 3, .ref 75, .int (nI i)]) rfl ?_
    refine wp_ald (i := 3) (nI c) hm3 rfl rfl rfl (by decide) rfl ?_
    refine wp_icmp_f rfl (show ¬ ((nI c) ≤ (nI i)) from mt (nI_leI (a := c) (b := i) (by omega) (by omega)).mp (by omega)) ?_
    refine wp_run 5 (pc' := 88) (ls' := [.ref 74, .int (nI n), .int (nI g), .int (nI S), .int (bs_f (fun j => MK j g) V S i), .int (nI i), u6, u7]) (st' := [.int (((nI S) >>> ((nI i) &&& 31)) &&& 1)]) rfl ?_
    refine wp_if rfl (fun (cq88 : ¬ (((nI S) >>> ((nI i) &&& 31)) &&& 1) = 0) => ?_) (fun (cq88 : ¬ (¬ (((nI S) >>> ((nI i) &&& 31)) &&& 1) = 0)) => ?_)
    · skip
      have hbit : S.testBit i = true := by
        rw [pu_bit_i S hS i (by omega)] at cq88
        cases q : S.testBit i
        · rw [q] at cq88; exact absurd rfl cq88
        · rfl
      refine wp_run 3 (pc' := 100) (ls' := [.ref 74, .int (nI n), .int (nI g), .int (nI S), .int (bs_f (fun j => MK j g) V S i), .int (nI i), .int 0, u7]) (st' := [.int 0]) rfl ?_
      refine wp_if_t rfl (show (0 : Int32) = 0 from by decide) ?_
      refine wp_run 4 (pc' := 146) (ls' := [.ref 74, .int (nI n), .int (nI g), .int (nI S), .int (bs_f (fun j => MK j g) V S i), .int (nI i), .int 0, .int (bs_f (fun j => MK j g) V S i)]) (st' := [.int (bs_f (fun j => MK j g) V S i), .int (bs_f (fun j => MK j g) V S i)]) rfl ?_
      refine wp_icmp_t rfl (show (bs_f (fun j => MK j g) V S i) ≤ (bs_f (fun j => MK j g) V S i) from Int32.le_refl _) ?_
      refine wp_run 4 (pc' := 71) (ls' := [.ref 74, .int (nI n), .int (nI g), .int (nI S), .int (bs_f (fun j => MK j g) V S i), .int ((nI i) + 1), .int 0, .int (bs_f (fun j => MK j g) V S i)]) (st' := []) rfl ?_
      rw [show (((nI i) + 1) : Int32) = (nI (i + 1)) from nI_add i 1]
      rw [← bs_f_t (W := fun j => MK j g) (V := V) hbit]
      exact ih (i + 1) _ _ (by omega)
    · skip
      replace cq88 := Decidable.not_not.mp cq88
      have hbit : S.testBit i = false := by
        rw [pu_bit_i S hS i (by omega)] at cq88
        cases q : S.testBit i
        · rfl
        · rw [q] at cq88; cases cq88
      refine wp_run 4 (pc' := 100) (ls' := [.ref 74, .int (nI n), .int (nI g), .int (nI S), .int (bs_f (fun j => MK j g) V S i), .int (nI i), .int 1, u7]) (st' := [.int 1]) rfl ?_
      refine wp_if_f rfl (show ¬ ((1 : Int32) = 0) from by decide) ?_
      refine wp_run 1 (pc' := 104) (ls' := [.ref 74, .int (nI n), .int (nI g), .int (nI S), .int (bs_f (fun j => MK j g) V S i), .int (nI i), .int 1, u7]) (st' := [.ref 74]) rfl ?_
      refine wp_getr 86 rfl rfl rfl ?_
      refine wp_run 5 (pc' := 114) (ls' := [.ref 74, .int (nI n), .int (nI g), .int (nI S), .int (bs_f (fun j => MK j g) V S i), .int (nI i), .int 1, u7]) (st' := [.int ((7 * (nI g)) + (nI i)), .ref 86]) rfl ?_
      rw [show ((7 * (nI g)) : Int32) = (nI (7 * g)) from pk_mul 7 g]
      rw [show (((nI (7 * g)) + (nI i)) : Int32) = (nI ((7 * g) + i)) from nI_add (7 * g) i]
      refine wp_ald (i := ((7 * g) + i)) (MK i g) (hW i (by omega)) rfl rfl rfl (by omega) rfl ?_
      refine wp_run 1 (pc' := 116) (ls' := [.ref 74, .int (nI n), .int (nI g), .int (nI S), .int (bs_f (fun j => MK j g) V S i), .int (nI i), .int 1, u7]) (st' := [.ref 74, .int (MK i g)]) rfl ?_
      refine wp_getr 85 rfl rfl rfl ?_
      refine wp_run 10 (pc' := 132) (ls' := [.ref 74, .int (nI n), .int (nI g), .int (nI S), .int (bs_f (fun j => MK j g) V S i), .int (nI i), .int 1, u7]) (st' := [.int ((nI S) ||| (1 <<< ((nI i) &&& 31))), .int (128 * ((nI g) + 1)), .ref 85, .int (MK i g)]) rfl ?_
      rw [show (((nI g) + 1) : Int32) = (nI (g + 1)) from nI_add g 1]
      rw [show ((128 * (nI (g + 1))) : Int32) = (nI (128 * (g + 1))) from pk_mul 128 (g + 1)]
      have hps := pu_set_lt S hS i (by omega)
      rw [show (((nI S) ||| (1 <<< ((nI i) &&& 31))) : Int32) = nI (pu_set S i) from pu_set_i S hS i (by omega)]
      refine wp_run 1 (pc' := 133) (ls' := [.ref 74, .int (nI n), .int (nI g), .int (nI S), .int (bs_f (fun j => MK j g) V S i), .int (nI i), .int 1, u7]) (st' := [.int ((nI (128 * (g + 1))) + (nI (pu_set S i))), .ref 85, .int (MK i g)]) rfl ?_
      rw [show (((nI (128 * (g + 1))) + (nI (pu_set S i))) : Int32) = (nI ((128 * (g + 1)) + (pu_set S i))) from nI_add (128 * (g + 1)) (pu_set S i)]
      refine wp_ald (i := ((128 * (g + 1)) + (pu_set S i))) (V (pu_set S i)) (hV _ hps) rfl rfl rfl (by omega) rfl ?_
      refine wp_run 5 (pc' := 146) (ls' := [.ref 74, .int (nI n), .int (nI g), .int (nI S), .int (bs_f (fun j => MK j g) V S i), .int (nI i), .int 1, .int ((MK i g) + (V (pu_set S i)))]) (st' := [.int (bs_f (fun j => MK j g) V S i), .int ((MK i g) + (V (pu_set S i)))]) rfl ?_
      refine wp_icmp rfl (fun (cq146 : ((MK i g) + (V (pu_set S i))) ≤ (bs_f (fun j => MK j g) V S i)) => ?_) (fun (cq146 : ¬ (((MK i g) + (V (pu_set S i))) ≤ (bs_f (fun j => MK j g) V S i))) => ?_)
      · skip
        refine wp_run 4 (pc' := 71) (ls' := [.ref 74, .int (nI n), .int (nI g), .int (nI S), .int (bs_f (fun j => MK j g) V S i), .int ((nI i) + 1), .int 1, .int ((MK i g) + (V (pu_set S i)))]) (st' := []) rfl ?_
        rw [show (((nI i) + 1) : Int32) = (nI (i + 1)) from nI_add i 1]
        have eb : (bs_f (fun j => MK j g) V S i) = (bs_f (fun j => MK j g) V S (i + 1)) := ((if_neg (Int32.not_lt.mpr cq146)).symm : _ = am_imax (bs_f (fun j => MK j g) V S i) (MK i g + V (pu_set S i))).trans (bs_f_f (W := fun j => MK j g) (V := V) hbit).symm
        rw [eb]
        exact ih (i + 1) _ _ (by omega)
      · skip
        refine wp_run 5 (pc' := 71) (ls' := [.ref 74, .int (nI n), .int (nI g), .int (nI S), .int ((MK i g) + (V (pu_set S i))), .int ((nI i) + 1), .int 1, .int ((MK i g) + (V (pu_set S i)))]) (st' := []) rfl ?_
        rw [show (((nI i) + 1) : Int32) = (nI (i + 1)) from nI_add i 1]
        have eb : ((MK i g) + (V (pu_set S i))) = (bs_f (fun j => MK j g) V S (i + 1)) := ((if_pos (Int32.not_le.mp cq146)).symm : _ = am_imax (bs_f (fun j => MK j g) V S i) (MK i g + V (pu_set S i))).trans (bs_f_f (W := fun j => MK j g) (V := V) hbit).symm
        rw [eb]
        exact ih (i + 1) _ _ (by omega)
theorem lp_fv3 {L : Nat} {xs : Nat → Int32} {d ms b : Nat} {h : am_HI} {Q : am_Q} {n c : Nat} {MK : Nat → Nat → Int32} (hm2 : h 75 2 = nI n) (hn7 : n ≤ 7) (hm3 : h 75 3 = nI c) (hc7 : c ≤ 7) (hd : 9 ≤ d) {g : Nat} (hg : g < n) (kk : ∀ gz, (∀ g, g < n → ∀ j, j < c → gz 86 (7 * g + j) = MK j g) → bs_T8 MK c n g (gz 85) → ∀ u4 u5 u6 u7, am_wp L xs d 0 ms 186 184 [.ref 74, .int (nI n), .int (nI g), .int (nI 128), u4, u5, u6, u7] [] (am_S b) (am_ov h [83, 84, 85, 86, 87, 88] gz) Q) :
    ∀ (m i : Nat) (gz : am_HI) (u4 u5 u6 u7 : Value) (e86 : ∀ g, g < n → ∀ j, j < c → gz 86 (7 * g + j) = MK j g) (e85 : bs_T8 MK c n (g + 1) (gz 85)) (f85 : ∀ S, S < i → gz 85 (128 * g + S) = bs_V MK c n (n - g) S), i + m = 128 → am_wp L xs d 0 ms 186 45 [.ref 74, .int (nI n), .int (nI g), .int (nI i), u4, u5, u6, u7] [] (am_S b) (am_ov h [83, 84, 85, 86, 87, 88] gz) Q := by
  intro m
  induction m with
  | zero =>
    intro i gz u4 u5 u6 u7 e86 e85 f85 hi
    have e9 : i = 128 := by omega
    rw [e9] at f85 ⊢
    refine wp_run 2 (pc' := 49) (ls' := [.ref 74, .int (nI n), .int (nI g), .int (nI 128), u4, u5, u6, u7]) (st' := [.int 128, .int (nI 128)]) rfl ?_
    refine wp_icmp_t rfl (show 128 ≤ (nI 128) from (nI_leI (a := 128) (b := 128) (by omega) (by omega)).mpr (by omega)) ?_
    refine kk gz e86 (fun q q1 q2 S hS => ?_) _ _ _ _
    by_cases eq : q = g
    · rw [eq]; exact f85 S hS
    · exact e85 q (by omega) q2 S hS
  | succ m ih =>
    intro i gz u4 u5 u6 u7 e86 e85 f85 hi
    refine wp_run 2 (pc' := 49) (ls' := [.ref 74, .int (nI n), .int (nI g), .int (nI i), u4, u5, u6, u7]) (st' := [.int 128, .int (nI i)]) rfl ?_
    refine wp_icmp_f rfl (show ¬ (128 ≤ (nI i)) from mt (nI_leI (a := 128) (b := i) (by omega) (by omega)).mp (by omega)) ?_
    refine wp_run 1 (pc' := 53) (ls' := [.ref 74, .int (nI n), .int (nI g), .int (nI i), u4, u5, u6, u7]) (st' := [.ref 74]) rfl ?_
    refine wp_getr 85 rfl rfl rfl ?_
    refine wp_run 7 (pc' := 65) (ls' := [.ref 74, .int (nI n), .int (nI g), .int (nI i), u4, u5, u6, u7]) (st' := [.int ((128 * ((nI g) + 1)) + (nI i)), .ref 85]) rfl ?_
    rw [show (((nI g) + 1) : Int32) = (nI (g + 1)) from nI_add g 1]
    rw [show ((128 * (nI (g + 1))) : Int32) = (nI (128 * (g + 1))) from pk_mul 128 (g + 1)]
    rw [show (((nI (128 * (g + 1))) + (nI i)) : Int32) = (nI ((128 * (g + 1)) + i)) from nI_add (128 * (g + 1)) i]
    refine wp_ald (i := ((128 * (g + 1)) + i)) (bs_V MK c n (n - (g + 1)) i) (e85 (g + 1) (Nat.le_refl _) (by omega) i (by omega)) rfl rfl rfl (by omega) rfl ?_
    refine wp_run 3 (pc' := 71) (ls' := [.ref 74, .int (nI n), .int (nI g), .int (nI i), .int (bs_V MK c n (n - (g + 1)) i), .int 0, u6, u7]) (st' := []) rfl ?_
    refine lp_fv2 (h := am_ov h [83, 84, 85, 86, 87, 88] gz) (MK := MK) (g := g) (S := i) (V := bs_V MK c n (n - (g + 1))) hm2 hn7 hm3 hc7 hd hg (by omega) (fun j hj => e86 g hg j hj) (fun S hS => e85 (g + 1) (Nat.le_refl _) (by omega) S hS) (fun v6 v7 => ?_) c 0 _ _ (by omega)
    rw [← bs_V_s (MK := MK) hg i]
    refine wp_run 1 (pc' := 165) (ls' := [.ref 74, .int (nI n), .int (nI g), .int (nI i), .int (bs_V MK c n (n - g) i), .int (nI c), v6, v7]) (st' := [.ref 74]) rfl ?_
    refine wp_getr 85 rfl rfl rfl ?_
    refine wp_run 6 (pc' := 177) (ls' := [.ref 74, .int (nI n), .int (nI g), .int (nI i), .int (bs_V MK c n (n - g) i), .int (nI c), v6, v7]) (st' := [.int (bs_V MK c n (n - g) i), .int ((128 * (nI g)) + (nI i)), .ref 85]) rfl ?_
    rw [show ((128 * (nI g)) : Int32) = (nI (128 * g)) from pk_mul 128 g]
    rw [show (((nI (128 * g)) + (nI i)) : Int32) = (nI ((128 * g) + i)) from nI_add (128 * g) i]
    refine wp_ast rfl rfl rfl (by omega) rfl ?_
    refine wp_run 2 (pc' := 45) (ls' := [.ref 74, .int (nI n), .int (nI g), .int ((nI i) + 1), .int (bs_V MK c n (n - g) i), .int (nI c), v6, v7]) (st' := []) rfl ?_
    rw [show (((nI i) + 1) : Int32) = (nI (i + 1)) from nI_add i 1]
    refine am_gen (fun X hX => ?_)
    have eX : X = am_ov h [83, 84, 85, 86, 87, 88] X := am_ov_of (fun a ha => by rw [hX]; rw [am_u_off _ _ _ (am_nel ha rfl), am_ov_off (am_sub ha rfl)])
    rw [eX]
    refine ih (i + 1) X _ _ _ _ (by rw [hX]; exact e86) ?_ ?_ (by omega)
    · intro q q1 q2 S hS
      rw [hX]
      show upd (gz 85) (128 * g + i) _ (128 * q + S) = _
      rw [pk_un (by omega)]
      exact e85 q q1 q2 S hS
    · intro S hS
      rw [hX]
      show upd (gz 85) (128 * g + i) _ (128 * g + S) = _
      by_cases ej : S = i
      · rw [ej, pk_us]
      · rw [pk_un (by omega)]; exact f85 S (by omega)
theorem lp_fv4 {L : Nat} {xs : Nat → Int32} {d ms b : Nat} {h : am_HI} {Q : am_Q} {n c : Nat} {MK : Nat → Nat → Int32} (hm2 : h 75 2 = nI n) (hn7 : n ≤ 7) (hm3 : h 75 3 = nI c) (hc7 : c ≤ 7) (hd : 9 ≤ d) (kk : ∀ gz, (∀ g, g < n → ∀ j, j < c → gz 86 (7 * g + j) = MK j g) → bs_T8 MK c n 0 (gz 85) → Q none (am_S b) (am_ov h [83, 84, 85, 86, 87, 88] gz)) :
    ∀ (k : Nat) (gz : am_HI) (u3 u4 u5 u6 u7 : Value) (e86 : ∀ g, g < n → ∀ j, j < c → gz 86 (7 * g + j) = MK j g) (e85 : bs_T8 MK c n k (gz 85)), k ≤ n → am_wp L xs d 0 ms 186 39 [.ref 74, .int (nI n), .int (nI k - 1), u3, u4, u5, u6, u7] [] (am_S b) (am_ov h [83, 84, 85, 86, 87, 88] gz) Q := by
  intro k
  induction k with
  | zero =>
    intro gz u3 u4 u5 u6 u7 e86 e85 hk
    rw [show (nI 0 - 1 : Int32) = -1 from by decide]
    refine wp_run 1 (pc' := 40) (ls' := [.ref 74, .int (nI n), .int (-1), u3, u4, u5, u6, u7]) (st' := [.int (-1)]) rfl ?_
    refine wp_if_t rfl (show ((-1) : Int32) < 0 from by decide) ?_
    refine wp_retv rfl ?_
    exact kk gz e86 e85
  | succ k ih =>
    intro gz u3 u4 u5 u6 u7 e86 e85 hk
    rw [nI_pred k]
    refine wp_run 1 (pc' := 40) (ls' := [.ref 74, .int (nI n), .int (nI k), u3, u4, u5, u6, u7]) (st' := [.int (nI k)]) rfl ?_
    refine wp_if_f rfl (show ¬ ((nI k) < 0) from mt (nI_ltI (a := k) (b := 0) (by omega) (by omega)).mp (by omega)) ?_
    refine wp_run 2 (pc' := 45) (ls' := [.ref 74, .int (nI n), .int (nI k), .int 0, u4, u5, u6, u7]) (st' := []) rfl ?_
    refine lp_fv3 hm2 hn7 hm3 hc7 hd (g := k) (by omega) (fun gy g86 g85 v4 v5 v6 v7 => ?_) 128 0 gz _ _ _ _ e86 e85 (fun S hS => by omega) (by omega)
    refine wp_run 2 (pc' := 39) (ls' := [.ref 74, .int (nI n), .int ((nI k) + (-1)), .int (nI 128), v4, v5, v6, v7]) (st' := []) rfl ?_
    rw [show (((nI k) + (-1)) : Int32) = nI k - 1 from (Int32.sub_eq_add_neg (nI k) 1).symm]
    exact ih gy _ _ _ _ _ g86 g85 (by omega)
theorem sp_findValues {L : Nat} {xs : Nat → Int32} {d ms b : Nat} {h : am_HI} {Q : am_Q} {n c : Nat} {MK : Nat → Nat → Int32} (hm2 : h 75 2 = nI n) (hn7 : n ≤ 7) (hm3 : h 75 3 = nI c) (hc7 : c ≤ 7) (hd : 9 ≤ d) (gz : am_HI) (e86 : ∀ g, g < n → ∀ j, j < c → gz 86 (7 * g + j) = MK j g) (kk : ∀ gz, (∀ g, g < n → ∀ j, j < c → gz 86 (7 * g + j) = MK j g) → bs_T8 MK c n 0 (gz 85) → Q none (am_S b) (am_ov h [83, 84, 85, 86, 87, 88] gz)) :
    am_wp L xs d 0 ms 186 0 [.ref 74, am_du, am_du, am_du, am_du, am_du, am_du, am_du] [] (am_S b) (am_ov h [83, 84, 85, 86, 87, 88] gz) Q := by
  refine wp_run 1 (pc' := 1) (ls' := [.ref 74, am_du, am_du, am_du, am_du, am_du, am_du, am_du]) (st' := [.ref 74]) rfl ?_
  refine wp_getr 75 rfl rfl rfl ?_
  refine wp_run 1 (pc' := 5) (ls' := [.ref 74, am_du, am_du, am_du, am_du, am_du, am_du, am_du]) (st' := [.int 2, .ref 75]) rfl ?_
  refine wp_ald (i := 2) (nI n) hm2 rfl rfl rfl (by decide) rfl ?_
  refine wp_run 3 (pc' := 9) (ls' := [.ref 74, .int (nI n), .int 0, am_du, am_du, am_du, am_du, am_du]) (st' := []) rfl ?_
  refine lp_fv1 hm2 hn7 hm3 hc7 hd (fun gy g86 g85 u3 u4 u5 u6 u7 => ?_) 128 0 gz _ _ _ _ _ e86 (fun S hS => by omega) (by omega)
  refine wp_run 4 (pc' := 39) (ls' := [.ref 74, .int (nI n), .int ((nI n) - 1), u3, u4, u5, u6, u7]) (st' := []) rfl ?_
  have t0 : bs_T8 MK c n n (gy 85) := fun q q1 q2 S hS => by
    have e9 : q = n := by omega
    rw [e9, Nat.sub_self]
    exact g85 S hS
  exact lp_fv4 hm2 hn7 hm3 hc7 hd kk n gy _ _ _ _ _ g86 t0 (Nat.le_refl _)
theorem lp_fb1 {L : Nat} {xs : Nat → Int32} {d ms b : Nat} {h : am_HI} {Q : am_Q} {n c : Nat} {MK : Nat → Nat → Int32} (hm2 : h 75 2 = nI n) (hn7 : n ≤ 7) (hm3 : h 75 3 = nI c) (hc7 : c ≤ 7) (hd : 9 ≤ d) {g : Nat} (hg : g < n) (kk : ∀ gz v u4 u5, (∀ g, g < n → ∀ j, j < c → gz 86 (7 * g + j) = MK j g) → bs_T8 MK c n 0 (gz 85) → (∀ q, q < g → gz 88 q = bs_gv MK c n q) → gz 88 g = v → ms_l (bs_p MK c n g (bs_A MK c n g)) c 0 v → am_wp L xs d 0 ms 184 141 [.ref 74, .int (nI (bs_A MK c n g)), .int (nI g), .int (-1), u4, u5] [] (am_S b) (am_ov h [83, 84, 85, 86, 87, 88] gz) Q) :
    ∀ (i : Nat) (gz : am_HI) (v : Int32) (u4 u5 : Value) (e86 : ∀ g, g < n → ∀ j, j < c → gz 86 (7 * g + j) = MK j g) (e85 : bs_T8 MK c n 0 (gz 85)) (f88 : ∀ q, q < g → gz 88 q = bs_gv MK c n q) (ev : gz 88 g = v) (hl : ms_l (bs_p MK c n g (bs_A MK c n g)) c i v), i ≤ c → am_wp L xs d 0 ms 184 38 [.ref 74, .int (nI (bs_A MK c n g)), .int (nI g), .int (nI i - 1), u4, u5] [] (am_S b) (am_ov h [83, 84, 85, 86, 87, 88] gz) Q := by
  have hpw := bs_pow c (by omega)
  have hA := bs_A_lt (MK := MK) (n := n) hc7 g
  have hA8 : (bs_A MK c n g) < 128 := by omega
  intro i
  induction i with
  | zero =>
    intro gz v u4 u5 e86 e85 f88 ev hl hi
    rw [show (nI 0 - 1 : Int32) = -1 from by decide]
    refine wp_run 1 (pc' := 39) (ls' := [.ref 74, .int (nI (bs_A MK c n g)), .int (nI g), .int (-1), u4, u5]) (st' := [.int (-1)]) rfl ?_
    refine wp_if_t rfl (show ((-1) : Int32) < 0 from by decide) ?_
    exact kk gz v _ _ e86 e85 f88 ev hl
  | succ i ih =>
    intro gz v u4 u5 e86 e85 f88 ev hl hi
    rw [nI_pred i]
    refine wp_run 1 (pc' := 39) (ls' := [.ref 74, .int (nI (bs_A MK c n g)), .int (nI g), .int (nI i), u4, u5]) (st' := [.int (nI i)]) rfl ?_
    refine wp_if_f rfl (show ¬ ((nI i) < 0) from mt (nI_ltI (a := i) (b := 0) (by omega) (by omega)).mp (by omega)) ?_
    refine wp_run 5 (pc' := 47) (ls' := [.ref 74, .int (nI (bs_A MK c n g)), .int (nI g), .int (nI i), u4, u5]) (st' := [.int (((nI (bs_A MK c n g)) >>> ((nI i) &&& 31)) &&& 1)]) rfl ?_
    refine wp_if rfl (fun (cq47 : ¬ (((nI (bs_A MK c n g)) >>> ((nI i) &&& 31)) &&& 1) = 0) => ?_) (fun (cq47 : ¬ (¬ (((nI (bs_A MK c n g)) >>> ((nI i) &&& 31)) &&& 1) = 0)) => ?_)
    · skip
      have hbit : ((bs_A MK c n g)).testBit i = true := by
        rw [pu_bit_i _ hA8 i (by omega)] at cq47
        cases q : ((bs_A MK c n g)).testBit i
        · rw [q] at cq47; exact absurd rfl cq47
        · rfl
      refine wp_run 3 (pc' := 59) (ls' := [.ref 74, .int (nI (bs_A MK c n g)), .int (nI g), .int (nI i), .int 0, u5]) (st' := [.int 0]) rfl ?_
      refine wp_if_t rfl (show (0 : Int32) = 0 from by decide) ?_
      refine wp_run 3 (pc' := 115) (ls' := [.ref 74, .int (nI (bs_A MK c n g)), .int (nI g), .int (nI i), .int 0, .int 0]) (st' := [.ref 74]) rfl ?_
      refine wp_getr 88 rfl rfl rfl ?_
      refine wp_run 2 (pc' := 121) (ls' := [.ref 74, .int (nI (bs_A MK c n g)), .int (nI g), .int (nI i), .int 0, .int 0]) (st' := [.int 0, .int (nI g), .ref 88]) rfl ?_
      refine wp_if_t rfl (show (0 : Int32) = 0 from by decide) ?_
      refine wp_run 1 (pc' := 129) (ls' := [.ref 74, .int (nI (bs_A MK c n g)), .int (nI g), .int (nI i), .int 0, .int 0]) (st' := [.ref 74, .int (nI g), .ref 88]) rfl ?_
      refine wp_getr 88 rfl rfl rfl ?_
      refine wp_run 1 (pc' := 133) (ls' := [.ref 74, .int (nI (bs_A MK c n g)), .int (nI g), .int (nI i), .int 0, .int 0]) (st' := [.int (nI g), .ref 88, .int (nI g), .ref 88]) rfl ?_
      refine wp_ald (i := g) v ev rfl rfl rfl (by omega) rfl ?_
      refine wp_ast rfl rfl rfl (by omega) rfl ?_
      refine wp_run 2 (pc' := 38) (ls' := [.ref 74, .int (nI (bs_A MK c n g)), .int (nI g), .int ((nI i) + (-1)), .int 0, .int 0]) (st' := []) rfl ?_
      rw [show (((nI i) + (-1)) : Int32) = nI i - 1 from (Int32.sub_eq_add_neg (nI i) 1).symm]
      refine am_gen (fun X hX => ?_)
      have eX : X = am_ov h [83, 84, 85, 86, 87, 88] X := am_ov_of (fun a ha => by rw [hX]; rw [am_u_off _ _ _ (am_nel ha rfl), am_ov_off (am_sub ha rfl)])
      rw [eX]
      refine ih X v _ _ (by rw [hX]; exact e86) (by rw [hX]; exact e85) ?_ (by rw [hX]; exact pk_us) (ms_l_f hl (bs_p_b hbit)) (by omega)
      intro q hq
      rw [hX]
      show upd (gz 88) g _ q = _
      rw [pk_un (by omega)]
      exact f88 q hq
    · skip
      replace cq47 := Decidable.not_not.mp cq47
      have hbit : ((bs_A MK c n g)).testBit i = false := by
        rw [pu_bit_i _ hA8 i (by omega)] at cq47
        cases q : ((bs_A MK c n g)).testBit i
        · rfl
        · rw [q] at cq47; cases cq47
      refine wp_run 4 (pc' := 59) (ls' := [.ref 74, .int (nI (bs_A MK c n g)), .int (nI g), .int (nI i), .int 1, u5]) (st' := [.int 1]) rfl ?_
      refine wp_if_f rfl (show ¬ ((1 : Int32) = 0) from by decide) ?_
      refine wp_run 1 (pc' := 63) (ls' := [.ref 74, .int (nI (bs_A MK c n g)), .int (nI g), .int (nI i), .int 1, u5]) (st' := [.ref 74]) rfl ?_
      refine wp_getr 86 rfl rfl rfl ?_
      refine wp_run 5 (pc' := 72) (ls' := [.ref 74, .int (nI (bs_A MK c n g)), .int (nI g), .int (nI i), .int 1, u5]) (st' := [.int ((7 * (nI g)) + (nI i)), .ref 86]) rfl ?_
      rw [show ((7 * (nI g)) : Int32) = (nI (7 * g)) from pk_mul 7 g]
      rw [show (((nI (7 * g)) + (nI i)) : Int32) = (nI ((7 * g) + i)) from nI_add (7 * g) i]
      refine wp_ald (i := ((7 * g) + i)) (MK i g) (e86 g hg i (by omega)) rfl rfl rfl (by omega) rfl ?_
      refine wp_run 1 (pc' := 74) (ls' := [.ref 74, .int (nI (bs_A MK c n g)), .int (nI g), .int (nI i), .int 1, u5]) (st' := [.ref 74, .int (MK i g)]) rfl ?_
      refine wp_getr 85 rfl rfl rfl ?_
      refine wp_run 10 (pc' := 89) (ls' := [.ref 74, .int (nI (bs_A MK c n g)), .int (nI g), .int (nI i), .int 1, u5]) (st' := [.int ((nI (bs_A MK c n g)) ||| (1 <<< ((nI i) &&& 31))), .int (128 * ((nI g) + 1)), .ref 85, .int (MK i g)]) rfl ?_
      rw [show (((nI g) + 1) : Int32) = (nI (g + 1)) from nI_add g 1]
      rw [show ((128 * (nI (g + 1))) : Int32) = (nI (128 * (g + 1))) from pk_mul 128 (g + 1)]
      have hps := pu_set_lt _ hA8 i (by omega)
      rw [show (((nI (bs_A MK c n g)) ||| (1 <<< ((nI i) &&& 31))) : Int32) = nI (pu_set (bs_A MK c n g) i) from pu_set_i _ hA8 i (by omega)]
      refine wp_run 1 (pc' := 90) (ls' := [.ref 74, .int (nI (bs_A MK c n g)), .int (nI g), .int (nI i), .int 1, u5]) (st' := [.int ((nI (128 * (g + 1))) + (nI (pu_set (bs_A MK c n g) i))), .ref 85, .int (MK i g)]) rfl ?_
      rw [show (((nI (128 * (g + 1))) + (nI (pu_set (bs_A MK c n g) i))) : Int32) = (nI ((128 * (g + 1)) + (pu_set (bs_A MK c n g) i))) from nI_add (128 * (g + 1)) (pu_set (bs_A MK c n g) i)]
      refine wp_ald (i := ((128 * (g + 1)) + (pu_set (bs_A MK c n g) i))) (bs_V MK c n (n - (g + 1)) (pu_set (bs_A MK c n g) i)) (e85 (g + 1) (by omega) (by omega) _ hps) rfl rfl rfl (by omega) rfl ?_
      refine wp_run 2 (pc' := 93) (ls' := [.ref 74, .int (nI (bs_A MK c n g)), .int (nI g), .int (nI i), .int 1, u5]) (st' := [.ref 74, .int ((MK i g) + (bs_V MK c n (n - (g + 1)) (pu_set (bs_A MK c n g) i)))]) rfl ?_
      refine wp_getr 85 rfl rfl rfl ?_
      refine wp_run 5 (pc' := 103) (ls' := [.ref 74, .int (nI (bs_A MK c n g)), .int (nI g), .int (nI i), .int 1, u5]) (st' := [.int ((128 * (nI g)) + (nI (bs_A MK c n g))), .ref 85, .int ((MK i g) + (bs_V MK c n (n - (g + 1)) (pu_set (bs_A MK c n g) i)))]) rfl ?_
      rw [show ((128 * (nI g)) : Int32) = (nI (128 * g)) from pk_mul 128 g]
      rw [show (((nI (128 * g)) + (nI (bs_A MK c n g))) : Int32) = (nI ((128 * g) + (bs_A MK c n g))) from nI_add (128 * g) (bs_A MK c n g)]
      refine wp_ald (i := ((128 * g) + (bs_A MK c n g))) (bs_V MK c n (n - g) (bs_A MK c n g)) (e85 g (by omega) (by omega) _ hA8) rfl rfl rfl (by omega) rfl ?_
      refine wp_icmp rfl (fun (cq104 : ¬ ((MK i g) + (bs_V MK c n (n - (g + 1)) (pu_set (bs_A MK c n g) i))) = (bs_V MK c n (n - g) (bs_A MK c n g))) => ?_) (fun (cq104 : ¬ (¬ ((MK i g) + (bs_V MK c n (n - (g + 1)) (pu_set (bs_A MK c n g) i))) = (bs_V MK c n (n - g) (bs_A MK c n g)))) => ?_)
      · skip
        refine wp_run 3 (pc' := 115) (ls' := [.ref 74, .int (nI (bs_A MK c n g)), .int (nI g), .int (nI i), .int 1, .int 0]) (st' := [.ref 74]) rfl ?_
        refine wp_getr 88 rfl rfl rfl ?_
        refine wp_run 2 (pc' := 121) (ls' := [.ref 74, .int (nI (bs_A MK c n g)), .int (nI g), .int (nI i), .int 1, .int 0]) (st' := [.int 0, .int (nI g), .ref 88]) rfl ?_
        refine wp_if_t rfl (show (0 : Int32) = 0 from by decide) ?_
        refine wp_run 1 (pc' := 129) (ls' := [.ref 74, .int (nI (bs_A MK c n g)), .int (nI g), .int (nI i), .int 1, .int 0]) (st' := [.ref 74, .int (nI g), .ref 88]) rfl ?_
        refine wp_getr 88 rfl rfl rfl ?_
        refine wp_run 1 (pc' := 133) (ls' := [.ref 74, .int (nI (bs_A MK c n g)), .int (nI g), .int (nI i), .int 1, .int 0]) (st' := [.int (nI g), .ref 88, .int (nI g), .ref 88]) rfl ?_
        refine wp_ald (i := g) v ev rfl rfl rfl (by omega) rfl ?_
        refine wp_ast rfl rfl rfl (by omega) rfl ?_
        refine wp_run 2 (pc' := 38) (ls' := [.ref 74, .int (nI (bs_A MK c n g)), .int (nI g), .int ((nI i) + (-1)), .int 1, .int 0]) (st' := []) rfl ?_
        rw [show (((nI i) + (-1)) : Int32) = nI i - 1 from (Int32.sub_eq_add_neg (nI i) 1).symm]
        refine am_gen (fun X hX => ?_)
        have eX : X = am_ov h [83, 84, 85, 86, 87, 88] X := am_ov_of (fun a ha => by rw [hX]; rw [am_u_off _ _ _ (am_nel ha rfl), am_ov_off (am_sub ha rfl)])
        rw [eX]
        refine ih X v _ _ (by rw [hX]; exact e86) (by rw [hX]; exact e85) ?_ (by rw [hX]; exact pk_us) (ms_l_f hl (bs_p_f cq104)) (by omega)
        intro q hq
        rw [hX]
        show upd (gz 88) g _ q = _
        rw [pk_un (by omega)]
        exact f88 q hq
      · skip
        replace cq104 := Decidable.not_not.mp cq104
        refine wp_run 4 (pc' := 115) (ls' := [.ref 74, .int (nI (bs_A MK c n g)), .int (nI g), .int (nI i), .int 1, .int 1]) (st' := [.ref 74]) rfl ?_
        refine wp_getr 88 rfl rfl rfl ?_
        refine wp_run 2 (pc' := 121) (ls' := [.ref 74, .int (nI (bs_A MK c n g)), .int (nI g), .int (nI i), .int 1, .int 1]) (st' := [.int 1, .int (nI g), .ref 88]) rfl ?_
        refine wp_if_f rfl (show ¬ ((1 : Int32) = 0) from by decide) ?_
        refine wp_run 2 (pc' := 134) (ls' := [.ref 74, .int (nI (bs_A MK c n g)), .int (nI g), .int (nI i), .int 1, .int 1]) (st' := [.int (nI i), .int (nI g), .ref 88]) rfl ?_
        refine wp_ast rfl rfl rfl (by omega) rfl ?_
        refine wp_run 2 (pc' := 38) (ls' := [.ref 74, .int (nI (bs_A MK c n g)), .int (nI g), .int ((nI i) + (-1)), .int 1, .int 1]) (st' := []) rfl ?_
        rw [show (((nI i) + (-1)) : Int32) = nI i - 1 from (Int32.sub_eq_add_neg (nI i) 1).symm]
        refine am_gen (fun X hX => ?_)
        have eX : X = am_ov h [83, 84, 85, 86, 87, 88] X := am_ov_of (fun a ha => by rw [hX]; rw [am_u_off _ _ _ (am_nel ha rfl), am_ov_off (am_sub ha rfl)])
        rw [eX]
        refine ih X (nI i) _ _ (by rw [hX]; exact e86) (by rw [hX]; exact e85) ?_ (by rw [hX]; exact pk_us) (ms_l_t (by omega) (bs_p_t hbit cq104)) (by omega)
        intro q hq
        rw [hX]
        show upd (gz 88) g _ q = _
        rw [pk_un (by omega)]
        exact f88 q hq
theorem lp_fb2 {L : Nat} {xs : Nat → Int32} {d ms b : Nat} {h : am_HI} {Q : am_Q} {n c : Nat} {MK : Nat → Nat → Int32} (hm2 : h 75 2 = nI n) (hn7 : n ≤ 7) (hm3 : h 75 3 = nI c) (hc7 : c ≤ 7) (hd : 9 ≤ d) (kk : ∀ gz, gz 85 0 = bs_V MK c n n 0 → (∀ g, g < n → gz 88 g = bs_gv MK c n g) → Q none (am_S b) (am_ov h [83, 84, 85, 86, 87, 88] gz)) :
    ∀ (m i : Nat) (gz : am_HI) (u3 u4 u5 : Value) (e86 : ∀ g, g < n → ∀ j, j < c → gz 86 (7 * g + j) = MK j g) (e85 : bs_T8 MK c n 0 (gz 85)) (f88 : ∀ q, q < i → gz 88 q = bs_gv MK c n q), i + m = n → am_wp L xs d 0 ms 184 12 [.ref 74, .int (nI (bs_A MK c n i)), .int (nI i), u3, u4, u5] [] (am_S b) (am_ov h [83, 84, 85, 86, 87, 88] gz) Q := by
  have hpw := bs_pow c (by omega)
  intro m
  induction m with
  | zero =>
    intro i gz u3 u4 u5 e86 e85 f88 hi
    refine wp_run 2 (pc' := 14) (ls' := [.ref 74, .int (nI (bs_A MK c n i)), .int (nI i), u3, u4, u5]) (st' := [.ref 74, .int (nI i)]) rfl ?_
    refine wp_getr 75 rfl rfl rfl ?_
    refine wp_run 1 (pc' := 18) (ls' := [.ref 74, .int (nI (bs_A MK c n i)), .int (nI i), u3, u4, u5]) (st' := [.int 2, .ref 75, .int (nI i)]) rfl ?_
    refine wp_ald (i := 2) (nI n) hm2 rfl rfl rfl (by decide) rfl ?_
    refine wp_icmp_t rfl (show (nI n) ≤ (nI i) from (nI_leI (a := n) (b := i) (by omega) (by omega)).mpr (by omega)) ?_
    refine wp_retv rfl ?_
    have e9 : i = n := by omega
    rw [e9] at f88
    exact kk gz (e85 0 (Nat.le_refl _) (Nat.zero_le _) 0 (by omega)) f88
  | succ m ih =>
    intro i gz u3 u4 u5 e86 e85 f88 hi
    refine wp_run 2 (pc' := 14) (ls' := [.ref 74, .int (nI (bs_A MK c n i)), .int (nI i), u3, u4, u5]) (st' := [.ref 74, .int (nI i)]) rfl ?_
    refine wp_getr 75 rfl rfl rfl ?_
    refine wp_run 1 (pc' := 18) (ls' := [.ref 74, .int (nI (bs_A MK c n i)), .int (nI i), u3, u4, u5]) (st' := [.int 2, .ref 75, .int (nI i)]) rfl ?_
    refine wp_ald (i := 2) (nI n) hm2 rfl rfl rfl (by decide) rfl ?_
    refine wp_icmp_f rfl (show ¬ ((nI n) ≤ (nI i)) from mt (nI_leI (a := n) (b := i) (by omega) (by omega)).mp (by omega)) ?_
    refine wp_run 1 (pc' := 23) (ls' := [.ref 74, .int (nI (bs_A MK c n i)), .int (nI i), u3, u4, u5]) (st' := [.ref 74]) rfl ?_
    refine wp_getr 88 rfl rfl rfl ?_
    refine wp_run 2 (pc' := 28) (ls' := [.ref 74, .int (nI (bs_A MK c n i)), .int (nI i), u3, u4, u5]) (st' := [.int (-1), .int (nI i), .ref 88]) rfl ?_
    refine wp_ast rfl rfl rfl (by omega) rfl ?_
    refine wp_run 1 (pc' := 30) (ls' := [.ref 74, .int (nI (bs_A MK c n i)), .int (nI i), u3, u4, u5]) (st' := [.ref 74]) rfl ?_
    refine wp_getr 75 rfl rfl rfl ?_
    refine wp_run 1 (pc' := 34) (ls' := [.ref 74, .int (nI (bs_A MK c n i)), .int (nI i), u3, u4, u5]) (st' := [.int 3, .ref 75]) rfl ?_
    refine wp_ald (i := 3) (nI c) hm3 rfl rfl rfl (by decide) rfl ?_
    refine wp_run 3 (pc' := 38) (ls' := [.ref 74, .int (nI (bs_A MK c n i)), .int (nI i), .int ((nI c) - 1), u4, u5]) (st' := []) rfl ?_
    refine am_gen (fun X hX => ?_)
    have eX : X = am_ov h [83, 84, 85, 86, 87, 88] X := am_ov_of (fun a ha => by rw [hX]; rw [am_u_off _ _ _ (am_nel ha rfl), am_ov_off (am_sub ha rfl)])
    rw [eX]
    have hA := bs_A_lt (MK := MK) (n := n) hc7 i
    refine lp_fb1 hm2 hn7 hm3 hc7 hd (g := i) (by omega) (fun gy v v4 v5 g86 g85 g88 gv gl => ?_) c X (-1) _ _ (by rw [hX]; exact e86) (by rw [hX]; exact e85) ?_ (by rw [hX]; exact pk_us) (Or.inl ⟨rfl, fun k q1 q2 => by omega⟩) (Nat.le_refl _)
    rotate_left
    · intro q hq
      rw [hX]
      show upd (gz 88) i _ q = _
      rw [pk_un (by omega)]
      exact f88 q hq
    have ev2 : bs_gv MK c n i = v := ms_l_0 gl hc7
    rcases (show bs_gv MK c n i = -1 ∨ ∃ j, j < c ∧ bs_gv MK c n i = nI j from bs_lc_or hc7) with e5 | ⟨j, hj, e5⟩
    · have e7 : gy 88 i = (-1) := gv.trans (ev2.symm.trans e5)
      refine wp_run 2 (pc' := 143) (ls' := [.ref 74, .int (nI (bs_A MK c n i)), .int (nI i), .int (-1), v4, v5]) (st' := [.ref 74, .int (nI (bs_A MK c n i))]) rfl ?_
      refine wp_getr 88 rfl rfl rfl ?_
      refine wp_run 1 (pc' := 147) (ls' := [.ref 74, .int (nI (bs_A MK c n i)), .int (nI i), .int (-1), v4, v5]) (st' := [.int (nI i), .ref 88, .int (nI (bs_A MK c n i))]) rfl ?_
      refine wp_ald (i := i) (-1) e7 rfl rfl rfl (by omega) rfl ?_
      refine wp_if_f rfl (show ¬ (0 ≤ ((-1) : Int32)) from by decide) ?_
      refine wp_run 6 (pc' := 12) (ls' := [.ref 74, .int ((nI (bs_A MK c n i)) ||| 0), .int ((nI i) + 1), .int (-1), v4, v5]) (st' := []) rfl ?_
      rw [show (((nI i) + 1) : Int32) = (nI (i + 1)) from nI_add i 1]
      rw [show (((nI (bs_A MK c n i)) ||| 0) : Int32) = nI (bs_A MK c n (i + 1)) from Int32.or_zero.trans (by rw [bs_A_0 e5])]
      exact ih (i + 1) gy _ _ _ g86 g85 (fun q hq => by rcases Nat.lt_succ_iff_lt_or_eq.mp hq with q2 | q2; exact g88 q q2; rw [q2, gv]; exact ev2.symm) (by omega)
    · have e7 : gy 88 i = (nI j) := gv.trans (ev2.symm.trans e5)
      refine wp_run 2 (pc' := 143) (ls' := [.ref 74, .int (nI (bs_A MK c n i)), .int (nI i), .int (-1), v4, v5]) (st' := [.ref 74, .int (nI (bs_A MK c n i))]) rfl ?_
      refine wp_getr 88 rfl rfl rfl ?_
      refine wp_run 1 (pc' := 147) (ls' := [.ref 74, .int (nI (bs_A MK c n i)), .int (nI i), .int (-1), v4, v5]) (st' := [.int (nI i), .ref 88, .int (nI (bs_A MK c n i))]) rfl ?_
      refine wp_ald (i := i) (nI j) e7 rfl rfl rfl (by omega) rfl ?_
      refine wp_if_t rfl (show 0 ≤ (nI j) from (nI_leI (a := 0) (b := j) (by omega) (by omega)).mpr (by omega)) ?_
      refine wp_run 2 (pc' := 157) (ls' := [.ref 74, .int (nI (bs_A MK c n i)), .int (nI i), .int (-1), v4, v5]) (st' := [.ref 74, .int 1, .int (nI (bs_A MK c n i))]) rfl ?_
      refine wp_getr 88 rfl rfl rfl ?_
      refine wp_run 1 (pc' := 161) (ls' := [.ref 74, .int (nI (bs_A MK c n i)), .int (nI i), .int (-1), v4, v5]) (st' := [.int (nI i), .ref 88, .int 1, .int (nI (bs_A MK c n i))]) rfl ?_
      refine wp_ald (i := i) (nI j) e7 rfl rfl rfl (by omega) rfl ?_
      refine wp_run 5 (pc' := 12) (ls' := [.ref 74, .int ((nI (bs_A MK c n i)) ||| (1 <<< ((nI j) &&& 31))), .int ((nI i) + 1), .int (-1), v4, v5]) (st' := []) rfl ?_
      rw [show (((nI i) + 1) : Int32) = (nI (i + 1)) from nI_add i 1]
      rw [show (((nI (bs_A MK c n i)) ||| (1 <<< ((nI j) &&& 31))) : Int32) = nI (bs_A MK c n (i + 1)) from (pu_set_i _ (by omega) j (by omega)).trans (by rw [bs_A_1 e5 (by omega)])]
      exact ih (i + 1) gy _ _ _ g86 g85 (fun q hq => by rcases Nat.lt_succ_iff_lt_or_eq.mp hq with q2 | q2; exact g88 q q2; rw [q2, gv]; exact ev2.symm) (by omega)
theorem sp_findBest {L : Nat} {xs : Nat → Int32} {d ms b : Nat} {h : am_HI} {Q : am_Q} {n c t : Nat} {s0 s1 : Int32} {p0 p1 : List Int32} {MK : Nat → Nat → Int32} (HM : am_ms h n c t s0 s1 p0 p1) (hMK : ∀ g, g < n → ∀ j, j < c → ms_mk h s1 p1 j g = MK j g) (hd : 12 ≤ d) (kk : ∀ gz, gz 85 0 = bs_V MK c n n 0 → (∀ g, g < n → gz 88 g = bs_gv MK c n g) → Q none (am_S b) (am_ov h [83, 84, 85, 86, 87, 88] gz)) :
    am_wp L xs d 0 ms 184 0 [.ref 74, am_du, am_du, am_du, am_du, am_du] [] (am_S b) h Q := by
  have hn7 := HM.2.2.2.1
  have hc7 := HM.2.2.2.2.1
  have hm2 := HM.1
  have hm3 := HM.2.1
  refine wp_run 1 (pc' := 1) (ls' := [.ref 74, am_du, am_du, am_du, am_du, am_du]) (st' := [.ref 74]) rfl ?_
  refine wp_callV (o := 74) (as := []) (rest := []) (els := [.ref 74, am_du, am_du]) rfl rfl rfl rfl rfl rfl rfl rfl (by omega) ?_
  refine sp_findWorths HM (by omega) (fun gw f86 f87 => ?_)
  show am_wp L xs _ _ _ _ 4 [.ref 74, am_du, am_du, am_du, am_du, am_du] [] (am_S b) (am_ov h [83, 84, 86, 87] gw) _
  refine wp_run 1 (pc' := 5) (ls' := [.ref 74, am_du, am_du, am_du, am_du, am_du]) (st' := [.ref 74]) rfl ?_
  refine wp_callV (o := 74) (as := []) (rest := []) (els := [.ref 74, am_du, am_du, am_du, am_du, am_du, am_du, am_du]) rfl rfl rfl rfl rfl rfl rfl rfl (by omega) ?_
  refine am_gen (fun X hX => ?_)
  have eX : X = am_ov h [83, 84, 85, 86, 87, 88] X := am_ov_of (fun a ha => by rw [hX]; rw [am_ov_off (am_sub ha rfl)])
  rw [eX]
  refine sp_findValues (MK := MK) hm2 hn7 hm3 hc7 (by omega) X (by rw [hX]; exact fun g hg j hj => (f86 g hg j hj).trans (hMK g hg j hj)) (fun gy g86 g85 => ?_)
  show am_wp L xs _ _ _ _ 8 [.ref 74, am_du, am_du, am_du, am_du, am_du] [] (am_S b) (am_ov h [83, 84, 85, 86, 87, 88] gy) _
  refine wp_run 4 (pc' := 12) (ls' := [.ref 74, .int 0, .int 0, am_du, am_du, am_du]) (st' := []) rfl ?_
  exact lp_fb2 hm2 hn7 hm3 hc7 (by omega) kk n 0 gy _ _ _ g86 g85 (fun q hq => by omega) (by omega)
