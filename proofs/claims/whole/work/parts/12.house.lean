/-! the house: who is there, what hangs -/
theorem sp_hasGuest {L : Nat} {xs : Nat → Int32} {d ms b : Nat} {h : am_HI} {Q : am_Q} {v : Int32} {n : Nat} (hn : h 1 10 = nI n) (hn7 : n ≤ 7) (hd : 1 ≤ d) (kt : ∀ k, k < n → v = nI k → Q (some (.int 1)) (am_S b) h) (kf : (∀ k, k < n → v ≠ nI k) → Q (some (.int 0)) (am_S b) h) :
    am_wp L xs d 0 ms 15 0 [.ref 1, .int v] [] (am_S b) h Q := by
  refine wp_run 3 (pc' := 3) (ls' := [.ref 1, .int v]) (st' := [.ref 1, .int 0, .int v]) rfl ?_
  refine wp_geti (nI n) hn rfl rfl rfl ?_
  refine wp_run 2 (pc' := 8) (ls' := [.ref 1, .int v]) (st' := [.int ((nI n) - 1), .int 0, .int v]) rfl ?_
  refine wp_callS (as := [.int v, .int 0, .int ((nI n) - 1)]) (rest := []) (els := [.int v, .int 0, .int ((nI n) - 1)]) rfl rfl rfl rfl rfl rfl rfl rfl (by omega) ?_
  refine sp_x_within1 (m := n) (by omega) rfl ?_ ?_
  · skip
    intro kv hkv ev
    subst ev
    show am_wp L xs _ _ _ _ 11 [.ref 1, .int (nI kv)] [.int 1] (am_S b) h _
    refine wp_retz rfl (Or.inr rfl) ?_
    exact kt _ hkv rfl
  · skip
    intro hnv
    show am_wp L xs _ _ _ _ 11 [.ref 1, .int v] [.int 0] (am_S b) h _
    refine wp_retz rfl (Or.inl rfl) ?_
    exact kf hnv
theorem sp_hasCoat {L : Nat} {xs : Nat → Int32} {d ms b : Nat} {h : am_HI} {Q : am_Q} {v : Int32} {c : Nat} (hc : h 1 11 = nI c) (hc7 : c ≤ 7) (hd : 1 ≤ d) (kt : ∀ k, k < c → v = nI k → Q (some (.int 1)) (am_S b) h) (kf : (∀ k, k < c → v ≠ nI k) → Q (some (.int 0)) (am_S b) h) :
    am_wp L xs d 0 ms 17 0 [.ref 1, .int v] [] (am_S b) h Q := by
  refine wp_run 3 (pc' := 3) (ls' := [.ref 1, .int v]) (st' := [.ref 1, .int 0, .int v]) rfl ?_
  refine wp_geti (nI c) hc rfl rfl rfl ?_
  refine wp_run 2 (pc' := 8) (ls' := [.ref 1, .int v]) (st' := [.int ((nI c) - 1), .int 0, .int v]) rfl ?_
  refine wp_callS (as := [.int v, .int 0, .int ((nI c) - 1)]) (rest := []) (els := [.int v, .int 0, .int ((nI c) - 1)]) rfl rfl rfl rfl rfl rfl rfl rfl (by omega) ?_
  refine sp_x_within1 (m := c) (by omega) rfl ?_ ?_
  · skip
    intro kv hkv ev
    subst ev
    show am_wp L xs _ _ _ _ 11 [.ref 1, .int (nI kv)] [.int 1] (am_S b) h _
    refine wp_retz rfl (Or.inr rfl) ?_
    exact kt _ hkv rfl
  · skip
    intro hnv
    show am_wp L xs _ _ _ _ 11 [.ref 1, .int v] [.int 0] (am_S b) h _
    refine wp_retz rfl (Or.inl rfl) ?_
    exact kf hnv
theorem sp_hasGuestOrNobody {L : Nat} {xs : Nat → Int32} {d ms b : Nat} {h : am_HI} {Q : am_Q} {v : Int32} {n : Nat} (hn : h 1 10 = nI n) (hn7 : n ≤ 7) (hd : 1 ≤ d) (k1 : v = -1 → Q (some (.int 1)) (am_S b) h) (kt : ∀ k, k < n → v = nI k → Q (some (.int 1)) (am_S b) h) (kf : v ≠ -1 → (∀ k, k < n → v ≠ nI k) → Q (some (.int 0)) (am_S b) h) :
    am_wp L xs d 0 ms 28 0 [.ref 1, .int v] [] (am_S b) h Q := by
  refine wp_run 3 (pc' := 3) (ls' := [.ref 1, .int v]) (st' := [.ref 1, .int (-1), .int v]) rfl ?_
  refine wp_geti (nI n) hn rfl rfl rfl ?_
  refine wp_run 2 (pc' := 8) (ls' := [.ref 1, .int v]) (st' := [.int ((nI n) - 1), .int (-1), .int v]) rfl ?_
  refine wp_callS (as := [.int v, .int (-1), .int ((nI n) - 1)]) (rest := []) (els := [.int v, .int (-1), .int ((nI n) - 1)]) rfl rfl rfl rfl rfl rfl rfl rfl (by omega) ?_
  refine sp_x_withinm (m := n) (by omega) rfl ?_ ?_ ?_
  · skip
    intro em
    show am_wp L xs _ _ _ _ 11 [.ref 1, .int v] [.int 1] (am_S b) h _
    refine wp_retz rfl (Or.inr rfl) ?_
    exact k1 em
  · skip
    intro kv hkv ev
    subst ev
    show am_wp L xs _ _ _ _ 11 [.ref 1, .int (nI kv)] [.int 1] (am_S b) h _
    refine wp_retz rfl (Or.inr rfl) ?_
    exact kt _ hkv rfl
  · skip
    intro nem hnv
    show am_wp L xs _ _ _ _ 11 [.ref 1, .int v] [.int 0] (am_S b) h _
    refine wp_retz rfl (Or.inl rfl) ?_
    exact kf nem hnv
theorem sp_hasCoatOrNone {L : Nat} {xs : Nat → Int32} {d ms b : Nat} {h : am_HI} {Q : am_Q} {v : Int32} {c : Nat} (hc : h 1 11 = nI c) (hc7 : c ≤ 7) (hd : 1 ≤ d) (k1 : v = -1 → Q (some (.int 1)) (am_S b) h) (kt : ∀ k, k < c → v = nI k → Q (some (.int 1)) (am_S b) h) (kf : v ≠ -1 → (∀ k, k < c → v ≠ nI k) → Q (some (.int 0)) (am_S b) h) :
    am_wp L xs d 0 ms 40 0 [.ref 1, .int v] [] (am_S b) h Q := by
  refine wp_run 3 (pc' := 3) (ls' := [.ref 1, .int v]) (st' := [.ref 1, .int (-1), .int v]) rfl ?_
  refine wp_geti (nI c) hc rfl rfl rfl ?_
  refine wp_run 2 (pc' := 8) (ls' := [.ref 1, .int v]) (st' := [.int ((nI c) - 1), .int (-1), .int v]) rfl ?_
  refine wp_callS (as := [.int v, .int (-1), .int ((nI c) - 1)]) (rest := []) (els := [.int v, .int (-1), .int ((nI c) - 1)]) rfl rfl rfl rfl rfl rfl rfl rfl (by omega) ?_
  refine sp_x_withinm (m := c) (by omega) rfl ?_ ?_ ?_
  · skip
    intro em
    show am_wp L xs _ _ _ _ 11 [.ref 1, .int v] [.int 1] (am_S b) h _
    refine wp_retz rfl (Or.inr rfl) ?_
    exact k1 em
  · skip
    intro kv hkv ev
    subst ev
    show am_wp L xs _ _ _ _ 11 [.ref 1, .int (nI kv)] [.int 1] (am_S b) h _
    refine wp_retz rfl (Or.inr rfl) ?_
    exact kt _ hkv rfl
  · skip
    intro nem hnv
    show am_wp L xs _ _ _ _ 11 [.ref 1, .int v] [.int 0] (am_S b) h _
    refine wp_retz rfl (Or.inl rfl) ?_
    exact kf nem hnv
theorem sp_isOwn {L : Nat} {xs : Nat → Int32} {d ms b : Nat} {h : am_HI} {Q : am_Q} {v w : Int32} {c : Nat} (hc : h 1 11 = nI c) (hc7 : c ≤ 7) (hd : 2 ≤ d) (kt : ∀ j, j < c → v = nI j → h 8 j = w → Q (some (.int 1)) (am_S b) h) (kf : (∀ j, j < c → v = nI j → h 8 j ≠ w) → Q (some (.int 0)) (am_S b) h) :
    am_wp L xs d 0 ms 20 0 [.ref 1, .int v, .int w] [] (am_S b) h Q := by
  refine wp_run 2 (pc' := 2) (ls' := [.ref 1, .int v, .int w]) (st' := [.int v, .ref 1]) rfl ?_
  refine wp_callV (o := 1) (as := [.int v]) (rest := []) (els := [.ref 1, .int v]) rfl rfl rfl rfl rfl rfl rfl rfl (by omega) ?_
  refine sp_hasCoat hc hc7 (by omega) ?_ ?_
  · skip
    intro kv hkv ev
    subst ev
    show am_wp L xs _ _ _ _ 5 [.ref 1, .int (nI kv), .int w] [.int 1] (am_S b) h _
    refine wp_if_f rfl (show ¬ ((1 : Int32) = 0) from by decide) ?_
    refine wp_run 1 (pc' := 9) (ls' := [.ref 1, .int (nI kv), .int w]) (st' := [.ref 1]) rfl ?_
    refine wp_getr 8 rfl rfl rfl ?_
    refine wp_run 1 (pc' := 13) (ls' := [.ref 1, .int (nI kv), .int w]) (st' := [.int (nI kv), .ref 8]) rfl ?_
    refine wp_ald (h 8 kv) rfl rfl rfl rfl (by omega) rfl ?_
    refine wp_run 1 (pc' := 15) (ls' := [.ref 1, .int (nI kv), .int w]) (st' := [.int w, .int (h 8 kv)]) rfl ?_
    refine wp_icmp rfl (fun (cq15 : ¬ (h 8 kv) = w) => ?_) (fun (cq15 : ¬ (¬ (h 8 kv) = w)) => ?_)
    · skip
      refine wp_run 1 (pc' := 23) (ls' := [.ref 1, .int (nI kv), .int w]) (st' := [.int 0]) rfl ?_
      refine wp_retz rfl (Or.inl rfl) ?_
      exact kf (fun j hj e => by rw [← pu_inj (by omega) (by omega) e]; exact cq15)
    · skip
      replace cq15 := Decidable.not_not.mp cq15
      refine wp_run 2 (pc' := 23) (ls' := [.ref 1, .int (nI kv), .int w]) (st' := [.int 1]) rfl ?_
      refine wp_retz rfl (Or.inr rfl) ?_
      exact kt _ hkv rfl cq15
  · skip
    intro hnv
    show am_wp L xs _ _ _ _ 5 [.ref 1, .int v, .int w] [.int 0] (am_S b) h _
    refine wp_if_t rfl (show (0 : Int32) = 0 from by decide) ?_
    refine wp_run 1 (pc' := 23) (ls' := [.ref 1, .int v, .int w]) (st' := [.int 0]) rfl ?_
    refine wp_retz rfl (Or.inl rfl) ?_
    exact kf (fun j hj e => absurd e (hnv j hj))
theorem sp_allCoats {L : Nat} {xs : Nat → Int32} {d ms b : Nat} {h : am_HI} {Q : am_Q} {c : Nat} (hc : h 1 11 = nI c) (hc7 : c ≤ 7) (kk : Q (some (.int (nI (2 ^ c - 1)))) (am_S b) h) :
    am_wp L xs d 0 ms 43 0 [.ref 1] [] (am_S b) h Q := by
  refine wp_run 2 (pc' := 2) (ls' := [.ref 1]) (st' := [.ref 1, .int 1]) rfl ?_
  refine wp_geti (nI c) hc rfl rfl rfl ?_
  refine wp_run 3 (pc' := 8) (ls' := [.ref 1]) (st' := [.int ((1 <<< ((nI c) &&& 31)) - 1)]) rfl ?_
  refine wp_ret rfl ?_
  rw [show ((1 <<< ((nI c) &&& 31)) - 1) = nI (2 ^ c - 1) from pu_all_i c (by omega)]
  exact kk
theorem lp_wearerOf {L : Nat} {xs : Nat → Int32} {d ms b : Nat} {h : am_HI} {Q : am_Q} {v : Int32} {n : Nat} (hn : h 1 10 = nI n) (hn7 : n ≤ 7) (kt : ∀ g, g < n → (∀ q, q < g → h 5 q ≠ v) → h 5 g = v → v ≠ -1 → Q (some (.int (nI g))) (am_S b) h) (kf : (v = -1 ∨ ∀ g, g < n → h 5 g ≠ v) → Q (some (.int (-1))) (am_S b) h) :
    ∀ (m i : Nat) (hx : v = -1 ∨ ∀ q, q < i → h 5 q ≠ v), i + m = n → am_wp L xs d 0 ms 31 2 [.ref 1, .int v, .int (nI i)] [] (am_S b) h Q := by
  intro m
  induction m with
  | zero =>
    intro i hx hi
    refine wp_run 2 (pc' := 4) (ls' := [.ref 1, .int v, .int (nI i)]) (st' := [.ref 1, .int (nI i)]) rfl ?_
    refine wp_geti (nI n) hn rfl rfl rfl ?_
    refine wp_icmp_t rfl (show (nI n) ≤ (nI i) from (nI_leI (a := n) (b := i) (by omega) (by omega)).mpr (by omega)) ?_
    refine wp_run 1 (pc' := 34) (ls' := [.ref 1, .int v, .int (nI i)]) (st' := [.int (-1)]) rfl ?_
    refine wp_ret rfl ?_
    have e : i = n := by omega
    subst e
    exact kf (by rcases hx with q | q; exact Or.inl q; exact Or.inr q)
  | succ m ih =>
    intro i hx hi
    refine wp_run 2 (pc' := 4) (ls' := [.ref 1, .int v, .int (nI i)]) (st' := [.ref 1, .int (nI i)]) rfl ?_
    refine wp_geti (nI n) hn rfl rfl rfl ?_
    refine wp_icmp_f rfl (show ¬ ((nI n) ≤ (nI i)) from mt (nI_leI (a := n) (b := i) (by omega) (by omega)).mp (by omega)) ?_
    refine wp_run 2 (pc' := 12) (ls' := [.ref 1, .int v, .int (nI i)]) (st' := [.int (-1), .int v]) rfl ?_
    refine wp_icmp rfl (fun (cq12 : v = (-1)) => ?_) (fun (cq12 : ¬ (v = (-1))) => ?_)
    · skip
      refine wp_run 2 (pc' := 2) (ls' := [.ref 1, .int v, .int ((nI i) + 1)]) (st' := []) rfl ?_
      rw [show ((nI i) + 1) = (nI (i + 1)) from nI_add i 1]
      exact ih (i + 1) (Or.inl cq12) (by omega)
    · skip
      refine wp_run 1 (pc' := 16) (ls' := [.ref 1, .int v, .int (nI i)]) (st' := [.ref 1]) rfl ?_
      refine wp_getr 5 rfl rfl rfl ?_
      refine wp_run 1 (pc' := 20) (ls' := [.ref 1, .int v, .int (nI i)]) (st' := [.int (nI i), .ref 5]) rfl ?_
      refine wp_ald (h 5 i) rfl rfl rfl rfl (by omega) rfl ?_
      refine wp_run 1 (pc' := 22) (ls' := [.ref 1, .int v, .int (nI i)]) (st' := [.int v, .int (h 5 i)]) rfl ?_
      refine wp_icmp rfl (fun (cq22 : ¬ (h 5 i) = v) => ?_) (fun (cq22 : ¬ (¬ (h 5 i) = v)) => ?_)
      · skip
        refine wp_run 2 (pc' := 2) (ls' := [.ref 1, .int v, .int ((nI i) + 1)]) (st' := []) rfl ?_
        rw [show ((nI i) + 1) = (nI (i + 1)) from nI_add i 1]
        exact ih (i + 1) (by rcases hx with q | q; exact Or.inl q; exact Or.inr (fun g hg => by rcases Nat.lt_succ_iff_lt_or_eq.mp hg with q2 | q2; exact q g q2; rw [q2]; exact cq22)) (by omega)
      · skip
        replace cq22 := Decidable.not_not.mp cq22
        refine wp_run 1 (pc' := 26) (ls' := [.ref 1, .int v, .int (nI i)]) (st' := [.int (nI i)]) rfl ?_
        refine wp_ret rfl ?_
        exact kt i (by omega) (by rcases hx with q | q; exact absurd q cq12; exact q) (by simpa using cq22) cq12
theorem sp_wearerOf {L : Nat} {xs : Nat → Int32} {d ms b : Nat} {h : am_HI} {Q : am_Q} {v : Int32} {n : Nat} (hn : h 1 10 = nI n) (hn7 : n ≤ 7) (kt : ∀ g, g < n → (∀ q, q < g → h 5 q ≠ v) → h 5 g = v → v ≠ -1 → Q (some (.int (nI g))) (am_S b) h) (kf : (v = -1 ∨ ∀ g, g < n → h 5 g ≠ v) → Q (some (.int (-1))) (am_S b) h) :
    am_wp L xs d 0 ms 31 0 [.ref 1, .int v, am_du] [] (am_S b) h Q := by
  refine wp_run 2 (pc' := 2) (ls' := [.ref 1, .int v, .int 0]) (st' := []) rfl ?_
  exact lp_wearerOf hn hn7 kt kf n 0 (Or.inr (fun q hq => by omega)) (by omega)
