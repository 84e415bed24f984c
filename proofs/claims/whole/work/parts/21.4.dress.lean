/-! the house is dressed by a sheet -/
def pu_fst (ok : Nat → Prop) (l r : Nat) : Prop := r ≤ l ∧ (∀ q, q < r → ok q) ∧ (r = l ∨ ¬ ok r)
theorem pu_fst_uniq {ok ok2 : Nat → Prop} {l r r2 : Nat} (h : pu_fst ok l r) (h2 : pu_fst ok2 l r2) (e : ∀ q, q < l → (ok q ↔ ok2 q)) : r = r2 := by
  obtain ⟨h3, h4, h5⟩ := h
  obtain ⟨h6, h7, h8⟩ := h2
  rcases Nat.lt_trichotomy r r2 with q | q | q
  · rcases h5 with h5 | h5
    · omega
    · exact absurd ((e r (by omega)).mpr (h7 r q)) h5
  · exact q
  · rcases h8 with h8 | h8
    · omega
    · exact absurd ((e r2 (by omega)).mp (h4 r2 q)) h8
def dr_ok (a : Nat → Int32) (n c i : Nat) : Prop := i < n ∧ (a i = -1 ∨ (∃ j, j < c ∧ a i = nI j) ∧ ∀ g, g < i → a g ≠ a i)
def dr_f (a f : Nat → Int32) (n i : Nat) : Nat → Int32 := fun j => if j < i then a j else if j < n then -1 else f j
theorem dr_lo {a f : Nat → Int32} {n i j : Nat} (h : j < i) : dr_f a f n i j = a j := if_pos h
theorem dr_hi {a f : Nat → Int32} {n i j : Nat} (h : ¬ j < i) (h2 : j < n) : dr_f a f n i j = -1 := (if_neg h).trans (if_pos h2)
theorem dr_0 (h : am_HI) (a : Nat → Int32) (n : Nat) : hs_un h n = am_ur h 5 (dr_f a (h 5) n 0) := by
  funext b j
  unfold hs_un am_ur dr_f
  by_cases e : b = 5
  · subst e
    simp only [if_pos]
    rw [if_neg (Nat.not_lt_zero j)]
  · simp only [if_neg e]
theorem dr_s (h : am_HI) (a : Nat → Int32) {n i : Nat} (hi : i < n) : am_u (am_ur h 5 (dr_f a (h 5) n i)) 5 i (a i) = am_ur h 5 (dr_f a (h 5) n (i + 1)) := by
  funext b j
  unfold am_ur am_u
  by_cases e : b = 5
  · subst e
    simp only [if_pos, upd]
    unfold dr_f
    by_cases e1 : j = i
    · rw [if_pos e1, if_pos (by omega), e1]
    · rw [if_neg e1]
      by_cases e2 : j < i
      · rw [if_pos e2, if_pos (by omega)]
      · rw [if_neg e2, if_neg (show ¬ j < i + 1 by omega)]
  · simp only [if_neg e]
theorem lp_dress65 {L : Nat} {xs : Nat → Int32} {d ms b : Nat} {h : am_HI} {Q : am_Q} {n c l : Nat} (hn : h 1 10 = nI n) (hn7 : n ≤ 7) (hc : h 1 11 = nI c) (hc7 : c ≤ 7) (hl : l ≤ 24) (ho2 : h 65 2 = nI l) (hd : 4 ≤ d) (kk : ∀ r, pu_fst (dr_ok (h 66) n c) l r → Q (some (.int (nI r))) (am_S b) (am_ur h 5 (dr_f (h 66) (h 5) n r))) :
    ∀ (m i : Nat) (u3 : Value) (hx : ∀ q, q < i → dr_ok (h 66) n c q), i + m = l → am_wp L xs d 0 ms 118 6 [.ref 1, .ref 65, .int (nI i), u3] [] (am_S b) (am_ur h 5 (dr_f (h 66) (h 5) n i)) Q := by
  intro m
  induction m with
  | zero =>
    intro i u3 hx hi
    refine wp_run 2 (pc' := 8) (ls' := [.ref 1, .ref 65, .int (nI i), u3]) (st' := [.ref 65, .int (nI i)]) rfl ?_
    refine wp_geti (a := 2) (nI l) ho2 rfl rfl rfl ?_
    refine wp_icmp_t rfl (show (nI l) ≤ (nI i) from (nI_leI (a := l) (b := i) (by omega) (by omega)).mpr (by omega)) ?_
    refine wp_run 1 (pc' := 62) (ls' := [.ref 1, .ref 65, .int (nI i), u3]) (st' := [.ref 65]) rfl ?_
    refine wp_geti (a := 2) (nI l) ho2 rfl rfl rfl ?_
    refine wp_ret rfl ?_
    have e9 : i = l := by omega
    subst e9
    exact kk i ⟨by omega, hx, Or.inl rfl⟩
  | succ m ih =>
    intro i u3 hx hi
    refine wp_run 2 (pc' := 8) (ls' := [.ref 1, .ref 65, .int (nI i), u3]) (st' := [.ref 65, .int (nI i)]) rfl ?_
    refine wp_geti (a := 2) (nI l) ho2 rfl rfl rfl ?_
    refine wp_icmp_f rfl (show ¬ ((nI l) ≤ (nI i)) from mt (nI_leI (a := l) (b := i) (by omega) (by omega)).mp (by omega)) ?_
    refine wp_run 1 (pc' := 15) (ls' := [.ref 1, .ref 65, .int (nI i), u3]) (st' := [.ref 65]) rfl ?_
    refine wp_getr 66 rfl rfl rfl ?_
    refine wp_run 1 (pc' := 19) (ls' := [.ref 1, .ref 65, .int (nI i), u3]) (st' := [.int (nI i), .ref 66]) rfl ?_
    refine wp_ald (i := i) (h 66 i) rfl rfl rfl rfl (by omega) rfl ?_
    refine wp_run 3 (pc' := 23) (ls' := [.ref 1, .ref 65, .int (nI i), .int (h 66 i)]) (st' := [.int (nI i), .ref 1]) rfl ?_
    refine wp_callV (o := 1) (as := [.int (nI i)]) (rest := []) (els := [.ref 1, .int (nI i)]) rfl rfl rfl rfl rfl rfl rfl rfl (by omega) ?_
    refine sp_hasGuest (h := (am_ur h 5 (dr_f (h 66) (h 5) n i))) hn hn7 (by omega) ?_ ?_
    · skip
      intro k1 hk1 ek1
      have ek := pu_inj (by omega) (by omega) ek1
      subst ek
      show am_wp L xs _ _ _ _ 26 [.ref 1, .ref 65, .int (nI i), .int (h 66 i)] [.int 1] (am_S b) (am_ur h 5 (dr_f (h 66) (h 5) n i)) _
      refine wp_if_f rfl (show ¬ ((1 : Int32) = 0) from by decide) ?_
      refine wp_run 2 (pc' := 31) (ls' := [.ref 1, .ref 65, .int (nI i), .int (h 66 i)]) (st' := [.int (h 66 i), .ref 1]) rfl ?_
      refine wp_callV (o := 1) (as := [.int (h 66 i)]) (rest := []) (els := [.ref 1, .int (h 66 i)]) rfl rfl rfl rfl rfl rfl rfl rfl (by omega) ?_
      refine sp_hasCoatOrNone (h := (am_ur h 5 (dr_f (h 66) (h 5) n i))) hc hc7 (by omega) ?_ ?_ ?_
      · skip
        intro ea
        show am_wp L xs _ _ _ _ 34 [.ref 1, .ref 65, .int (nI i), .int (h 66 i)] [.int 1] (am_S b) (am_ur h 5 (dr_f (h 66) (h 5) n i)) _
        refine wp_if_f rfl (show ¬ ((1 : Int32) = 0) from by decide) ?_
        refine wp_run 2 (pc' := 39) (ls' := [.ref 1, .ref 65, .int (nI i), .int (h 66 i)]) (st' := [.int (h 66 i), .ref 1]) rfl ?_
        refine wp_callV (o := 1) (as := [.int (h 66 i)]) (rest := []) (els := [.ref 1, .int (h 66 i), am_du]) rfl rfl rfl rfl rfl rfl rfl rfl (by omega) ?_
        refine sp_wearerOf (h := (am_ur h 5 (dr_f (h 66) (h 5) n i))) (v := (h 66 i)) hn hn7 (fun _ _ _ _ q => absurd ea q) (fun _ => ?_)
        show am_wp L xs _ _ _ _ 42 [.ref 1, .ref 65, .int (nI i), .int (h 66 i)] [.int (-1)] (am_S b) (am_ur h 5 (dr_f (h 66) (h 5) n i)) _
        refine wp_run 1 (pc' := 43) (ls' := [.ref 1, .ref 65, .int (nI i), .int (h 66 i)]) (st' := [.int (-1), .int (-1)]) rfl ?_
        refine wp_icmp_t rfl (show ((-1) : Int32) = (-1) from by decide) ?_
        refine wp_run 1 (pc' := 49) (ls' := [.ref 1, .ref 65, .int (nI i), .int (h 66 i)]) (st' := [.ref 1]) rfl ?_
        refine wp_getr 5 rfl rfl rfl ?_
        refine wp_run 2 (pc' := 54) (ls' := [.ref 1, .ref 65, .int (nI i), .int (h 66 i)]) (st' := [.int (h 66 i), .int (nI i), .ref 5]) rfl ?_
        refine wp_ast rfl rfl rfl (by omega) rfl ?_
        refine wp_run 2 (pc' := 6) (ls' := [.ref 1, .ref 65, .int ((nI i) + 1), .int (h 66 i)]) (st' := []) rfl ?_
        rw [show (((nI i) + 1) : Int32) = (nI (i + 1)) from nI_add i 1]
        rw [dr_s h (h 66) hk1]
        exact ih (i + 1) _ (fun g hg => by rcases Nat.lt_succ_iff_lt_or_eq.mp hg with q2 | q2; exact hx g q2; rw [q2]; exact ⟨hk1, Or.inl ea⟩) (by omega)
      · skip
        intro j1 hj1 ea
        show am_wp L xs _ _ _ _ 34 [.ref 1, .ref 65, .int (nI i), .int (h 66 i)] [.int 1] (am_S b) (am_ur h 5 (dr_f (h 66) (h 5) n i)) _
        refine wp_if_f rfl (show ¬ ((1 : Int32) = 0) from by decide) ?_
        refine wp_run 2 (pc' := 39) (ls' := [.ref 1, .ref 65, .int (nI i), .int (h 66 i)]) (st' := [.int (h 66 i), .ref 1]) rfl ?_
        refine wp_callV (o := 1) (as := [.int (h 66 i)]) (rest := []) (els := [.ref 1, .int (h 66 i), am_du]) rfl rfl rfl rfl rfl rfl rfl rfl (by omega) ?_
        refine sp_wearerOf (h := (am_ur h 5 (dr_f (h 66) (h 5) n i))) (v := (h 66 i)) hn hn7 ?_ ?_
        · skip
          intro w1 hw1 hq1 he1 hv1
          have hnok : ¬ dr_ok (h 66) n c i := fun q => by
            have he2 : dr_f (h 66) (h 5) n i w1 = (h 66 i) := he1
            by_cases hwi : w1 < i
            · rw [dr_lo hwi] at he2
              exact q.2.elim (fun q => hv1 q) (fun q => q.2 w1 hwi he2)
            · rw [dr_hi hwi hw1] at he2
              exact hv1 he2.symm
          show am_wp L xs _ _ _ _ 42 [.ref 1, .ref 65, .int (nI i), .int (h 66 i)] [.int (nI w1)] (am_S b) (am_ur h 5 (dr_f (h 66) (h 5) n i)) _
          refine wp_run 1 (pc' := 43) (ls' := [.ref 1, .ref 65, .int (nI i), .int (h 66 i)]) (st' := [.int (-1), .int (nI w1)]) rfl ?_
          refine wp_icmp_f rfl (show ¬ ((nI w1) = (-1)) from pu_ne1 (by omega)) ?_
          refine wp_run 1 (pc' := 47) (ls' := [.ref 1, .ref 65, .int (nI i), .int (h 66 i)]) (st' := [.int (nI i)]) rfl ?_
          refine wp_ret rfl ?_
          exact kk i ⟨by omega, hx, Or.inr (fun q => hnok q)⟩
        · skip
          intro hf1
          have hall : ∀ g, g < i → (h 66) g ≠ (h 66 i) := fun g hg q => by
            refine hf1.elim (fun q1 => absurd (ea.symm.trans q1) (pu_ne1 (by omega))) (fun q1 => q1 g (by omega) ?_)
            exact (show dr_f (h 66) (h 5) n i g = (h 66 i) from (dr_lo hg).trans q)
          show am_wp L xs _ _ _ _ 42 [.ref 1, .ref 65, .int (nI i), .int (h 66 i)] [.int (-1)] (am_S b) (am_ur h 5 (dr_f (h 66) (h 5) n i)) _
          refine wp_run 1 (pc' := 43) (ls' := [.ref 1, .ref 65, .int (nI i), .int (h 66 i)]) (st' := [.int (-1), .int (-1)]) rfl ?_
          refine wp_icmp_t rfl (show ((-1) : Int32) = (-1) from by decide) ?_
          refine wp_run 1 (pc' := 49) (ls' := [.ref 1, .ref 65, .int (nI i), .int (h 66 i)]) (st' := [.ref 1]) rfl ?_
          refine wp_getr 5 rfl rfl rfl ?_
          refine wp_run 2 (pc' := 54) (ls' := [.ref 1, .ref 65, .int (nI i), .int (h 66 i)]) (st' := [.int (h 66 i), .int (nI i), .ref 5]) rfl ?_
          refine wp_ast rfl rfl rfl (by omega) rfl ?_
          refine wp_run 2 (pc' := 6) (ls' := [.ref 1, .ref 65, .int ((nI i) + 1), .int (h 66 i)]) (st' := []) rfl ?_
          rw [show (((nI i) + 1) : Int32) = (nI (i + 1)) from nI_add i 1]
          rw [dr_s h (h 66) hk1]
          exact ih (i + 1) _ (fun g hg => by rcases Nat.lt_succ_iff_lt_or_eq.mp hg with q2 | q2; exact hx g q2; rw [q2]; exact ⟨hk1, Or.inr ⟨⟨j1, hj1, ea⟩, hall⟩⟩) (by omega)
      · skip
        intro hm1 hm2
        show am_wp L xs _ _ _ _ 34 [.ref 1, .ref 65, .int (nI i), .int (h 66 i)] [.int 0] (am_S b) (am_ur h 5 (dr_f (h 66) (h 5) n i)) _
        refine wp_if_t rfl (show (0 : Int32) = 0 from by decide) ?_
        refine wp_run 1 (pc' := 47) (ls' := [.ref 1, .ref 65, .int (nI i), .int (h 66 i)]) (st' := [.int (nI i)]) rfl ?_
        refine wp_ret rfl ?_
        exact kk i ⟨by omega, hx, Or.inr (fun q => q.2.elim hm1 (fun q => q.1.elim (fun j q => hm2 j q.1 q.2)))⟩
    · skip
      intro hng
      show am_wp L xs _ _ _ _ 26 [.ref 1, .ref 65, .int (nI i), .int (h 66 i)] [.int 0] (am_S b) (am_ur h 5 (dr_f (h 66) (h 5) n i)) _
      refine wp_if_t rfl (show (0 : Int32) = 0 from by decide) ?_
      refine wp_run 1 (pc' := 47) (ls' := [.ref 1, .ref 65, .int (nI i), .int (h 66 i)]) (st' := [.int (nI i)]) rfl ?_
      refine wp_ret rfl ?_
      exact kk i ⟨by omega, hx, Or.inr (fun q => hng i q.1 rfl)⟩
theorem sp_dress65 {L : Nat} {xs : Nat → Int32} {d ms b : Nat} {h : am_HI} {Q : am_Q} {n c l : Nat} (hn : h 1 10 = nI n) (hn7 : n ≤ 7) (hc : h 1 11 = nI c) (hc7 : c ≤ 7) (hl : l ≤ 24) (ho2 : h 65 2 = nI l) (hd : 5 ≤ d) (kk : ∀ r, pu_fst (dr_ok (h 66) n c) l r → Q (some (.int (nI r))) (am_S b) (am_ur h 5 (dr_f (h 66) (h 5) n r))) :
    am_wp L xs d 0 ms 118 0 [.ref 1, .ref 65, am_du, am_du] [] (am_S b) h Q := by
  refine wp_run 1 (pc' := 1) (ls' := [.ref 1, .ref 65, am_du, am_du]) (st' := [.ref 1]) rfl ?_
  refine wp_callV (o := 1) (as := []) (rest := []) (els := [.ref 1, am_du]) rfl rfl rfl rfl rfl rfl rfl rfl (by omega) ?_
  refine sp_undress (h := h) hn hn7 ?_
  rw [dr_0 h (h 66) n]
  show am_wp L xs _ _ _ _ 4 [.ref 1, .ref 65, am_du, am_du] [] (am_S b) (am_ur h 5 (dr_f (h 66) (h 5) n 0)) _
  refine wp_run 2 (pc' := 6) (ls' := [.ref 1, .ref 65, .int 0, am_du]) (st' := []) rfl ?_
  exact lp_dress65 hn hn7 hc hc7 hl ho2 (by omega) kk l 0 _ (fun q hq => by omega) (by omega)
theorem lp_dress67 {L : Nat} {xs : Nat → Int32} {d ms b : Nat} {h : am_HI} {Q : am_Q} {n c l : Nat} (hn : h 1 10 = nI n) (hn7 : n ≤ 7) (hc : h 1 11 = nI c) (hc7 : c ≤ 7) (hl : l ≤ 24) (ho2 : h 67 2 = nI l) (hd : 4 ≤ d) (kk : ∀ r, pu_fst (dr_ok (h 68) n c) l r → Q (some (.int (nI r))) (am_S b) (am_ur h 5 (dr_f (h 68) (h 5) n r))) :
    ∀ (m i : Nat) (u3 : Value) (hx : ∀ q, q < i → dr_ok (h 68) n c q), i + m = l → am_wp L xs d 0 ms 118 6 [.ref 1, .ref 67, .int (nI i), u3] [] (am_S b) (am_ur h 5 (dr_f (h 68) (h 5) n i)) Q := by
  intro m
  induction m with
  | zero =>
    intro i u3 hx hi
    refine wp_run 2 (pc' := 8) (ls' := [.ref 1, .ref 67, .int (nI i), u3]) (st' := [.ref 67, .int (nI i)]) rfl ?_
    refine wp_geti (a := 2) (nI l) ho2 rfl rfl rfl ?_
    refine wp_icmp_t rfl (show (nI l) ≤ (nI i) from (nI_leI (a := l) (b := i) (by omega) (by omega)).mpr (by omega)) ?_
    refine wp_run 1 (pc' := 62) (ls' := [.ref 1, .ref 67, .int (nI i), u3]) (st' := [.ref 67]) rfl ?_
    refine wp_geti (a := 2) (nI l) ho2 rfl rfl rfl ?_
    refine wp_ret rfl ?_
    have e9 : i = l := by omega
    subst e9
    exact kk i ⟨by omega, hx, Or.inl rfl⟩
  | succ m ih =>
    intro i u3 hx hi
    refine wp_run 2 (pc' := 8) (ls' := [.ref 1, .ref 67, .int (nI i), u3]) (st' := [.ref 67, .int (nI i)]) rfl ?_
    refine wp_geti (a := 2) (nI l) ho2 rfl rfl rfl ?_
    refine wp_icmp_f rfl (show ¬ ((nI l) ≤ (nI i)) from mt (nI_leI (a := l) (b := i) (by omega) (by omega)).mp (by omega)) ?_
    refine wp_run 1 (pc' := 15) (ls' := [.ref 1, .ref 67, .int (nI i), u3]) (st' := [.ref 67]) rfl ?_
    refine wp_getr 68 rfl rfl rfl ?_
    refine wp_run 1 (pc' := 19) (ls' := [.ref 1, .ref 67, .int (nI i), u3]) (st' := [.int (nI i), .ref 68]) rfl ?_
    refine wp_ald (i := i) (h 68 i) rfl rfl rfl rfl (by omega) rfl ?_
    refine wp_run 3 (pc' := 23) (ls' := [.ref 1, .ref 67, .int (nI i), .int (h 68 i)]) (st' := [.int (nI i), .ref 1]) rfl ?_
    refine wp_callV (o := 1) (as := [.int (nI i)]) (rest := []) (els := [.ref 1, .int (nI i)]) rfl rfl rfl rfl rfl rfl rfl rfl (by omega) ?_
    refine sp_hasGuest (h := (am_ur h 5 (dr_f (h 68) (h 5) n i))) hn hn7 (by omega) ?_ ?_
    · skip
      intro k1 hk1 ek1
      have ek := pu_inj (by omega) (by omega) ek1
      subst ek
      show am_wp L xs _ _ _ _ 26 [.ref 1, .ref 67, .int (nI i), .int (h 68 i)] [.int 1] (am_S b) (am_ur h 5 (dr_f (h 68) (h 5) n i)) _
      refine wp_if_f rfl (show ¬ ((1 : Int32) = 0) from by decide) ?_
      refine wp_run 2 (pc' := 31) (ls' := [.ref 1, .ref 67, .int (nI i), .int (h 68 i)]) (st' := [.int (h 68 i), .ref 1]) rfl ?_
      refine wp_callV (o := 1) (as := [.int (h 68 i)]) (rest := []) (els := [.ref 1, .int (h 68 i)]) rfl rfl rfl rfl rfl rfl rfl rfl (by omega) ?_
      refine sp_hasCoatOrNone (h := (am_ur h 5 (dr_f (h 68) (h 5) n i))) hc hc7 (by omega) ?_ ?_ ?_
      · skip
        intro ea
        show am_wp L xs _ _ _ _ 34 [.ref 1, .ref 67, .int (nI i), .int (h 68 i)] [.int 1] (am_S b) (am_ur h 5 (dr_f (h 68) (h 5) n i)) _
        refine wp_if_f rfl (show ¬ ((1 : Int32) = 0) from by decide) ?_
        refine wp_run 2 (pc' := 39) (ls' := [.ref 1, .ref 67, .int (nI i), .int (h 68 i)]) (st' := [.int (h 68 i), .ref 1]) rfl ?_
        refine wp_callV (o := 1) (as := [.int (h 68 i)]) (rest := []) (els := [.ref 1, .int (h 68 i), am_du]) rfl rfl rfl rfl rfl rfl rfl rfl (by omega) ?_
        refine sp_wearerOf (h := (am_ur h 5 (dr_f (h 68) (h 5) n i))) (v := (h 68 i)) hn hn7 (fun _ _ _ _ q => absurd ea q) (fun _ => ?_)
        show am_wp L xs _ _ _ _ 42 [.ref 1, .ref 67, .int (nI i), .int (h 68 i)] [.int (-1)] (am_S b) (am_ur h 5 (dr_f (h 68) (h 5) n i)) _
        refine wp_run 1 (pc' := 43) (ls' := [.ref 1, .ref 67, .int (nI i), .int (h 68 i)]) (st' := [.int (-1), .int (-1)]) rfl ?_
        refine wp_icmp_t rfl (show ((-1) : Int32) = (-1) from by decide) ?_
        refine wp_run 1 (pc' := 49) (ls' := [.ref 1, .ref 67, .int (nI i), .int (h 68 i)]) (st' := [.ref 1]) rfl ?_
        refine wp_getr 5 rfl rfl rfl ?_
        refine wp_run 2 (pc' := 54) (ls' := [.ref 1, .ref 67, .int (nI i), .int (h 68 i)]) (st' := [.int (h 68 i), .int (nI i), .ref 5]) rfl ?_
        refine wp_ast rfl rfl rfl (by omega) rfl ?_
        refine wp_run 2 (pc' := 6) (ls' := [.ref 1, .ref 67, .int ((nI i) + 1), .int (h 68 i)]) (st' := []) rfl ?_
        rw [show (((nI i) + 1) : Int32) = (nI (i + 1)) from nI_add i 1]
        rw [dr_s h (h 68) hk1]
        exact ih (i + 1) _ (fun g hg => by rcases Nat.lt_succ_iff_lt_or_eq.mp hg with q2 | q2; exact hx g q2; rw [q2]; exact ⟨hk1, Or.inl ea⟩) (by omega)
      · skip
        intro j1 hj1 ea
        show am_wp L xs _ _ _ _ 34 [.ref 1, .ref 67, .int (nI i), .int (h 68 i)] [.int 1] (am_S b) (am_ur h 5 (dr_f (h 68) (h 5) n i)) _
        refine wp_if_f rfl (show ¬ ((1 : Int32) = 0) from by decide) ?_
        refine wp_run 2 (pc' := 39) (ls' := [.ref 1, .ref 67, .int (nI i), .int (h 68 i)]) (st' := [.int (h 68 i), .ref 1]) rfl ?_
        refine wp_callV (o := 1) (as := [.int (h 68 i)]) (rest := []) (els := [.ref 1, .int (h 68 i), am_du]) rfl rfl rfl rfl rfl rfl rfl rfl (by omega) ?_
        refine sp_wearerOf (h := (am_ur h 5 (dr_f (h 68) (h 5) n i))) (v := (h 68 i)) hn hn7 ?_ ?_
        · skip
          intro w1 hw1 hq1 he1 hv1
          have hnok : ¬ dr_ok (h 68) n c i := fun q => by
            have he2 : dr_f (h 68) (h 5) n i w1 = (h 68 i) := he1
            by_cases hwi : w1 < i
            · rw [dr_lo hwi] at he2
              exact q.2.elim (fun q => hv1 q) (fun q => q.2 w1 hwi he2)
            · rw [dr_hi hwi hw1] at he2
              exact hv1 he2.symm
          show am_wp L xs _ _ _ _ 42 [.ref 1, .ref 67, .int (nI i), .int (h 68 i)] [.int (nI w1)] (am_S b) (am_ur h 5 (dr_f (h 68) (h 5) n i)) _
          refine wp_run 1 (pc' := 43) (ls' := [.ref 1, .ref 67, .int (nI i), .int (h 68 i)]) (st' := [.int (-1), .int (nI w1)]) rfl ?_
          refine wp_icmp_f rfl (show ¬ ((nI w1) = (-1)) from pu_ne1 (by omega)) ?_
          refine wp_run 1 (pc' := 47) (ls' := [.ref 1, .ref 67, .int (nI i), .int (h 68 i)]) (st' := [.int (nI i)]) rfl ?_
          refine wp_ret rfl ?_
          exact kk i ⟨by omega, hx, Or.inr (fun q => hnok q)⟩
        · skip
          intro hf1
          have hall : ∀ g, g < i → (h 68) g ≠ (h 68 i) := fun g hg q => by
            refine hf1.elim (fun q1 => absurd (ea.symm.trans q1) (pu_ne1 (by omega))) (fun q1 => q1 g (by omega) ?_)
            exact (show dr_f (h 68) (h 5) n i g = (h 68 i) from (dr_lo hg).trans q)
          show am_wp L xs _ _ _ _ 42 [.ref 1, .ref 67, .int (nI i), .int (h 68 i)] [.int (-1)] (am_S b) (am_ur h 5 (dr_f (h 68) (h 5) n i)) _
          refine wp_run 1 (pc' := 43) (ls' := [.ref 1, .ref 67, .int (nI i), .int (h 68 i)]) (st' := [.int (-1), .int (-1)]) rfl ?_
          refine wp_icmp_t rfl (show ((-1) : Int32) = (-1) from by decide) ?_
          refine wp_run 1 (pc' := 49) (ls' := [.ref 1, .ref 67, .int (nI i), .int (h 68 i)]) (st' := [.ref 1]) rfl ?_
          refine wp_getr 5 rfl rfl rfl ?_
          refine wp_run 2 (pc' := 54) (ls' := [.ref 1, .ref 67, .int (nI i), .int (h 68 i)]) (st' := [.int (h 68 i), .int (nI i), .ref 5]) rfl ?_
          refine wp_ast rfl rfl rfl (by omega) rfl ?_
          refine wp_run 2 (pc' := 6) (ls' := [.ref 1, .ref 67, .int ((nI i) + 1), .int (h 68 i)]) (st' := []) rfl ?_
          rw [show (((nI i) + 1) : Int32) = (nI (i + 1)) from nI_add i 1]
          rw [dr_s h (h 68) hk1]
          exact ih (i + 1) _ (fun g hg => by rcases Nat.lt_succ_iff_lt_or_eq.mp hg with q2 | q2; exact hx g q2; rw [q2]; exact ⟨hk1, Or.inr ⟨⟨j1, hj1, ea⟩, hall⟩⟩) (by omega)
      · skip
        intro hm1 hm2
        show am_wp L xs _ _ _ _ 34 [.ref 1, .ref 67, .int (nI i), .int (h 68 i)] [.int 0] (am_S b) (am_ur h 5 (dr_f (h 68) (h 5) n i)) _
        refine wp_if_t rfl (show (0 : Int32) = 0 from by decide) ?_
        refine wp_run 1 (pc' := 47) (ls' := [.ref 1, .ref 67, .int (nI i), .int (h 68 i)]) (st' := [.int (nI i)]) rfl ?_
        refine wp_ret rfl ?_
        exact kk i ⟨by omega, hx, Or.inr (fun q => q.2.elim hm1 (fun q => q.1.elim (fun j q => hm2 j q.1 q.2)))⟩
    · skip
      intro hng
      show am_wp L xs _ _ _ _ 26 [.ref 1, .ref 67, .int (nI i), .int (h 68 i)] [.int 0] (am_S b) (am_ur h 5 (dr_f (h 68) (h 5) n i)) _
      refine wp_if_t rfl (show (0 : Int32) = 0 from by decide) ?_
      refine wp_run 1 (pc' := 47) (ls' := [.ref 1, .ref 67, .int (nI i), .int (h 68 i)]) (st' := [.int (nI i)]) rfl ?_
      refine wp_ret rfl ?_
      exact kk i ⟨by omega, hx, Or.inr (fun q => hng i q.1 rfl)⟩
theorem sp_dress67 {L : Nat} {xs : Nat → Int32} {d ms b : Nat} {h : am_HI} {Q : am_Q} {n c l : Nat} (hn : h 1 10 = nI n) (hn7 : n ≤ 7) (hc : h 1 11 = nI c) (hc7 : c ≤ 7) (hl : l ≤ 24) (ho2 : h 67 2 = nI l) (hd : 5 ≤ d) (kk : ∀ r, pu_fst (dr_ok (h 68) n c) l r → Q (some (.int (nI r))) (am_S b) (am_ur h 5 (dr_f (h 68) (h 5) n r))) :
    am_wp L xs d 0 ms 118 0 [.ref 1, .ref 67, am_du, am_du] [] (am_S b) h Q := by
  refine wp_run 1 (pc' := 1) (ls' := [.ref 1, .ref 67, am_du, am_du]) (st' := [.ref 1]) rfl ?_
  refine wp_callV (o := 1) (as := []) (rest := []) (els := [.ref 1, am_du]) rfl rfl rfl rfl rfl rfl rfl rfl (by omega) ?_
  refine sp_undress (h := h) hn hn7 ?_
  rw [dr_0 h (h 68) n]
  show am_wp L xs _ _ _ _ 4 [.ref 1, .ref 67, am_du, am_du] [] (am_S b) (am_ur h 5 (dr_f (h 68) (h 5) n 0)) _
  refine wp_run 2 (pc' := 6) (ls' := [.ref 1, .ref 67, .int 0, am_du]) (st' := []) rfl ?_
  exact lp_dress67 hn hn7 hc hc7 hl ho2 (by omega) kk l 0 _ (fun q hq => by omega) (by omega)
theorem lp_dress69 {L : Nat} {xs : Nat → Int32} {d ms b : Nat} {h : am_HI} {Q : am_Q} {n c l : Nat} (hn : h 1 10 = nI n) (hn7 : n ≤ 7) (hc : h 1 11 = nI c) (hc7 : c ≤ 7) (hl : l ≤ 24) (ho2 : h 69 2 = nI l) (hd : 4 ≤ d) (kk : ∀ r, pu_fst (dr_ok (h 70) n c) l r → Q (some (.int (nI r))) (am_S b) (am_ur h 5 (dr_f (h 70) (h 5) n r))) :
    ∀ (m i : Nat) (u3 : Value) (hx : ∀ q, q < i → dr_ok (h 70) n c q), i + m = l → am_wp L xs d 0 ms 118 6 [.ref 1, .ref 69, .int (nI i), u3] [] (am_S b) (am_ur h 5 (dr_f (h 70) (h 5) n i)) Q := by
  intro m
  induction m with
  | zero =>
    intro i u3 hx hi
    refine wp_run 2 (pc' := 8) (ls' := [.ref 1, .ref 69, .int (nI i), u3]) (st' := [.ref 69, .int (nI i)]) rfl ?_
    refine wp_geti (a := 2) (nI l) ho2 rfl rfl rfl ?_
    refine wp_icmp_t rfl (show (nI l) ≤ (nI i) from (nI_leI (a := l) (b := i) (by omega) (by omega)).mpr (by omega)) ?_
    refine wp_run 1 (pc' := 62) (ls' := [.ref 1, .ref 69, .int (nI i), u3]) (st' := [.ref 69]) rfl ?_
    refine wp_geti (a := 2) (nI l) ho2 rfl rfl rfl ?_
    refine wp_ret rfl ?_
    have e9 : i = l := by omega
    subst e9
    exact kk i ⟨by omega, hx, Or.inl rfl⟩
  | succ m ih =>
    intro i u3 hx hi
    refine wp_run 2 (pc' := 8) (ls' := [.ref 1, .ref 69, .int (nI i), u3]) (st' := [.ref 69, .int (nI i)]) rfl ?_
    refine wp_geti (a := 2) (nI l) ho2 rfl rfl rfl ?_
    refine wp_icmp_f rfl (show ¬ ((nI l) ≤ (nI i)) from mt (nI_leI (a := l) (b := i) (by omega) (by omega)).mp (by omega)) ?_
    refine wp_run 1 (pc' := 15) (ls' := [.ref 1, .ref 69, .int (nI i), u3]) (st' := [.ref 69]) rfl ?_
    refine wp_getr 70 rfl rfl rfl ?_
    refine wp_run 1 (pc' := 19) (ls' := [.ref 1, .ref 69, .int (nI i), u3]) (st' := [.int (nI i), .ref 70]) rfl ?_
    refine wp_ald (i := i) (h 70 i) rfl rfl rfl rfl (by omega) rfl ?_
    refine wp_run 3 (pc' := 23) (ls' := [.ref 1, .ref 69, .int (nI i), .int (h 70 i)]) (st' := [.int (nI i), .ref 1]) rfl ?_
    refine wp_callV (o := 1) (as := [.int (nI i)]) (rest := []) (els := [.ref 1, .int (nI i)]) rfl rfl rfl rfl rfl rfl rfl rfl (by omega) ?_
    refine sp_hasGuest (h := (am_ur h 5 (dr_f (h 70) (h 5) n i))) hn hn7 (by omega) ?_ ?_
    · skip
      intro k1 hk1 ek1
      have ek := pu_inj (by omega) (by omega) ek1
      subst ek
      show am_wp L xs _ _ _ _ 26 [.ref 1, .ref 69, .int (nI i), .int (h 70 i)] [.int 1] (am_S b) (am_ur h 5 (dr_f (h 70) (h 5) n i)) _
      refine wp_if_f rfl (show ¬ ((1 : Int32) = 0) from by decide) ?_
      refine wp_run 2 (pc' := 31) (ls' := [.ref 1, .ref 69, .int (nI i), .int (h 70 i)]) (st' := [.int (h 70 i), .ref 1]) rfl ?_
      refine wp_callV (o := 1) (as := [.int (h 70 i)]) (rest := []) (els := [.ref 1, .int (h 70 i)]) rfl rfl rfl rfl rfl rfl rfl rfl (by omega) ?_
      refine sp_hasCoatOrNone (h := (am_ur h 5 (dr_f (h 70) (h 5) n i))) hc hc7 (by omega) ?_ ?_ ?_
      · skip
        intro ea
        show am_wp L xs _ _ _ _ 34 [.ref 1, .ref 69, .int (nI i), .int (h 70 i)] [.int 1] (am_S b) (am_ur h 5 (dr_f (h 70) (h 5) n i)) _
        refine wp_if_f rfl (show ¬ ((1 : Int32) = 0) from by decide) ?_
        refine wp_run 2 (pc' := 39) (ls' := [.ref 1, .ref 69, .int (nI i), .int (h 70 i)]) (st' := [.int (h 70 i), .ref 1]) rfl ?_
        refine wp_callV (o := 1) (as := [.int (h 70 i)]) (rest := []) (els := [.ref 1, .int (h 70 i), am_du]) rfl rfl rfl rfl rfl rfl rfl rfl (by omega) ?_
        refine sp_wearerOf (h := (am_ur h 5 (dr_f (h 70) (h 5) n i))) (v := (h 70 i)) hn hn7 (fun _ _ _ _ q => absurd ea q) (fun _ => ?_)
        show am_wp L xs _ _ _ _ 42 [.ref 1, .ref 69, .int (nI i), .int (h 70 i)] [.int (-1)] (am_S b) (am_ur h 5 (dr_f (h 70) (h 5) n i)) _
        refine wp_run 1 (pc' := 43) (ls' := [.ref 1, .ref 69, .int (nI i), .int (h 70 i)]) (st' := [.int (-1), .int (-1)]) rfl ?_
        refine wp_icmp_t rfl (show ((-1) : Int32) = (-1) from by decide) ?_
        refine wp_run 1 (pc' := 49) (ls' := [.ref 1, .ref 69, .int (nI i), .int (h 70 i)]) (st' := [.ref 1]) rfl ?_
        refine wp_getr 5 rfl rfl rfl ?_
        refine wp_run 2 (pc' := 54) (ls' := [.ref 1, .ref 69, .int (nI i), .int (h 70 i)]) (st' := [.int (h 70 i), .int (nI i), .ref 5]) rfl ?_
        refine wp_ast rfl rfl rfl (by omega) rfl ?_
        refine wp_run 2 (pc' := 6) (ls' := [.ref 1, .ref 69, .int ((nI i) + 1), .int (h 70 i)]) (st' := []) rfl ?_
        rw [show (((nI i) + 1) : Int32) = (nI (i + 1)) from nI_add i 1]
        rw [dr_s h (h 70) hk1]
        exact ih (i + 1) _ (fun g hg => by rcases Nat.lt_succ_iff_lt_or_eq.mp hg with q2 | q2; exact hx g q2; rw [q2]; exact ⟨hk1, Or.inl ea⟩) (by omega)
      · skip
        intro j1 hj1 ea
        show am_wp L xs _ _ _ _ 34 [.ref 1, .ref 69, .int (nI i), .int (h 70 i)] [.int 1] (am_S b) (am_ur h 5 (dr_f (h 70) (h 5) n i)) _
        refine wp_if_f rfl (show ¬ ((1 : Int32) = 0) from by decide) ?_
        refine wp_run 2 (pc' := 39) (ls' := [.ref 1, .ref 69, .int (nI i), .int (h 70 i)]) (st' := [.int (h 70 i), .ref 1]) rfl ?_
        refine wp_callV (o := 1) (as := [.int (h 70 i)]) (rest := []) (els := [.ref 1, .int (h 70 i), am_du]) rfl rfl rfl rfl rfl rfl rfl rfl (by omega) ?_
        refine sp_wearerOf (h := (am_ur h 5 (dr_f (h 70) (h 5) n i))) (v := (h 70 i)) hn hn7 ?_ ?_
        · skip
          intro w1 hw1 hq1 he1 hv1
          have hnok : ¬ dr_ok (h 70) n c i := fun q => by
            have he2 : dr_f (h 70) (h 5) n i w1 = (h 70 i) := he1
            by_cases hwi : w1 < i
            · rw [dr_lo hwi] at he2
              exact q.2.elim (fun q => hv1 q) (fun q => q.2 w1 hwi he2)
            · rw [dr_hi hwi hw1] at he2
              exact hv1 he2.symm
          show am_wp L xs _ _ _ _ 42 [.ref 1, .ref 69, .int (nI i), .int (h 70 i)] [.int (nI w1)] (am_S b) (am_ur h 5 (dr_f (h 70) (h 5) n i)) _
          refine wp_run 1 (pc' := 43) (ls' := [.ref 1, .ref 69, .int (nI i), .int (h 70 i)]) (st' := [.int (-1), .int (nI w1)]) rfl ?_
          refine wp_icmp_f rfl (show ¬ ((nI w1) = (-1)) from pu_ne1 (by omega)) ?_
          refine wp_run 1 (pc' := 47) (ls' := [.ref 1, .ref 69, .int (nI i), .int (h 70 i)]) (st' := [.int (nI i)]) rfl ?_
          refine wp_ret rfl ?_
          exact kk i ⟨by omega, hx, Or.inr (fun q => hnok q)⟩
        · skip
          intro hf1
          have hall : ∀ g, g < i → (h 70) g ≠ (h 70 i) := fun g hg q => by
            refine hf1.elim (fun q1 => absurd (ea.symm.trans q1) (pu_ne1 (by omega))) (fun q1 => q1 g (by omega) ?_)
            exact (show dr_f (h 70) (h 5) n i g = (h 70 i) from (dr_lo hg).trans q)
          show am_wp L xs _ _ _ _ 42 [.ref 1, .ref 69, .int (nI i), .int (h 70 i)] [.int (-1)] (am_S b) (am_ur h 5 (dr_f (h 70) (h 5) n i)) _
          refine wp_run 1 (pc' := 43) (ls' := [.ref 1, .ref 69, .int (nI i), .int (h 70 i)]) (st' := [.int (-1), .int (-1)]) rfl ?_
          refine wp_icmp_t rfl (show ((-1) : Int32) = (-1) from by decide) ?_
          refine wp_run 1 (pc' := 49) (ls' := [.ref 1, .ref 69, .int (nI i), .int (h 70 i)]) (st' := [.ref 1]) rfl ?_
          refine wp_getr 5 rfl rfl rfl ?_
          refine wp_run 2 (pc' := 54) (ls' := [.ref 1, .ref 69, .int (nI i), .int (h 70 i)]) (st' := [.int (h 70 i), .int (nI i), .ref 5]) rfl ?_
          refine wp_ast rfl rfl rfl (by omega) rfl ?_
          refine wp_run 2 (pc' := 6) (ls' := [.ref 1, .ref 69, .int ((nI i) + 1), .int (h 70 i)]) (st' := []) rfl ?_
          rw [show (((nI i) + 1) : Int32) = (nI (i + 1)) from nI_add i 1]
          rw [dr_s h (h 70) hk1]
          exact ih (i + 1) _ (fun g hg => by rcases Nat.lt_succ_iff_lt_or_eq.mp hg with q2 | q2; exact hx g q2; rw [q2]; exact ⟨hk1, Or.inr ⟨⟨j1, hj1, ea⟩, hall⟩⟩) (by omega)
      · skip
        intro hm1 hm2
        show am_wp L xs _ _ _ _ 34 [.ref 1, .ref 69, .int (nI i), .int (h 70 i)] [.int 0] (am_S b) (am_ur h 5 (dr_f (h 70) (h 5) n i)) _
        refine wp_if_t rfl (show (0 : Int32) = 0 from by decide) ?_
        refine wp_run 1 (pc' := 47) (ls' := [.ref 1, .ref 69, .int (nI i), .int (h 70 i)]) (st' := [.int (nI i)]) rfl ?_
        refine wp_ret rfl ?_
        exact kk i ⟨by omega, hx, Or.inr (fun q => q.2.elim hm1 (fun q => q.1.elim (fun j q => hm2 j q.1 q.2)))⟩
    · skip
      intro hng
      show am_wp L xs _ _ _ _ 26 [.ref 1, .ref 69, .int (nI i), .int (h 70 i)] [.int 0] (am_S b) (am_ur h 5 (dr_f (h 70) (h 5) n i)) _
      refine wp_if_t rfl (show (0 : Int32) = 0 from by decide) ?_
      refine wp_run 1 (pc' := 47) (ls' := [.ref 1, .ref 69, .int (nI i), .int (h 70 i)]) (st' := [.int (nI i)]) rfl ?_
      refine wp_ret rfl ?_
      exact kk i ⟨by omega, hx, Or.inr (fun q => hng i q.1 rfl)⟩
theorem sp_dress69 {L : Nat} {xs : Nat → Int32} {d ms b : Nat} {h : am_HI} {Q : am_Q} {n c l : Nat} (hn : h 1 10 = nI n) (hn7 : n ≤ 7) (hc : h 1 11 = nI c) (hc7 : c ≤ 7) (hl : l ≤ 24) (ho2 : h 69 2 = nI l) (hd : 5 ≤ d) (kk : ∀ r, pu_fst (dr_ok (h 70) n c) l r → Q (some (.int (nI r))) (am_S b) (am_ur h 5 (dr_f (h 70) (h 5) n r))) :
    am_wp L xs d 0 ms 118 0 [.ref 1, .ref 69, am_du, am_du] [] (am_S b) h Q := by
  refine wp_run 1 (pc' := 1) (ls' := [.ref 1, .ref 69, am_du, am_du]) (st' := [.ref 1]) rfl ?_
  refine wp_callV (o := 1) (as := []) (rest := []) (els := [.ref 1, am_du]) rfl rfl rfl rfl rfl rfl rfl rfl (by omega) ?_
  refine sp_undress (h := h) hn hn7 ?_
  rw [dr_0 h (h 70) n]
  show am_wp L xs _ _ _ _ 4 [.ref 1, .ref 69, am_du, am_du] [] (am_S b) (am_ur h 5 (dr_f (h 70) (h 5) n 0)) _
  refine wp_run 2 (pc' := 6) (ls' := [.ref 1, .ref 69, .int 0, am_du]) (st' := []) rfl ?_
  exact lp_dress69 hn hn7 hc hc7 hl ho2 (by omega) kk l 0 _ (fun q hq => by omega) (by omega)
theorem lp_dress71 {L : Nat} {xs : Nat → Int32} {d ms b : Nat} {h : am_HI} {Q : am_Q} {n c l : Nat} (hn : h 1 10 = nI n) (hn7 : n ≤ 7) (hc : h 1 11 = nI c) (hc7 : c ≤ 7) (hl : l ≤ 24) (ho2 : h 71 2 = nI l) (hd : 4 ≤ d) (kk : ∀ r, pu_fst (dr_ok (h 72) n c) l r → Q (some (.int (nI r))) (am_S b) (am_ur h 5 (dr_f (h 72) (h 5) n r))) :
    ∀ (m i : Nat) (u3 : Value) (hx : ∀ q, q < i → dr_ok (h 72) n c q), i + m = l → am_wp L xs d 0 ms 118 6 [.ref 1, .ref 71, .int (nI i), u3] [] (am_S b) (am_ur h 5 (dr_f (h 72) (h 5) n i)) Q := by
  intro m
  induction m with
  | zero =>
    intro i u3 hx hi
    refine wp_run 2 (pc' := 8) (ls' := [.ref 1, .ref 71, .int (nI i), u3]) (st' := [.ref 71, .int (nI i)]) rfl ?_
    refine wp_geti (a := 2) (nI l) ho2 rfl rfl rfl ?_
    refine wp_icmp_t rfl (show (nI l) ≤ (nI i) from (nI_leI (a := l) (b := i) (by omega) (by omega)).mpr (by omega)) ?_
    refine wp_run 1 (pc' := 62) (ls' := [.ref 1, .ref 71, .int (nI i), u3]) (st' := [.ref 71]) rfl ?_
    refine wp_geti (a := 2) (nI l) ho2 rfl rfl rfl ?_
    refine wp_ret rfl ?_
    have e9 : i = l := by omega
    subst e9
    exact kk i ⟨by omega, hx, Or.inl rfl⟩
  | succ m ih =>
    intro i u3 hx hi
    refine wp_run 2 (pc' := 8) (ls' := [.ref 1, .ref 71, .int (nI i), u3]) (st' := [.ref 71, .int (nI i)]) rfl ?_
    refine wp_geti (a := 2) (nI l) ho2 rfl rfl rfl ?_
    refine wp_icmp_f rfl (show ¬ ((nI l) ≤ (nI i)) from mt (nI_leI (a := l) (b := i) (by omega) (by omega)).mp (by omega)) ?_
    refine wp_run 1 (pc' := 15) (ls' := [.ref 1, .ref 71, .int (nI i), u3]) (st' := [.ref 71]) rfl ?_
    refine wp_getr 72 rfl rfl rfl ?_
    refine wp_run 1 (pc' := 19) (ls' := [.ref 1, .ref 71, .int (nI i), u3]) (st' := [.int (nI i), .ref 72]) rfl ?_
    refine wp_ald (i := i) (h 72 i) rfl rfl rfl rfl (by omega) rfl ?_
    refine wp_run 3 (pc' := 23) (ls' := [.ref 1, .ref 71, .int (nI i), .int (h 72 i)]) (st' := [.int (nI i), .ref 1]) rfl ?_
    refine wp_callV (o := 1) (as := [.int (nI i)]) (rest := []) (els := [.ref 1, .int (nI i)]) rfl rfl rfl rfl rfl rfl rfl rfl (by omega) ?_
    refine sp_hasGuest (h := (am_ur h 5 (dr_f (h 72) (h 5) n i))) hn hn7 (by omega) ?_ ?_
    · skip
      intro k1 hk1 ek1
      have ek := pu_inj (by omega) (by omega) ek1
      subst ek
      show am_wp L xs _ _ _ _ 26 [.ref 1, .ref 71, .int (nI i), .int (h 72 i)] [.int 1] (am_S b) (am_ur h 5 (dr_f (h 72) (h 5) n i)) _
      refine wp_if_f rfl (show ¬ ((1 : Int32) = 0) from by decide) ?_
      refine wp_run 2 (pc' := 31) (ls' := [.ref 1, .ref 71, .int (nI i), .int (h 72 i)]) (st' := [.int (h 72 i), .ref 1]) rfl ?_
      refine wp_callV (o := 1) (as := [.int (h 72 i)]) (rest := []) (els := [.ref 1, .int (h 72 i)]) rfl rfl rfl rfl rfl rfl rfl rfl (by omega) ?_
      refine sp_hasCoatOrNone (h := (am_ur h 5 (dr_f (h 72) (h 5) n i))) hc hc7 (by omega) ?_ ?_ ?_
      · skip
        intro ea
        show am_wp L xs _ _ _ _ 34 [.ref 1, .ref 71, .int (nI i), .int (h 72 i)] [.int 1] (am_S b) (am_ur h 5 (dr_f (h 72) (h 5) n i)) _
        refine wp_if_f rfl (show ¬ ((1 : Int32) = 0) from by decide) ?_
        refine wp_run 2 (pc' := 39) (ls' := [.ref 1, .ref 71, .int (nI i), .int (h 72 i)]) (st' := [.int (h 72 i), .ref 1]) rfl ?_
        refine wp_callV (o := 1) (as := [.int (h 72 i)]) (rest := []) (els := [.ref 1, .int (h 72 i), am_du]) rfl rfl rfl rfl rfl rfl rfl rfl (by omega) ?_
        refine sp_wearerOf (h := (am_ur h 5 (dr_f (h 72) (h 5) n i))) (v := (h 72 i)) hn hn7 (fun _ _ _ _ q => absurd ea q) (fun _ => ?_)
        show am_wp L xs _ _ _ _ 42 [.ref 1, .ref 71, .int (nI i), .int (h 72 i)] [.int (-1)] (am_S b) (am_ur h 5 (dr_f (h 72) (h 5) n i)) _
        refine wp_run 1 (pc' := 43) (ls' := [.ref 1, .ref 71, .int (nI i), .int (h 72 i)]) (st' := [.int (-1), .int (-1)]) rfl ?_
        refine wp_icmp_t rfl (show ((-1) : Int32) = (-1) from by decide) ?_
        refine wp_run 1 (pc' := 49) (ls' := [.ref 1, .ref 71, .int (nI i), .int (h 72 i)]) (st' := [.ref 1]) rfl ?_
        refine wp_getr 5 rfl rfl rfl ?_
        refine wp_run 2 (pc' := 54) (ls' := [.ref 1, .ref 71, .int (nI i), .int (h 72 i)]) (st' := [.int (h 72 i), .int (nI i), .ref 5]) rfl ?_
        refine wp_ast rfl rfl rfl (by omega) rfl ?_
        refine wp_run 2 (pc' := 6) (ls' := [.ref 1, .ref 71, .int ((nI i) + 1), .int (h 72 i)]) (st' := []) rfl ?_
        rw [show (((nI i) + 1) : Int32) = (nI (i + 1)) from nI_add i 1]
        rw [dr_s h (h 72) hk1]
        exact ih (i + 1) _ (fun g hg => by rcases Nat.lt_succ_iff_lt_or_eq.mp hg with q2 | q2; exact hx g q2; rw [q2]; exact ⟨hk1, Or.inl ea⟩) (by omega)
      · skip
        intro j1 hj1 ea
        show am_wp L xs _ _ _ _ 34 [.ref 1, .ref 71, .int (nI i), .int (h 72 i)] [.int 1] (am_S b) (am_ur h 5 (dr_f (h 72) (h 5) n i)) _
        refine wp_if_f rfl (show ¬ ((1 : Int32) = 0) from by decide) ?_
        refine wp_run 2 (pc' := 39) (ls' := [.ref 1, .ref 71, .int (nI i), .int (h 72 i)]) (st' := [.int (h 72 i), .ref 1]) rfl ?_
        refine wp_callV (o := 1) (as := [.int (h 72 i)]) (rest := []) (els := [.ref 1, .int (h 72 i), am_du]) rfl rfl rfl rfl rfl rfl rfl rfl (by omega) ?_
        refine sp_wearerOf (h := (am_ur h 5 (dr_f (h 72) (h 5) n i))) (v := (h 72 i)) hn hn7 ?_ ?_
        · skip
          intro w1 hw1 hq1 he1 hv1
          have hnok : ¬ dr_ok (h 72) n c i := fun q => by
            have he2 : dr_f (h 72) (h 5) n i w1 = (h 72 i) := he1
            by_cases hwi : w1 < i
            · rw [dr_lo hwi] at he2
              exact q.2.elim (fun q => hv1 q) (fun q => q.2 w1 hwi he2)
            · rw [dr_hi hwi hw1] at he2
              exact hv1 he2.symm
          show am_wp L xs _ _ _ _ 42 [.ref 1, .ref 71, .int (nI i), .int (h 72 i)] [.int (nI w1)] (am_S b) (am_ur h 5 (dr_f (h 72) (h 5) n i)) _
          refine wp_run 1 (pc' := 43) (ls' := [.ref 1, .ref 71, .int (nI i), .int (h 72 i)]) (st' := [.int (-1), .int (nI w1)]) rfl ?_
          refine wp_icmp_f rfl (show ¬ ((nI w1) = (-1)) from pu_ne1 (by omega)) ?_
          refine wp_run 1 (pc' := 47) (ls' := [.ref 1, .ref 71, .int (nI i), .int (h 72 i)]) (st' := [.int (nI i)]) rfl ?_
          refine wp_ret rfl ?_
          exact kk i ⟨by omega, hx, Or.inr (fun q => hnok q)⟩
        · skip
          intro hf1
          have hall : ∀ g, g < i → (h 72) g ≠ (h 72 i) := fun g hg q => by
            refine hf1.elim (fun q1 => absurd (ea.symm.trans q1) (pu_ne1 (by omega))) (fun q1 => q1 g (by omega) ?_)
            exact (show dr_f (h 72) (h 5) n i g = (h 72 i) from (dr_lo hg).trans q)
          show am_wp L xs _ _ _ _ 42 [.ref 1, .ref 71, .int (nI i), .int (h 72 i)] [.int (-1)] (am_S b) (am_ur h 5 (dr_f (h 72) (h 5) n i)) _
          refine wp_run 1 (pc' := 43) (ls' := [.ref 1, .ref 71, .int (nI i), .int (h 72 i)]) (st' := [.int (-1), .int (-1)]) rfl ?_
          refine wp_icmp_t rfl (show ((-1) : Int32) = (-1) from by decide) ?_
          refine wp_run 1 (pc' := 49) (ls' := [.ref 1, .ref 71, .int (nI i), .int (h 72 i)]) (st' := [.ref 1]) rfl ?_
          refine wp_getr 5 rfl rfl rfl ?_
          refine wp_run 2 (pc' := 54) (ls' := [.ref 1, .ref 71, .int (nI i), .int (h 72 i)]) (st' := [.int (h 72 i), .int (nI i), .ref 5]) rfl ?_
          refine wp_ast rfl rfl rfl (by omega) rfl ?_
          refine wp_run 2 (pc' := 6) (ls' := [.ref 1, .ref 71, .int ((nI i) + 1), .int (h 72 i)]) (st' := []) rfl ?_
          rw [show (((nI i) + 1) : Int32) = (nI (i + 1)) from nI_add i 1]
          rw [dr_s h (h 72) hk1]
          exact ih (i + 1) _ (fun g hg => by rcases Nat.lt_succ_iff_lt_or_eq.mp hg with q2 | q2; exact hx g q2; rw [q2]; exact ⟨hk1, Or.inr ⟨⟨j1, hj1, ea⟩, hall⟩⟩) (by omega)
      · skip
        intro hm1 hm2
        show am_wp L xs _ _ _ _ 34 [.ref 1, .ref 71, .int (nI i), .int (h 72 i)] [.int 0] (am_S b) (am_ur h 5 (dr_f (h 72) (h 5) n i)) _
        refine wp_if_t rfl (show (0 : Int32) = 0 from by decide) ?_
        refine wp_run 1 (pc' := 47) (ls' := [.ref 1, .ref 71, .int (nI i), .int (h 72 i)]) (st' := [.int (nI i)]) rfl ?_
        refine wp_ret rfl ?_
        exact kk i ⟨by omega, hx, Or.inr (fun q => q.2.elim hm1 (fun q => q.1.elim (fun j q => hm2 j q.1 q.2)))⟩
    · skip
      intro hng
      show am_wp L xs _ _ _ _ 26 [.ref 1, .ref 71, .int (nI i), .int (h 72 i)] [.int 0] (am_S b) (am_ur h 5 (dr_f (h 72) (h 5) n i)) _
      refine wp_if_t rfl (show (0 : Int32) = 0 from by decide) ?_
      refine wp_run 1 (pc' := 47) (ls' := [.ref 1, .ref 71, .int (nI i), .int (h 72 i)]) (st' := [.int (nI i)]) rfl ?_
      refine wp_ret rfl ?_
      exact kk i ⟨by omega, hx, Or.inr (fun q => hng i q.1 rfl)⟩
theorem sp_dress71 {L : Nat} {xs : Nat → Int32} {d ms b : Nat} {h : am_HI} {Q : am_Q} {n c l : Nat} (hn : h 1 10 = nI n) (hn7 : n ≤ 7) (hc : h 1 11 = nI c) (hc7 : c ≤ 7) (hl : l ≤ 24) (ho2 : h 71 2 = nI l) (hd : 5 ≤ d) (kk : ∀ r, pu_fst (dr_ok (h 72) n c) l r → Q (some (.int (nI r))) (am_S b) (am_ur h 5 (dr_f (h 72) (h 5) n r))) :
    am_wp L xs d 0 ms 118 0 [.ref 1, .ref 71, am_du, am_du] [] (am_S b) h Q := by
  refine wp_run 1 (pc' := 1) (ls' := [.ref 1, .ref 71, am_du, am_du]) (st' := [.ref 1]) rfl ?_
  refine wp_callV (o := 1) (as := []) (rest := []) (els := [.ref 1, am_du]) rfl rfl rfl rfl rfl rfl rfl rfl (by omega) ?_
  refine sp_undress (h := h) hn hn7 ?_
  rw [dr_0 h (h 72) n]
  show am_wp L xs _ _ _ _ 4 [.ref 1, .ref 71, am_du, am_du] [] (am_S b) (am_ur h 5 (dr_f (h 72) (h 5) n 0)) _
  refine wp_run 2 (pc' := 6) (ls' := [.ref 1, .ref 71, .int 0, am_du]) (st' := []) rfl ?_
  exact lp_dress71 hn hn7 hc hc7 hl ho2 (by omega) kk l 0 _ (fun q hq => by omega) (by omega)
