/-! leaving in a round, thought: the reference's side -/
/-- picking from the last on, so far -/
def ms_pp (hg : Nat → Bool) (lk : Nat → Int32) (n i : Nat) (v : Int32) : Prop :=
  (v = -1 ∧ ∀ c, i ≤ c → c < n → hg c = false) ∨ ∃ j, i ≤ j ∧ j < n ∧ v = nI j ∧ hg j = true ∧ ∀ c, i ≤ c → c < n → hg c = true → lk c ≤ lk j ∧ (lk c = lk j → j ≤ c)
theorem ms_pp_0 {hg : Nat → Bool} {lk : Nat → Int32} {n : Nat} {v : Int32} (h : ms_pp hg lk n 0 v) : pu_pick hg lk n v := by
  rcases h with ⟨h1, h2⟩ | ⟨j, -, h1, h2, h3, h4⟩
  · exact Or.inl ⟨h1, fun c hc => h2 c (Nat.zero_le _) hc⟩
  · exact Or.inr ⟨j, h1, h2, h3, fun c hc => h4 c (Nat.zero_le _) hc⟩
theorem ms_pp_no {hg : Nat → Bool} {lk : Nat → Int32} {n i : Nat} {v : Int32} (h : ms_pp hg lk n (i + 1) v) (hn : hg i = false) : ms_pp hg lk n i v := by
  rcases h with ⟨h1, h2⟩ | ⟨j, h0, h1, h2, h3, h4⟩
  · refine Or.inl ⟨h1, fun c hc hc2 => ?_⟩
    by_cases e : c = i
    · rw [e]; exact hn
    · exact h2 c (by omega) hc2
  · refine Or.inr ⟨j, by omega, h1, h2, h3, fun c hc hc2 hh => ?_⟩
    by_cases e : c = i
    · rw [e, hn] at hh; cases hh
    · exact h4 c (by omega) hc2 hh
theorem ms_pp_less {hg : Nat → Bool} {lk : Nat → Int32} {n i j : Nat} (h : ms_pp hg lk n (i + 1) (nI j)) (hj : j < n) (hn7 : n ≤ 7) (hl : lk i < lk j) : ms_pp hg lk n i (nI j) := by
  rcases h with ⟨h1, h2⟩ | ⟨j2, h0, h1, h2, h3, h4⟩
  · exact absurd h1 (pu_ne1 (by omega))
  · have e2 : j = j2 := pu_inj (by omega) (by omega) h2
    subst e2
    refine Or.inr ⟨j, by omega, h1, h2, h3, fun c hc hc2 hh => ?_⟩
    by_cases e : c = i
    · rw [e]
      exact ⟨Int32.le_of_lt hl, fun q => by rw [q] at hl; exact (Int32.lt_irrefl hl).elim⟩
    · exact h4 c (by omega) hc2 hh
theorem ms_pp_more {hg : Nat → Bool} {lk : Nat → Int32} {n i : Nat} {v : Int32} (h : ms_pp hg lk n (i + 1) v) (hn7 : n ≤ 7) (hi : i < n) (hn : hg i = true) (hl : v = -1 ∨ ∃ j, j < n ∧ v = nI j ∧ lk j ≤ lk i) : ms_pp hg lk n i (nI i) := by
  refine Or.inr ⟨i, Nat.le_refl _, hi, rfl, hn, fun c hc hc2 hh => ?_⟩
  by_cases e : c = i
  · rw [e]
    exact ⟨Int32.le_refl _, fun _ => Nat.le_refl _⟩
  · refine ⟨?_, fun _ => hc⟩
    rcases h with ⟨h1, h2⟩ | ⟨j2, h0, h1, h2, h3, h4⟩
    · rw [h2 c (by omega) hc2] at hh; cases hh
    · rcases hl with q | ⟨j, hj, q1, q2⟩
      · rw [h2] at q
        exact absurd q (pu_ne1 (by omega))
      · have e2 : j = j2 := pu_inj (by omega) (by omega) (q1.symm.trans h2)
        subst e2
        exact Int32.le_trans (h4 c (by omega) hc2 hh).1 q2
theorem lp_tableGets {L : Nat} {xs : Nat → Int32} {d ms b : Nat} {h : am_HI} {Q : am_Q} {W g c : Nat} (hm3 : h 75 3 = nI c) (hc7 : c ≤ 7) (hg : g < 7) (hW : W < 128) (kk : ∀ v, pu_pick (fun j => !W.testBit j) (fun j => h 87 (7 * g + j)) c v → Q (some (.int v)) (am_S b) h) :
    ∀ (i : Nat) (v : Int32) (u5 : Value), i ≤ c → (v = -1 ∨ ∃ j, j < c ∧ v = nI j) → ms_pp (fun j => !W.testBit j) (fun j => h 87 (7 * g + j)) c i v → am_wp L xs d 0 ms 189 12 [.ref 74, .int (nI g), .int (nI W), .int v, .int (nI i - 1), u5] [] (am_S b) h Q := by
  intro i
  induction i with
  | zero =>
    intro v u5 hi hor hpp
    rw [show (nI 0 - 1 : Int32) = -1 from by decide]
    refine wp_run 1 (pc' := 14) (ls' := [.ref 74, .int (nI g), .int (nI W), .int v, .int (-1), u5]) (st' := [.int (-1)]) rfl ?_
    refine wp_if_t rfl (show ((-1) : Int32) < 0 from by decide) ?_
    refine wp_run 1 (pc' := 82) (ls' := [.ref 74, .int (nI g), .int (nI W), .int v, .int (-1), u5]) (st' := [.int v]) rfl ?_
    refine wp_ret rfl ?_
    exact kk _ (ms_pp_0 hpp)
  | succ i ih =>
    intro v u5 hi hor hpp
    rw [nI_pred i]
    rcases id hor with e5 | ⟨j, hj, e5⟩
    · subst e5
      refine wp_run 1 (pc' := 14) (ls' := [.ref 74, .int (nI g), .int (nI W), .int (-1), .int (nI i), u5]) (st' := [.int (nI i)]) rfl ?_
      refine wp_if_f rfl (show ¬ ((nI i) < 0) from mt (nI_ltI (a := i) (b := 0) (by omega) (by omega)).mp (by omega)) ?_
      refine wp_run 5 (pc' := 23) (ls' := [.ref 74, .int (nI g), .int (nI W), .int (-1), .int (nI i), u5]) (st' := [.int (((nI W) >>> ((nI i) &&& 31)) &&& 1)]) rfl ?_
      refine wp_if rfl (fun (cq23 : ¬ (((nI W) >>> ((nI i) &&& 31)) &&& 1) = 0) => ?_) (fun (cq23 : ¬ (¬ (((nI W) >>> ((nI i) &&& 31)) &&& 1) = 0)) => ?_)
      · skip
        have hbit : W.testBit i = true := by
          rw [pu_bit_i W hW i (by omega)] at cq23
          cases q : W.testBit i
          · rw [q] at cq23; exact absurd rfl cq23
          · rfl
        refine wp_run 3 (pc' := 35) (ls' := [.ref 74, .int (nI g), .int (nI W), .int (-1), .int (nI i), .int 0]) (st' := [.int 0]) rfl ?_
        refine wp_if_t rfl (show (0 : Int32) = 0 from by decide) ?_
        refine wp_run 4 (pc' := 12) (ls' := [.ref 74, .int (nI g), .int (nI W), .int (-1), .int ((nI i) + (-1)), .int 0]) (st' := []) rfl ?_
        rw [show (((nI i) + (-1)) : Int32) = nI i - 1 from (Int32.sub_eq_add_neg (nI i) 1).symm]
        exact ih _ _ (by omega) hor (ms_pp_no hpp (by show (!W.testBit i) = false; rw [hbit]; rfl))
      · skip
        replace cq23 := Decidable.not_not.mp cq23
        have hbit : W.testBit i = false := by
          rw [pu_bit_i W hW i (by omega)] at cq23
          cases q : W.testBit i
          · rfl
          · rw [q] at cq23; cases cq23
        refine wp_run 4 (pc' := 35) (ls' := [.ref 74, .int (nI g), .int (nI W), .int (-1), .int (nI i), .int 1]) (st' := [.int 1]) rfl ?_
        refine wp_if_f rfl (show ¬ ((1 : Int32) = 0) from by decide) ?_
        refine wp_run 1 (pc' := 39) (ls' := [.ref 74, .int (nI g), .int (nI W), .int (-1), .int (nI i), .int 1]) (st' := [.int (-1)]) rfl ?_
        refine wp_if_t rfl (show ((-1) : Int32) < 0 from by decide) ?_
        refine wp_run 5 (pc' := 12) (ls' := [.ref 74, .int (nI g), .int (nI W), .int (nI i), .int ((nI i) + (-1)), .int 1]) (st' := []) rfl ?_
        rw [show (((nI i) + (-1)) : Int32) = nI i - 1 from (Int32.sub_eq_add_neg (nI i) 1).symm]
        exact ih _ _ (by omega) (Or.inr ⟨i, by omega, rfl⟩) (ms_pp_more hpp hc7 (by omega) (by show (!W.testBit i) = true; rw [hbit]; rfl) (Or.inl rfl))
    · subst e5
      refine wp_run 1 (pc' := 14) (ls' := [.ref 74, .int (nI g), .int (nI W), .int (nI j), .int (nI i), u5]) (st' := [.int (nI i)]) rfl ?_
      refine wp_if_f rfl (show ¬ ((nI i) < 0) from mt (nI_ltI (a := i) (b := 0) (by omega) (by omega)).mp (by omega)) ?_
      refine wp_run 5 (pc' := 23) (ls' := [.ref 74, .int (nI g), .int (nI W), .int (nI j), .int (nI i), u5]) (st' := [.int (((nI W) >>> ((nI i) &&& 31)) &&& 1)]) rfl ?_
      refine wp_if rfl (fun (cq23 : ¬ (((nI W) >>> ((nI i) &&& 31)) &&& 1) = 0) => ?_) (fun (cq23 : ¬ (¬ (((nI W) >>> ((nI i) &&& 31)) &&& 1) = 0)) => ?_)
      · skip
        have hbit : W.testBit i = true := by
          rw [pu_bit_i W hW i (by omega)] at cq23
          cases q : W.testBit i
          · rw [q] at cq23; exact absurd rfl cq23
          · rfl
        refine wp_run 3 (pc' := 35) (ls' := [.ref 74, .int (nI g), .int (nI W), .int (nI j), .int (nI i), .int 0]) (st' := [.int 0]) rfl ?_
        refine wp_if_t rfl (show (0 : Int32) = 0 from by decide) ?_
        refine wp_run 4 (pc' := 12) (ls' := [.ref 74, .int (nI g), .int (nI W), .int (nI j), .int ((nI i) + (-1)), .int 0]) (st' := []) rfl ?_
        rw [show (((nI i) + (-1)) : Int32) = nI i - 1 from (Int32.sub_eq_add_neg (nI i) 1).symm]
        exact ih _ _ (by omega) hor (ms_pp_no hpp (by show (!W.testBit i) = false; rw [hbit]; rfl))
      · skip
        replace cq23 := Decidable.not_not.mp cq23
        have hbit : W.testBit i = false := by
          rw [pu_bit_i W hW i (by omega)] at cq23
          cases q : W.testBit i
          · rfl
          · rw [q] at cq23; cases cq23
        refine wp_run 4 (pc' := 35) (ls' := [.ref 74, .int (nI g), .int (nI W), .int (nI j), .int (nI i), .int 1]) (st' := [.int 1]) rfl ?_
        refine wp_if_f rfl (show ¬ ((1 : Int32) = 0) from by decide) ?_
        refine wp_run 1 (pc' := 39) (ls' := [.ref 74, .int (nI g), .int (nI W), .int (nI j), .int (nI i), .int 1]) (st' := [.int (nI j)]) rfl ?_
        refine wp_if_f rfl (show ¬ ((nI j) < 0) from mt (nI_ltI (a := j) (b := 0) (by omega) (by omega)).mp (by omega)) ?_
        refine wp_run 1 (pc' := 43) (ls' := [.ref 74, .int (nI g), .int (nI W), .int (nI j), .int (nI i), .int 1]) (st' := [.ref 74]) rfl ?_
        refine wp_getr 87 rfl rfl rfl ?_
        refine wp_run 5 (pc' := 53) (ls' := [.ref 74, .int (nI g), .int (nI W), .int (nI j), .int (nI i), .int 1]) (st' := [.int ((7 * (nI g)) + (nI i)), .ref 87]) rfl ?_
        rw [show ((7 * (nI g)) : Int32) = (nI (7 * g)) from pk_mul 7 g]
        rw [show (((nI (7 * g)) + (nI i)) : Int32) = (nI ((7 * g) + i)) from nI_add (7 * g) i]
        refine wp_ald (i := ((7 * g) + i)) (h 87 ((7 * g) + i)) rfl rfl rfl rfl (by omega) rfl ?_
        refine wp_run 1 (pc' := 55) (ls' := [.ref 74, .int (nI g), .int (nI W), .int (nI j), .int (nI i), .int 1]) (st' := [.ref 74, .int (h 87 ((7 * g) + i))]) rfl ?_
        refine wp_getr 87 rfl rfl rfl ?_
        refine wp_run 5 (pc' := 64) (ls' := [.ref 74, .int (nI g), .int (nI W), .int (nI j), .int (nI i), .int 1]) (st' := [.int ((7 * (nI g)) + (nI j)), .ref 87, .int (h 87 ((7 * g) + i))]) rfl ?_
        rw [show ((7 * (nI g)) : Int32) = (nI (7 * g)) from pk_mul 7 g]
        rw [show (((nI (7 * g)) + (nI j)) : Int32) = (nI ((7 * g) + j)) from nI_add (7 * g) j]
        refine wp_ald (i := ((7 * g) + j)) (h 87 ((7 * g) + j)) rfl rfl rfl rfl (by omega) rfl ?_
        refine wp_icmp rfl (fun (cq65 : (h 87 ((7 * g) + i)) < (h 87 ((7 * g) + j))) => ?_) (fun (cq65 : ¬ ((h 87 ((7 * g) + i)) < (h 87 ((7 * g) + j)))) => ?_)
        · skip
          refine wp_run 4 (pc' := 12) (ls' := [.ref 74, .int (nI g), .int (nI W), .int (nI j), .int ((nI i) + (-1)), .int 1]) (st' := []) rfl ?_
          rw [show (((nI i) + (-1)) : Int32) = nI i - 1 from (Int32.sub_eq_add_neg (nI i) 1).symm]
          exact ih _ _ (by omega) hor (ms_pp_less hpp hj hc7 cq65)
        · skip
          refine wp_run 5 (pc' := 12) (ls' := [.ref 74, .int (nI g), .int (nI W), .int (nI i), .int ((nI i) + (-1)), .int 1]) (st' := []) rfl ?_
          rw [show (((nI i) + (-1)) : Int32) = nI i - 1 from (Int32.sub_eq_add_neg (nI i) 1).symm]
          exact ih _ _ (by omega) (Or.inr ⟨i, by omega, rfl⟩) (ms_pp_more hpp hc7 (by omega) (by show (!W.testBit i) = true; rw [hbit]; rfl) (Or.inr ⟨j, hj, rfl, Int32.not_lt.mp cq65⟩))
theorem sp_tableGets {L : Nat} {xs : Nat → Int32} {d ms b : Nat} {h : am_HI} {Q : am_Q} {W g c : Nat} (hm3 : h 75 3 = nI c) (hc7 : c ≤ 7) (hg : g < 7) (hW : W < 128) (kk : ∀ v, pu_pick (fun j => !W.testBit j) (fun j => h 87 (7 * g + j)) c v → Q (some (.int v)) (am_S b) h) :
    am_wp L xs d 0 ms 189 0 [.ref 74, .int (nI g), .int (nI W), am_du, am_du, am_du] [] (am_S b) h Q := by
  refine wp_run 3 (pc' := 3) (ls' := [.ref 74, .int (nI g), .int (nI W), .int (-1), am_du, am_du]) (st' := [.ref 74]) rfl ?_
  refine wp_getr 75 rfl rfl rfl ?_
  refine wp_run 1 (pc' := 7) (ls' := [.ref 74, .int (nI g), .int (nI W), .int (-1), am_du, am_du]) (st' := [.int 3, .ref 75]) rfl ?_
  refine wp_ald (i := 3) (nI c) hm3 rfl rfl rfl (by decide) rfl ?_
  refine wp_run 3 (pc' := 12) (ls' := [.ref 74, .int (nI g), .int (nI W), .int (-1), .int ((nI c) - 1), am_du]) (st' := []) rfl ?_
  exact lp_tableGets hm3 hc7 hg hW kk c _ _ (Nat.le_refl _) (Or.inl rfl) (Or.inl ⟨rfl, fun q h1 h2 => by omega⟩)
theorem lp_allGet {L : Nat} {xs : Nat → Int32} {d ms b : Nat} {h : am_HI} {Q : am_Q} {X : am_HI} {n c f : Nat} {LK : Nat → Nat → Int32} (hm2 : X 75 2 = nI n) (hn7 : n ≤ 7) (hm3 : X 75 3 = nI c) (hc7 : c ≤ 7) (hf : f < n) (hl : ∀ g, g < n → ∀ j, j < c → X 87 (7 * g + j) = LK j g) (hd : 2 ≤ d) (kk : ∀ r, (∀ g, g < n → r g = ab_got LK c n f g) → Q none (am_S b) (am_ur X 88 r)) :
    ∀ (m i W : Nat) (r : Nat → Int32) (u5 : Value) (hW : W < 128) (hbits : ∀ k, k < c → (ab_P LK c n f i).testBit k = !W.testBit k) (hr : ab_rr LK c n f i r), i + m = n → am_wp L xs d 0 ms 193 12 [.ref 74, .int (nI f), .int (nI n), .int (nI W), .int (nI i), u5] [] (am_S b) (am_ur X 88 r) Q := by
  intro m
  induction m with
  | zero =>
    intro i W r u5 hW hbits hr hi
    refine wp_run 2 (pc' := 15) (ls' := [.ref 74, .int (nI f), .int (nI n), .int (nI W), .int (nI i), u5]) (st' := [.int (nI n), .int (nI i)]) rfl ?_
    refine wp_icmp_t rfl (show (nI n) ≤ (nI i) from (nI_leI (a := n) (b := i) (by omega) (by omega)).mpr (by omega)) ?_
    refine wp_retv rfl ?_
    have e9 : i = n := by omega
    rw [e9] at hr
    exact kk r (fun g hg => ab_rr_n hn7 hf hr hg)
  | succ m ih =>
    intro i W r u5 hW hbits hr hi
    refine wp_run 2 (pc' := 15) (ls' := [.ref 74, .int (nI f), .int (nI n), .int (nI W), .int (nI i), u5]) (st' := [.int (nI n), .int (nI i)]) rfl ?_
    refine wp_icmp_f rfl (show ¬ ((nI n) ≤ (nI i)) from mt (nI_leI (a := n) (b := i) (by omega) (by omega)).mp (by omega)) ?_
    refine wp_run 4 (pc' := 23) (ls' := [.ref 74, .int (nI f), .int (nI n), .int (nI W), .int (nI i), u5]) (st' := [.int (nI n), .int ((nI f) + (nI i))]) rfl ?_
    rw [show (((nI f) + (nI i)) : Int32) = (nI (f + i)) from nI_add f i]
    refine wp_irem rfl (nI_ne0 (by omega) (by omega)) ?_
    obtain ⟨g, hg, hge⟩ : ∃ g, g < n ∧ g = (f + i) % n := ⟨_, Nat.mod_lt _ (by omega), rfl⟩
    rw [show ((am_rem (nI (f + i)) (nI n)) : Int32) = nI g from (pk_rem (by omega) (by omega) (by omega)).trans (by rw [hge])]
    refine wp_run 2 (pc' := 27) (ls' := [.ref 74, .int (nI f), .int (nI n), .int (nI W), .int (nI i), .int (nI g)]) (st' := [.ref 74]) rfl ?_
    refine wp_getr 88 rfl rfl rfl ?_
    refine wp_run 4 (pc' := 36) (ls' := [.ref 74, .int (nI f), .int (nI n), .int (nI W), .int (nI i), .int (nI g)]) (st' := [.int (nI W), .int (nI g), .ref 74, .int (nI g), .ref 88]) rfl ?_
    refine wp_callV (o := 74) (as := [.int (nI g), .int (nI W)]) (rest := [.int (nI g), .ref 88]) (els := [.ref 74, .int (nI g), .int (nI W), am_du, am_du, am_du]) rfl rfl rfl rfl rfl rfl rfl rfl (by omega) ?_
    refine sp_tableGets (h := (am_ur X 88 r)) (W := W) (g := g) (c := c) hm3 hc7 (by omega) hW (fun v1 hp1 => ?_)
    have ev : ab_G LK c n f i = v1 := pu_pk_of hc7 hp1 (fun k hk => hbits k hk) (fun k hk => by rw [← hge]; exact (hl g hg k hk).symm)
    subst ev
    show am_wp L xs _ _ _ _ 39 [.ref 74, .int (nI f), .int (nI n), .int (nI W), .int (nI i), .int (nI g)] [.int (ab_G LK c n f i), .int (nI g), .ref 88] (am_S b) (am_ur X 88 r) _
    rcases ab_G_or (LK := LK) (n := n) (f := f) (k := i) hc7 with e5 | ⟨j, hj, e5⟩
    · skip
      rw [e5]
      refine wp_ast rfl rfl rfl (by omega) rfl ?_
      refine wp_run 2 (pc' := 42) (ls' := [.ref 74, .int (nI f), .int (nI n), .int (nI W), .int (nI i), .int (nI g)]) (st' := [.ref 74, .int (nI W)]) rfl ?_
      refine wp_getr 88 rfl rfl rfl ?_
      refine wp_run 1 (pc' := 47) (ls' := [.ref 74, .int (nI f), .int (nI n), .int (nI W), .int (nI i), .int (nI g)]) (st' := [.int (nI g), .ref 88, .int (nI W)]) rfl ?_
      refine wp_ald (i := g) (-1) (am_u_at _ _ _ _) rfl rfl rfl (by omega) rfl ?_
      refine wp_if_f rfl (show ¬ (0 ≤ ((-1) : Int32)) from by decide) ?_
      refine wp_run 6 (pc' := 12) (ls' := [.ref 74, .int (nI f), .int (nI n), .int ((nI W) ||| 0), .int ((nI i) + 1), .int (nI g)]) (st' := []) rfl ?_
      rw [show (((nI i) + 1) : Int32) = (nI (i + 1)) from nI_add i 1]
      rw [show (((nI W) ||| 0) : Int32) = nI W from Int32.or_zero]
      rw [am_ur_u]
      refine ih (i + 1) W _ _ hW (fun k hk => by rw [ab_P_s0 e5]; exact hbits k hk) ?_ (by omega)
      have q := ab_rr_s hn7 hf (by omega) hr hge
      rw [e5] at q
      exact q
    · skip
      rw [e5]
      refine wp_ast rfl rfl rfl (by omega) rfl ?_
      refine wp_run 2 (pc' := 42) (ls' := [.ref 74, .int (nI f), .int (nI n), .int (nI W), .int (nI i), .int (nI g)]) (st' := [.ref 74, .int (nI W)]) rfl ?_
      refine wp_getr 88 rfl rfl rfl ?_
      refine wp_run 1 (pc' := 47) (ls' := [.ref 74, .int (nI f), .int (nI n), .int (nI W), .int (nI i), .int (nI g)]) (st' := [.int (nI g), .ref 88, .int (nI W)]) rfl ?_
      refine wp_ald (i := g) (nI j) (am_u_at _ _ _ _) rfl rfl rfl (by omega) rfl ?_
      refine wp_if_t rfl (show 0 ≤ (nI j) from (nI_leI (a := 0) (b := j) (by omega) (by omega)).mpr (by omega)) ?_
      refine wp_run 2 (pc' := 57) (ls' := [.ref 74, .int (nI f), .int (nI n), .int (nI W), .int (nI i), .int (nI g)]) (st' := [.ref 74, .int 1, .int (nI W)]) rfl ?_
      refine wp_getr 88 rfl rfl rfl ?_
      refine wp_run 1 (pc' := 62) (ls' := [.ref 74, .int (nI f), .int (nI n), .int (nI W), .int (nI i), .int (nI g)]) (st' := [.int (nI g), .ref 88, .int 1, .int (nI W)]) rfl ?_
      refine wp_ald (i := g) (nI j) (am_u_at _ _ _ _) rfl rfl rfl (by omega) rfl ?_
      refine wp_run 5 (pc' := 12) (ls' := [.ref 74, .int (nI f), .int (nI n), .int ((nI W) ||| (1 <<< ((nI j) &&& 31))), .int ((nI i) + 1), .int (nI g)]) (st' := []) rfl ?_
      rw [show (((nI i) + 1) : Int32) = (nI (i + 1)) from nI_add i 1]
      rw [show (((nI W) ||| (1 <<< ((nI j) &&& 31))) : Int32) = nI (pu_set W j) from pu_set_i W hW j (by omega)]
      rw [am_ur_u]
      refine ih (i + 1) (pu_set W j) _ _ (pu_set_lt W hW j (by omega)) (fun k hk => ?_) ?_ (by omega)
      · rw [ab_P_s1 e5 (by omega), pu_clr_bit _ (ab_P_lt hc7 i) j (by omega) k (by omega), pu_set_bit W hW j (by omega) k (by omega), hbits k hk]
        cases W.testBit k <;> cases (k == j) <;> rfl
      have q := ab_rr_s hn7 hf (by omega) hr hge
      rw [e5] at q
      exact q
theorem sp_allGet {L : Nat} {xs : Nat → Int32} {d ms b : Nat} {h : am_HI} {Q : am_Q} {X : am_HI} {n c f : Nat} {LK : Nat → Nat → Int32} (hm2 : X 75 2 = nI n) (hn7 : n ≤ 7) (hm3 : X 75 3 = nI c) (hc7 : c ≤ 7) (hf : f < n) (hl : ∀ g, g < n → ∀ j, j < c → X 87 (7 * g + j) = LK j g) (hd : 2 ≤ d) (kk : ∀ r, (∀ g, g < n → r g = ab_got LK c n f g) → Q none (am_S b) (am_ur X 88 r)) :
    am_wp L xs d 0 ms 193 0 [.ref 74, .int (nI f), am_du, am_du, am_du, am_du] [] (am_S b) X Q := by
  refine wp_run 1 (pc' := 1) (ls' := [.ref 74, .int (nI f), am_du, am_du, am_du, am_du]) (st' := [.ref 74]) rfl ?_
  refine wp_getr 75 rfl rfl rfl ?_
  refine wp_run 1 (pc' := 5) (ls' := [.ref 74, .int (nI f), am_du, am_du, am_du, am_du]) (st' := [.int 2, .ref 75]) rfl ?_
  refine wp_ald (i := 2) (nI n) hm2 rfl rfl rfl (by decide) rfl ?_
  refine wp_run 5 (pc' := 12) (ls' := [.ref 74, .int (nI f), .int (nI n), .int 0, .int 0, am_du]) (st' := []) rfl ?_
  have hp := lp_allGet (L := L) (xs := xs) (ms := ms) (b := b) (h := h) hm2 hn7 hm3 hc7 hf hl hd kk n 0 0 (X 88) am_du (by decide) (fun k hk => (pu_all_bit c (by omega) k (by omega)).trans (by simp [hk])) (fun k hk => by omega) (by omega)
  rw [← am_ur_self] at hp
  exact hp
theorem lp_fw2 {L : Nat} {xs : Nat → Int32} {d ms b : Nat} {h : am_HI} {Q : am_Q} {n c t : Nat} {s0 s1 : Int32} {p0 p1 : List Int32} (HM : am_ms h n c t s0 s1 p0 p1) {i : Nat} (hg : i < n) (hd : 5 ≤ d) (kk : ∀ gz, (∀ g, g < i + 1 → ∀ j, j < c → gz 86 (7 * g + j) = ms_mk h s1 p1 j g) → (∀ g, g < i + 1 → ∀ j, j < c → gz 87 (7 * g + j) = ms_lk h s0 p0 j g) → am_wp L xs d 0 ms 185 64 [.ref 74, .int (nI i), .int (nI c)] [] (am_S b) (am_ov h [83, 84, 86, 87] gz) Q) :
    ∀ (m k : Nat) (gz : am_HI) (e86 : ∀ g, g < i → ∀ j, j < c → gz 86 (7 * g + j) = ms_mk h s1 p1 j g) (e87 : ∀ g, g < i → ∀ j, j < c → gz 87 (7 * g + j) = ms_lk h s0 p0 j g) (f86 : ∀ j, j < k → gz 86 (7 * i + j) = ms_mk h s1 p1 j i) (f87 : ∀ j, j < k → gz 87 (7 * i + j) = ms_lk h s0 p0 j i), k + m = c → am_wp L xs d 0 ms 185 14 [.ref 74, .int (nI i), .int (nI k)] [] (am_S b) (am_ov h [83, 84, 86, 87] gz) Q := by
  have hn7 := HM.2.2.2.1
  have hc7 := HM.2.2.2.2.1
  have hm2 := HM.1
  have hm3 := HM.2.1
  intro m
  induction m with
  | zero =>
    intro k gz e86 e87 f86 f87 hi
    have e9 : k = c := by omega
    rw [e9] at f86 f87 ⊢
    refine wp_run 2 (pc' := 16) (ls' := [.ref 74, .int (nI i), .int (nI c)]) (st' := [.ref 74, .int (nI c)]) rfl ?_
    refine wp_getr 75 rfl rfl rfl ?_
    refine wp_run 1 (pc' := 20) (ls' := [.ref 74, .int (nI i), .int (nI c)]) (st' := [.int 3, .ref 75, .int (nI c)]) rfl ?_
    refine wp_ald (i := 3) (nI c) hm3 rfl rfl rfl (by decide) rfl ?_
    refine wp_icmp_t rfl (show (nI c) ≤ (nI c) from (nI_leI (a := c) (b := c) (by omega) (by omega)).mpr (by omega)) ?_
    refine kk gz (fun g hg2 j hj => ?_) (fun g hg2 j hj => ?_)
    · by_cases eg : g = i
      · rw [eg]; exact f86 j hj
      · exact e86 g (by omega) j hj
    · by_cases eg : g = i
      · rw [eg]; exact f87 j hj
      · exact e87 g (by omega) j hj
  | succ m ih =>
    intro k gz e86 e87 f86 f87 hi
    refine wp_run 2 (pc' := 16) (ls' := [.ref 74, .int (nI i), .int (nI k)]) (st' := [.ref 74, .int (nI k)]) rfl ?_
    refine wp_getr 75 rfl rfl rfl ?_
    refine wp_run 1 (pc' := 20) (ls' := [.ref 74, .int (nI i), .int (nI k)]) (st' := [.int 3, .ref 75, .int (nI k)]) rfl ?_
    refine wp_ald (i := 3) (nI c) hm3 rfl rfl rfl (by decide) rfl ?_
    refine wp_icmp_f rfl (show ¬ ((nI c) ≤ (nI k)) from mt (nI_leI (a := c) (b := k) (by omega) (by omega)).mp (by omega)) ?_
    refine wp_run 1 (pc' := 25) (ls' := [.ref 74, .int (nI i), .int (nI k)]) (st' := [.ref 74]) rfl ?_
    refine wp_getr 86 rfl rfl rfl ?_
    refine wp_run 8 (pc' := 37) (ls' := [.ref 74, .int (nI i), .int (nI k)]) (st' := [.int (nI i), .int (nI k), .ref 74, .int ((7 * (nI i)) + (nI k)), .ref 86]) rfl ?_
    rw [show ((7 * (nI i)) : Int32) = (nI (7 * i)) from pk_mul 7 i]
    rw [show (((nI (7 * i)) + (nI k)) : Int32) = (nI ((7 * i) + k)) from nI_add (7 * i) k]
    refine wp_callV (o := 74) (as := [.int (nI k), .int (nI i)]) (rest := [.int (nI ((7 * i) + k)), .ref 86]) (els := [.ref 74, .int (nI k), .int (nI i)]) rfl rfl rfl rfl rfl rfl rfl rfl (by omega) ?_
    refine sp_doneIn (h := am_ov h [83, 84, 86, 87] gz) HM (j := k) (g := i) (by omega) hg (by omega) (fun gy => ?_)
    show am_wp L xs _ _ _ _ 40 [.ref 74, .int (nI i), .int (nI k)] [.int (ms_mk h s1 p1 k i), .int (nI ((7 * i) + k)), .ref 86] (am_S b) (am_ov (am_ov h [83, 84, 86, 87] gz) [83, 84] gy) _
    refine wp_ast rfl rfl rfl (by omega) rfl ?_
    refine wp_run 1 (pc' := 42) (ls' := [.ref 74, .int (nI i), .int (nI k)]) (st' := [.ref 74]) rfl ?_
    refine wp_getr 87 rfl rfl rfl ?_
    refine wp_run 8 (pc' := 54) (ls' := [.ref 74, .int (nI i), .int (nI k)]) (st' := [.int (nI i), .int (nI k), .ref 74, .int ((7 * (nI i)) + (nI k)), .ref 87]) rfl ?_
    rw [show ((7 * (nI i)) : Int32) = (nI (7 * i)) from pk_mul 7 i]
    rw [show (((nI (7 * i)) + (nI k)) : Int32) = (nI ((7 * i) + k)) from nI_add (7 * i) k]
    refine wp_callV (o := 74) (as := [.int (nI k), .int (nI i)]) (rest := [.int (nI ((7 * i) + k)), .ref 87]) (els := [.ref 74, .int (nI k), .int (nI i)]) rfl rfl rfl rfl rfl rfl rfl rfl (by omega) ?_
    refine sp_likeOf (h := (am_u (am_ov (am_ov h [83, 84, 86, 87] gz) [83, 84] gy) 86 ((7 * i) + k) (ms_mk h s1 p1 k i))) HM (j := k) (g := i) (by omega) hg (by omega) (fun gw => ?_)
    show am_wp L xs _ _ _ _ 57 [.ref 74, .int (nI i), .int (nI k)] [.int (ms_lk h s0 p0 k i), .int (nI ((7 * i) + k)), .ref 87] (am_S b) (am_ov (am_u (am_ov (am_ov h [83, 84, 86, 87] gz) [83, 84] gy) 86 ((7 * i) + k) (ms_mk h s1 p1 k i)) [83, 84] gw) _
    refine wp_ast rfl rfl rfl (by omega) rfl ?_
    refine wp_run 2 (pc' := 14) (ls' := [.ref 74, .int (nI i), .int ((nI k) + 1)]) (st' := []) rfl ?_
    rw [show (((nI k) + 1) : Int32) = (nI (k + 1)) from nI_add k 1]
    refine am_gen (fun X hX => ?_)
    have eX : X = am_ov h [83, 84, 86, 87] X := am_ov_of (fun a ha => by rw [hX]; rw [am_u_off _ _ _ (am_nel ha rfl), am_ov_off (am_sub ha rfl), am_u_off _ _ _ (am_nel ha rfl), am_ov_off (am_sub ha rfl), am_ov_off (am_sub ha rfl)])
    rw [eX]
    refine ih (k + 1) X ?_ ?_ ?_ ?_ (by omega)
    · intro g hg2 j hj
      rw [hX]
      show upd (gz 86) (7 * i + k) _ (7 * g + j) = _
      rw [pk_un (by omega)]
      exact e86 g hg2 j hj
    · intro g hg2 j hj
      rw [hX]
      show upd (gz 87) (7 * i + k) _ (7 * g + j) = _
      rw [pk_un (by omega)]
      exact e87 g hg2 j hj
    · intro j hj
      rw [hX]
      show upd (gz 86) (7 * i + k) _ (7 * i + j) = _
      by_cases ej : j = k
      · rw [ej, pk_us]
      · rw [pk_un (by omega)]; exact f86 j (by omega)
    · intro j hj
      rw [hX]
      show upd (gz 87) (7 * i + k) _ (7 * i + j) = _
      by_cases ej : j = k
      · rw [ej, pk_us]
      · rw [pk_un (by omega)]; exact f87 j (by omega)
theorem lp_fw1 {L : Nat} {xs : Nat → Int32} {d ms b : Nat} {h : am_HI} {Q : am_Q} {n c t : Nat} {s0 s1 : Int32} {p0 p1 : List Int32} (HM : am_ms h n c t s0 s1 p0 p1) (hd : 5 ≤ d) (kk : ∀ gz, (∀ g, g < n → ∀ j, j < c → gz 86 (7 * g + j) = ms_mk h s1 p1 j g) → (∀ g, g < n → ∀ j, j < c → gz 87 (7 * g + j) = ms_lk h s0 p0 j g) → Q none (am_S b) (am_ov h [83, 84, 86, 87] gz)) :
    ∀ (m i : Nat) (u2 : Value) (gz : am_HI) (e86 : ∀ g, g < i → ∀ j, j < c → gz 86 (7 * g + j) = ms_mk h s1 p1 j g) (e87 : ∀ g, g < i → ∀ j, j < c → gz 87 (7 * g + j) = ms_lk h s0 p0 j g), i + m = n → am_wp L xs d 0 ms 185 2 [.ref 74, .int (nI i), u2] [] (am_S b) (am_ov h [83, 84, 86, 87] gz) Q := by
  have hn7 := HM.2.2.2.1
  have hc7 := HM.2.2.2.2.1
  have hm2 := HM.1
  have hm3 := HM.2.1
  intro m
  induction m with
  | zero =>
    intro i u2 gz e86 e87 hi
    have e9 : i = n := by omega
    rw [e9] at e86 e87
    refine wp_run 2 (pc' := 4) (ls' := [.ref 74, .int (nI i), u2]) (st' := [.ref 74, .int (nI i)]) rfl ?_
    refine wp_getr 75 rfl rfl rfl ?_
    refine wp_run 1 (pc' := 8) (ls' := [.ref 74, .int (nI i), u2]) (st' := [.int 2, .ref 75, .int (nI i)]) rfl ?_
    refine wp_ald (i := 2) (nI n) hm2 rfl rfl rfl (by decide) rfl ?_
    refine wp_icmp_t rfl (show (nI n) ≤ (nI i) from (nI_leI (a := n) (b := i) (by omega) (by omega)).mpr (by omega)) ?_
    refine wp_retv rfl ?_
    exact kk gz e86 e87
  | succ m ih =>
    intro i u2 gz e86 e87 hi
    refine wp_run 2 (pc' := 4) (ls' := [.ref 74, .int (nI i), u2]) (st' := [.ref 74, .int (nI i)]) rfl ?_
    refine wp_getr 75 rfl rfl rfl ?_
    refine wp_run 1 (pc' := 8) (ls' := [.ref 74, .int (nI i), u2]) (st' := [.int 2, .ref 75, .int (nI i)]) rfl ?_
    refine wp_ald (i := 2) (nI n) hm2 rfl rfl rfl (by decide) rfl ?_
    refine wp_icmp_f rfl (show ¬ ((nI n) ≤ (nI i)) from mt (nI_leI (a := n) (b := i) (by omega) (by omega)).mp (by omega)) ?_
    refine wp_run 2 (pc' := 14) (ls' := [.ref 74, .int (nI i), .int 0]) (st' := []) rfl ?_
    refine lp_fw2 HM (i := i) (by omega) hd (fun gy g86 g87 => ?_) c 0 gz e86 e87 (fun j hj => by omega) (fun j hj => by omega) (by omega)
    refine wp_run 2 (pc' := 2) (ls' := [.ref 74, .int ((nI i) + 1), .int (nI c)]) (st' := []) rfl ?_
    rw [show (((nI i) + 1) : Int32) = (nI (i + 1)) from nI_add i 1]
    exact ih (i + 1) _ gy g86 g87 (by omega)
theorem sp_findWorths {L : Nat} {xs : Nat → Int32} {d ms b : Nat} {h : am_HI} {Q : am_Q} {n c t : Nat} {s0 s1 : Int32} {p0 p1 : List Int32} (HM : am_ms h n c t s0 s1 p0 p1) (hd : 5 ≤ d) (kk : ∀ gz, (∀ g, g < n → ∀ j, j < c → gz 86 (7 * g + j) = ms_mk h s1 p1 j g) → (∀ g, g < n → ∀ j, j < c → gz 87 (7 * g + j) = ms_lk h s0 p0 j g) → Q none (am_S b) (am_ov h [83, 84, 86, 87] gz)) :
    am_wp L xs d 0 ms 185 0 [.ref 74, am_du, am_du] [] (am_S b) h Q := by
  refine wp_run 2 (pc' := 2) (ls' := [.ref 74, .int 0, am_du]) (st' := []) rfl ?_
  have hp := lp_fw1 (L := L) (xs := xs) (ms := ms) (b := b) HM hd kk n 0 am_du h (fun g hg => by omega) (fun g hg => by omega) (by omega)
  rw [← am_ov_self] at hp
  exact hp
