/-! reading a text: the class's loop -/
theorem tx_run_s {B : Nat → Int32} {tp u n : Nat} {S S2 : tx_S} (hp : S.2.2.2 < tp) (h : tx_st B tp u S = some S2) : tx_run B tp u (n + 1) S = tx_run B tp u n S2 := by
  show (if S.2.2.2 < tp then _ else _) = _
  rw [if_pos hp, h]
theorem tx_run_n {B : Nat → Int32} {tp u n : Nat} {S : tx_S} (hp : S.2.2.2 < tp) (h : tx_st B tp u S = none) : tx_run B tp u (n + 1) S = Sum.inl S.2.2.2 := by
  show (if S.2.2.2 < tp then _ else _) = _
  rw [if_pos hp, h]
theorem lp_read {L : Nat} {xs : Nat → Int32} {d ms : Nat} {Q : am_Q} {h : am_HI} {u tp : Nat} {B : Nat → Int32} (htp : tp ≤ 60) (h9 : h 9 1 = nI tp) (h10 : ∀ i, i < tp → h 10 i = B i) (hu : u = 0 ∨ u = 1) (hd : 10 ≤ d) :
    ∀ (n i : Nat) (w : Bool) (c s : List Int32) (p : Nat) (X : am_HI) (u4 : Value), tp ≤ n + p → p ≤ tp → i ≤ p → c.length + s.length ≤ p → cr_st h X u (tx_op s) (w, c, s, p) → (ko : ∀ X2 c2, tx_run B tp u n (w, c, s, p) = Sum.inr c2 → (∀ a, [56, 57, 58, 59, 60].elem a = false → X2 a = h a) → X2 57 1 = nI c2.length → (∀ i (hi : i < c2.length), X2 58 i = c2[i]) → c2.length ≤ 60 → Q (some (.int (-1))) (am_S 10) X2) → (kf : ∀ X2 p2, tx_run B tp u n (w, c, s, p) = Sum.inl p2 → (∀ a, [56, 57, 58, 59, 60].elem a = false → X2 a = h a) → p2 ≤ tp → Q (some (.int (nI p2))) (am_S 10) X2) → am_wp L xs d 0 ms 50 43 [.ref 56, .ref 9, .int (nI u), .int (nI i), u4] [] (am_S 10) X Q := by
  intro n
  induction n with
  | zero =>
    intro i w c s p X u4 hn hpt hip hl hX ko kf
    refine wp_run 2 (pc' := 46) (ls' := [.ref 56, .ref 9, .int (nI u), .int (nI i), u4]) (st' := [.int 60, .int (nI i)]) rfl ?_
    refine wp_icmp rfl (fun (c46 : 60 ≤ (nI i)) => ?_) (fun (c46 : ¬ (60 ≤ (nI i))) => ?_)
    · skip
      have c46n : 60 ≤ i := (nI_leI (a := 60) (b := i) (by omega) (by omega)).mp c46
      have hrun : tx_run B tp u 0 (w, c, s, p) = tx_ew tp (w, c, s, p) := tx_is_ew (S := (w, c, s, p)) (show tp ≤ p by omega) _ (show _ ≤ _ + p by omega)
      refine wp_run 1 (pc' := 97) (ls' := [.ref 56, .ref 9, .int (nI u), .int (nI i), u4]) (st' := [.ref 56]) rfl ?_
      refine wp_callV (o := 56) (as := []) (rest := []) (els := [.ref 56]) rfl rfl rfl rfl rfl rfl rfl rfl (by omega) ?_
      refine sp_endsWell htp h9 h10 hX (by omega) (by omega) ?_ ?_
      · skip
        intro X2 c2 hew hoff hq1 hq2 hq3
        show am_wp L xs _ _ _ _ 100 [.ref 56, .ref 9, .int (nI u), .int (nI i), u4] [.int 1] (am_S 10) X2 _
        refine wp_if_f rfl (show ¬ ((1 : Int32) = 0) from by decide) ?_
        refine wp_run 2 (pc' := 111) (ls' := [.ref 56, .ref 9, .int (nI u), .int (nI i), u4]) (st' := [.int (-1)]) rfl ?_
        refine wp_ret rfl ?_
        exact ko X2 c2 (hrun.trans hew) hoff hq1 hq2 hq3
      · skip
        intro hew X2 hoff
        show am_wp L xs _ _ _ _ 100 [.ref 56, .ref 9, .int (nI u), .int (nI i), u4] [.int 0] (am_S 10) X2 _
        refine wp_if_t rfl (show (0 : Int32) = 0 from by decide) ?_
        refine wp_run 1 (pc' := 108) (ls' := [.ref 56, .ref 9, .int (nI u), .int (nI i), u4]) (st' := [.ref 9]) rfl ?_
        refine wp_geti (a := 1) (nI tp) (show X2 9 1 = nI tp from by rw [hoff 9 rfl]; exact h9) rfl rfl rfl ?_
        refine wp_ret rfl ?_
        exact kf X2 tp (hrun.trans hew) hoff (Nat.le_refl _)
    · skip
      have c46n : ¬ (60 ≤ i) := fun q => c46 ((nI_leI (a := 60) (b := i) (by omega) (by omega)).mpr q)
      refine wp_run 1 (pc' := 50) (ls' := [.ref 56, .ref 9, .int (nI u), .int (nI i), u4]) (st' := [.ref 56]) rfl ?_
      refine wp_geti (a := 4) (nI p) hX.2.2.1 rfl rfl rfl ?_
      refine wp_run 1 (pc' := 54) (ls' := [.ref 56, .ref 9, .int (nI u), .int (nI i), u4]) (st' := [.ref 9, .int (nI p)]) rfl ?_
      refine wp_geti (a := 1) (nI tp) (show X 9 1 = nI tp from by rw [hX.1 9 rfl]; exact h9) rfl rfl rfl ?_
      refine wp_icmp_t rfl (show (nI tp) ≤ (nI p) from (nI_leI (a := tp) (b := p) (by omega) (by omega)).mpr (by omega)) ?_
      have hrun : tx_run B tp u 0 (w, c, s, p) = tx_ew tp (w, c, s, p) := tx_is_ew (S := (w, c, s, p)) (show tp ≤ p by omega) _ (show _ ≤ _ + p by omega)
      refine wp_run 1 (pc' := 97) (ls' := [.ref 56, .ref 9, .int (nI u), .int (nI i), u4]) (st' := [.ref 56]) rfl ?_
      refine wp_callV (o := 56) (as := []) (rest := []) (els := [.ref 56]) rfl rfl rfl rfl rfl rfl rfl rfl (by omega) ?_
      refine sp_endsWell htp h9 h10 hX (by omega) (by omega) ?_ ?_
      · skip
        intro X2 c2 hew hoff hq1 hq2 hq3
        show am_wp L xs _ _ _ _ 100 [.ref 56, .ref 9, .int (nI u), .int (nI i), u4] [.int 1] (am_S 10) X2 _
        refine wp_if_f rfl (show ¬ ((1 : Int32) = 0) from by decide) ?_
        refine wp_run 2 (pc' := 111) (ls' := [.ref 56, .ref 9, .int (nI u), .int (nI i), u4]) (st' := [.int (-1)]) rfl ?_
        refine wp_ret rfl ?_
        exact ko X2 c2 (hrun.trans hew) hoff hq1 hq2 hq3
      · skip
        intro hew X2 hoff
        show am_wp L xs _ _ _ _ 100 [.ref 56, .ref 9, .int (nI u), .int (nI i), u4] [.int 0] (am_S 10) X2 _
        refine wp_if_t rfl (show (0 : Int32) = 0 from by decide) ?_
        refine wp_run 1 (pc' := 108) (ls' := [.ref 56, .ref 9, .int (nI u), .int (nI i), u4]) (st' := [.ref 9]) rfl ?_
        refine wp_geti (a := 1) (nI tp) (show X2 9 1 = nI tp from by rw [hoff 9 rfl]; exact h9) rfl rfl rfl ?_
        refine wp_ret rfl ?_
        exact kf X2 tp (hrun.trans hew) hoff (Nat.le_refl _)
  | succ n ih =>
    intro i w c s p X u4 hn hpt hip hl hX ko kf
    refine wp_run 2 (pc' := 46) (ls' := [.ref 56, .ref 9, .int (nI u), .int (nI i), u4]) (st' := [.int 60, .int (nI i)]) rfl ?_
    refine wp_icmp rfl (fun (c46 : 60 ≤ (nI i)) => ?_) (fun (c46 : ¬ (60 ≤ (nI i))) => ?_)
    · skip
      have c46n : 60 ≤ i := (nI_leI (a := 60) (b := i) (by omega) (by omega)).mp c46
      have hrun : tx_run B tp u (n + 1) (w, c, s, p) = tx_ew tp (w, c, s, p) := tx_is_ew (S := (w, c, s, p)) (show tp ≤ p by omega) _ (show _ ≤ _ + p by omega)
      refine wp_run 1 (pc' := 97) (ls' := [.ref 56, .ref 9, .int (nI u), .int (nI i), u4]) (st' := [.ref 56]) rfl ?_
      refine wp_callV (o := 56) (as := []) (rest := []) (els := [.ref 56]) rfl rfl rfl rfl rfl rfl rfl rfl (by omega) ?_
      refine sp_endsWell htp h9 h10 hX (by omega) (by omega) ?_ ?_
      · skip
        intro X2 c2 hew hoff hq1 hq2 hq3
        show am_wp L xs _ _ _ _ 100 [.ref 56, .ref 9, .int (nI u), .int (nI i), u4] [.int 1] (am_S 10) X2 _
        refine wp_if_f rfl (show ¬ ((1 : Int32) = 0) from by decide) ?_
        refine wp_run 2 (pc' := 111) (ls' := [.ref 56, .ref 9, .int (nI u), .int (nI i), u4]) (st' := [.int (-1)]) rfl ?_
        refine wp_ret rfl ?_
        exact ko X2 c2 (hrun.trans hew) hoff hq1 hq2 hq3
      · skip
        intro hew X2 hoff
        show am_wp L xs _ _ _ _ 100 [.ref 56, .ref 9, .int (nI u), .int (nI i), u4] [.int 0] (am_S 10) X2 _
        refine wp_if_t rfl (show (0 : Int32) = 0 from by decide) ?_
        refine wp_run 1 (pc' := 108) (ls' := [.ref 56, .ref 9, .int (nI u), .int (nI i), u4]) (st' := [.ref 9]) rfl ?_
        refine wp_geti (a := 1) (nI tp) (show X2 9 1 = nI tp from by rw [hoff 9 rfl]; exact h9) rfl rfl rfl ?_
        refine wp_ret rfl ?_
        exact kf X2 tp (hrun.trans hew) hoff (Nat.le_refl _)
    · skip
      have c46n : ¬ (60 ≤ i) := fun q => c46 ((nI_leI (a := 60) (b := i) (by omega) (by omega)).mpr q)
      refine wp_run 1 (pc' := 50) (ls' := [.ref 56, .ref 9, .int (nI u), .int (nI i), u4]) (st' := [.ref 56]) rfl ?_
      refine wp_geti (a := 4) (nI p) hX.2.2.1 rfl rfl rfl ?_
      refine wp_run 1 (pc' := 54) (ls' := [.ref 56, .ref 9, .int (nI u), .int (nI i), u4]) (st' := [.ref 9, .int (nI p)]) rfl ?_
      refine wp_geti (a := 1) (nI tp) (show X 9 1 = nI tp from by rw [hX.1 9 rfl]; exact h9) rfl rfl rfl ?_
      refine wp_icmp rfl (fun (c57 : (nI tp) ≤ (nI p)) => ?_) (fun (c57 : ¬ ((nI tp) ≤ (nI p))) => ?_)
      · skip
        have c57n : tp ≤ p := (nI_leI (a := tp) (b := p) (by omega) (by omega)).mp c57
        have hrun : tx_run B tp u (n + 1) (w, c, s, p) = tx_ew tp (w, c, s, p) := tx_is_ew (S := (w, c, s, p)) (show tp ≤ p by omega) _ (show _ ≤ _ + p by omega)
        refine wp_run 1 (pc' := 97) (ls' := [.ref 56, .ref 9, .int (nI u), .int (nI i), u4]) (st' := [.ref 56]) rfl ?_
        refine wp_callV (o := 56) (as := []) (rest := []) (els := [.ref 56]) rfl rfl rfl rfl rfl rfl rfl rfl (by omega) ?_
        refine sp_endsWell htp h9 h10 hX (by omega) (by omega) ?_ ?_
        · skip
          intro X2 c2 hew hoff hq1 hq2 hq3
          show am_wp L xs _ _ _ _ 100 [.ref 56, .ref 9, .int (nI u), .int (nI i), u4] [.int 1] (am_S 10) X2 _
          refine wp_if_f rfl (show ¬ ((1 : Int32) = 0) from by decide) ?_
          refine wp_run 2 (pc' := 111) (ls' := [.ref 56, .ref 9, .int (nI u), .int (nI i), u4]) (st' := [.int (-1)]) rfl ?_
          refine wp_ret rfl ?_
          exact ko X2 c2 (hrun.trans hew) hoff hq1 hq2 hq3
        · skip
          intro hew X2 hoff
          show am_wp L xs _ _ _ _ 100 [.ref 56, .ref 9, .int (nI u), .int (nI i), u4] [.int 0] (am_S 10) X2 _
          refine wp_if_t rfl (show (0 : Int32) = 0 from by decide) ?_
          refine wp_run 1 (pc' := 108) (ls' := [.ref 56, .ref 9, .int (nI u), .int (nI i), u4]) (st' := [.ref 9]) rfl ?_
          refine wp_geti (a := 1) (nI tp) (show X2 9 1 = nI tp from by rw [hoff 9 rfl]; exact h9) rfl rfl rfl ?_
          refine wp_ret rfl ?_
          exact kf X2 tp (hrun.trans hew) hoff (Nat.le_refl _)
      · skip
        have c57n : ¬ (tp ≤ p) := fun q => c57 ((nI_leI (a := tp) (b := p) (by omega) (by omega)).mpr q)
        cases w with
        | true =>
          refine wp_run 1 (pc' := 61) (ls' := [.ref 56, .ref 9, .int (nI u), .int (nI i), u4]) (st' := [.ref 56]) rfl ?_
          refine wp_geti (a := 6) 1 hX.2.2.2.2.1 rfl rfl rfl ?_
          refine wp_if_f rfl (show ¬ ((1 : Int32) = 0) from by decide) ?_
          refine wp_run 1 (pc' := 68) (ls' := [.ref 56, .ref 9, .int (nI u), .int (nI i), u4]) (st' := [.ref 56]) rfl ?_
          refine wp_callV (o := 56) (as := []) (rest := []) (els := [.ref 56, am_du, am_du]) rfl rfl rfl rfl rfl rfl rfl rfl (by omega) ?_
          refine sp_takesPart htp h9 h10 hu hX (by omega) hl (by omega) ?_ ?_
          · skip
            intro S2 X2 hst hX2
            obtain ⟨w2, c2, s2, p2⟩ := S2
            have hst2 : tx_st B tp u (true, c, s, p) = some (w2, c2, s2, p2) := hst
            obtain ⟨k1, k2, k3⟩ := tx_st_ok htp (show p < tp by omega) hl hst2
            show am_wp L xs _ _ _ _ 71 [.ref 56, .ref 9, .int (nI u), .int (nI i), u4] [.int 1] (am_S 10) X2 _
            refine wp_run 3 (pc' := 82) (ls' := [.ref 56, .ref 9, .int (nI u), .int (nI i), .int 1]) (st' := [.int 1]) rfl ?_
            refine wp_if_t rfl (show ¬ (1 : Int32) = 0 from by decide) ?_
            refine wp_run 2 (pc' := 43) (ls' := [.ref 56, .ref 9, .int (nI u), .int ((nI i) + 1), .int 1]) (st' := []) rfl ?_
            rw [show (((nI i) + 1) : Int32) = (nI (i + 1)) from nI_add i 1]
            have er := tx_run_s (n := n) (S := (true, c, s, p)) (show p < tp by omega) hst2
            have k1b : p < p2 := k1
            exact ih (i + 1) w2 c2 s2 p2 X2 _ (by omega) k2 (by omega) k3 hX2 (fun X3 c3 e => ko X3 c3 (er.trans e)) (fun X3 p3 e => kf X3 p3 (er.trans e))
          · skip
            intro hst
            have hst2 : tx_st B tp u (true, c, s, p) = none := hst
            show am_wp L xs _ _ _ _ 71 [.ref 56, .ref 9, .int (nI u), .int (nI i), u4] [.int 0] (am_S 10) X _
            refine wp_run 3 (pc' := 82) (ls' := [.ref 56, .ref 9, .int (nI u), .int (nI i), .int 0]) (st' := [.int 0]) rfl ?_
            refine wp_if_f rfl (show ¬ (¬ (0 : Int32) = 0) from by decide) ?_
            refine wp_run 1 (pc' := 86) (ls' := [.ref 56, .ref 9, .int (nI u), .int (nI i), .int 0]) (st' := [.ref 56]) rfl ?_
            refine wp_geti (a := 4) (nI p) hX.2.2.1 rfl rfl rfl ?_
            refine wp_ret rfl ?_
            exact kf _ p (tx_run_n (S := (true, c, s, p)) (show p < tp by omega) hst2) hX.1 (by omega)
        | false =>
          refine wp_run 1 (pc' := 61) (ls' := [.ref 56, .ref 9, .int (nI u), .int (nI i), u4]) (st' := [.ref 56]) rfl ?_
          refine wp_geti (a := 6) 0 hX.2.2.2.2.1 rfl rfl rfl ?_
          refine wp_if_t rfl (show (0 : Int32) = 0 from by decide) ?_
          refine wp_run 1 (pc' := 75) (ls' := [.ref 56, .ref 9, .int (nI u), .int (nI i), u4]) (st' := [.ref 56]) rfl ?_
          refine wp_callV (o := 56) (as := []) (rest := []) (els := [.ref 56, am_du, am_du, am_du]) rfl rfl rfl rfl rfl rfl rfl rfl (by omega) ?_
          refine sp_takesSign htp h9 h10 hX (by omega) hl (by omega) ?_ ?_
          · skip
            intro S2 X2 hst hX2
            obtain ⟨w2, c2, s2, p2⟩ := S2
            have hst2 : tx_st B tp u (false, c, s, p) = some (w2, c2, s2, p2) := hst
            obtain ⟨k1, k2, k3⟩ := tx_st_ok htp (show p < tp by omega) hl hst2
            show am_wp L xs _ _ _ _ 78 [.ref 56, .ref 9, .int (nI u), .int (nI i), u4] [.int 1] (am_S 10) X2 _
            refine wp_run 2 (pc' := 82) (ls' := [.ref 56, .ref 9, .int (nI u), .int (nI i), .int 1]) (st' := [.int 1]) rfl ?_
            refine wp_if_t rfl (show ¬ (1 : Int32) = 0 from by decide) ?_
            refine wp_run 2 (pc' := 43) (ls' := [.ref 56, .ref 9, .int (nI u), .int ((nI i) + 1), .int 1]) (st' := []) rfl ?_
            rw [show (((nI i) + 1) : Int32) = (nI (i + 1)) from nI_add i 1]
            have er := tx_run_s (n := n) (S := (false, c, s, p)) (show p < tp by omega) hst2
            have k1b : p < p2 := k1
            exact ih (i + 1) w2 c2 s2 p2 X2 _ (by omega) k2 (by omega) k3 hX2 (fun X3 c3 e => ko X3 c3 (er.trans e)) (fun X3 p3 e => kf X3 p3 (er.trans e))
          · skip
            intro hst X2 hoff hpl
            have hst2 : tx_st B tp u (false, c, s, p) = none := hst
            show am_wp L xs _ _ _ _ 78 [.ref 56, .ref 9, .int (nI u), .int (nI i), u4] [.int 0] (am_S 10) X2 _
            refine wp_run 2 (pc' := 82) (ls' := [.ref 56, .ref 9, .int (nI u), .int (nI i), .int 0]) (st' := [.int 0]) rfl ?_
            refine wp_if_f rfl (show ¬ (¬ (0 : Int32) = 0) from by decide) ?_
            refine wp_run 1 (pc' := 86) (ls' := [.ref 56, .ref 9, .int (nI u), .int (nI i), .int 0]) (st' := [.ref 56]) rfl ?_
            refine wp_geti (a := 4) (nI p) hpl rfl rfl rfl ?_
            refine wp_ret rfl ?_
            exact kf _ p (tx_run_n (S := (false, c, s, p)) (show p < tp by omega) hst2) hoff (by omega)
theorem sp_read {L : Nat} {xs : Nat → Int32} {d ms : Nat} {Q : am_Q} {h : am_HI} {u tp : Nat} {B : Nat → Int32} (htp : tp ≤ 60) (h9 : h 9 1 = nI tp) (h10 : ∀ i, i < tp → h 10 i = B i) {b : Nat} (hu : u = 0 ∨ u = 1) (hd : 10 ≤ d) (ko : ∀ X2 c2, tx_run B tp u tp (true, [], [], 0) = Sum.inr c2 → (∀ a, [56, 57, 58, 59, 60].elem a = false → X2 a = h a) → X2 57 1 = nI c2.length → (∀ i (hi : i < c2.length), X2 58 i = c2[i]) → c2.length ≤ 60 → Q (some (.int (-1))) (am_S 10) X2) (kf : ∀ X2 p2, tx_run B tp u tp (true, [], [], 0) = Sum.inl p2 → (∀ a, [56, 57, 58, 59, 60].elem a = false → X2 a = h a) → p2 ≤ tp → Q (some (.int (nI p2))) (am_S 10) X2) :
    am_wp L xs d 0 ms 50 0 [.ref 56, .ref 9, .int (nI u), am_du, am_du] [] (am_S b) h Q := by
  refine wp_run 2 (pc' := 2) (ls' := [.ref 56, .ref 9, .int (nI u), am_du, am_du]) (st' := [.ref 9, .ref 56]) rfl ?_
  refine wp_putr (sh' := am_S 10) rfl rfl rfl ?_
  refine wp_run 2 (pc' := 7) (ls' := [.ref 56, .ref 9, .int (nI u), am_du, am_du]) (st' := [.int (nI u), .ref 56]) rfl ?_
  refine wp_puti rfl rfl ?_
  refine wp_run 2 (pc' := 12) (ls' := [.ref 56, .ref 9, .int (nI u), am_du, am_du]) (st' := [.int 0, .ref 56]) rfl ?_
  refine wp_puti rfl rfl ?_
  refine wp_run 2 (pc' := 17) (ls' := [.ref 56, .ref 9, .int (nI u), am_du, am_du]) (st' := [.int 0, .ref 56]) rfl ?_
  refine wp_puti rfl rfl ?_
  refine wp_run 2 (pc' := 22) (ls' := [.ref 56, .ref 9, .int (nI u), am_du, am_du]) (st' := [.int 1, .ref 56]) rfl ?_
  refine wp_putz rfl (Or.inr rfl) rfl ?_
  refine wp_run 1 (pc' := 26) (ls' := [.ref 56, .ref 9, .int (nI u), am_du, am_du]) (st' := [.ref 56]) rfl ?_
  refine wp_getr 57 rfl rfl rfl ?_
  refine wp_run 1 (pc' := 30) (ls' := [.ref 56, .ref 9, .int (nI u), am_du, am_du]) (st' := [.int 0, .ref 57]) rfl ?_
  refine wp_puti rfl rfl ?_
  refine wp_run 1 (pc' := 34) (ls' := [.ref 56, .ref 9, .int (nI u), am_du, am_du]) (st' := [.ref 56]) rfl ?_
  refine wp_getr 59 rfl rfl rfl ?_
  refine wp_run 1 (pc' := 38) (ls' := [.ref 56, .ref 9, .int (nI u), am_du, am_du]) (st' := [.int 0, .ref 59]) rfl ?_
  refine wp_puti rfl rfl ?_
  refine wp_run 2 (pc' := 43) (ls' := [.ref 56, .ref 9, .int (nI u), .int 0, am_du]) (st' := []) rfl ?_
  refine lp_read htp h9 h10 hu hd tp 0 true [] [] 0 _ _ (Nat.le_add_right _ _) (Nat.zero_le _) (Nat.le_refl _) (Nat.le_refl _) ?_ ko kf
  refine ⟨fun a ha => ?_, rfl, rfl, rfl, rfl, rfl, fun i hi => absurd hi (Nat.not_lt_zero _), rfl, trivial⟩
  rw [am_u_off _ _ _ (am_nel ha rfl), am_u_off _ _ _ (am_nel ha rfl), am_u_off _ _ _ (am_nel ha rfl), am_u_off _ _ _ (am_nel ha rfl), am_u_off _ _ _ (am_nel ha rfl), am_u_off _ _ _ (am_nel ha rfl)]
