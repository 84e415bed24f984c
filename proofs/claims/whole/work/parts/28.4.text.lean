/-! reading a text: the reference's descent, level by level -/
theorem tx_lev_5 {b : Int32} (h : tx_lev b = 5) : b = 42 ∨ b = 47 ∨ b = 37 := by
  by_cases h1 : b = 42 ∨ b = 47 ∨ b = 37
  · exact h1
  · unfold tx_lev at h
    rw [if_neg h1] at h
    split at h
    · cases h
    · split at h
      · cases h
      · split at h
        · cases h
        · split at h <;> cases h
theorem tx_lev_4 {b : Int32} (h : tx_lev b = 4) : b = 43 ∨ b = 45 := by
  by_cases h1 : b = 43 ∨ b = 45
  · exact h1
  · unfold tx_lev at h
    rw [if_neg h1] at h
    split at h
    · cases h
    · split at h
      · cases h
      · split at h
        · cases h
        · split at h <;> cases h
theorem tx_lev_3 {b : Int32} (h : tx_lev b = 3) : b = 60 ∨ b = 61 ∨ b = 62 := by
  by_cases h1 : b = 60 ∨ b = 61 ∨ b = 62
  · exact h1
  · unfold tx_lev at h
    rw [if_neg h1] at h
    split at h
    · cases h
    · split at h
      · cases h
      · split at h
        · cases h
        · split at h <;> cases h
theorem tx_lev_2 {b : Int32} (h : tx_lev b = 2) : b = 38 := by
  by_cases h1 : b = 38
  · exact h1
  · unfold tx_lev at h
    rw [if_neg h1] at h
    split at h
    · cases h
    · split at h
      · cases h
      · split at h
        · cases h
        · split at h <;> cases h
theorem tx_lev_1 {b : Int32} (h : tx_lev b = 1) : b = 124 := by
  by_cases h1 : b = 124
  · exact h1
  · unfold tx_lev at h
    rw [if_neg h1] at h
    split at h
    · cases h
    · split at h
      · cases h
      · split at h
        · cases h
        · split at h <;> cases h
theorem sp_times {L : Nat} {xs : Nat → Int32} {h : am_HI} {B : Nat → Int32} {tp u : Nat} (htp : tp ≤ 60) (h5 : h 75 5 = nI tp) (hB : ∀ i, i < tp → h 75 (56 + i) = B i) {r : Nat} (ih : rf_one L xs h B tp u r) : rf_lv L xs h B tp u r 5 167 [.ref 74, am_du] := by
  intro d ms b p o c X1 Q hd hr hX1 kt kf
  have b1a := hX1.2.2.2.2.2.1
  have b1b := hX1.2.2.2.2.2.2.1
  have hlp : ∀ (m : Nat) (X1 : am_HI) (p1 : Nat) (c1 : List Int32) (u1 : Value), tp - p1 ≤ m → rf_st h X1 tp p1 o c1 → tx_G B tp u 5 p c o p1 c1 → c1.length + p ≤ c.length + p1 → am_wp L xs d 0 ms 167 4 [.ref 74, u1] [] (am_S b) X1 Q := by
    intro m
    induction m with
    | zero =>
      intro X1 p1 c1 u1 hm hX1 hG hL
      have b1a := hX1.2.2.2.2.2.1
      have b1b := hX1.2.2.2.2.2.2.1
      have b1c := hG.1
      have b1d := hG.2.1
      refine wp_run 1 (pc' := 5) (ls' := [.ref 74, u1]) (st' := [.ref 74]) rfl ?_
      refine wp_geti (a := 14) 0 hX1.2.2.2.2.1 rfl rfl rfl ?_
      refine wp_if_f rfl (show ¬ (¬ (0 : Int32) = 0) from by decide) ?_
      refine wp_run 1 (pc' := 12) (ls' := [.ref 74, u1]) (st' := [.ref 74]) rfl ?_
      refine wp_callV (o := 74) (as := []) (rest := []) (els := [.ref 74]) rfl rfl rfl rfl rfl rfl rfl rfl (by omega) ?_
      refine sp_look_r htp h5 hB hX1 ?_
      show am_wp L xs _ _ _ _ 15 [.ref 74, u1] [.int (tx_lk B tp p1)] (am_S b) X1 _
      refine wp_run 1 (pc' := 17) (ls' := [.ref 74, u1]) (st' := [.int 42, .int (tx_lk B tp p1)]) rfl ?_
      refine wp_icmp rfl (fun (cs42 : (tx_lk B tp p1) = 42) => ?_) (fun (cs42 : ¬ ((tx_lk B tp p1) = 42)) => ?_)
      · skip
        have hop := tx_lk_eq (by decide) cs42
        have hlv : tx_lev (B p1) = 5 := by rw [hop.2]; decide
        omega
      · skip
        refine wp_run 1 (pc' := 21) (ls' := [.ref 74, u1]) (st' := [.ref 74]) rfl ?_
        refine wp_callV (o := 74) (as := []) (rest := []) (els := [.ref 74]) rfl rfl rfl rfl rfl rfl rfl rfl (by omega) ?_
        refine sp_look_r htp h5 hB hX1 ?_
        show am_wp L xs _ _ _ _ 24 [.ref 74, u1] [.int (tx_lk B tp p1)] (am_S b) X1 _
        refine wp_run 1 (pc' := 26) (ls' := [.ref 74, u1]) (st' := [.int 47, .int (tx_lk B tp p1)]) rfl ?_
        refine wp_icmp rfl (fun (cs47 : (tx_lk B tp p1) = 47) => ?_) (fun (cs47 : ¬ ((tx_lk B tp p1) = 47)) => ?_)
        · skip
          have hop := tx_lk_eq (by decide) cs47
          have hlv : tx_lev (B p1) = 5 := by rw [hop.2]; decide
          omega
        · skip
          refine wp_run 1 (pc' := 30) (ls' := [.ref 74, u1]) (st' := [.ref 74]) rfl ?_
          refine wp_callV (o := 74) (as := []) (rest := []) (els := [.ref 74]) rfl rfl rfl rfl rfl rfl rfl rfl (by omega) ?_
          refine sp_look_r htp h5 hB hX1 ?_
          show am_wp L xs _ _ _ _ 33 [.ref 74, u1] [.int (tx_lk B tp p1)] (am_S b) X1 _
          refine wp_run 1 (pc' := 35) (ls' := [.ref 74, u1]) (st' := [.int 37, .int (tx_lk B tp p1)]) rfl ?_
          refine wp_icmp rfl (fun (cs37 : ¬ (tx_lk B tp p1) = 37) => ?_) (fun (cs37 : ¬ (¬ (tx_lk B tp p1) = 37)) => ?_)
          · skip
            refine wp_retv rfl ?_
            exact kt _ _ _ hX1 (te_x hG (fun q q2 => (tx_lev_5 q2).elim (fun e => cs42 ((tx_lk_in q).trans e)) (fun e => e.elim (fun e => cs47 ((tx_lk_in q).trans e)) (fun e => cs37 ((tx_lk_in q).trans e))))) hL
          · skip
            replace cs37 := Decidable.not_not.mp cs37
            have hop := tx_lk_eq (by decide) cs37
            have hlv : tx_lev (B p1) = 5 := by rw [hop.2]; decide
            omega
    | succ m ih2 =>
      intro X1 p1 c1 u1 hm hX1 hG hL
      have b1a := hX1.2.2.2.2.2.1
      have b1b := hX1.2.2.2.2.2.2.1
      have b1c := hG.1
      have b1d := hG.2.1
      refine wp_run 1 (pc' := 5) (ls' := [.ref 74, u1]) (st' := [.ref 74]) rfl ?_
      refine wp_geti (a := 14) 0 hX1.2.2.2.2.1 rfl rfl rfl ?_
      refine wp_if_f rfl (show ¬ (¬ (0 : Int32) = 0) from by decide) ?_
      refine wp_run 1 (pc' := 12) (ls' := [.ref 74, u1]) (st' := [.ref 74]) rfl ?_
      refine wp_callV (o := 74) (as := []) (rest := []) (els := [.ref 74]) rfl rfl rfl rfl rfl rfl rfl rfl (by omega) ?_
      refine sp_look_r htp h5 hB hX1 ?_
      show am_wp L xs _ _ _ _ 15 [.ref 74, u1] [.int (tx_lk B tp p1)] (am_S b) X1 _
      refine wp_run 1 (pc' := 17) (ls' := [.ref 74, u1]) (st' := [.int 42, .int (tx_lk B tp p1)]) rfl ?_
      refine wp_icmp rfl (fun (cs42 : (tx_lk B tp p1) = 42) => ?_) (fun (cs42 : ¬ ((tx_lk B tp p1) = 42)) => ?_)
      · skip
        have hop := tx_lk_eq (by decide) cs42
        have hlv : tx_lev (B p1) = 5 := by rw [hop.2]; decide
        refine wp_run 1 (pc' := 39) (ls' := [.ref 74, u1]) (st' := [.ref 74]) rfl ?_
        refine wp_callV (o := 74) (as := []) (rest := []) (els := [.ref 74]) rfl rfl rfl rfl rfl rfl rfl rfl (by omega) ?_
        refine sp_look_r htp h5 hB hX1 ?_
        show am_wp L xs _ _ _ _ 42 [.ref 74, u1] [.int (tx_lk B tp p1)] (am_S b) X1 _
        refine wp_run 3 (pc' := 45) (ls' := [.ref 74, .int (tx_lk B tp p1)]) (st' := [.ref 74, .ref 74]) rfl ?_
        refine wp_geti (a := 12) (nI p1) hX1.2.2.1 rfl rfl rfl ?_
        refine wp_run 2 (pc' := 50) (ls' := [.ref 74, .int (tx_lk B tp p1)]) (st' := [.int ((nI p1) + 1), .ref 74]) rfl ?_
        rw [show (((nI p1) + 1) : Int32) = (nI (p1 + 1)) from nI_add p1 1]
        refine wp_puti rfl rfl ?_
        refine wp_run 1 (pc' := 54) (ls' := [.ref 74, .int (tx_lk B tp p1)]) (st' := [.ref 74]) rfl ?_
        refine wp_callV (o := 74) (as := []) (rest := []) (els := [.ref 74, am_du, am_du]) rfl rfl rfl rfl rfl rfl rfl rfl (by omega) ?_
        refine ih _ _ _ _ _ _ _ _ (by omega) (by omega) (rf_p hX1 (by omega) (by omega)) ?_ ?_
        · skip
          intro X2 p2 c2 hX2 hE2 hL2
          have b2a := hX2.2.2.2.2.2.1
          have b2b := hX2.2.2.2.2.2.2.1
          have b2c := hE2.1
          show am_wp L xs _ _ _ _ 57 [.ref 74, .int (tx_lk B tp p1)] [] (am_S b) X2 _
          refine wp_run 3 (pc' := 60) (ls' := [.ref 74, .int (tx_lk B tp p1)]) (st' := [.int 0, .int (tx_lk B tp p1), .ref 74]) rfl ?_
          refine wp_callV (o := 74) (as := [.int (tx_lk B tp p1), .int 0]) (rest := []) (els := [.ref 74, .int (tx_lk B tp p1), .int 0]) rfl rfl rfl rfl rfl rfl rfl rfl (by omega) ?_
          refine sp_lays_o (-(B p1)) htp hX2 (by omega) (show re_op (tx_lk B tp p1) 0 (-(B p1)) from by rw [cs42]; rw [hop.2]; exact Or.inr (Or.inr (Or.inr ⟨rfl, by decide⟩))) (fun X3 hX3 => ?_)
          have b3a := hX3.2.2.2.2.2.1
          have b3b := hX3.2.2.2.2.2.2.1
          show am_wp L xs _ _ _ _ 63 [.ref 74, .int (tx_lk B tp p1)] [] (am_S b) X3 _
          refine wp_run 1 (pc' := 4) (ls' := [.ref 74, .int (tx_lk B tp p1)]) (st' := []) rfl ?_
          exact ih2 _ p2 _ _ (by omega) hX3 (te_s (by decide) (by decide) hG hop.1 hlv (te_6 hE2)) (by rw [List.length_append]; show c2.length + 1 + p ≤ c.length + p2; omega)
        · skip
          intro X2 p2 hX2 hF2
          have b2a := hX2.2.2.2.2.2.1
          show am_wp L xs _ _ _ _ 57 [.ref 74, .int (tx_lk B tp p1)] [] (am_S b) X2 _
          refine wp_run 3 (pc' := 60) (ls' := [.ref 74, .int (tx_lk B tp p1)]) (st' := [.int 0, .int (tx_lk B tp p1), .ref 74]) rfl ?_
          refine wp_callV (o := 74) (as := [.int (tx_lk B tp p1), .int 0]) (rest := []) (els := [.ref 74, .int (tx_lk B tp p1), .int 0]) rfl rfl rfl rfl rfl rfl rfl rfl (by omega) ?_
          refine sp_lays_b hX2 (fun X3 hX3 => ?_)
          show am_wp L xs _ _ _ _ 63 [.ref 74, .int (tx_lk B tp p1)] [] (am_S b) X3 _
          refine wp_run 1 (pc' := 4) (ls' := [.ref 74, .int (tx_lk B tp p1)]) (st' := []) rfl ?_
          refine wp_run 1 (pc' := 5) (ls' := [.ref 74, .int (tx_lk B tp p1)]) (st' := [.ref 74]) rfl ?_
          refine wp_geti (a := 14) 1 hX3.2.2.2.2.1 rfl rfl rfl ?_
          refine wp_if_t rfl (show ¬ (1 : Int32) = 0 from by decide) ?_
          refine wp_retv rfl ?_
          exact kf _ _ hX3 (te_sF (by decide) (by decide) hG hop.1 hlv (te_6F hF2))
      · skip
        refine wp_run 1 (pc' := 21) (ls' := [.ref 74, u1]) (st' := [.ref 74]) rfl ?_
        refine wp_callV (o := 74) (as := []) (rest := []) (els := [.ref 74]) rfl rfl rfl rfl rfl rfl rfl rfl (by omega) ?_
        refine sp_look_r htp h5 hB hX1 ?_
        show am_wp L xs _ _ _ _ 24 [.ref 74, u1] [.int (tx_lk B tp p1)] (am_S b) X1 _
        refine wp_run 1 (pc' := 26) (ls' := [.ref 74, u1]) (st' := [.int 47, .int (tx_lk B tp p1)]) rfl ?_
        refine wp_icmp rfl (fun (cs47 : (tx_lk B tp p1) = 47) => ?_) (fun (cs47 : ¬ ((tx_lk B tp p1) = 47)) => ?_)
        · skip
          have hop := tx_lk_eq (by decide) cs47
          have hlv : tx_lev (B p1) = 5 := by rw [hop.2]; decide
          refine wp_run 1 (pc' := 39) (ls' := [.ref 74, u1]) (st' := [.ref 74]) rfl ?_
          refine wp_callV (o := 74) (as := []) (rest := []) (els := [.ref 74]) rfl rfl rfl rfl rfl rfl rfl rfl (by omega) ?_
          refine sp_look_r htp h5 hB hX1 ?_
          show am_wp L xs _ _ _ _ 42 [.ref 74, u1] [.int (tx_lk B tp p1)] (am_S b) X1 _
          refine wp_run 3 (pc' := 45) (ls' := [.ref 74, .int (tx_lk B tp p1)]) (st' := [.ref 74, .ref 74]) rfl ?_
          refine wp_geti (a := 12) (nI p1) hX1.2.2.1 rfl rfl rfl ?_
          refine wp_run 2 (pc' := 50) (ls' := [.ref 74, .int (tx_lk B tp p1)]) (st' := [.int ((nI p1) + 1), .ref 74]) rfl ?_
          rw [show (((nI p1) + 1) : Int32) = (nI (p1 + 1)) from nI_add p1 1]
          refine wp_puti rfl rfl ?_
          refine wp_run 1 (pc' := 54) (ls' := [.ref 74, .int (tx_lk B tp p1)]) (st' := [.ref 74]) rfl ?_
          refine wp_callV (o := 74) (as := []) (rest := []) (els := [.ref 74, am_du, am_du]) rfl rfl rfl rfl rfl rfl rfl rfl (by omega) ?_
          refine ih _ _ _ _ _ _ _ _ (by omega) (by omega) (rf_p hX1 (by omega) (by omega)) ?_ ?_
          · skip
            intro X2 p2 c2 hX2 hE2 hL2
            have b2a := hX2.2.2.2.2.2.1
            have b2b := hX2.2.2.2.2.2.2.1
            have b2c := hE2.1
            show am_wp L xs _ _ _ _ 57 [.ref 74, .int (tx_lk B tp p1)] [] (am_S b) X2 _
            refine wp_run 3 (pc' := 60) (ls' := [.ref 74, .int (tx_lk B tp p1)]) (st' := [.int 0, .int (tx_lk B tp p1), .ref 74]) rfl ?_
            refine wp_callV (o := 74) (as := [.int (tx_lk B tp p1), .int 0]) (rest := []) (els := [.ref 74, .int (tx_lk B tp p1), .int 0]) rfl rfl rfl rfl rfl rfl rfl rfl (by omega) ?_
            refine sp_lays_o (-(B p1)) htp hX2 (by omega) (show re_op (tx_lk B tp p1) 0 (-(B p1)) from by rw [cs47]; rw [hop.2]; exact Or.inr (Or.inr (Or.inr ⟨rfl, by decide⟩))) (fun X3 hX3 => ?_)
            have b3a := hX3.2.2.2.2.2.1
            have b3b := hX3.2.2.2.2.2.2.1
            show am_wp L xs _ _ _ _ 63 [.ref 74, .int (tx_lk B tp p1)] [] (am_S b) X3 _
            refine wp_run 1 (pc' := 4) (ls' := [.ref 74, .int (tx_lk B tp p1)]) (st' := []) rfl ?_
            exact ih2 _ p2 _ _ (by omega) hX3 (te_s (by decide) (by decide) hG hop.1 hlv (te_6 hE2)) (by rw [List.length_append]; show c2.length + 1 + p ≤ c.length + p2; omega)
          · skip
            intro X2 p2 hX2 hF2
            have b2a := hX2.2.2.2.2.2.1
            show am_wp L xs _ _ _ _ 57 [.ref 74, .int (tx_lk B tp p1)] [] (am_S b) X2 _
            refine wp_run 3 (pc' := 60) (ls' := [.ref 74, .int (tx_lk B tp p1)]) (st' := [.int 0, .int (tx_lk B tp p1), .ref 74]) rfl ?_
            refine wp_callV (o := 74) (as := [.int (tx_lk B tp p1), .int 0]) (rest := []) (els := [.ref 74, .int (tx_lk B tp p1), .int 0]) rfl rfl rfl rfl rfl rfl rfl rfl (by omega) ?_
            refine sp_lays_b hX2 (fun X3 hX3 => ?_)
            show am_wp L xs _ _ _ _ 63 [.ref 74, .int (tx_lk B tp p1)] [] (am_S b) X3 _
            refine wp_run 1 (pc' := 4) (ls' := [.ref 74, .int (tx_lk B tp p1)]) (st' := []) rfl ?_
            refine wp_run 1 (pc' := 5) (ls' := [.ref 74, .int (tx_lk B tp p1)]) (st' := [.ref 74]) rfl ?_
            refine wp_geti (a := 14) 1 hX3.2.2.2.2.1 rfl rfl rfl ?_
            refine wp_if_t rfl (show ¬ (1 : Int32) = 0 from by decide) ?_
            refine wp_retv rfl ?_
            exact kf _ _ hX3 (te_sF (by decide) (by decide) hG hop.1 hlv (te_6F hF2))
        · skip
          refine wp_run 1 (pc' := 30) (ls' := [.ref 74, u1]) (st' := [.ref 74]) rfl ?_
          refine wp_callV (o := 74) (as := []) (rest := []) (els := [.ref 74]) rfl rfl rfl rfl rfl rfl rfl rfl (by omega) ?_
          refine sp_look_r htp h5 hB hX1 ?_
          show am_wp L xs _ _ _ _ 33 [.ref 74, u1] [.int (tx_lk B tp p1)] (am_S b) X1 _
          refine wp_run 1 (pc' := 35) (ls' := [.ref 74, u1]) (st' := [.int 37, .int (tx_lk B tp p1)]) rfl ?_
          refine wp_icmp rfl (fun (cs37 : ¬ (tx_lk B tp p1) = 37) => ?_) (fun (cs37 : ¬ (¬ (tx_lk B tp p1) = 37)) => ?_)
          · skip
            refine wp_retv rfl ?_
            exact kt _ _ _ hX1 (te_x hG (fun q q2 => (tx_lev_5 q2).elim (fun e => cs42 ((tx_lk_in q).trans e)) (fun e => e.elim (fun e => cs47 ((tx_lk_in q).trans e)) (fun e => cs37 ((tx_lk_in q).trans e))))) hL
          · skip
            replace cs37 := Decidable.not_not.mp cs37
            have hop := tx_lk_eq (by decide) cs37
            have hlv : tx_lev (B p1) = 5 := by rw [hop.2]; decide
            refine wp_run 1 (pc' := 39) (ls' := [.ref 74, u1]) (st' := [.ref 74]) rfl ?_
            refine wp_callV (o := 74) (as := []) (rest := []) (els := [.ref 74]) rfl rfl rfl rfl rfl rfl rfl rfl (by omega) ?_
            refine sp_look_r htp h5 hB hX1 ?_
            show am_wp L xs _ _ _ _ 42 [.ref 74, u1] [.int (tx_lk B tp p1)] (am_S b) X1 _
            refine wp_run 3 (pc' := 45) (ls' := [.ref 74, .int (tx_lk B tp p1)]) (st' := [.ref 74, .ref 74]) rfl ?_
            refine wp_geti (a := 12) (nI p1) hX1.2.2.1 rfl rfl rfl ?_
            refine wp_run 2 (pc' := 50) (ls' := [.ref 74, .int (tx_lk B tp p1)]) (st' := [.int ((nI p1) + 1), .ref 74]) rfl ?_
            rw [show (((nI p1) + 1) : Int32) = (nI (p1 + 1)) from nI_add p1 1]
            refine wp_puti rfl rfl ?_
            refine wp_run 1 (pc' := 54) (ls' := [.ref 74, .int (tx_lk B tp p1)]) (st' := [.ref 74]) rfl ?_
            refine wp_callV (o := 74) (as := []) (rest := []) (els := [.ref 74, am_du, am_du]) rfl rfl rfl rfl rfl rfl rfl rfl (by omega) ?_
            refine ih _ _ _ _ _ _ _ _ (by omega) (by omega) (rf_p hX1 (by omega) (by omega)) ?_ ?_
            · skip
              intro X2 p2 c2 hX2 hE2 hL2
              have b2a := hX2.2.2.2.2.2.1
              have b2b := hX2.2.2.2.2.2.2.1
              have b2c := hE2.1
              show am_wp L xs _ _ _ _ 57 [.ref 74, .int (tx_lk B tp p1)] [] (am_S b) X2 _
              refine wp_run 3 (pc' := 60) (ls' := [.ref 74, .int (tx_lk B tp p1)]) (st' := [.int 0, .int (tx_lk B tp p1), .ref 74]) rfl ?_
              refine wp_callV (o := 74) (as := [.int (tx_lk B tp p1), .int 0]) (rest := []) (els := [.ref 74, .int (tx_lk B tp p1), .int 0]) rfl rfl rfl rfl rfl rfl rfl rfl (by omega) ?_
              refine sp_lays_o (-(B p1)) htp hX2 (by omega) (show re_op (tx_lk B tp p1) 0 (-(B p1)) from by rw [cs37]; rw [hop.2]; exact Or.inr (Or.inr (Or.inr ⟨rfl, by decide⟩))) (fun X3 hX3 => ?_)
              have b3a := hX3.2.2.2.2.2.1
              have b3b := hX3.2.2.2.2.2.2.1
              show am_wp L xs _ _ _ _ 63 [.ref 74, .int (tx_lk B tp p1)] [] (am_S b) X3 _
              refine wp_run 1 (pc' := 4) (ls' := [.ref 74, .int (tx_lk B tp p1)]) (st' := []) rfl ?_
              exact ih2 _ p2 _ _ (by omega) hX3 (te_s (by decide) (by decide) hG hop.1 hlv (te_6 hE2)) (by rw [List.length_append]; show c2.length + 1 + p ≤ c.length + p2; omega)
            · skip
              intro X2 p2 hX2 hF2
              have b2a := hX2.2.2.2.2.2.1
              show am_wp L xs _ _ _ _ 57 [.ref 74, .int (tx_lk B tp p1)] [] (am_S b) X2 _
              refine wp_run 3 (pc' := 60) (ls' := [.ref 74, .int (tx_lk B tp p1)]) (st' := [.int 0, .int (tx_lk B tp p1), .ref 74]) rfl ?_
              refine wp_callV (o := 74) (as := [.int (tx_lk B tp p1), .int 0]) (rest := []) (els := [.ref 74, .int (tx_lk B tp p1), .int 0]) rfl rfl rfl rfl rfl rfl rfl rfl (by omega) ?_
              refine sp_lays_b hX2 (fun X3 hX3 => ?_)
              show am_wp L xs _ _ _ _ 63 [.ref 74, .int (tx_lk B tp p1)] [] (am_S b) X3 _
              refine wp_run 1 (pc' := 4) (ls' := [.ref 74, .int (tx_lk B tp p1)]) (st' := []) rfl ?_
              refine wp_run 1 (pc' := 5) (ls' := [.ref 74, .int (tx_lk B tp p1)]) (st' := [.ref 74]) rfl ?_
              refine wp_geti (a := 14) 1 hX3.2.2.2.2.1 rfl rfl rfl ?_
              refine wp_if_t rfl (show ¬ (1 : Int32) = 0 from by decide) ?_
              refine wp_retv rfl ?_
              exact kf _ _ hX3 (te_sF (by decide) (by decide) hG hop.1 hlv (te_6F hF2))
  refine wp_run 1 (pc' := 1) (ls' := [.ref 74, am_du]) (st' := [.ref 74]) rfl ?_
  refine wp_callV (o := 74) (as := []) (rest := []) (els := [.ref 74, am_du, am_du]) rfl rfl rfl rfl rfl rfl rfl rfl (by omega) ?_
  refine ih _ _ _ _ _ _ _ _ (by omega) (by omega) hX1 ?_ ?_
  · skip
    intro X2 p2 c2 hX2 hE2 hL2
    have b2a := hX2.2.2.2.2.2.1
    have b2b := hX2.2.2.2.2.2.2.1
    have b2c := hE2.1
    show am_wp L xs _ _ _ _ 4 [.ref 74, am_du] [] (am_S b) X2 _
    exact hlp (tp - p2) X2 p2 c2 _ (Nat.le_refl _) hX2 (te_G (te_6 hE2)) hL2
  · skip
    intro X2 p2 hX2 hF2
    have b2a := hX2.2.2.2.2.2.1
    show am_wp L xs _ _ _ _ 4 [.ref 74, am_du] [] (am_S b) X2 _
    refine wp_run 1 (pc' := 5) (ls' := [.ref 74, am_du]) (st' := [.ref 74]) rfl ?_
    refine wp_geti (a := 14) 1 hX2.2.2.2.2.1 rfl rfl rfl ?_
    refine wp_if_t rfl (show ¬ (1 : Int32) = 0 from by decide) ?_
    refine wp_retv rfl ?_
    exact kf _ _ hX2 (te_F (te_6F hF2))
theorem sp_sum {L : Nat} {xs : Nat → Int32} {h : am_HI} {B : Nat → Int32} {tp u : Nat} (htp : tp ≤ 60) (h5 : h 75 5 = nI tp) (hB : ∀ i, i < tp → h 75 (56 + i) = B i) {r : Nat} (ih : rf_lv L xs h B tp u r 5 167 [.ref 74, am_du]) : rf_lv L xs h B tp u r 4 166 [.ref 74, am_du] := by
  intro d ms b p o c X1 Q hd hr hX1 kt kf
  have b1a := hX1.2.2.2.2.2.1
  have b1b := hX1.2.2.2.2.2.2.1
  have hlp : ∀ (m : Nat) (X1 : am_HI) (p1 : Nat) (c1 : List Int32) (u1 : Value), tp - p1 ≤ m → rf_st h X1 tp p1 o c1 → tx_G B tp u 4 p c o p1 c1 → c1.length + p ≤ c.length + p1 → am_wp L xs d 0 ms 166 4 [.ref 74, u1] [] (am_S b) X1 Q := by
    intro m
    induction m with
    | zero =>
      intro X1 p1 c1 u1 hm hX1 hG hL
      have b1a := hX1.2.2.2.2.2.1
      have b1b := hX1.2.2.2.2.2.2.1
      have b1c := hG.1
      have b1d := hG.2.1
      refine wp_run 1 (pc' := 5) (ls' := [.ref 74, u1]) (st' := [.ref 74]) rfl ?_
      refine wp_geti (a := 14) 0 hX1.2.2.2.2.1 rfl rfl rfl ?_
      refine wp_if_f rfl (show ¬ (¬ (0 : Int32) = 0) from by decide) ?_
      refine wp_run 1 (pc' := 12) (ls' := [.ref 74, u1]) (st' := [.ref 74]) rfl ?_
      refine wp_callV (o := 74) (as := []) (rest := []) (els := [.ref 74]) rfl rfl rfl rfl rfl rfl rfl rfl (by omega) ?_
      refine sp_look_r htp h5 hB hX1 ?_
      show am_wp L xs _ _ _ _ 15 [.ref 74, u1] [.int (tx_lk B tp p1)] (am_S b) X1 _
      refine wp_run 1 (pc' := 17) (ls' := [.ref 74, u1]) (st' := [.int 43, .int (tx_lk B tp p1)]) rfl ?_
      refine wp_icmp rfl (fun (cs43 : (tx_lk B tp p1) = 43) => ?_) (fun (cs43 : ¬ ((tx_lk B tp p1) = 43)) => ?_)
      · skip
        have hop := tx_lk_eq (by decide) cs43
        have hlv : tx_lev (B p1) = 4 := by rw [hop.2]; decide
        omega
      · skip
        refine wp_run 1 (pc' := 21) (ls' := [.ref 74, u1]) (st' := [.ref 74]) rfl ?_
        refine wp_callV (o := 74) (as := []) (rest := []) (els := [.ref 74]) rfl rfl rfl rfl rfl rfl rfl rfl (by omega) ?_
        refine sp_look_r htp h5 hB hX1 ?_
        show am_wp L xs _ _ _ _ 24 [.ref 74, u1] [.int (tx_lk B tp p1)] (am_S b) X1 _
        refine wp_run 1 (pc' := 26) (ls' := [.ref 74, u1]) (st' := [.int 45, .int (tx_lk B tp p1)]) rfl ?_
        refine wp_icmp rfl (fun (cs45 : ¬ (tx_lk B tp p1) = 45) => ?_) (fun (cs45 : ¬ (¬ (tx_lk B tp p1) = 45)) => ?_)
        · skip
          refine wp_retv rfl ?_
          exact kt _ _ _ hX1 (te_x hG (fun q q2 => (tx_lev_4 q2).elim (fun e => cs43 ((tx_lk_in q).trans e)) (fun e => cs45 ((tx_lk_in q).trans e)))) hL
        · skip
          replace cs45 := Decidable.not_not.mp cs45
          have hop := tx_lk_eq (by decide) cs45
          have hlv : tx_lev (B p1) = 4 := by rw [hop.2]; decide
          omega
    | succ m ih2 =>
      intro X1 p1 c1 u1 hm hX1 hG hL
      have b1a := hX1.2.2.2.2.2.1
      have b1b := hX1.2.2.2.2.2.2.1
      have b1c := hG.1
      have b1d := hG.2.1
      refine wp_run 1 (pc' := 5) (ls' := [.ref 74, u1]) (st' := [.ref 74]) rfl ?_
      refine wp_geti (a := 14) 0 hX1.2.2.2.2.1 rfl rfl rfl ?_
      refine wp_if_f rfl (show ¬ (¬ (0 : Int32) = 0) from by decide) ?_
      refine wp_run 1 (pc' := 12) (ls' := [.ref 74, u1]) (st' := [.ref 74]) rfl ?_
      refine wp_callV (o := 74) (as := []) (rest := []) (els := [.ref 74]) rfl rfl rfl rfl rfl rfl rfl rfl (by omega) ?_
      refine sp_look_r htp h5 hB hX1 ?_
      show am_wp L xs _ _ _ _ 15 [.ref 74, u1] [.int (tx_lk B tp p1)] (am_S b) X1 _
      refine wp_run 1 (pc' := 17) (ls' := [.ref 74, u1]) (st' := [.int 43, .int (tx_lk B tp p1)]) rfl ?_
      refine wp_icmp rfl (fun (cs43 : (tx_lk B tp p1) = 43) => ?_) (fun (cs43 : ¬ ((tx_lk B tp p1) = 43)) => ?_)
      · skip
        have hop := tx_lk_eq (by decide) cs43
        have hlv : tx_lev (B p1) = 4 := by rw [hop.2]; decide
        refine wp_run 1 (pc' := 30) (ls' := [.ref 74, u1]) (st' := [.ref 74]) rfl ?_
        refine wp_callV (o := 74) (as := []) (rest := []) (els := [.ref 74]) rfl rfl rfl rfl rfl rfl rfl rfl (by omega) ?_
        refine sp_look_r htp h5 hB hX1 ?_
        show am_wp L xs _ _ _ _ 33 [.ref 74, u1] [.int (tx_lk B tp p1)] (am_S b) X1 _
        refine wp_run 3 (pc' := 36) (ls' := [.ref 74, .int (tx_lk B tp p1)]) (st' := [.ref 74, .ref 74]) rfl ?_
        refine wp_geti (a := 12) (nI p1) hX1.2.2.1 rfl rfl rfl ?_
        refine wp_run 2 (pc' := 41) (ls' := [.ref 74, .int (tx_lk B tp p1)]) (st' := [.int ((nI p1) + 1), .ref 74]) rfl ?_
        rw [show (((nI p1) + 1) : Int32) = (nI (p1 + 1)) from nI_add p1 1]
        refine wp_puti rfl rfl ?_
        refine wp_run 1 (pc' := 45) (ls' := [.ref 74, .int (tx_lk B tp p1)]) (st' := [.ref 74]) rfl ?_
        refine wp_callV (o := 74) (as := []) (rest := []) (els := [.ref 74, am_du]) rfl rfl rfl rfl rfl rfl rfl rfl (by omega) ?_
        refine ih _ _ _ _ _ _ _ _ (by omega) (by omega) (rf_p hX1 (by omega) (by omega)) ?_ ?_
        · skip
          intro X2 p2 c2 hX2 hE2 hL2
          have b2a := hX2.2.2.2.2.2.1
          have b2b := hX2.2.2.2.2.2.2.1
          have b2c := hE2.1
          show am_wp L xs _ _ _ _ 48 [.ref 74, .int (tx_lk B tp p1)] [] (am_S b) X2 _
          refine wp_run 3 (pc' := 51) (ls' := [.ref 74, .int (tx_lk B tp p1)]) (st' := [.int 0, .int (tx_lk B tp p1), .ref 74]) rfl ?_
          refine wp_callV (o := 74) (as := [.int (tx_lk B tp p1), .int 0]) (rest := []) (els := [.ref 74, .int (tx_lk B tp p1), .int 0]) rfl rfl rfl rfl rfl rfl rfl rfl (by omega) ?_
          refine sp_lays_o (-(B p1)) htp hX2 (by omega) (show re_op (tx_lk B tp p1) 0 (-(B p1)) from by rw [cs43]; rw [hop.2]; exact Or.inr (Or.inr (Or.inr ⟨rfl, by decide⟩))) (fun X3 hX3 => ?_)
          have b3a := hX3.2.2.2.2.2.1
          have b3b := hX3.2.2.2.2.2.2.1
          show am_wp L xs _ _ _ _ 54 [.ref 74, .int (tx_lk B tp p1)] [] (am_S b) X3 _
          refine wp_run 1 (pc' := 4) (ls' := [.ref 74, .int (tx_lk B tp p1)]) (st' := []) rfl ?_
          exact ih2 _ p2 _ _ (by omega) hX3 (te_s (by decide) (by decide) hG hop.1 hlv hE2) (by rw [List.length_append]; show c2.length + 1 + p ≤ c.length + p2; omega)
        · skip
          intro X2 p2 hX2 hF2
          have b2a := hX2.2.2.2.2.2.1
          show am_wp L xs _ _ _ _ 48 [.ref 74, .int (tx_lk B tp p1)] [] (am_S b) X2 _
          refine wp_run 3 (pc' := 51) (ls' := [.ref 74, .int (tx_lk B tp p1)]) (st' := [.int 0, .int (tx_lk B tp p1), .ref 74]) rfl ?_
          refine wp_callV (o := 74) (as := [.int (tx_lk B tp p1), .int 0]) (rest := []) (els := [.ref 74, .int (tx_lk B tp p1), .int 0]) rfl rfl rfl rfl rfl rfl rfl rfl (by omega) ?_
          refine sp_lays_b hX2 (fun X3 hX3 => ?_)
          show am_wp L xs _ _ _ _ 54 [.ref 74, .int (tx_lk B tp p1)] [] (am_S b) X3 _
          refine wp_run 1 (pc' := 4) (ls' := [.ref 74, .int (tx_lk B tp p1)]) (st' := []) rfl ?_
          refine wp_run 1 (pc' := 5) (ls' := [.ref 74, .int (tx_lk B tp p1)]) (st' := [.ref 74]) rfl ?_
          refine wp_geti (a := 14) 1 hX3.2.2.2.2.1 rfl rfl rfl ?_
          refine wp_if_t rfl (show ¬ (1 : Int32) = 0 from by decide) ?_
          refine wp_retv rfl ?_
          exact kf _ _ hX3 (te_sF (by decide) (by decide) hG hop.1 hlv hF2)
      · skip
        refine wp_run 1 (pc' := 21) (ls' := [.ref 74, u1]) (st' := [.ref 74]) rfl ?_
        refine wp_callV (o := 74) (as := []) (rest := []) (els := [.ref 74]) rfl rfl rfl rfl rfl rfl rfl rfl (by omega) ?_
        refine sp_look_r htp h5 hB hX1 ?_
        show am_wp L xs _ _ _ _ 24 [.ref 74, u1] [.int (tx_lk B tp p1)] (am_S b) X1 _
        refine wp_run 1 (pc' := 26) (ls' := [.ref 74, u1]) (st' := [.int 45, .int (tx_lk B tp p1)]) rfl ?_
        refine wp_icmp rfl (fun (cs45 : ¬ (tx_lk B tp p1) = 45) => ?_) (fun (cs45 : ¬ (¬ (tx_lk B tp p1) = 45)) => ?_)
        · skip
          refine wp_retv rfl ?_
          exact kt _ _ _ hX1 (te_x hG (fun q q2 => (tx_lev_4 q2).elim (fun e => cs43 ((tx_lk_in q).trans e)) (fun e => cs45 ((tx_lk_in q).trans e)))) hL
        · skip
          replace cs45 := Decidable.not_not.mp cs45
          have hop := tx_lk_eq (by decide) cs45
          have hlv : tx_lev (B p1) = 4 := by rw [hop.2]; decide
          refine wp_run 1 (pc' := 30) (ls' := [.ref 74, u1]) (st' := [.ref 74]) rfl ?_
          refine wp_callV (o := 74) (as := []) (rest := []) (els := [.ref 74]) rfl rfl rfl rfl rfl rfl rfl rfl (by omega) ?_
          refine sp_look_r htp h5 hB hX1 ?_
          show am_wp L xs _ _ _ _ 33 [.ref 74, u1] [.int (tx_lk B tp p1)] (am_S b) X1 _
          refine wp_run 3 (pc' := 36) (ls' := [.ref 74, .int (tx_lk B tp p1)]) (st' := [.ref 74, .ref 74]) rfl ?_
          refine wp_geti (a := 12) (nI p1) hX1.2.2.1 rfl rfl rfl ?_
          refine wp_run 2 (pc' := 41) (ls' := [.ref 74, .int (tx_lk B tp p1)]) (st' := [.int ((nI p1) + 1), .ref 74]) rfl ?_
          rw [show (((nI p1) + 1) : Int32) = (nI (p1 + 1)) from nI_add p1 1]
          refine wp_puti rfl rfl ?_
          refine wp_run 1 (pc' := 45) (ls' := [.ref 74, .int (tx_lk B tp p1)]) (st' := [.ref 74]) rfl ?_
          refine wp_callV (o := 74) (as := []) (rest := []) (els := [.ref 74, am_du]) rfl rfl rfl rfl rfl rfl rfl rfl (by omega) ?_
          refine ih _ _ _ _ _ _ _ _ (by omega) (by omega) (rf_p hX1 (by omega) (by omega)) ?_ ?_
          · skip
            intro X2 p2 c2 hX2 hE2 hL2
            have b2a := hX2.2.2.2.2.2.1
            have b2b := hX2.2.2.2.2.2.2.1
            have b2c := hE2.1
            show am_wp L xs _ _ _ _ 48 [.ref 74, .int (tx_lk B tp p1)] [] (am_S b) X2 _
            refine wp_run 3 (pc' := 51) (ls' := [.ref 74, .int (tx_lk B tp p1)]) (st' := [.int 0, .int (tx_lk B tp p1), .ref 74]) rfl ?_
            refine wp_callV (o := 74) (as := [.int (tx_lk B tp p1), .int 0]) (rest := []) (els := [.ref 74, .int (tx_lk B tp p1), .int 0]) rfl rfl rfl rfl rfl rfl rfl rfl (by omega) ?_
            refine sp_lays_o (-(B p1)) htp hX2 (by omega) (show re_op (tx_lk B tp p1) 0 (-(B p1)) from by rw [cs45]; rw [hop.2]; exact Or.inr (Or.inr (Or.inr ⟨rfl, by decide⟩))) (fun X3 hX3 => ?_)
            have b3a := hX3.2.2.2.2.2.1
            have b3b := hX3.2.2.2.2.2.2.1
            show am_wp L xs _ _ _ _ 54 [.ref 74, .int (tx_lk B tp p1)] [] (am_S b) X3 _
            refine wp_run 1 (pc' := 4) (ls' := [.ref 74, .int (tx_lk B tp p1)]) (st' := []) rfl ?_
            exact ih2 _ p2 _ _ (by omega) hX3 (te_s (by decide) (by decide) hG hop.1 hlv hE2) (by rw [List.length_append]; show c2.length + 1 + p ≤ c.length + p2; omega)
          · skip
            intro X2 p2 hX2 hF2
            have b2a := hX2.2.2.2.2.2.1
            show am_wp L xs _ _ _ _ 48 [.ref 74, .int (tx_lk B tp p1)] [] (am_S b) X2 _
            refine wp_run 3 (pc' := 51) (ls' := [.ref 74, .int (tx_lk B tp p1)]) (st' := [.int 0, .int (tx_lk B tp p1), .ref 74]) rfl ?_
            refine wp_callV (o := 74) (as := [.int (tx_lk B tp p1), .int 0]) (rest := []) (els := [.ref 74, .int (tx_lk B tp p1), .int 0]) rfl rfl rfl rfl rfl rfl rfl rfl (by omega) ?_
            refine sp_lays_b hX2 (fun X3 hX3 => ?_)
            show am_wp L xs _ _ _ _ 54 [.ref 74, .int (tx_lk B tp p1)] [] (am_S b) X3 _
            refine wp_run 1 (pc' := 4) (ls' := [.ref 74, .int (tx_lk B tp p1)]) (st' := []) rfl ?_
            refine wp_run 1 (pc' := 5) (ls' := [.ref 74, .int (tx_lk B tp p1)]) (st' := [.ref 74]) rfl ?_
            refine wp_geti (a := 14) 1 hX3.2.2.2.2.1 rfl rfl rfl ?_
            refine wp_if_t rfl (show ¬ (1 : Int32) = 0 from by decide) ?_
            refine wp_retv rfl ?_
            exact kf _ _ hX3 (te_sF (by decide) (by decide) hG hop.1 hlv hF2)
  refine wp_run 1 (pc' := 1) (ls' := [.ref 74, am_du]) (st' := [.ref 74]) rfl ?_
  refine wp_callV (o := 74) (as := []) (rest := []) (els := [.ref 74, am_du]) rfl rfl rfl rfl rfl rfl rfl rfl (by omega) ?_
  refine ih _ _ _ _ _ _ _ _ (by omega) (by omega) hX1 ?_ ?_
  · skip
    intro X2 p2 c2 hX2 hE2 hL2
    have b2a := hX2.2.2.2.2.2.1
    have b2b := hX2.2.2.2.2.2.2.1
    have b2c := hE2.1
    show am_wp L xs _ _ _ _ 4 [.ref 74, am_du] [] (am_S b) X2 _
    exact hlp (tp - p2) X2 p2 c2 _ (Nat.le_refl _) hX2 (te_G hE2) hL2
  · skip
    intro X2 p2 hX2 hF2
    have b2a := hX2.2.2.2.2.2.1
    show am_wp L xs _ _ _ _ 4 [.ref 74, am_du] [] (am_S b) X2 _
    refine wp_run 1 (pc' := 5) (ls' := [.ref 74, am_du]) (st' := [.ref 74]) rfl ?_
    refine wp_geti (a := 14) 1 hX2.2.2.2.2.1 rfl rfl rfl ?_
    refine wp_if_t rfl (show ¬ (1 : Int32) = 0 from by decide) ?_
    refine wp_retv rfl ?_
    exact kf _ _ hX2 (te_F hF2)
theorem sp_compares {L : Nat} {xs : Nat → Int32} {h : am_HI} {B : Nat → Int32} {tp u : Nat} (htp : tp ≤ 60) (h5 : h 75 5 = nI tp) (hB : ∀ i, i < tp → h 75 (56 + i) = B i) {r : Nat} (ih : rf_lv L xs h B tp u r 4 166 [.ref 74, am_du]) : rf_lv L xs h B tp u r 3 165 [.ref 74, am_du] := by
  intro d ms b p o c X1 Q hd hr hX1 kt kf
  have b1a := hX1.2.2.2.2.2.1
  have b1b := hX1.2.2.2.2.2.2.1
  refine wp_run 1 (pc' := 1) (ls' := [.ref 74, am_du]) (st' := [.ref 74]) rfl ?_
  refine wp_callV (o := 74) (as := []) (rest := []) (els := [.ref 74, am_du]) rfl rfl rfl rfl rfl rfl rfl rfl (by omega) ?_
  refine ih _ _ _ _ _ _ _ _ (by omega) (by omega) hX1 ?_ ?_
  · skip
    intro X2 p2 c2 hX2 hE2 hL2
    have b2a := hX2.2.2.2.2.2.1
    have b2b := hX2.2.2.2.2.2.2.1
    have b2c := hE2.1
    show am_wp L xs _ _ _ _ 4 [.ref 74, am_du] [] (am_S b) X2 _
    refine wp_run 1 (pc' := 5) (ls' := [.ref 74, am_du]) (st' := [.ref 74]) rfl ?_
    refine wp_callV (o := 74) (as := []) (rest := []) (els := [.ref 74]) rfl rfl rfl rfl rfl rfl rfl rfl (by omega) ?_
    refine sp_look_r htp h5 hB hX2 ?_
    show am_wp L xs _ _ _ _ 8 [.ref 74, am_du] [.int (tx_lk B tp p2)] (am_S b) X2 _
    refine wp_run 2 (pc' := 10) (ls' := [.ref 74, .int (tx_lk B tp p2)]) (st' := [.ref 74]) rfl ?_
    refine wp_geti (a := 14) 0 hX2.2.2.2.2.1 rfl rfl rfl ?_
    refine wp_if_f rfl (show ¬ (¬ (0 : Int32) = 0) from by decide) ?_
    refine wp_run 2 (pc' := 19) (ls' := [.ref 74, .int (tx_lk B tp p2)]) (st' := [.int 60, .int (tx_lk B tp p2)]) rfl ?_
    refine wp_icmp rfl (fun (cs60 : (tx_lk B tp p2) = 60) => ?_) (fun (cs60 : ¬ ((tx_lk B tp p2) = 60)) => ?_)
    · skip
      have hop := tx_lk_eq (by decide) cs60
      have hlv : tx_lev (B p2) = 3 := by rw [hop.2]; decide
      refine wp_run 2 (pc' := 36) (ls' := [.ref 74, .int (tx_lk B tp p2)]) (st' := [.ref 74, .ref 74]) rfl ?_
      refine wp_geti (a := 12) (nI p2) hX2.2.2.1 rfl rfl rfl ?_
      refine wp_run 2 (pc' := 41) (ls' := [.ref 74, .int (tx_lk B tp p2)]) (st' := [.int ((nI p2) + 1), .ref 74]) rfl ?_
      rw [show (((nI p2) + 1) : Int32) = (nI (p2 + 1)) from nI_add p2 1]
      refine wp_puti rfl rfl ?_
      refine wp_run 1 (pc' := 45) (ls' := [.ref 74, .int (tx_lk B tp p2)]) (st' := [.ref 74]) rfl ?_
      refine wp_callV (o := 74) (as := []) (rest := []) (els := [.ref 74, am_du]) rfl rfl rfl rfl rfl rfl rfl rfl (by omega) ?_
      refine ih _ _ _ _ _ _ _ _ (by omega) (by omega) (rf_p hX2 (by omega) (by omega)) ?_ ?_
      · skip
        intro X3 p3 c3 hX3 hE3 hL3
        have b3a := hX3.2.2.2.2.2.1
        have b3b := hX3.2.2.2.2.2.2.1
        have b3c := hE3.1
        show am_wp L xs _ _ _ _ 48 [.ref 74, .int (tx_lk B tp p2)] [] (am_S b) X3 _
        refine wp_run 3 (pc' := 51) (ls' := [.ref 74, .int (tx_lk B tp p2)]) (st' := [.int 0, .int (tx_lk B tp p2), .ref 74]) rfl ?_
        refine wp_callV (o := 74) (as := [.int (tx_lk B tp p2), .int 0]) (rest := []) (els := [.ref 74, .int (tx_lk B tp p2), .int 0]) rfl rfl rfl rfl rfl rfl rfl rfl (by omega) ?_
        refine sp_lays_o (-(B p2)) htp hX3 (by omega) (show re_op (tx_lk B tp p2) 0 (-(B p2)) from by rw [cs60]; rw [hop.2]; exact Or.inr (Or.inr (Or.inr ⟨rfl, by decide⟩))) (fun X4 hX4 => ?_)
        have b4a := hX4.2.2.2.2.2.1
        have b4b := hX4.2.2.2.2.2.2.1
        show am_wp L xs _ _ _ _ 54 [.ref 74, .int (tx_lk B tp p2)] [] (am_S b) X4 _
        refine wp_retv rfl ?_
        refine kt _ _ _ hX4 (te_3 hE2 hop.1 hlv hE3) ?_
        rw [List.length_append]
        show c3.length + 1 + p ≤ c.length + p3
        omega
      · skip
        intro X3 p3 hX3 hF3
        have b3a := hX3.2.2.2.2.2.1
        show am_wp L xs _ _ _ _ 48 [.ref 74, .int (tx_lk B tp p2)] [] (am_S b) X3 _
        refine wp_run 3 (pc' := 51) (ls' := [.ref 74, .int (tx_lk B tp p2)]) (st' := [.int 0, .int (tx_lk B tp p2), .ref 74]) rfl ?_
        refine wp_callV (o := 74) (as := [.int (tx_lk B tp p2), .int 0]) (rest := []) (els := [.ref 74, .int (tx_lk B tp p2), .int 0]) rfl rfl rfl rfl rfl rfl rfl rfl (by omega) ?_
        refine sp_lays_b hX3 (fun X4 hX4 => ?_)
        show am_wp L xs _ _ _ _ 54 [.ref 74, .int (tx_lk B tp p2)] [] (am_S b) X4 _
        refine wp_retv rfl ?_
        exact kf _ _ hX4 (te_3F hE2 hop.1 hlv hF3)
    · skip
      refine wp_run 2 (pc' := 25) (ls' := [.ref 74, .int (tx_lk B tp p2)]) (st' := [.int 61, .int (tx_lk B tp p2)]) rfl ?_
      refine wp_icmp rfl (fun (cs61 : (tx_lk B tp p2) = 61) => ?_) (fun (cs61 : ¬ ((tx_lk B tp p2) = 61)) => ?_)
      · skip
        have hop := tx_lk_eq (by decide) cs61
        have hlv : tx_lev (B p2) = 3 := by rw [hop.2]; decide
        refine wp_run 2 (pc' := 36) (ls' := [.ref 74, .int (tx_lk B tp p2)]) (st' := [.ref 74, .ref 74]) rfl ?_
        refine wp_geti (a := 12) (nI p2) hX2.2.2.1 rfl rfl rfl ?_
        refine wp_run 2 (pc' := 41) (ls' := [.ref 74, .int (tx_lk B tp p2)]) (st' := [.int ((nI p2) + 1), .ref 74]) rfl ?_
        rw [show (((nI p2) + 1) : Int32) = (nI (p2 + 1)) from nI_add p2 1]
        refine wp_puti rfl rfl ?_
        refine wp_run 1 (pc' := 45) (ls' := [.ref 74, .int (tx_lk B tp p2)]) (st' := [.ref 74]) rfl ?_
        refine wp_callV (o := 74) (as := []) (rest := []) (els := [.ref 74, am_du]) rfl rfl rfl rfl rfl rfl rfl rfl (by omega) ?_
        refine ih _ _ _ _ _ _ _ _ (by omega) (by omega) (rf_p hX2 (by omega) (by omega)) ?_ ?_
        · skip
          intro X3 p3 c3 hX3 hE3 hL3
          have b3a := hX3.2.2.2.2.2.1
          have b3b := hX3.2.2.2.2.2.2.1
          have b3c := hE3.1
          show am_wp L xs _ _ _ _ 48 [.ref 74, .int (tx_lk B tp p2)] [] (am_S b) X3 _
          refine wp_run 3 (pc' := 51) (ls' := [.ref 74, .int (tx_lk B tp p2)]) (st' := [.int 0, .int (tx_lk B tp p2), .ref 74]) rfl ?_
          refine wp_callV (o := 74) (as := [.int (tx_lk B tp p2), .int 0]) (rest := []) (els := [.ref 74, .int (tx_lk B tp p2), .int 0]) rfl rfl rfl rfl rfl rfl rfl rfl (by omega) ?_
          refine sp_lays_o (-(B p2)) htp hX3 (by omega) (show re_op (tx_lk B tp p2) 0 (-(B p2)) from by rw [cs61]; rw [hop.2]; exact Or.inr (Or.inr (Or.inr ⟨rfl, by decide⟩))) (fun X4 hX4 => ?_)
          have b4a := hX4.2.2.2.2.2.1
          have b4b := hX4.2.2.2.2.2.2.1
          show am_wp L xs _ _ _ _ 54 [.ref 74, .int (tx_lk B tp p2)] [] (am_S b) X4 _
          refine wp_retv rfl ?_
          refine kt _ _ _ hX4 (te_3 hE2 hop.1 hlv hE3) ?_
          rw [List.length_append]
          show c3.length + 1 + p ≤ c.length + p3
          omega
        · skip
          intro X3 p3 hX3 hF3
          have b3a := hX3.2.2.2.2.2.1
          show am_wp L xs _ _ _ _ 48 [.ref 74, .int (tx_lk B tp p2)] [] (am_S b) X3 _
          refine wp_run 3 (pc' := 51) (ls' := [.ref 74, .int (tx_lk B tp p2)]) (st' := [.int 0, .int (tx_lk B tp p2), .ref 74]) rfl ?_
          refine wp_callV (o := 74) (as := [.int (tx_lk B tp p2), .int 0]) (rest := []) (els := [.ref 74, .int (tx_lk B tp p2), .int 0]) rfl rfl rfl rfl rfl rfl rfl rfl (by omega) ?_
          refine sp_lays_b hX3 (fun X4 hX4 => ?_)
          show am_wp L xs _ _ _ _ 54 [.ref 74, .int (tx_lk B tp p2)] [] (am_S b) X4 _
          refine wp_retv rfl ?_
          exact kf _ _ hX4 (te_3F hE2 hop.1 hlv hF3)
      · skip
        refine wp_run 2 (pc' := 31) (ls' := [.ref 74, .int (tx_lk B tp p2)]) (st' := [.int 62, .int (tx_lk B tp p2)]) rfl ?_
        refine wp_icmp rfl (fun (cs62 : ¬ (tx_lk B tp p2) = 62) => ?_) (fun (cs62 : ¬ (¬ (tx_lk B tp p2) = 62)) => ?_)
        · skip
          refine wp_retv rfl ?_
          exact kt _ _ _ hX2 (te_x (te_G hE2) (fun q q2 => (tx_lev_3 q2).elim (fun e => cs60 ((tx_lk_in q).trans e)) (fun e => e.elim (fun e => cs61 ((tx_lk_in q).trans e)) (fun e => cs62 ((tx_lk_in q).trans e))))) hL2
        · skip
          replace cs62 := Decidable.not_not.mp cs62
          have hop := tx_lk_eq (by decide) cs62
          have hlv : tx_lev (B p2) = 3 := by rw [hop.2]; decide
          refine wp_run 2 (pc' := 36) (ls' := [.ref 74, .int (tx_lk B tp p2)]) (st' := [.ref 74, .ref 74]) rfl ?_
          refine wp_geti (a := 12) (nI p2) hX2.2.2.1 rfl rfl rfl ?_
          refine wp_run 2 (pc' := 41) (ls' := [.ref 74, .int (tx_lk B tp p2)]) (st' := [.int ((nI p2) + 1), .ref 74]) rfl ?_
          rw [show (((nI p2) + 1) : Int32) = (nI (p2 + 1)) from nI_add p2 1]
          refine wp_puti rfl rfl ?_
          refine wp_run 1 (pc' := 45) (ls' := [.ref 74, .int (tx_lk B tp p2)]) (st' := [.ref 74]) rfl ?_
          refine wp_callV (o := 74) (as := []) (rest := []) (els := [.ref 74, am_du]) rfl rfl rfl rfl rfl rfl rfl rfl (by omega) ?_
          refine ih _ _ _ _ _ _ _ _ (by omega) (by omega) (rf_p hX2 (by omega) (by omega)) ?_ ?_
          · skip
            intro X3 p3 c3 hX3 hE3 hL3
            have b3a := hX3.2.2.2.2.2.1
            have b3b := hX3.2.2.2.2.2.2.1
            have b3c := hE3.1
            show am_wp L xs _ _ _ _ 48 [.ref 74, .int (tx_lk B tp p2)] [] (am_S b) X3 _
            refine wp_run 3 (pc' := 51) (ls' := [.ref 74, .int (tx_lk B tp p2)]) (st' := [.int 0, .int (tx_lk B tp p2), .ref 74]) rfl ?_
            refine wp_callV (o := 74) (as := [.int (tx_lk B tp p2), .int 0]) (rest := []) (els := [.ref 74, .int (tx_lk B tp p2), .int 0]) rfl rfl rfl rfl rfl rfl rfl rfl (by omega) ?_
            refine sp_lays_o (-(B p2)) htp hX3 (by omega) (show re_op (tx_lk B tp p2) 0 (-(B p2)) from by rw [cs62]; rw [hop.2]; exact Or.inr (Or.inr (Or.inr ⟨rfl, by decide⟩))) (fun X4 hX4 => ?_)
            have b4a := hX4.2.2.2.2.2.1
            have b4b := hX4.2.2.2.2.2.2.1
            show am_wp L xs _ _ _ _ 54 [.ref 74, .int (tx_lk B tp p2)] [] (am_S b) X4 _
            refine wp_retv rfl ?_
            refine kt _ _ _ hX4 (te_3 hE2 hop.1 hlv hE3) ?_
            rw [List.length_append]
            show c3.length + 1 + p ≤ c.length + p3
            omega
          · skip
            intro X3 p3 hX3 hF3
            have b3a := hX3.2.2.2.2.2.1
            show am_wp L xs _ _ _ _ 48 [.ref 74, .int (tx_lk B tp p2)] [] (am_S b) X3 _
            refine wp_run 3 (pc' := 51) (ls' := [.ref 74, .int (tx_lk B tp p2)]) (st' := [.int 0, .int (tx_lk B tp p2), .ref 74]) rfl ?_
            refine wp_callV (o := 74) (as := [.int (tx_lk B tp p2), .int 0]) (rest := []) (els := [.ref 74, .int (tx_lk B tp p2), .int 0]) rfl rfl rfl rfl rfl rfl rfl rfl (by omega) ?_
            refine sp_lays_b hX3 (fun X4 hX4 => ?_)
            show am_wp L xs _ _ _ _ 54 [.ref 74, .int (tx_lk B tp p2)] [] (am_S b) X4 _
            refine wp_retv rfl ?_
            exact kf _ _ hX4 (te_3F hE2 hop.1 hlv hF3)
  · skip
    intro X2 p2 hX2 hF2
    have b2a := hX2.2.2.2.2.2.1
    show am_wp L xs _ _ _ _ 4 [.ref 74, am_du] [] (am_S b) X2 _
    refine wp_run 1 (pc' := 5) (ls' := [.ref 74, am_du]) (st' := [.ref 74]) rfl ?_
    refine wp_callV (o := 74) (as := []) (rest := []) (els := [.ref 74]) rfl rfl rfl rfl rfl rfl rfl rfl (by omega) ?_
    refine sp_look_b htp h5 hB hX2 ?_
    show am_wp L xs _ _ _ _ 8 [.ref 74, am_du] [.int (tx_lk B tp p2)] (am_S b) X2 _
    refine wp_run 2 (pc' := 10) (ls' := [.ref 74, .int (tx_lk B tp p2)]) (st' := [.ref 74]) rfl ?_
    refine wp_geti (a := 14) 1 hX2.2.2.2.2.1 rfl rfl rfl ?_
    refine wp_if_t rfl (show ¬ (1 : Int32) = 0 from by decide) ?_
    refine wp_retv rfl ?_
    exact kf _ _ hX2 (te_F hF2)
theorem sp_all {L : Nat} {xs : Nat → Int32} {h : am_HI} {B : Nat → Int32} {tp u : Nat} (htp : tp ≤ 60) (h5 : h 75 5 = nI tp) (hB : ∀ i, i < tp → h 75 (56 + i) = B i) {r : Nat} (ih : rf_lv L xs h B tp u r 3 165 [.ref 74, am_du]) : rf_lv L xs h B tp u r 2 164 [.ref 74] := by
  intro d ms b p o c X1 Q hd hr hX1 kt kf
  have b1a := hX1.2.2.2.2.2.1
  have b1b := hX1.2.2.2.2.2.2.1
  have hlp : ∀ (m : Nat) (X1 : am_HI) (p1 : Nat) (c1 : List Int32), tp - p1 ≤ m → rf_st h X1 tp p1 o c1 → tx_G B tp u 2 p c o p1 c1 → c1.length + p ≤ c.length + p1 → am_wp L xs d 0 ms 164 4 [.ref 74] [] (am_S b) X1 Q := by
    intro m
    induction m with
    | zero =>
      intro X1 p1 c1 hm hX1 hG hL
      have b1a := hX1.2.2.2.2.2.1
      have b1b := hX1.2.2.2.2.2.2.1
      have b1c := hG.1
      have b1d := hG.2.1
      refine wp_run 1 (pc' := 5) (ls' := [.ref 74]) (st' := [.ref 74]) rfl ?_
      refine wp_geti (a := 14) 0 hX1.2.2.2.2.1 rfl rfl rfl ?_
      refine wp_if_f rfl (show ¬ (¬ (0 : Int32) = 0) from by decide) ?_
      refine wp_run 1 (pc' := 12) (ls' := [.ref 74]) (st' := [.ref 74]) rfl ?_
      refine wp_callV (o := 74) (as := []) (rest := []) (els := [.ref 74]) rfl rfl rfl rfl rfl rfl rfl rfl (by omega) ?_
      refine sp_look_r htp h5 hB hX1 ?_
      show am_wp L xs _ _ _ _ 15 [.ref 74] [.int (tx_lk B tp p1)] (am_S b) X1 _
      refine wp_run 1 (pc' := 17) (ls' := [.ref 74]) (st' := [.int 38, .int (tx_lk B tp p1)]) rfl ?_
      refine wp_icmp rfl (fun (cs38 : ¬ (tx_lk B tp p1) = 38) => ?_) (fun (cs38 : ¬ (¬ (tx_lk B tp p1) = 38)) => ?_)
      · skip
        refine wp_retv rfl ?_
        exact kt _ _ _ hX1 (te_x hG (fun q q2 => cs38 ((tx_lk_in q).trans (tx_lev_2 q2)))) hL
      · skip
        replace cs38 := Decidable.not_not.mp cs38
        have hop := tx_lk_eq (by decide) cs38
        have hlv : tx_lev (B p1) = 2 := by rw [hop.2]; decide
        omega
    | succ m ih2 =>
      intro X1 p1 c1 hm hX1 hG hL
      have b1a := hX1.2.2.2.2.2.1
      have b1b := hX1.2.2.2.2.2.2.1
      have b1c := hG.1
      have b1d := hG.2.1
      refine wp_run 1 (pc' := 5) (ls' := [.ref 74]) (st' := [.ref 74]) rfl ?_
      refine wp_geti (a := 14) 0 hX1.2.2.2.2.1 rfl rfl rfl ?_
      refine wp_if_f rfl (show ¬ (¬ (0 : Int32) = 0) from by decide) ?_
      refine wp_run 1 (pc' := 12) (ls' := [.ref 74]) (st' := [.ref 74]) rfl ?_
      refine wp_callV (o := 74) (as := []) (rest := []) (els := [.ref 74]) rfl rfl rfl rfl rfl rfl rfl rfl (by omega) ?_
      refine sp_look_r htp h5 hB hX1 ?_
      show am_wp L xs _ _ _ _ 15 [.ref 74] [.int (tx_lk B tp p1)] (am_S b) X1 _
      refine wp_run 1 (pc' := 17) (ls' := [.ref 74]) (st' := [.int 38, .int (tx_lk B tp p1)]) rfl ?_
      refine wp_icmp rfl (fun (cs38 : ¬ (tx_lk B tp p1) = 38) => ?_) (fun (cs38 : ¬ (¬ (tx_lk B tp p1) = 38)) => ?_)
      · skip
        refine wp_retv rfl ?_
        exact kt _ _ _ hX1 (te_x hG (fun q q2 => cs38 ((tx_lk_in q).trans (tx_lev_2 q2)))) hL
      · skip
        replace cs38 := Decidable.not_not.mp cs38
        have hop := tx_lk_eq (by decide) cs38
        have hlv : tx_lev (B p1) = 2 := by rw [hop.2]; decide
        refine wp_run 2 (pc' := 22) (ls' := [.ref 74]) (st' := [.ref 74, .ref 74]) rfl ?_
        refine wp_geti (a := 12) (nI p1) hX1.2.2.1 rfl rfl rfl ?_
        refine wp_run 2 (pc' := 27) (ls' := [.ref 74]) (st' := [.int ((nI p1) + 1), .ref 74]) rfl ?_
        rw [show (((nI p1) + 1) : Int32) = (nI (p1 + 1)) from nI_add p1 1]
        refine wp_puti rfl rfl ?_
        refine wp_run 1 (pc' := 31) (ls' := [.ref 74]) (st' := [.ref 74]) rfl ?_
        refine wp_callV (o := 74) (as := []) (rest := []) (els := [.ref 74, am_du]) rfl rfl rfl rfl rfl rfl rfl rfl (by omega) ?_
        refine ih _ _ _ _ _ _ _ _ (by omega) (by omega) (rf_p hX1 (by omega) (by omega)) ?_ ?_
        · skip
          intro X2 p2 c2 hX2 hE2 hL2
          have b2a := hX2.2.2.2.2.2.1
          have b2b := hX2.2.2.2.2.2.2.1
          have b2c := hE2.1
          show am_wp L xs _ _ _ _ 34 [.ref 74] [] (am_S b) X2 _
          refine wp_run 3 (pc' := 38) (ls' := [.ref 74]) (st' := [.int 0, .int 38, .ref 74]) rfl ?_
          refine wp_callV (o := 74) (as := [.int 38, .int 0]) (rest := []) (els := [.ref 74, .int 38, .int 0]) rfl rfl rfl rfl rfl rfl rfl rfl (by omega) ?_
          refine sp_lays_o (-(B p1)) htp hX2 (by omega) (show re_op 38 0 (-(B p1)) from by rw [hop.2]; exact Or.inr (Or.inr (Or.inr ⟨rfl, by decide⟩))) (fun X3 hX3 => ?_)
          have b3a := hX3.2.2.2.2.2.1
          have b3b := hX3.2.2.2.2.2.2.1
          show am_wp L xs _ _ _ _ 41 [.ref 74] [] (am_S b) X3 _
          refine wp_run 1 (pc' := 4) (ls' := [.ref 74]) (st' := []) rfl ?_
          exact ih2 _ p2 _ (by omega) hX3 (te_s (by decide) (by decide) hG hop.1 hlv hE2) (by rw [List.length_append]; show c2.length + 1 + p ≤ c.length + p2; omega)
        · skip
          intro X2 p2 hX2 hF2
          have b2a := hX2.2.2.2.2.2.1
          show am_wp L xs _ _ _ _ 34 [.ref 74] [] (am_S b) X2 _
          refine wp_run 3 (pc' := 38) (ls' := [.ref 74]) (st' := [.int 0, .int 38, .ref 74]) rfl ?_
          refine wp_callV (o := 74) (as := [.int 38, .int 0]) (rest := []) (els := [.ref 74, .int 38, .int 0]) rfl rfl rfl rfl rfl rfl rfl rfl (by omega) ?_
          refine sp_lays_b hX2 (fun X3 hX3 => ?_)
          show am_wp L xs _ _ _ _ 41 [.ref 74] [] (am_S b) X3 _
          refine wp_run 1 (pc' := 4) (ls' := [.ref 74]) (st' := []) rfl ?_
          refine wp_run 1 (pc' := 5) (ls' := [.ref 74]) (st' := [.ref 74]) rfl ?_
          refine wp_geti (a := 14) 1 hX3.2.2.2.2.1 rfl rfl rfl ?_
          refine wp_if_t rfl (show ¬ (1 : Int32) = 0 from by decide) ?_
          refine wp_retv rfl ?_
          exact kf _ _ hX3 (te_sF (by decide) (by decide) hG hop.1 hlv hF2)
  refine wp_run 1 (pc' := 1) (ls' := [.ref 74]) (st' := [.ref 74]) rfl ?_
  refine wp_callV (o := 74) (as := []) (rest := []) (els := [.ref 74, am_du]) rfl rfl rfl rfl rfl rfl rfl rfl (by omega) ?_
  refine ih _ _ _ _ _ _ _ _ (by omega) (by omega) hX1 ?_ ?_
  · skip
    intro X2 p2 c2 hX2 hE2 hL2
    have b2a := hX2.2.2.2.2.2.1
    have b2b := hX2.2.2.2.2.2.2.1
    have b2c := hE2.1
    show am_wp L xs _ _ _ _ 4 [.ref 74] [] (am_S b) X2 _
    exact hlp (tp - p2) X2 p2 c2 (Nat.le_refl _) hX2 (te_G hE2) hL2
  · skip
    intro X2 p2 hX2 hF2
    have b2a := hX2.2.2.2.2.2.1
    show am_wp L xs _ _ _ _ 4 [.ref 74] [] (am_S b) X2 _
    refine wp_run 1 (pc' := 5) (ls' := [.ref 74]) (st' := [.ref 74]) rfl ?_
    refine wp_geti (a := 14) 1 hX2.2.2.2.2.1 rfl rfl rfl ?_
    refine wp_if_t rfl (show ¬ (1 : Int32) = 0 from by decide) ?_
    refine wp_retv rfl ?_
    exact kf _ _ hX2 (te_F hF2)
theorem sp_any1 {L : Nat} {xs : Nat → Int32} {h : am_HI} {B : Nat → Int32} {tp u : Nat} (htp : tp ≤ 60) (h5 : h 75 5 = nI tp) (hB : ∀ i, i < tp → h 75 (56 + i) = B i) {r : Nat} (ih : rf_lv L xs h B tp u r 2 164 [.ref 74]) : rf_lv L xs h B tp u r 1 163 [.ref 74] := by
  intro d ms b p o c X1 Q hd hr hX1 kt kf
  have b1a := hX1.2.2.2.2.2.1
  have b1b := hX1.2.2.2.2.2.2.1
  have hlp : ∀ (m : Nat) (X1 : am_HI) (p1 : Nat) (c1 : List Int32), tp - p1 ≤ m → rf_st h X1 tp p1 o c1 → tx_G B tp u 1 p c o p1 c1 → c1.length + p ≤ c.length + p1 → am_wp L xs d 0 ms 163 4 [.ref 74] [] (am_S b) X1 Q := by
    intro m
    induction m with
    | zero =>
      intro X1 p1 c1 hm hX1 hG hL
      have b1a := hX1.2.2.2.2.2.1
      have b1b := hX1.2.2.2.2.2.2.1
      have b1c := hG.1
      have b1d := hG.2.1
      refine wp_run 1 (pc' := 5) (ls' := [.ref 74]) (st' := [.ref 74]) rfl ?_
      refine wp_geti (a := 14) 0 hX1.2.2.2.2.1 rfl rfl rfl ?_
      refine wp_if_f rfl (show ¬ (¬ (0 : Int32) = 0) from by decide) ?_
      refine wp_run 1 (pc' := 12) (ls' := [.ref 74]) (st' := [.ref 74]) rfl ?_
      refine wp_callV (o := 74) (as := []) (rest := []) (els := [.ref 74]) rfl rfl rfl rfl rfl rfl rfl rfl (by omega) ?_
      refine sp_look_r htp h5 hB hX1 ?_
      show am_wp L xs _ _ _ _ 15 [.ref 74] [.int (tx_lk B tp p1)] (am_S b) X1 _
      refine wp_run 1 (pc' := 17) (ls' := [.ref 74]) (st' := [.int 124, .int (tx_lk B tp p1)]) rfl ?_
      refine wp_icmp rfl (fun (cs124 : ¬ (tx_lk B tp p1) = 124) => ?_) (fun (cs124 : ¬ (¬ (tx_lk B tp p1) = 124)) => ?_)
      · skip
        refine wp_retv rfl ?_
        exact kt _ _ _ hX1 (te_x hG (fun q q2 => cs124 ((tx_lk_in q).trans (tx_lev_1 q2)))) hL
      · skip
        replace cs124 := Decidable.not_not.mp cs124
        have hop := tx_lk_eq (by decide) cs124
        have hlv : tx_lev (B p1) = 1 := by rw [hop.2]; decide
        omega
    | succ m ih2 =>
      intro X1 p1 c1 hm hX1 hG hL
      have b1a := hX1.2.2.2.2.2.1
      have b1b := hX1.2.2.2.2.2.2.1
      have b1c := hG.1
      have b1d := hG.2.1
      refine wp_run 1 (pc' := 5) (ls' := [.ref 74]) (st' := [.ref 74]) rfl ?_
      refine wp_geti (a := 14) 0 hX1.2.2.2.2.1 rfl rfl rfl ?_
      refine wp_if_f rfl (show ¬ (¬ (0 : Int32) = 0) from by decide) ?_
      refine wp_run 1 (pc' := 12) (ls' := [.ref 74]) (st' := [.ref 74]) rfl ?_
      refine wp_callV (o := 74) (as := []) (rest := []) (els := [.ref 74]) rfl rfl rfl rfl rfl rfl rfl rfl (by omega) ?_
      refine sp_look_r htp h5 hB hX1 ?_
      show am_wp L xs _ _ _ _ 15 [.ref 74] [.int (tx_lk B tp p1)] (am_S b) X1 _
      refine wp_run 1 (pc' := 17) (ls' := [.ref 74]) (st' := [.int 124, .int (tx_lk B tp p1)]) rfl ?_
      refine wp_icmp rfl (fun (cs124 : ¬ (tx_lk B tp p1) = 124) => ?_) (fun (cs124 : ¬ (¬ (tx_lk B tp p1) = 124)) => ?_)
      · skip
        refine wp_retv rfl ?_
        exact kt _ _ _ hX1 (te_x hG (fun q q2 => cs124 ((tx_lk_in q).trans (tx_lev_1 q2)))) hL
      · skip
        replace cs124 := Decidable.not_not.mp cs124
        have hop := tx_lk_eq (by decide) cs124
        have hlv : tx_lev (B p1) = 1 := by rw [hop.2]; decide
        refine wp_run 2 (pc' := 22) (ls' := [.ref 74]) (st' := [.ref 74, .ref 74]) rfl ?_
        refine wp_geti (a := 12) (nI p1) hX1.2.2.1 rfl rfl rfl ?_
        refine wp_run 2 (pc' := 27) (ls' := [.ref 74]) (st' := [.int ((nI p1) + 1), .ref 74]) rfl ?_
        rw [show (((nI p1) + 1) : Int32) = (nI (p1 + 1)) from nI_add p1 1]
        refine wp_puti rfl rfl ?_
        refine wp_run 1 (pc' := 31) (ls' := [.ref 74]) (st' := [.ref 74]) rfl ?_
        refine wp_callV (o := 74) (as := []) (rest := []) (els := [.ref 74]) rfl rfl rfl rfl rfl rfl rfl rfl (by omega) ?_
        refine ih _ _ _ _ _ _ _ _ (by omega) (by omega) (rf_p hX1 (by omega) (by omega)) ?_ ?_
        · skip
          intro X2 p2 c2 hX2 hE2 hL2
          have b2a := hX2.2.2.2.2.2.1
          have b2b := hX2.2.2.2.2.2.2.1
          have b2c := hE2.1
          show am_wp L xs _ _ _ _ 34 [.ref 74] [] (am_S b) X2 _
          refine wp_run 3 (pc' := 38) (ls' := [.ref 74]) (st' := [.int 0, .int 124, .ref 74]) rfl ?_
          refine wp_callV (o := 74) (as := [.int 124, .int 0]) (rest := []) (els := [.ref 74, .int 124, .int 0]) rfl rfl rfl rfl rfl rfl rfl rfl (by omega) ?_
          refine sp_lays_o (-(B p1)) htp hX2 (by omega) (show re_op 124 0 (-(B p1)) from by rw [hop.2]; exact Or.inr (Or.inr (Or.inr ⟨rfl, by decide⟩))) (fun X3 hX3 => ?_)
          have b3a := hX3.2.2.2.2.2.1
          have b3b := hX3.2.2.2.2.2.2.1
          show am_wp L xs _ _ _ _ 41 [.ref 74] [] (am_S b) X3 _
          refine wp_run 1 (pc' := 4) (ls' := [.ref 74]) (st' := []) rfl ?_
          exact ih2 _ p2 _ (by omega) hX3 (te_s (by decide) (by decide) hG hop.1 hlv hE2) (by rw [List.length_append]; show c2.length + 1 + p ≤ c.length + p2; omega)
        · skip
          intro X2 p2 hX2 hF2
          have b2a := hX2.2.2.2.2.2.1
          show am_wp L xs _ _ _ _ 34 [.ref 74] [] (am_S b) X2 _
          refine wp_run 3 (pc' := 38) (ls' := [.ref 74]) (st' := [.int 0, .int 124, .ref 74]) rfl ?_
          refine wp_callV (o := 74) (as := [.int 124, .int 0]) (rest := []) (els := [.ref 74, .int 124, .int 0]) rfl rfl rfl rfl rfl rfl rfl rfl (by omega) ?_
          refine sp_lays_b hX2 (fun X3 hX3 => ?_)
          show am_wp L xs _ _ _ _ 41 [.ref 74] [] (am_S b) X3 _
          refine wp_run 1 (pc' := 4) (ls' := [.ref 74]) (st' := []) rfl ?_
          refine wp_run 1 (pc' := 5) (ls' := [.ref 74]) (st' := [.ref 74]) rfl ?_
          refine wp_geti (a := 14) 1 hX3.2.2.2.2.1 rfl rfl rfl ?_
          refine wp_if_t rfl (show ¬ (1 : Int32) = 0 from by decide) ?_
          refine wp_retv rfl ?_
          exact kf _ _ hX3 (te_sF (by decide) (by decide) hG hop.1 hlv hF2)
  refine wp_run 1 (pc' := 1) (ls' := [.ref 74]) (st' := [.ref 74]) rfl ?_
  refine wp_callV (o := 74) (as := []) (rest := []) (els := [.ref 74]) rfl rfl rfl rfl rfl rfl rfl rfl (by omega) ?_
  refine ih _ _ _ _ _ _ _ _ (by omega) (by omega) hX1 ?_ ?_
  · skip
    intro X2 p2 c2 hX2 hE2 hL2
    have b2a := hX2.2.2.2.2.2.1
    have b2b := hX2.2.2.2.2.2.2.1
    have b2c := hE2.1
    show am_wp L xs _ _ _ _ 4 [.ref 74] [] (am_S b) X2 _
    exact hlp (tp - p2) X2 p2 c2 (Nat.le_refl _) hX2 (te_G hE2) hL2
  · skip
    intro X2 p2 hX2 hF2
    have b2a := hX2.2.2.2.2.2.1
    show am_wp L xs _ _ _ _ 4 [.ref 74] [] (am_S b) X2 _
    refine wp_run 1 (pc' := 5) (ls' := [.ref 74]) (st' := [.ref 74]) rfl ?_
    refine wp_geti (a := 14) 1 hX2.2.2.2.2.1 rfl rfl rfl ?_
    refine wp_if_t rfl (show ¬ (1 : Int32) = 0 from by decide) ?_
    refine wp_retv rfl ?_
    exact kf _ _ hX2 (te_F hF2)
theorem sp_any (L : Nat) (xs : Nat → Int32) {h : am_HI} {B : Nat → Int32} {tp u : Nat} (htp : tp ≤ 60) (h5 : h 75 5 = nI tp) (hB : ∀ i, i < tp → h 75 (56 + i) = B i) (hu : u = 0 ∨ u = 1) (h15 : h 74 15 = nI u) : ∀ r, rf_one L xs h B tp u r ∧ rf_lv L xs h B tp u r 1 163 [.ref 74] := by
  have hstep : ∀ r, rf_one L xs h B tp u r → rf_lv L xs h B tp u r 1 163 [.ref 74] := fun r h1 => sp_any1 htp h5 hB (sp_all htp h5 hB (sp_compares htp h5 hB (sp_sum htp h5 hB (sp_times htp h5 hB h1))))
  intro r
  induction r with
  | zero =>
    have h1 : rf_one L xs h B tp u 0 := sp_one htp h5 hB hu h15 (fun q hq => by omega)
    exact ⟨h1, hstep 0 h1⟩
  | succ r ih =>
    have h1 : rf_one L xs h B tp u (r + 1) := sp_one htp h5 hB hu h15 (fun q hq => by
      have e : q = r := by omega
      rw [e]
      exact ih)
    exact ⟨h1, hstep (r + 1) h1⟩
