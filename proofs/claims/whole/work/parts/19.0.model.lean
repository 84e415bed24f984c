/-! the reference: rows, suits, makes, what a law gives -/
theorem sp_refuse1 {L : Nat} {xs : Nat → Int32} {d ms b : Nat} {h : am_HI} {Q : am_Q} (hd : 1 ≤ d) (kk : Q (some (.int (-1000000001))) (am_S b) (am_u h 73 1 (h 73 1 + 1))) :
    am_wp L xs d 0 ms 12 0 [.ref 0, .int 1] [] (am_S b) h Q := by
  refine wp_run 3 (pc' := 4) (ls' := [.ref 0, .int 1]) (st' := [.int 6, .int 1, .int 1]) rfl ?_
  refine wp_callS (as := [.int 1, .int 1, .int 6]) (rest := []) (els := [.int 1, .int 1, .int 6]) rfl rfl rfl rfl rfl rfl rfl rfl (by omega) ?_
  refine sp_x_within (fun _ => ?_) (fun q => absurd (by decide) q)
  show am_wp L xs _ _ _ _ 7 [.ref 0, .int 1] [.int 1] (am_S b) h _
  refine wp_if_f rfl (show ¬ ((1 : Int32) = 0) from by decide) ?_
  refine wp_run 1 (pc' := 11) (ls' := [.ref 0, .int 1]) (st' := [.ref 0]) rfl ?_
  refine wp_getr 73 rfl rfl rfl ?_
  refine wp_run 2 (pc' := 16) (ls' := [.ref 0, .int 1]) (st' := [.int 1, .ref 73, .int 1, .ref 73]) rfl ?_
  refine wp_ald (i := 1) (h 73 1) rfl rfl rfl rfl (by decide) rfl ?_
  refine wp_run 2 (pc' := 19) (ls' := [.ref 0, .int 1]) (st' := [.int ((h 73 1) + 1), .int 1, .ref 73]) rfl ?_
  refine wp_ast rfl rfl rfl (by decide) rfl ?_
  refine wp_run 3 (pc' := 25) (ls' := [.ref 0, .int 1]) (st' := [.int ((-1000000000) - 1)]) rfl ?_
  rw [show (((-1000000000) - 1) : Int32) = (-1000000001) from by decide]
  refine wp_ret rfl ?_
  exact kk
theorem sp_error1 {L : Nat} {xs : Nat → Int32} {d ms b : Nat} {h : am_HI} {Q : am_Q} (kk : Q (some (.int (-1000000001))) (am_S b) (am_u h 77 1 (h 77 1 + 1))) :
    am_wp L xs d 0 ms 132 0 [.ref 74, .int (-1000000001)] [] (am_S b) h Q := by
  refine wp_run 1 (pc' := 1) (ls' := [.ref 74, .int (-1000000001)]) (st' := [.ref 74]) rfl ?_
  refine wp_getr 77 rfl rfl rfl ?_
  refine wp_run 4 (pc' := 9) (ls' := [.ref 74, .int (-1000000001)]) (st' := [.int ((-1000000000) - (-1000000001)), .ref 77, .int ((-1000000000) - (-1000000001)), .ref 77]) rfl ?_
  rw [show (((-1000000000) - (-1000000001)) : Int32) = 1 from by decide]
  refine wp_ald (i := 1) (h 77 1) rfl rfl rfl rfl (by decide) rfl ?_
  refine wp_run 2 (pc' := 12) (ls' := [.ref 74, .int (-1000000001)]) (st' := [.int ((h 77 1) + 1), .int 1, .ref 77]) rfl ?_
  refine wp_ast rfl rfl rfl (by decide) rfl ?_
  refine wp_run 1 (pc' := 14) (ls' := [.ref 74, .int (-1000000001)]) (st' := [.int (-1000000001)]) rfl ?_
  refine wp_ret rfl ?_
  exact kk
theorem sp_refuse2 {L : Nat} {xs : Nat → Int32} {d ms b : Nat} {h : am_HI} {Q : am_Q} (hd : 1 ≤ d) (kk : Q (some (.int (-1000000002))) (am_S b) (am_u h 73 2 (h 73 2 + 1))) :
    am_wp L xs d 0 ms 12 0 [.ref 0, .int 2] [] (am_S b) h Q := by
  refine wp_run 3 (pc' := 4) (ls' := [.ref 0, .int 2]) (st' := [.int 6, .int 1, .int 2]) rfl ?_
  refine wp_callS (as := [.int 2, .int 1, .int 6]) (rest := []) (els := [.int 2, .int 1, .int 6]) rfl rfl rfl rfl rfl rfl rfl rfl (by omega) ?_
  refine sp_x_within (fun _ => ?_) (fun q => absurd (by decide) q)
  show am_wp L xs _ _ _ _ 7 [.ref 0, .int 2] [.int 1] (am_S b) h _
  refine wp_if_f rfl (show ¬ ((1 : Int32) = 0) from by decide) ?_
  refine wp_run 1 (pc' := 11) (ls' := [.ref 0, .int 2]) (st' := [.ref 0]) rfl ?_
  refine wp_getr 73 rfl rfl rfl ?_
  refine wp_run 2 (pc' := 16) (ls' := [.ref 0, .int 2]) (st' := [.int 2, .ref 73, .int 2, .ref 73]) rfl ?_
  refine wp_ald (i := 2) (h 73 2) rfl rfl rfl rfl (by decide) rfl ?_
  refine wp_run 2 (pc' := 19) (ls' := [.ref 0, .int 2]) (st' := [.int ((h 73 2) + 1), .int 2, .ref 73]) rfl ?_
  refine wp_ast rfl rfl rfl (by decide) rfl ?_
  refine wp_run 3 (pc' := 25) (ls' := [.ref 0, .int 2]) (st' := [.int ((-1000000000) - 2)]) rfl ?_
  rw [show (((-1000000000) - 2) : Int32) = (-1000000002) from by decide]
  refine wp_ret rfl ?_
  exact kk
theorem sp_error2 {L : Nat} {xs : Nat → Int32} {d ms b : Nat} {h : am_HI} {Q : am_Q} (kk : Q (some (.int (-1000000002))) (am_S b) (am_u h 77 2 (h 77 2 + 1))) :
    am_wp L xs d 0 ms 132 0 [.ref 74, .int (-1000000002)] [] (am_S b) h Q := by
  refine wp_run 1 (pc' := 1) (ls' := [.ref 74, .int (-1000000002)]) (st' := [.ref 74]) rfl ?_
  refine wp_getr 77 rfl rfl rfl ?_
  refine wp_run 4 (pc' := 9) (ls' := [.ref 74, .int (-1000000002)]) (st' := [.int ((-1000000000) - (-1000000002)), .ref 77, .int ((-1000000000) - (-1000000002)), .ref 77]) rfl ?_
  rw [show (((-1000000000) - (-1000000002)) : Int32) = 2 from by decide]
  refine wp_ald (i := 2) (h 77 2) rfl rfl rfl rfl (by decide) rfl ?_
  refine wp_run 2 (pc' := 12) (ls' := [.ref 74, .int (-1000000002)]) (st' := [.int ((h 77 2) + 1), .int 2, .ref 77]) rfl ?_
  refine wp_ast rfl rfl rfl (by decide) rfl ?_
  refine wp_run 1 (pc' := 14) (ls' := [.ref 74, .int (-1000000002)]) (st' := [.int (-1000000002)]) rfl ?_
  refine wp_ret rfl ?_
  exact kk
theorem sp_refuse3 {L : Nat} {xs : Nat → Int32} {d ms b : Nat} {h : am_HI} {Q : am_Q} (hd : 1 ≤ d) (kk : Q (some (.int (-1000000003))) (am_S b) (am_u h 73 3 (h 73 3 + 1))) :
    am_wp L xs d 0 ms 12 0 [.ref 0, .int 3] [] (am_S b) h Q := by
  refine wp_run 3 (pc' := 4) (ls' := [.ref 0, .int 3]) (st' := [.int 6, .int 1, .int 3]) rfl ?_
  refine wp_callS (as := [.int 3, .int 1, .int 6]) (rest := []) (els := [.int 3, .int 1, .int 6]) rfl rfl rfl rfl rfl rfl rfl rfl (by omega) ?_
  refine sp_x_within (fun _ => ?_) (fun q => absurd (by decide) q)
  show am_wp L xs _ _ _ _ 7 [.ref 0, .int 3] [.int 1] (am_S b) h _
  refine wp_if_f rfl (show ¬ ((1 : Int32) = 0) from by decide) ?_
  refine wp_run 1 (pc' := 11) (ls' := [.ref 0, .int 3]) (st' := [.ref 0]) rfl ?_
  refine wp_getr 73 rfl rfl rfl ?_
  refine wp_run 2 (pc' := 16) (ls' := [.ref 0, .int 3]) (st' := [.int 3, .ref 73, .int 3, .ref 73]) rfl ?_
  refine wp_ald (i := 3) (h 73 3) rfl rfl rfl rfl (by decide) rfl ?_
  refine wp_run 2 (pc' := 19) (ls' := [.ref 0, .int 3]) (st' := [.int ((h 73 3) + 1), .int 3, .ref 73]) rfl ?_
  refine wp_ast rfl rfl rfl (by decide) rfl ?_
  refine wp_run 3 (pc' := 25) (ls' := [.ref 0, .int 3]) (st' := [.int ((-1000000000) - 3)]) rfl ?_
  rw [show (((-1000000000) - 3) : Int32) = (-1000000003) from by decide]
  refine wp_ret rfl ?_
  exact kk
theorem sp_error3 {L : Nat} {xs : Nat → Int32} {d ms b : Nat} {h : am_HI} {Q : am_Q} (kk : Q (some (.int (-1000000003))) (am_S b) (am_u h 77 3 (h 77 3 + 1))) :
    am_wp L xs d 0 ms 132 0 [.ref 74, .int (-1000000003)] [] (am_S b) h Q := by
  refine wp_run 1 (pc' := 1) (ls' := [.ref 74, .int (-1000000003)]) (st' := [.ref 74]) rfl ?_
  refine wp_getr 77 rfl rfl rfl ?_
  refine wp_run 4 (pc' := 9) (ls' := [.ref 74, .int (-1000000003)]) (st' := [.int ((-1000000000) - (-1000000003)), .ref 77, .int ((-1000000000) - (-1000000003)), .ref 77]) rfl ?_
  rw [show (((-1000000000) - (-1000000003)) : Int32) = 3 from by decide]
  refine wp_ald (i := 3) (h 77 3) rfl rfl rfl rfl (by decide) rfl ?_
  refine wp_run 2 (pc' := 12) (ls' := [.ref 74, .int (-1000000003)]) (st' := [.int ((h 77 3) + 1), .int 3, .ref 77]) rfl ?_
  refine wp_ast rfl rfl rfl (by decide) rfl ?_
  refine wp_run 1 (pc' := 14) (ls' := [.ref 74, .int (-1000000003)]) (st' := [.int (-1000000003)]) rfl ?_
  refine wp_ret rfl ?_
  exact kk
theorem sp_refuse4 {L : Nat} {xs : Nat → Int32} {d ms b : Nat} {h : am_HI} {Q : am_Q} (hd : 1 ≤ d) (kk : Q (some (.int (-1000000004))) (am_S b) (am_u h 73 4 (h 73 4 + 1))) :
    am_wp L xs d 0 ms 12 0 [.ref 0, .int 4] [] (am_S b) h Q := by
  refine wp_run 3 (pc' := 4) (ls' := [.ref 0, .int 4]) (st' := [.int 6, .int 1, .int 4]) rfl ?_
  refine wp_callS (as := [.int 4, .int 1, .int 6]) (rest := []) (els := [.int 4, .int 1, .int 6]) rfl rfl rfl rfl rfl rfl rfl rfl (by omega) ?_
  refine sp_x_within (fun _ => ?_) (fun q => absurd (by decide) q)
  show am_wp L xs _ _ _ _ 7 [.ref 0, .int 4] [.int 1] (am_S b) h _
  refine wp_if_f rfl (show ¬ ((1 : Int32) = 0) from by decide) ?_
  refine wp_run 1 (pc' := 11) (ls' := [.ref 0, .int 4]) (st' := [.ref 0]) rfl ?_
  refine wp_getr 73 rfl rfl rfl ?_
  refine wp_run 2 (pc' := 16) (ls' := [.ref 0, .int 4]) (st' := [.int 4, .ref 73, .int 4, .ref 73]) rfl ?_
  refine wp_ald (i := 4) (h 73 4) rfl rfl rfl rfl (by decide) rfl ?_
  refine wp_run 2 (pc' := 19) (ls' := [.ref 0, .int 4]) (st' := [.int ((h 73 4) + 1), .int 4, .ref 73]) rfl ?_
  refine wp_ast rfl rfl rfl (by decide) rfl ?_
  refine wp_run 3 (pc' := 25) (ls' := [.ref 0, .int 4]) (st' := [.int ((-1000000000) - 4)]) rfl ?_
  rw [show (((-1000000000) - 4) : Int32) = (-1000000004) from by decide]
  refine wp_ret rfl ?_
  exact kk
theorem sp_error4 {L : Nat} {xs : Nat → Int32} {d ms b : Nat} {h : am_HI} {Q : am_Q} (kk : Q (some (.int (-1000000004))) (am_S b) (am_u h 77 4 (h 77 4 + 1))) :
    am_wp L xs d 0 ms 132 0 [.ref 74, .int (-1000000004)] [] (am_S b) h Q := by
  refine wp_run 1 (pc' := 1) (ls' := [.ref 74, .int (-1000000004)]) (st' := [.ref 74]) rfl ?_
  refine wp_getr 77 rfl rfl rfl ?_
  refine wp_run 4 (pc' := 9) (ls' := [.ref 74, .int (-1000000004)]) (st' := [.int ((-1000000000) - (-1000000004)), .ref 77, .int ((-1000000000) - (-1000000004)), .ref 77]) rfl ?_
  rw [show (((-1000000000) - (-1000000004)) : Int32) = 4 from by decide]
  refine wp_ald (i := 4) (h 77 4) rfl rfl rfl rfl (by decide) rfl ?_
  refine wp_run 2 (pc' := 12) (ls' := [.ref 74, .int (-1000000004)]) (st' := [.int ((h 77 4) + 1), .int 4, .ref 77]) rfl ?_
  refine wp_ast rfl rfl rfl (by decide) rfl ?_
  refine wp_run 1 (pc' := 14) (ls' := [.ref 74, .int (-1000000004)]) (st' := [.int (-1000000004)]) rfl ?_
  refine wp_ret rfl ?_
  exact kk
theorem sp_refuse5 {L : Nat} {xs : Nat → Int32} {d ms b : Nat} {h : am_HI} {Q : am_Q} (hd : 1 ≤ d) (kk : Q (some (.int (-1000000005))) (am_S b) (am_u h 73 5 (h 73 5 + 1))) :
    am_wp L xs d 0 ms 12 0 [.ref 0, .int 5] [] (am_S b) h Q := by
  refine wp_run 3 (pc' := 4) (ls' := [.ref 0, .int 5]) (st' := [.int 6, .int 1, .int 5]) rfl ?_
  refine wp_callS (as := [.int 5, .int 1, .int 6]) (rest := []) (els := [.int 5, .int 1, .int 6]) rfl rfl rfl rfl rfl rfl rfl rfl (by omega) ?_
  refine sp_x_within (fun _ => ?_) (fun q => absurd (by decide) q)
  show am_wp L xs _ _ _ _ 7 [.ref 0, .int 5] [.int 1] (am_S b) h _
  refine wp_if_f rfl (show ¬ ((1 : Int32) = 0) from by decide) ?_
  refine wp_run 1 (pc' := 11) (ls' := [.ref 0, .int 5]) (st' := [.ref 0]) rfl ?_
  refine wp_getr 73 rfl rfl rfl ?_
  refine wp_run 2 (pc' := 16) (ls' := [.ref 0, .int 5]) (st' := [.int 5, .ref 73, .int 5, .ref 73]) rfl ?_
  refine wp_ald (i := 5) (h 73 5) rfl rfl rfl rfl (by decide) rfl ?_
  refine wp_run 2 (pc' := 19) (ls' := [.ref 0, .int 5]) (st' := [.int ((h 73 5) + 1), .int 5, .ref 73]) rfl ?_
  refine wp_ast rfl rfl rfl (by decide) rfl ?_
  refine wp_run 3 (pc' := 25) (ls' := [.ref 0, .int 5]) (st' := [.int ((-1000000000) - 5)]) rfl ?_
  rw [show (((-1000000000) - 5) : Int32) = (-1000000005) from by decide]
  refine wp_ret rfl ?_
  exact kk
theorem sp_error5 {L : Nat} {xs : Nat → Int32} {d ms b : Nat} {h : am_HI} {Q : am_Q} (kk : Q (some (.int (-1000000005))) (am_S b) (am_u h 77 5 (h 77 5 + 1))) :
    am_wp L xs d 0 ms 132 0 [.ref 74, .int (-1000000005)] [] (am_S b) h Q := by
  refine wp_run 1 (pc' := 1) (ls' := [.ref 74, .int (-1000000005)]) (st' := [.ref 74]) rfl ?_
  refine wp_getr 77 rfl rfl rfl ?_
  refine wp_run 4 (pc' := 9) (ls' := [.ref 74, .int (-1000000005)]) (st' := [.int ((-1000000000) - (-1000000005)), .ref 77, .int ((-1000000000) - (-1000000005)), .ref 77]) rfl ?_
  rw [show (((-1000000000) - (-1000000005)) : Int32) = 5 from by decide]
  refine wp_ald (i := 5) (h 77 5) rfl rfl rfl rfl (by decide) rfl ?_
  refine wp_run 2 (pc' := 12) (ls' := [.ref 74, .int (-1000000005)]) (st' := [.int ((h 77 5) + 1), .int 5, .ref 77]) rfl ?_
  refine wp_ast rfl rfl rfl (by decide) rfl ?_
  refine wp_run 1 (pc' := 14) (ls' := [.ref 74, .int (-1000000005)]) (st' := [.int (-1000000005)]) rfl ?_
  refine wp_ret rfl ?_
  exact kk
theorem sp_refuse6 {L : Nat} {xs : Nat → Int32} {d ms b : Nat} {h : am_HI} {Q : am_Q} (hd : 1 ≤ d) (kk : Q (some (.int (-1000000006))) (am_S b) (am_u h 73 6 (h 73 6 + 1))) :
    am_wp L xs d 0 ms 12 0 [.ref 0, .int 6] [] (am_S b) h Q := by
  refine wp_run 3 (pc' := 4) (ls' := [.ref 0, .int 6]) (st' := [.int 6, .int 1, .int 6]) rfl ?_
  refine wp_callS (as := [.int 6, .int 1, .int 6]) (rest := []) (els := [.int 6, .int 1, .int 6]) rfl rfl rfl rfl rfl rfl rfl rfl (by omega) ?_
  refine sp_x_within (fun _ => ?_) (fun q => absurd (by decide) q)
  show am_wp L xs _ _ _ _ 7 [.ref 0, .int 6] [.int 1] (am_S b) h _
  refine wp_if_f rfl (show ¬ ((1 : Int32) = 0) from by decide) ?_
  refine wp_run 1 (pc' := 11) (ls' := [.ref 0, .int 6]) (st' := [.ref 0]) rfl ?_
  refine wp_getr 73 rfl rfl rfl ?_
  refine wp_run 2 (pc' := 16) (ls' := [.ref 0, .int 6]) (st' := [.int 6, .ref 73, .int 6, .ref 73]) rfl ?_
  refine wp_ald (i := 6) (h 73 6) rfl rfl rfl rfl (by decide) rfl ?_
  refine wp_run 2 (pc' := 19) (ls' := [.ref 0, .int 6]) (st' := [.int ((h 73 6) + 1), .int 6, .ref 73]) rfl ?_
  refine wp_ast rfl rfl rfl (by decide) rfl ?_
  refine wp_run 3 (pc' := 25) (ls' := [.ref 0, .int 6]) (st' := [.int ((-1000000000) - 6)]) rfl ?_
  rw [show (((-1000000000) - 6) : Int32) = (-1000000006) from by decide]
  refine wp_ret rfl ?_
  exact kk
theorem sp_error6 {L : Nat} {xs : Nat → Int32} {d ms b : Nat} {h : am_HI} {Q : am_Q} (kk : Q (some (.int (-1000000006))) (am_S b) (am_u h 77 6 (h 77 6 + 1))) :
    am_wp L xs d 0 ms 132 0 [.ref 74, .int (-1000000006)] [] (am_S b) h Q := by
  refine wp_run 1 (pc' := 1) (ls' := [.ref 74, .int (-1000000006)]) (st' := [.ref 74]) rfl ?_
  refine wp_getr 77 rfl rfl rfl ?_
  refine wp_run 4 (pc' := 9) (ls' := [.ref 74, .int (-1000000006)]) (st' := [.int ((-1000000000) - (-1000000006)), .ref 77, .int ((-1000000000) - (-1000000006)), .ref 77]) rfl ?_
  rw [show (((-1000000000) - (-1000000006)) : Int32) = 6 from by decide]
  refine wp_ald (i := 6) (h 77 6) rfl rfl rfl rfl (by decide) rfl ?_
  refine wp_run 2 (pc' := 12) (ls' := [.ref 74, .int (-1000000006)]) (st' := [.int ((h 77 6) + 1), .int 6, .ref 77]) rfl ?_
  refine wp_ast rfl rfl rfl (by decide) rfl ?_
  refine wp_run 1 (pc' := 14) (ls' := [.ref 74, .int (-1000000006)]) (st' := [.int (-1000000006)]) rfl ?_
  refine wp_ret rfl ?_
  exact kk
theorem sp_m_isGuest {L : Nat} {xs : Nat → Int32} {d ms b : Nat} {h : am_HI} {Q : am_Q} {v : Int32} {n : Nat} (hm : h 75 2 = nI n) (h7 : n ≤ 7) (hd : 1 ≤ d) (kt : ∀ k, k < n → v = nI k → Q (some (.int 1)) (am_S b) h) (kf : (∀ k, k < n → v ≠ nI k) → Q (some (.int 0)) (am_S b) h) :
    am_wp L xs d 0 ms 135 0 [.ref 74, .int v] [] (am_S b) h Q := by
  refine wp_run 3 (pc' := 3) (ls' := [.ref 74, .int v]) (st' := [.ref 74, .int 0, .int v]) rfl ?_
  refine wp_getr 75 rfl rfl rfl ?_
  refine wp_run 1 (pc' := 7) (ls' := [.ref 74, .int v]) (st' := [.int 2, .ref 75, .int 0, .int v]) rfl ?_
  refine wp_ald (i := 2) (nI n) hm rfl rfl rfl (by decide) rfl ?_
  refine wp_run 2 (pc' := 10) (ls' := [.ref 74, .int v]) (st' := [.int ((nI n) - 1), .int 0, .int v]) rfl ?_
  refine wp_callS (as := [.int v, .int 0, .int ((nI n) - 1)]) (rest := []) (els := [.int v, .int 0, .int ((nI n) - 1)]) rfl rfl rfl rfl rfl rfl rfl rfl (by omega) ?_
  refine sp_m_in1 (m := n) (by omega) rfl ?_ ?_
  · skip
    intro kv hkv ev
    subst ev
    show am_wp L xs _ _ _ _ 13 [.ref 74, .int (nI kv)] [.int 1] (am_S b) h _
    refine wp_retz rfl (Or.inr rfl) ?_
    exact kt _ hkv rfl
  · skip
    intro hnv
    show am_wp L xs _ _ _ _ 13 [.ref 74, .int v] [.int 0] (am_S b) h _
    refine wp_retz rfl (Or.inl rfl) ?_
    exact kf hnv
theorem sp_m_isCoat {L : Nat} {xs : Nat → Int32} {d ms b : Nat} {h : am_HI} {Q : am_Q} {v : Int32} {c : Nat} (hm : h 75 3 = nI c) (h7 : c ≤ 7) (hd : 1 ≤ d) (kt : ∀ k, k < c → v = nI k → Q (some (.int 1)) (am_S b) h) (kf : (∀ k, k < c → v ≠ nI k) → Q (some (.int 0)) (am_S b) h) :
    am_wp L xs d 0 ms 148 0 [.ref 74, .int v] [] (am_S b) h Q := by
  refine wp_run 3 (pc' := 3) (ls' := [.ref 74, .int v]) (st' := [.ref 74, .int 0, .int v]) rfl ?_
  refine wp_getr 75 rfl rfl rfl ?_
  refine wp_run 1 (pc' := 7) (ls' := [.ref 74, .int v]) (st' := [.int 3, .ref 75, .int 0, .int v]) rfl ?_
  refine wp_ald (i := 3) (nI c) hm rfl rfl rfl (by decide) rfl ?_
  refine wp_run 2 (pc' := 10) (ls' := [.ref 74, .int v]) (st' := [.int ((nI c) - 1), .int 0, .int v]) rfl ?_
  refine wp_callS (as := [.int v, .int 0, .int ((nI c) - 1)]) (rest := []) (els := [.int v, .int 0, .int ((nI c) - 1)]) rfl rfl rfl rfl rfl rfl rfl rfl (by omega) ?_
  refine sp_m_in1 (m := c) (by omega) rfl ?_ ?_
  · skip
    intro kv hkv ev
    subst ev
    show am_wp L xs _ _ _ _ 13 [.ref 74, .int (nI kv)] [.int 1] (am_S b) h _
    refine wp_retz rfl (Or.inr rfl) ?_
    exact kt _ hkv rfl
  · skip
    intro hnv
    show am_wp L xs _ _ _ _ 13 [.ref 74, .int v] [.int 0] (am_S b) h _
    refine wp_retz rfl (Or.inl rfl) ?_
    exact kf hnv
theorem sp_of {L : Nat} {xs : Nat → Int32} {d ms b : Nat} {h : am_HI} {Q : am_Q} {j w : Nat} (v : Int32) (hv : h 75 (35 + 3 * j + w) = v) (hj : j < 7) (hw : w < 3) (kk : Q (some (.int v)) (am_S b) h) :
    am_wp L xs d 0 ms 140 0 [.ref 74, .int (nI j), .int (nI w)] [] (am_S b) h Q := by
  refine wp_run 1 (pc' := 1) (ls' := [.ref 74, .int (nI j), .int (nI w)]) (st' := [.ref 74]) rfl ?_
  refine wp_getr 75 rfl rfl rfl ?_
  refine wp_run 7 (pc' := 12) (ls' := [.ref 74, .int (nI j), .int (nI w)]) (st' := [.int ((35 + (3 * (nI j))) + (nI w)), .ref 75]) rfl ?_
  rw [show ((3 * (nI j)) : Int32) = (nI (3 * j)) from pk_mul 3 j]
  rw [show ((35 + (nI (3 * j))) : Int32) = (nI (35 + (3 * j))) from nI_add 35 (3 * j)]
  rw [show (((nI (35 + (3 * j))) + (nI w)) : Int32) = (nI ((35 + (3 * j)) + w)) from nI_add (35 + (3 * j)) w]
  refine wp_ald (i := ((35 + (3 * j)) + w)) v hv rfl rfl rfl (by omega) rfl ?_
  refine wp_ret rfl ?_
  exact kk
theorem sp_about {L : Nat} {xs : Nat → Int32} {d ms b : Nat} {h : am_HI} {Q : am_Q} {g w : Nat} (v : Int32) (hv : h 75 (7 + 4 * g + w) = v) (hj : g < 7) (hw : w < 4) (kk : Q (some (.int v)) (am_S b) h) :
    am_wp L xs d 0 ms 136 0 [.ref 74, .int (nI g), .int (nI w)] [] (am_S b) h Q := by
  refine wp_run 1 (pc' := 1) (ls' := [.ref 74, .int (nI g), .int (nI w)]) (st' := [.ref 74]) rfl ?_
  refine wp_getr 75 rfl rfl rfl ?_
  refine wp_run 7 (pc' := 12) (ls' := [.ref 74, .int (nI g), .int (nI w)]) (st' := [.int ((7 + (4 * (nI g))) + (nI w)), .ref 75]) rfl ?_
  rw [show ((4 * (nI g)) : Int32) = (nI (4 * g)) from pk_mul 4 g]
  rw [show ((7 + (nI (4 * g))) : Int32) = (nI (7 + (4 * g))) from nI_add 7 (4 * g)]
  rw [show (((nI (7 + (4 * g))) + (nI w)) : Int32) = (nI ((7 + (4 * g)) + w)) from nI_add (7 + (4 * g)) w]
  refine wp_ald (i := ((7 + (4 * g)) + w)) v hv rfl rfl rfl (by omega) rfl ?_
  refine wp_ret rfl ?_
  exact kk
theorem sp_puts {L : Nat} {xs : Nat → Int32} {d ms b : Nat} {h : am_HI} {Q : am_Q} {g : Nat} {v : Int32} (hj : g < 7) (kk : Q none (am_S b) (am_u h 75 (7 + 4 * g + 3) v)) :
    am_wp L xs d 0 ms 133 0 [.ref 74, .int (nI g), .int v] [] (am_S b) h Q := by
  refine wp_run 1 (pc' := 1) (ls' := [.ref 74, .int (nI g), .int v]) (st' := [.ref 74]) rfl ?_
  refine wp_getr 75 rfl rfl rfl ?_
  refine wp_run 8 (pc' := 13) (ls' := [.ref 74, .int (nI g), .int v]) (st' := [.int v, .int ((7 + (4 * (nI g))) + 3), .ref 75]) rfl ?_
  rw [show ((4 * (nI g)) : Int32) = (nI (4 * g)) from pk_mul 4 g]
  rw [show ((7 + (nI (4 * g))) : Int32) = (nI (7 + (4 * g))) from nI_add 7 (4 * g)]
  rw [show (((nI (7 + (4 * g))) + 3) : Int32) = (nI ((7 + (4 * g)) + 3)) from nI_add (7 + (4 * g)) 3]
  refine wp_ast rfl rfl rfl (by omega) rfl ?_
  refine wp_retv rfl ?_
  exact kk
theorem sp_becomes {L : Nat} {xs : Nat → Int32} {d ms b : Nat} {h : am_HI} {Q : am_Q} {p : Nat} {v : Int32} (hp : p < 382) (kk : Q (some (.int (h 75 p))) (am_S b) (am_u h 75 p v)) :
    am_wp L xs d 0 ms 151 0 [.ref 74, .int (nI p), .int v, am_du] [] (am_S b) h Q := by
  refine wp_run 1 (pc' := 1) (ls' := [.ref 74, .int (nI p), .int v, am_du]) (st' := [.ref 74]) rfl ?_
  refine wp_getr 75 rfl rfl rfl ?_
  refine wp_run 1 (pc' := 5) (ls' := [.ref 74, .int (nI p), .int v, am_du]) (st' := [.int (nI p), .ref 75]) rfl ?_
  refine wp_ald (i := p) (h 75 p) rfl rfl rfl rfl (by omega) rfl ?_
  refine wp_run 2 (pc' := 8) (ls' := [.ref 74, .int (nI p), .int v, .int (h 75 p)]) (st' := [.ref 74]) rfl ?_
  refine wp_getr 75 rfl rfl rfl ?_
  refine wp_run 2 (pc' := 13) (ls' := [.ref 74, .int (nI p), .int v, .int (h 75 p)]) (st' := [.int v, .int (nI p), .ref 75]) rfl ?_
  refine wp_ast rfl rfl rfl (by omega) rfl ?_
  refine wp_run 1 (pc' := 15) (ls' := [.ref 74, .int (nI p), .int v, .int (h 75 p)]) (st' := [.int (h 75 p)]) rfl ?_
  refine wp_ret rfl ?_
  exact kk
theorem sp_suits {L : Nat} {xs : Nat → Int32} {d ms b : Nat} {h : am_HI} {Q : am_Q} {j g : Nat} (hj : j < 7) (hg : g < 7) (hd : 1 ≤ d) (kk : Q (some (.int (pu_suits (h 75 (35 + 3 * j)) (h 75 (35 + 3 * j + 1)) (h 75 (7 + 4 * g)) (h 75 (7 + 4 * g + 1)) (h 75 (7 + 4 * g + 2)) (h 75 0)))) (am_S b) h) :
    am_wp L xs d 0 ms 155 0 [.ref 74, .int (nI j), .int (nI g), am_du, am_du, am_du] [] (am_S b) h Q := by
  refine wp_run 3 (pc' := 3) (ls' := [.ref 74, .int (nI j), .int (nI g), am_du, am_du, am_du]) (st' := [.int 1, .int (nI j), .ref 74]) rfl ?_
  refine wp_callV (o := 74) (as := [.int (nI j), .int 1]) (rest := []) (els := [.ref 74, .int (nI j), .int 1]) rfl rfl rfl rfl rfl rfl rfl rfl (by omega) ?_
  refine sp_of (w := 1) (h 75 (35 + 3 * j + 1)) rfl (by omega) (by omega) ?_
  show am_wp L xs _ _ _ _ 6 [.ref 74, .int (nI j), .int (nI g), am_du, am_du, am_du] [.int (h 75 (35 + 3 * j + 1))] (am_S b) h _
  refine wp_run 4 (pc' := 10) (ls' := [.ref 74, .int (nI j), .int (nI g), .int (h 75 (35 + 3 * j + 1)), am_du, am_du]) (st' := [.int 1, .int (nI g), .ref 74]) rfl ?_
  refine wp_callV (o := 74) (as := [.int (nI g), .int 1]) (rest := []) (els := [.ref 74, .int (nI g), .int 1]) rfl rfl rfl rfl rfl rfl rfl rfl (by omega) ?_
  refine sp_about (w := 1) (h 75 (7 + 4 * g + 1)) rfl (by omega) (by omega) ?_
  show am_wp L xs _ _ _ _ 13 [.ref 74, .int (nI j), .int (nI g), .int (h 75 (35 + 3 * j + 1)), am_du, am_du] [.int (h 75 (7 + 4 * g + 1))] (am_S b) h _
  refine wp_run 1 (pc' := 14) (ls' := [.ref 74, .int (nI j), .int (nI g), .int (h 75 (35 + 3 * j + 1)), am_du, am_du]) (st' := [.int (h 75 (35 + 3 * j + 1)), .int (h 75 (7 + 4 * g + 1))]) rfl ?_
  refine wp_icmp rfl (fun (cq14 : (h 75 (7 + 4 * g + 1)) ≤ (h 75 (35 + 3 * j + 1))) => ?_) (fun (cq14 : ¬ ((h 75 (7 + 4 * g + 1)) ≤ (h 75 (35 + 3 * j + 1)))) => ?_)
  · skip
    have eo : pu_off (h 75 (7 + 4 * g + 1)) (h 75 (35 + 3 * j + 1)) = ((h 75 (35 + 3 * j + 1)) - (h 75 (7 + 4 * g + 1))) := by unfold pu_off; rw [if_neg (Int32.not_lt.mpr cq14)]
    unfold pu_suits at kk
    rw [eo] at kk
    refine wp_run 4 (pc' := 32) (ls' := [.ref 74, .int (nI j), .int (nI g), .int (h 75 (35 + 3 * j + 1)), am_du, am_du]) (st' := [.int 1, .int (nI g), .ref 74, .int (h 75 (35 + 3 * j + 1))]) rfl ?_
    refine wp_callV (o := 74) (as := [.int (nI g), .int 1]) (rest := [.int (h 75 (35 + 3 * j + 1))]) (els := [.ref 74, .int (nI g), .int 1]) rfl rfl rfl rfl rfl rfl rfl rfl (by omega) ?_
    refine sp_about (w := 1) (h 75 (7 + 4 * g + 1)) rfl (by omega) (by omega) ?_
    show am_wp L xs _ _ _ _ 35 [.ref 74, .int (nI j), .int (nI g), .int (h 75 (35 + 3 * j + 1)), am_du, am_du] [.int (h 75 (7 + 4 * g + 1)), .int (h 75 (35 + 3 * j + 1))] (am_S b) h _
    refine wp_run 11 (pc' := 50) (ls' := [.ref 74, .int (nI j), .int (nI g), .int (h 75 (35 + 3 * j + 1)), .int ((h 75 (35 + 3 * j + 1)) - (h 75 (7 + 4 * g + 1))), .int (20 - (2 * ((h 75 (35 + 3 * j + 1)) - (h 75 (7 + 4 * g + 1)))))]) (st' := [.int 0, .int (nI j), .ref 74]) rfl ?_
    refine wp_callV (o := 74) (as := [.int (nI j), .int 0]) (rest := []) (els := [.ref 74, .int (nI j), .int 0]) rfl rfl rfl rfl rfl rfl rfl rfl (by omega) ?_
    refine sp_of (w := 0) (h 75 (35 + 3 * j)) rfl (by omega) (by omega) ?_
    show am_wp L xs _ _ _ _ 53 [.ref 74, .int (nI j), .int (nI g), .int (h 75 (35 + 3 * j + 1)), .int ((h 75 (35 + 3 * j + 1)) - (h 75 (7 + 4 * g + 1))), .int (20 - (2 * ((h 75 (35 + 3 * j + 1)) - (h 75 (7 + 4 * g + 1)))))] [.int (h 75 (35 + 3 * j))] (am_S b) h _
    refine wp_switch [(1, 92), (2, 97), (3, 107), (4, 126), (5, 151), (6, 168)] rfl rfl rfl ?_ ?_
    · refine List.forall_mem_cons.mpr ⟨fun (sw53 : (h 75 (35 + 3 * j)) = _) => ?_, List.forall_mem_cons.mpr ⟨fun (sw53 : (h 75 (35 + 3 * j)) = _) => ?_, List.forall_mem_cons.mpr ⟨fun (sw53 : (h 75 (35 + 3 * j)) = _) => ?_, List.forall_mem_cons.mpr ⟨fun (sw53 : (h 75 (35 + 3 * j)) = _) => ?_, List.forall_mem_cons.mpr ⟨fun (sw53 : (h 75 (35 + 3 * j)) = _) => ?_, List.forall_mem_cons.mpr ⟨fun (sw53 : (h 75 (35 + 3 * j)) = _) => ?_, fun _ h => absurd h List.not_mem_nil⟩⟩⟩⟩⟩⟩
      · skip
        refine wp_run 3 (pc' := 96) (ls' := [.ref 74, .int (nI j), .int (nI g), .int (h 75 (35 + 3 * j + 1)), .int ((h 75 (35 + 3 * j + 1)) - (h 75 (7 + 4 * g + 1))), .int (20 - (2 * ((h 75 (35 + 3 * j + 1)) - (h 75 (7 + 4 * g + 1)))))]) (st' := [.int ((20 - (2 * ((h 75 (35 + 3 * j + 1)) - (h 75 (7 + 4 * g + 1))))) - 5)]) rfl ?_
        refine wp_ret rfl ?_
        have ej : pu_suitp (20 - (2 * ((h 75 (35 + 3 * j + 1)) - (h 75 (7 + 4 * g + 1))))) (h 75 (35 + 3 * j)) (h 75 (35 + 3 * j + 1)) (h 75 (7 + 4 * g)) (h 75 (7 + 4 * g + 2)) (h 75 0) = ((20 - (2 * ((h 75 (35 + 3 * j + 1)) - (h 75 (7 + 4 * g + 1))))) - 5) := by simp (decide := true) [pu_suitp, sw53]
        rw [ej] at kk
        exact kk
      · skip
        refine wp_run 4 (pc' := 102) (ls' := [.ref 74, .int (nI j), .int (nI g), .int (h 75 (35 + 3 * j + 1)), .int ((h 75 (35 + 3 * j + 1)) - (h 75 (7 + 4 * g + 1))), .int (20 - (2 * ((h 75 (35 + 3 * j + 1)) - (h 75 (7 + 4 * g + 1)))))]) (st' := [.int 0, .int (nI g), .ref 74, .int (20 - (2 * ((h 75 (35 + 3 * j + 1)) - (h 75 (7 + 4 * g + 1)))))]) rfl ?_
        refine wp_callV (o := 74) (as := [.int (nI g), .int 0]) (rest := [.int (20 - (2 * ((h 75 (35 + 3 * j + 1)) - (h 75 (7 + 4 * g + 1)))))]) (els := [.ref 74, .int (nI g), .int 0]) rfl rfl rfl rfl rfl rfl rfl rfl (by omega) ?_
        refine sp_about (w := 0) (h 75 (7 + 4 * g)) rfl (by omega) (by omega) ?_
        show am_wp L xs _ _ _ _ 105 [.ref 74, .int (nI j), .int (nI g), .int (h 75 (35 + 3 * j + 1)), .int ((h 75 (35 + 3 * j + 1)) - (h 75 (7 + 4 * g + 1))), .int (20 - (2 * ((h 75 (35 + 3 * j + 1)) - (h 75 (7 + 4 * g + 1)))))] [.int (h 75 (7 + 4 * g)), .int (20 - (2 * ((h 75 (35 + 3 * j + 1)) - (h 75 (7 + 4 * g + 1)))))] (am_S b) h _
        refine wp_run 1 (pc' := 106) (ls' := [.ref 74, .int (nI j), .int (nI g), .int (h 75 (35 + 3 * j + 1)), .int ((h 75 (35 + 3 * j + 1)) - (h 75 (7 + 4 * g + 1))), .int (20 - (2 * ((h 75 (35 + 3 * j + 1)) - (h 75 (7 + 4 * g + 1)))))]) (st' := [.int ((20 - (2 * ((h 75 (35 + 3 * j + 1)) - (h 75 (7 + 4 * g + 1))))) + (h 75 (7 + 4 * g)))]) rfl ?_
        refine wp_ret rfl ?_
        have ej : pu_suitp (20 - (2 * ((h 75 (35 + 3 * j + 1)) - (h 75 (7 + 4 * g + 1))))) (h 75 (35 + 3 * j)) (h 75 (35 + 3 * j + 1)) (h 75 (7 + 4 * g)) (h 75 (7 + 4 * g + 2)) (h 75 0) = ((20 - (2 * ((h 75 (35 + 3 * j + 1)) - (h 75 (7 + 4 * g + 1))))) + (h 75 (7 + 4 * g))) := by simp (decide := true) [pu_suitp, sw53]
        rw [ej] at kk
        exact kk
      · skip
        refine wp_run 3 (pc' := 110) (ls' := [.ref 74, .int (nI j), .int (nI g), .int (h 75 (35 + 3 * j + 1)), .int ((h 75 (35 + 3 * j + 1)) - (h 75 (7 + 4 * g + 1))), .int (20 - (2 * ((h 75 (35 + 3 * j + 1)) - (h 75 (7 + 4 * g + 1)))))]) (st' := [.int 2, .int (nI g), .ref 74]) rfl ?_
        refine wp_callV (o := 74) (as := [.int (nI g), .int 2]) (rest := []) (els := [.ref 74, .int (nI g), .int 2]) rfl rfl rfl rfl rfl rfl rfl rfl (by omega) ?_
        refine sp_about (w := 2) (h 75 (7 + 4 * g + 2)) rfl (by omega) (by omega) ?_
        show am_wp L xs _ _ _ _ 113 [.ref 74, .int (nI j), .int (nI g), .int (h 75 (35 + 3 * j + 1)), .int ((h 75 (35 + 3 * j + 1)) - (h 75 (7 + 4 * g + 1))), .int (20 - (2 * ((h 75 (35 + 3 * j + 1)) - (h 75 (7 + 4 * g + 1)))))] [.int (h 75 (7 + 4 * g + 2))] (am_S b) h _
        refine wp_run 2 (pc' := 115) (ls' := [.ref 74, .int (nI j), .int (nI g), .int (h 75 (35 + 3 * j + 1)), .int ((h 75 (35 + 3 * j + 1)) - (h 75 (7 + 4 * g + 1))), .int (20 - (2 * ((h 75 (35 + 3 * j + 1)) - (h 75 (7 + 4 * g + 1)))))]) (st' := [.int 4, .int (h 75 (35 + 3 * j + 1)), .int (h 75 (7 + 4 * g + 2))]) rfl ?_
        refine wp_irem rfl (by decide) ?_
        refine wp_icmp rfl (fun (cq116 : ¬ (h 75 (7 + 4 * g + 2)) = (am_rem (h 75 (35 + 3 * j + 1)) 4)) => ?_) (fun (cq116 : ¬ (¬ (h 75 (7 + 4 * g + 2)) = (am_rem (h 75 (35 + 3 * j + 1)) 4))) => ?_)
        · skip
          refine wp_run 1 (pc' := 125) (ls' := [.ref 74, .int (nI j), .int (nI g), .int (h 75 (35 + 3 * j + 1)), .int ((h 75 (35 + 3 * j + 1)) - (h 75 (7 + 4 * g + 1))), .int (20 - (2 * ((h 75 (35 + 3 * j + 1)) - (h 75 (7 + 4 * g + 1)))))]) (st' := [.int 0]) rfl ?_
          refine wp_ret rfl ?_
          have ej : pu_suitp (20 - (2 * ((h 75 (35 + 3 * j + 1)) - (h 75 (7 + 4 * g + 1))))) (h 75 (35 + 3 * j)) (h 75 (35 + 3 * j + 1)) (h 75 (7 + 4 * g)) (h 75 (7 + 4 * g + 2)) (h 75 0) = 0 := by simp (decide := true) [pu_suitp, sw53, cq116]
          rw [ej] at kk
          exact kk
        · skip
          replace cq116 := Decidable.not_not.mp cq116
          refine wp_run 2 (pc' := 125) (ls' := [.ref 74, .int (nI j), .int (nI g), .int (h 75 (35 + 3 * j + 1)), .int ((h 75 (35 + 3 * j + 1)) - (h 75 (7 + 4 * g + 1))), .int (20 - (2 * ((h 75 (35 + 3 * j + 1)) - (h 75 (7 + 4 * g + 1)))))]) (st' := [.int 30]) rfl ?_
          refine wp_ret rfl ?_
          have ej : pu_suitp (20 - (2 * ((h 75 (35 + 3 * j + 1)) - (h 75 (7 + 4 * g + 1))))) (h 75 (35 + 3 * j)) (h 75 (35 + 3 * j + 1)) (h 75 (7 + 4 * g)) (h 75 (7 + 4 * g + 2)) (h 75 0) = 30 := by simp (decide := true) [pu_suitp, sw53, cq116]
          rw [ej] at kk
          exact kk
      · skip
        refine wp_run 4 (pc' := 131) (ls' := [.ref 74, .int (nI j), .int (nI g), .int (h 75 (35 + 3 * j + 1)), .int ((h 75 (35 + 3 * j + 1)) - (h 75 (7 + 4 * g + 1))), .int (20 - (2 * ((h 75 (35 + 3 * j + 1)) - (h 75 (7 + 4 * g + 1)))))]) (st' := [.ref 74, .int ((20 - (2 * ((h 75 (35 + 3 * j + 1)) - (h 75 (7 + 4 * g + 1))))) - 5)]) rfl ?_
        refine wp_getr 75 rfl rfl rfl ?_
        refine wp_run 1 (pc' := 135) (ls' := [.ref 74, .int (nI j), .int (nI g), .int (h 75 (35 + 3 * j + 1)), .int ((h 75 (35 + 3 * j + 1)) - (h 75 (7 + 4 * g + 1))), .int (20 - (2 * ((h 75 (35 + 3 * j + 1)) - (h 75 (7 + 4 * g + 1)))))]) (st' := [.int 0, .ref 75, .int ((20 - (2 * ((h 75 (35 + 3 * j + 1)) - (h 75 (7 + 4 * g + 1))))) - 5)]) rfl ?_
        refine wp_ald (i := 0) (h 75 0) rfl rfl rfl rfl (by decide) rfl ?_
        refine wp_run 1 (pc' := 138) (ls' := [.ref 74, .int (nI j), .int (nI g), .int (h 75 (35 + 3 * j + 1)), .int ((h 75 (35 + 3 * j + 1)) - (h 75 (7 + 4 * g + 1))), .int (20 - (2 * ((h 75 (35 + 3 * j + 1)) - (h 75 (7 + 4 * g + 1)))))]) (st' := [.int 7, .int (h 75 0), .int ((20 - (2 * ((h 75 (35 + 3 * j + 1)) - (h 75 (7 + 4 * g + 1))))) - 5)]) rfl ?_
        refine wp_irem rfl (by decide) ?_
        refine wp_run 1 (pc' := 140) (ls' := [.ref 74, .int (nI j), .int (nI g), .int (h 75 (35 + 3 * j + 1)), .int ((h 75 (35 + 3 * j + 1)) - (h 75 (7 + 4 * g + 1))), .int (20 - (2 * ((h 75 (35 + 3 * j + 1)) - (h 75 (7 + 4 * g + 1)))))]) (st' := [.int 5, .int (am_rem (h 75 0) 7), .int ((20 - (2 * ((h 75 (35 + 3 * j + 1)) - (h 75 (7 + 4 * g + 1))))) - 5)]) rfl ?_
        refine wp_icmp rfl (fun (cq140 : ¬ (am_rem (h 75 0) 7) = 5) => ?_) (fun (cq140 : ¬ (¬ (am_rem (h 75 0) 7) = 5)) => ?_)
        · skip
          refine wp_run 2 (pc' := 150) (ls' := [.ref 74, .int (nI j), .int (nI g), .int (h 75 (35 + 3 * j + 1)), .int ((h 75 (35 + 3 * j + 1)) - (h 75 (7 + 4 * g + 1))), .int (20 - (2 * ((h 75 (35 + 3 * j + 1)) - (h 75 (7 + 4 * g + 1)))))]) (st' := [.int (((20 - (2 * ((h 75 (35 + 3 * j + 1)) - (h 75 (7 + 4 * g + 1))))) - 5) + 0)]) rfl ?_
          refine wp_ret rfl ?_
          have ej : pu_suitp (20 - (2 * ((h 75 (35 + 3 * j + 1)) - (h 75 (7 + 4 * g + 1))))) (h 75 (35 + 3 * j)) (h 75 (35 + 3 * j + 1)) (h 75 (7 + 4 * g)) (h 75 (7 + 4 * g + 2)) (h 75 0) = (((20 - (2 * ((h 75 (35 + 3 * j + 1)) - (h 75 (7 + 4 * g + 1))))) - 5) + 0) := by simp (decide := true) [pu_suitp, sw53, cq140]
          rw [ej] at kk
          exact kk
        · skip
          replace cq140 := Decidable.not_not.mp cq140
          refine wp_run 3 (pc' := 150) (ls' := [.ref 74, .int (nI j), .int (nI g), .int (h 75 (35 + 3 * j + 1)), .int ((h 75 (35 + 3 * j + 1)) - (h 75 (7 + 4 * g + 1))), .int (20 - (2 * ((h 75 (35 + 3 * j + 1)) - (h 75 (7 + 4 * g + 1)))))]) (st' := [.int (((20 - (2 * ((h 75 (35 + 3 * j + 1)) - (h 75 (7 + 4 * g + 1))))) - 5) + 20)]) rfl ?_
          refine wp_ret rfl ?_
          have ej : pu_suitp (20 - (2 * ((h 75 (35 + 3 * j + 1)) - (h 75 (7 + 4 * g + 1))))) (h 75 (35 + 3 * j)) (h 75 (35 + 3 * j + 1)) (h 75 (7 + 4 * g)) (h 75 (7 + 4 * g + 2)) (h 75 0) = (((20 - (2 * ((h 75 (35 + 3 * j + 1)) - (h 75 (7 + 4 * g + 1))))) - 5) + 20) := by simp (decide := true) [pu_suitp, sw53, cq140]
          rw [ej] at kk
          exact kk
      · skip
        refine wp_run 4 (pc' := 156) (ls' := [.ref 74, .int (nI j), .int (nI g), .int (h 75 (35 + 3 * j + 1)), .int ((h 75 (35 + 3 * j + 1)) - (h 75 (7 + 4 * g + 1))), .int (20 - (2 * ((h 75 (35 + 3 * j + 1)) - (h 75 (7 + 4 * g + 1)))))]) (st' := [.int 0, .int (nI g), .ref 74, .int (20 - (2 * ((h 75 (35 + 3 * j + 1)) - (h 75 (7 + 4 * g + 1)))))]) rfl ?_
        refine wp_callV (o := 74) (as := [.int (nI g), .int 0]) (rest := [.int (20 - (2 * ((h 75 (35 + 3 * j + 1)) - (h 75 (7 + 4 * g + 1)))))]) (els := [.ref 74, .int (nI g), .int 0]) rfl rfl rfl rfl rfl rfl rfl rfl (by omega) ?_
        refine sp_about (w := 0) (h 75 (7 + 4 * g)) rfl (by omega) (by omega) ?_
        show am_wp L xs _ _ _ _ 159 [.ref 74, .int (nI j), .int (nI g), .int (h 75 (35 + 3 * j + 1)), .int ((h 75 (35 + 3 * j + 1)) - (h 75 (7 + 4 * g + 1))), .int (20 - (2 * ((h 75 (35 + 3 * j + 1)) - (h 75 (7 + 4 * g + 1)))))] [.int (h 75 (7 + 4 * g)), .int (20 - (2 * ((h 75 (35 + 3 * j + 1)) - (h 75 (7 + 4 * g + 1)))))] (am_S b) h _
        refine wp_run 4 (pc' := 163) (ls' := [.ref 74, .int (nI j), .int (nI g), .int (h 75 (35 + 3 * j + 1)), .int ((h 75 (35 + 3 * j + 1)) - (h 75 (7 + 4 * g + 1))), .int (20 - (2 * ((h 75 (35 + 3 * j + 1)) - (h 75 (7 + 4 * g + 1)))))]) (st' := [.int 2, .int (nI g), .ref 74, .int ((20 - (2 * ((h 75 (35 + 3 * j + 1)) - (h 75 (7 + 4 * g + 1))))) + (h 75 (7 + 4 * g)))]) rfl ?_
        refine wp_callV (o := 74) (as := [.int (nI g), .int 2]) (rest := [.int ((20 - (2 * ((h 75 (35 + 3 * j + 1)) - (h 75 (7 + 4 * g + 1))))) + (h 75 (7 + 4 * g)))]) (els := [.ref 74, .int (nI g), .int 2]) rfl rfl rfl rfl rfl rfl rfl rfl (by omega) ?_
        refine sp_about (w := 2) (h 75 (7 + 4 * g + 2)) rfl (by omega) (by omega) ?_
        show am_wp L xs _ _ _ _ 166 [.ref 74, .int (nI j), .int (nI g), .int (h 75 (35 + 3 * j + 1)), .int ((h 75 (35 + 3 * j + 1)) - (h 75 (7 + 4 * g + 1))), .int (20 - (2 * ((h 75 (35 + 3 * j + 1)) - (h 75 (7 + 4 * g + 1)))))] [.int (h 75 (7 + 4 * g + 2)), .int ((20 - (2 * ((h 75 (35 + 3 * j + 1)) - (h 75 (7 + 4 * g + 1))))) + (h 75 (7 + 4 * g)))] (am_S b) h _
        refine wp_run 1 (pc' := 167) (ls' := [.ref 74, .int (nI j), .int (nI g), .int (h 75 (35 + 3 * j + 1)), .int ((h 75 (35 + 3 * j + 1)) - (h 75 (7 + 4 * g + 1))), .int (20 - (2 * ((h 75 (35 + 3 * j + 1)) - (h 75 (7 + 4 * g + 1)))))]) (st' := [.int (((20 - (2 * ((h 75 (35 + 3 * j + 1)) - (h 75 (7 + 4 * g + 1))))) + (h 75 (7 + 4 * g))) - (h 75 (7 + 4 * g + 2)))]) rfl ?_
        refine wp_ret rfl ?_
        have ej : pu_suitp (20 - (2 * ((h 75 (35 + 3 * j + 1)) - (h 75 (7 + 4 * g + 1))))) (h 75 (35 + 3 * j)) (h 75 (35 + 3 * j + 1)) (h 75 (7 + 4 * g)) (h 75 (7 + 4 * g + 2)) (h 75 0) = (((20 - (2 * ((h 75 (35 + 3 * j + 1)) - (h 75 (7 + 4 * g + 1))))) + (h 75 (7 + 4 * g))) - (h 75 (7 + 4 * g + 2))) := by simp (decide := true) [pu_suitp, sw53]
        rw [ej] at kk
        exact kk
      · skip
        refine wp_run 2 (pc' := 171) (ls' := [.ref 74, .int (nI j), .int (nI g), .int (h 75 (35 + 3 * j + 1)), .int ((h 75 (35 + 3 * j + 1)) - (h 75 (7 + 4 * g + 1))), .int (20 - (2 * ((h 75 (35 + 3 * j + 1)) - (h 75 (7 + 4 * g + 1)))))]) (st' := [.int 2, .int (20 - (2 * ((h 75 (35 + 3 * j + 1)) - (h 75 (7 + 4 * g + 1)))))]) rfl ?_
        refine wp_idiv rfl (by decide) ?_
        refine wp_ret rfl ?_
        have ej : pu_suitp (20 - (2 * ((h 75 (35 + 3 * j + 1)) - (h 75 (7 + 4 * g + 1))))) (h 75 (35 + 3 * j)) (h 75 (35 + 3 * j + 1)) (h 75 (7 + 4 * g)) (h 75 (7 + 4 * g + 2)) (h 75 0) = ((20 - (2 * ((h 75 (35 + 3 * j + 1)) - (h 75 (7 + 4 * g + 1))))) / 2) := by simp (decide := true) [pu_suitp, sw53]
        rw [ej] at kk
        exact kk
    · intro sw53
      refine wp_run 1 (pc' := 175) (ls' := [.ref 74, .int (nI j), .int (nI g), .int (h 75 (35 + 3 * j + 1)), .int ((h 75 (35 + 3 * j + 1)) - (h 75 (7 + 4 * g + 1))), .int (20 - (2 * ((h 75 (35 + 3 * j + 1)) - (h 75 (7 + 4 * g + 1)))))]) (st' := [.int (20 - (2 * ((h 75 (35 + 3 * j + 1)) - (h 75 (7 + 4 * g + 1)))))]) rfl ?_
      refine wp_ret rfl ?_
      simp only [List.forall_mem_cons] at sw53
      have ej : pu_suitp (20 - (2 * ((h 75 (35 + 3 * j + 1)) - (h 75 (7 + 4 * g + 1))))) (h 75 (35 + 3 * j)) (h 75 (35 + 3 * j + 1)) (h 75 (7 + 4 * g)) (h 75 (7 + 4 * g + 2)) (h 75 0) = (20 - (2 * ((h 75 (35 + 3 * j + 1)) - (h 75 (7 + 4 * g + 1))))) := by simp (decide := true) [pu_suitp, sw53]
      rw [ej] at kk
      exact kk
  · skip
    have eo : pu_off (h 75 (7 + 4 * g + 1)) (h 75 (35 + 3 * j + 1)) = ((h 75 (7 + 4 * g + 1)) - (h 75 (35 + 3 * j + 1))) := by unfold pu_off; rw [if_pos (Int32.not_le.mp cq14)]
    unfold pu_suits at kk
    rw [eo] at kk
    refine wp_run 3 (pc' := 20) (ls' := [.ref 74, .int (nI j), .int (nI g), .int (h 75 (35 + 3 * j + 1)), am_du, am_du]) (st' := [.int 1, .int (nI g), .ref 74]) rfl ?_
    refine wp_callV (o := 74) (as := [.int (nI g), .int 1]) (rest := []) (els := [.ref 74, .int (nI g), .int 1]) rfl rfl rfl rfl rfl rfl rfl rfl (by omega) ?_
    refine sp_about (w := 1) (h 75 (7 + 4 * g + 1)) rfl (by omega) (by omega) ?_
    show am_wp L xs _ _ _ _ 23 [.ref 74, .int (nI j), .int (nI g), .int (h 75 (35 + 3 * j + 1)), am_du, am_du] [.int (h 75 (7 + 4 * g + 1))] (am_S b) h _
    refine wp_run 13 (pc' := 50) (ls' := [.ref 74, .int (nI j), .int (nI g), .int (h 75 (35 + 3 * j + 1)), .int ((h 75 (7 + 4 * g + 1)) - (h 75 (35 + 3 * j + 1))), .int (20 - (2 * ((h 75 (7 + 4 * g + 1)) - (h 75 (35 + 3 * j + 1)))))]) (st' := [.int 0, .int (nI j), .ref 74]) rfl ?_
    refine wp_callV (o := 74) (as := [.int (nI j), .int 0]) (rest := []) (els := [.ref 74, .int (nI j), .int 0]) rfl rfl rfl rfl rfl rfl rfl rfl (by omega) ?_
    refine sp_of (w := 0) (h 75 (35 + 3 * j)) rfl (by omega) (by omega) ?_
    show am_wp L xs _ _ _ _ 53 [.ref 74, .int (nI j), .int (nI g), .int (h 75 (35 + 3 * j + 1)), .int ((h 75 (7 + 4 * g + 1)) - (h 75 (35 + 3 * j + 1))), .int (20 - (2 * ((h 75 (7 + 4 * g + 1)) - (h 75 (35 + 3 * j + 1)))))] [.int (h 75 (35 + 3 * j))] (am_S b) h _
    refine wp_switch [(1, 92), (2, 97), (3, 107), (4, 126), (5, 151), (6, 168)] rfl rfl rfl ?_ ?_
    · refine List.forall_mem_cons.mpr ⟨fun (sw53 : (h 75 (35 + 3 * j)) = _) => ?_, List.forall_mem_cons.mpr ⟨fun (sw53 : (h 75 (35 + 3 * j)) = _) => ?_, List.forall_mem_cons.mpr ⟨fun (sw53 : (h 75 (35 + 3 * j)) = _) => ?_, List.forall_mem_cons.mpr ⟨fun (sw53 : (h 75 (35 + 3 * j)) = _) => ?_, List.forall_mem_cons.mpr ⟨fun (sw53 : (h 75 (35 + 3 * j)) = _) => ?_, List.forall_mem_cons.mpr ⟨fun (sw53 : (h 75 (35 + 3 * j)) = _) => ?_, fun _ h => absurd h List.not_mem_nil⟩⟩⟩⟩⟩⟩
      · skip
        refine wp_run 3 (pc' := 96) (ls' := [.ref 74, .int (nI j), .int (nI g), .int (h 75 (35 + 3 * j + 1)), .int ((h 75 (7 + 4 * g + 1)) - (h 75 (35 + 3 * j + 1))), .int (20 - (2 * ((h 75 (7 + 4 * g + 1)) - (h 75 (35 + 3 * j + 1)))))]) (st' := [.int ((20 - (2 * ((h 75 (7 + 4 * g + 1)) - (h 75 (35 + 3 * j + 1))))) - 5)]) rfl ?_
        refine wp_ret rfl ?_
        have ej : pu_suitp (20 - (2 * ((h 75 (7 + 4 * g + 1)) - (h 75 (35 + 3 * j + 1))))) (h 75 (35 + 3 * j)) (h 75 (35 + 3 * j + 1)) (h 75 (7 + 4 * g)) (h 75 (7 + 4 * g + 2)) (h 75 0) = ((20 - (2 * ((h 75 (7 + 4 * g + 1)) - (h 75 (35 + 3 * j + 1))))) - 5) := by simp (decide := true) [pu_suitp, sw53]
        rw [ej] at kk
        exact kk
      · skip
        refine wp_run 4 (pc' := 102) (ls' := [.ref 74, .int (nI j), .int (nI g), .int (h 75 (35 + 3 * j + 1)), .int ((h 75 (7 + 4 * g + 1)) - (h 75 (35 + 3 * j + 1))), .int (20 - (2 * ((h 75 (7 + 4 * g + 1)) - (h 75 (35 + 3 * j + 1)))))]) (st' := [.int 0, .int (nI g), .ref 74, .int (20 - (2 * ((h 75 (7 + 4 * g + 1)) - (h 75 (35 + 3 * j + 1)))))]) rfl ?_
        refine wp_callV (o := 74) (as := [.int (nI g), .int 0]) (rest := [.int (20 - (2 * ((h 75 (7 + 4 * g + 1)) - (h 75 (35 + 3 * j + 1)))))]) (els := [.ref 74, .int (nI g), .int 0]) rfl rfl rfl rfl rfl rfl rfl rfl (by omega) ?_
        refine sp_about (w := 0) (h 75 (7 + 4 * g)) rfl (by omega) (by omega) ?_
        show am_wp L xs _ _ _ _ 105 [.ref 74, .int (nI j), .int (nI g), .int (h 75 (35 + 3 * j + 1)), .int ((h 75 (7 + 4 * g + 1)) - (h 75 (35 + 3 * j + 1))), .int (20 - (2 * ((h 75 (7 + 4 * g + 1)) - (h 75 (35 + 3 * j + 1)))))] [.int (h 75 (7 + 4 * g)), .int (20 - (2 * ((h 75 (7 + 4 * g + 1)) - (h 75 (35 + 3 * j + 1)))))] (am_S b) h _
        refine wp_run 1 (pc' := 106) (ls' := [.ref 74, .int (nI j), .int (nI g), .int (h 75 (35 + 3 * j + 1)), .int ((h 75 (7 + 4 * g + 1)) - (h 75 (35 + 3 * j + 1))), .int (20 - (2 * ((h 75 (7 + 4 * g + 1)) - (h 75 (35 + 3 * j + 1)))))]) (st' := [.int ((20 - (2 * ((h 75 (7 + 4 * g + 1)) - (h 75 (35 + 3 * j + 1))))) + (h 75 (7 + 4 * g)))]) rfl ?_
        refine wp_ret rfl ?_
        have ej : pu_suitp (20 - (2 * ((h 75 (7 + 4 * g + 1)) - (h 75 (35 + 3 * j + 1))))) (h 75 (35 + 3 * j)) (h 75 (35 + 3 * j + 1)) (h 75 (7 + 4 * g)) (h 75 (7 + 4 * g + 2)) (h 75 0) = ((20 - (2 * ((h 75 (7 + 4 * g + 1)) - (h 75 (35 + 3 * j + 1))))) + (h 75 (7 + 4 * g))) := by simp (decide := true) [pu_suitp, sw53]
        rw [ej] at kk
        exact kk
      · skip
        refine wp_run 3 (pc' := 110) (ls' := [.ref 74, .int (nI j), .int (nI g), .int (h 75 (35 + 3 * j + 1)), .int ((h 75 (7 + 4 * g + 1)) - (h 75 (35 + 3 * j + 1))), .int (20 - (2 * ((h 75 (7 + 4 * g + 1)) - (h 75 (35 + 3 * j + 1)))))]) (st' := [.int 2, .int (nI g), .ref 74]) rfl ?_
        refine wp_callV (o := 74) (as := [.int (nI g), .int 2]) (rest := []) (els := [.ref 74, .int (nI g), .int 2]) rfl rfl rfl rfl rfl rfl rfl rfl (by omega) ?_
        refine sp_about (w := 2) (h 75 (7 + 4 * g + 2)) rfl (by omega) (by omega) ?_
        show am_wp L xs _ _ _ _ 113 [.ref 74, .int (nI j), .int (nI g), .int (h 75 (35 + 3 * j + 1)), .int ((h 75 (7 + 4 * g + 1)) - (h 75 (35 + 3 * j + 1))), .int (20 - (2 * ((h 75 (7 + 4 * g + 1)) - (h 75 (35 + 3 * j + 1)))))] [.int (h 75 (7 + 4 * g + 2))] (am_S b) h _
        refine wp_run 2 (pc' := 115) (ls' := [.ref 74, .int (nI j), .int (nI g), .int (h 75 (35 + 3 * j + 1)), .int ((h 75 (7 + 4 * g + 1)) - (h 75 (35 + 3 * j + 1))), .int (20 - (2 * ((h 75 (7 + 4 * g + 1)) - (h 75 (35 + 3 * j + 1)))))]) (st' := [.int 4, .int (h 75 (35 + 3 * j + 1)), .int (h 75 (7 + 4 * g + 2))]) rfl ?_
        refine wp_irem rfl (by decide) ?_
        refine wp_icmp rfl (fun (cq116 : ¬ (h 75 (7 + 4 * g + 2)) = (am_rem (h 75 (35 + 3 * j + 1)) 4)) => ?_) (fun (cq116 : ¬ (¬ (h 75 (7 + 4 * g + 2)) = (am_rem (h 75 (35 + 3 * j + 1)) 4))) => ?_)
        · skip
          refine wp_run 1 (pc' := 125) (ls' := [.ref 74, .int (nI j), .int (nI g), .int (h 75 (35 + 3 * j + 1)), .int ((h 75 (7 + 4 * g + 1)) - (h 75 (35 + 3 * j + 1))), .int (20 - (2 * ((h 75 (7 + 4 * g + 1)) - (h 75 (35 + 3 * j + 1)))))]) (st' := [.int 0]) rfl ?_
          refine wp_ret rfl ?_
          have ej : pu_suitp (20 - (2 * ((h 75 (7 + 4 * g + 1)) - (h 75 (35 + 3 * j + 1))))) (h 75 (35 + 3 * j)) (h 75 (35 + 3 * j + 1)) (h 75 (7 + 4 * g)) (h 75 (7 + 4 * g + 2)) (h 75 0) = 0 := by simp (decide := true) [pu_suitp, sw53, cq116]
          rw [ej] at kk
          exact kk
        · skip
          replace cq116 := Decidable.not_not.mp cq116
          refine wp_run 2 (pc' := 125) (ls' := [.ref 74, .int (nI j), .int (nI g), .int (h 75 (35 + 3 * j + 1)), .int ((h 75 (7 + 4 * g + 1)) - (h 75 (35 + 3 * j + 1))), .int (20 - (2 * ((h 75 (7 + 4 * g + 1)) - (h 75 (35 + 3 * j + 1)))))]) (st' := [.int 30]) rfl ?_
          refine wp_ret rfl ?_
          have ej : pu_suitp (20 - (2 * ((h 75 (7 + 4 * g + 1)) - (h 75 (35 + 3 * j + 1))))) (h 75 (35 + 3 * j)) (h 75 (35 + 3 * j + 1)) (h 75 (7 + 4 * g)) (h 75 (7 + 4 * g + 2)) (h 75 0) = 30 := by simp (decide := true) [pu_suitp, sw53, cq116]
          rw [ej] at kk
          exact kk
      · skip
        refine wp_run 4 (pc' := 131) (ls' := [.ref 74, .int (nI j), .int (nI g), .int (h 75 (35 + 3 * j + 1)), .int ((h 75 (7 + 4 * g + 1)) - (h 75 (35 + 3 * j + 1))), .int (20 - (2 * ((h 75 (7 + 4 * g + 1)) - (h 75 (35 + 3 * j + 1)))))]) (st' := [.ref 74, .int ((20 - (2 * ((h 75 (7 + 4 * g + 1)) - (h 75 (35 + 3 * j + 1))))) - 5)]) rfl ?_
        refine wp_getr 75 rfl rfl rfl ?_
        refine wp_run 1 (pc' := 135) (ls' := [.ref 74, .int (nI j), .int (nI g), .int (h 75 (35 + 3 * j + 1)), .int ((h 75 (7 + 4 * g + 1)) - (h 75 (35 + 3 * j + 1))), .int (20 - (2 * ((h 75 (7 + 4 * g + 1)) - (h 75 (35 + 3 * j + 1)))))]) (st' := [.int 0, .ref 75, .int ((20 - (2 * ((h 75 (7 + 4 * g + 1)) - (h 75 (35 + 3 * j + 1))))) - 5)]) rfl ?_
        refine wp_ald (i := 0) (h 75 0) rfl rfl rfl rfl (by decide) rfl ?_
        refine wp_run 1 (pc' := 138) (ls' := [.ref 74, .int (nI j), .int (nI g), .int (h 75 (35 + 3 * j + 1)), .int ((h 75 (7 + 4 * g + 1)) - (h 75 (35 + 3 * j + 1))), .int (20 - (2 * ((h 75 (7 + 4 * g + 1)) - (h 75 (35 + 3 * j + 1)))))]) (st' := [.int 7, .int (h 75 0), .int ((20 - (2 * ((h 75 (7 + 4 * g + 1)) - (h 75 (35 + 3 * j + 1))))) - 5)]) rfl ?_
        refine wp_irem rfl (by decide) ?_
        refine wp_run 1 (pc' := 140) (ls' := [.ref 74, .int (nI j), .int (nI g), .int (h 75 (35 + 3 * j + 1)), .int ((h 75 (7 + 4 * g + 1)) - (h 75 (35 + 3 * j + 1))), .int (20 - (2 * ((h 75 (7 + 4 * g + 1)) - (h 75 (35 + 3 * j + 1)))))]) (st' := [.int 5, .int (am_rem (h 75 0) 7), .int ((20 - (2 * ((h 75 (7 + 4 * g + 1)) - (h 75 (35 + 3 * j + 1))))) - 5)]) rfl ?_
        refine wp_icmp rfl (fun (cq140 : ¬ (am_rem (h 75 0) 7) = 5) => ?_) (fun (cq140 : ¬ (¬ (am_rem (h 75 0) 7) = 5)) => ?_)
        · skip
          refine wp_run 2 (pc' := 150) (ls' := [.ref 74, .int (nI j), .int (nI g), .int (h 75 (35 + 3 * j + 1)), .int ((h 75 (7 + 4 * g + 1)) - (h 75 (35 + 3 * j + 1))), .int (20 - (2 * ((h 75 (7 + 4 * g + 1)) - (h 75 (35 + 3 * j + 1)))))]) (st' := [.int (((20 - (2 * ((h 75 (7 + 4 * g + 1)) - (h 75 (35 + 3 * j + 1))))) - 5) + 0)]) rfl ?_
          refine wp_ret rfl ?_
          have ej : pu_suitp (20 - (2 * ((h 75 (7 + 4 * g + 1)) - (h 75 (35 + 3 * j + 1))))) (h 75 (35 + 3 * j)) (h 75 (35 + 3 * j + 1)) (h 75 (7 + 4 * g)) (h 75 (7 + 4 * g + 2)) (h 75 0) = (((20 - (2 * ((h 75 (7 + 4 * g + 1)) - (h 75 (35 + 3 * j + 1))))) - 5) + 0) := by simp (decide := true) [pu_suitp, sw53, cq140]
          rw [ej] at kk
          exact kk
        · skip
          replace cq140 := Decidable.not_not.mp cq140
          refine wp_run 3 (pc' := 150) (ls' := [.ref 74, .int (nI j), .int (nI g), .int (h 75 (35 + 3 * j + 1)), .int ((h 75 (7 + 4 * g + 1)) - (h 75 (35 + 3 * j + 1))), .int (20 - (2 * ((h 75 (7 + 4 * g + 1)) - (h 75 (35 + 3 * j + 1)))))]) (st' := [.int (((20 - (2 * ((h 75 (7 + 4 * g + 1)) - (h 75 (35 + 3 * j + 1))))) - 5) + 20)]) rfl ?_
          refine wp_ret rfl ?_
          have ej : pu_suitp (20 - (2 * ((h 75 (7 + 4 * g + 1)) - (h 75 (35 + 3 * j + 1))))) (h 75 (35 + 3 * j)) (h 75 (35 + 3 * j + 1)) (h 75 (7 + 4 * g)) (h 75 (7 + 4 * g + 2)) (h 75 0) = (((20 - (2 * ((h 75 (7 + 4 * g + 1)) - (h 75 (35 + 3 * j + 1))))) - 5) + 20) := by simp (decide := true) [pu_suitp, sw53, cq140]
          rw [ej] at kk
          exact kk
      · skip
        refine wp_run 4 (pc' := 156) (ls' := [.ref 74, .int (nI j), .int (nI g), .int (h 75 (35 + 3 * j + 1)), .int ((h 75 (7 + 4 * g + 1)) - (h 75 (35 + 3 * j + 1))), .int (20 - (2 * ((h 75 (7 + 4 * g + 1)) - (h 75 (35 + 3 * j + 1)))))]) (st' := [.int 0, .int (nI g), .ref 74, .int (20 - (2 * ((h 75 (7 + 4 * g + 1)) - (h 75 (35 + 3 * j + 1)))))]) rfl ?_
        refine wp_callV (o := 74) (as := [.int (nI g), .int 0]) (rest := [.int (20 - (2 * ((h 75 (7 + 4 * g + 1)) - (h 75 (35 + 3 * j + 1)))))]) (els := [.ref 74, .int (nI g), .int 0]) rfl rfl rfl rfl rfl rfl rfl rfl (by omega) ?_
        refine sp_about (w := 0) (h 75 (7 + 4 * g)) rfl (by omega) (by omega) ?_
        show am_wp L xs _ _ _ _ 159 [.ref 74, .int (nI j), .int (nI g), .int (h 75 (35 + 3 * j + 1)), .int ((h 75 (7 + 4 * g + 1)) - (h 75 (35 + 3 * j + 1))), .int (20 - (2 * ((h 75 (7 + 4 * g + 1)) - (h 75 (35 + 3 * j + 1)))))] [.int (h 75 (7 + 4 * g)), .int (20 - (2 * ((h 75 (7 + 4 * g + 1)) - (h 75 (35 + 3 * j + 1)))))] (am_S b) h _
        refine wp_run 4 (pc' := 163) (ls' := [.ref 74, .int (nI j), .int (nI g), .int (h 75 (35 + 3 * j + 1)), .int ((h 75 (7 + 4 * g + 1)) - (h 75 (35 + 3 * j + 1))), .int (20 - (2 * ((h 75 (7 + 4 * g + 1)) - (h 75 (35 + 3 * j + 1)))))]) (st' := [.int 2, .int (nI g), .ref 74, .int ((20 - (2 * ((h 75 (7 + 4 * g + 1)) - (h 75 (35 + 3 * j + 1))))) + (h 75 (7 + 4 * g)))]) rfl ?_
        refine wp_callV (o := 74) (as := [.int (nI g), .int 2]) (rest := [.int ((20 - (2 * ((h 75 (7 + 4 * g + 1)) - (h 75 (35 + 3 * j + 1))))) + (h 75 (7 + 4 * g)))]) (els := [.ref 74, .int (nI g), .int 2]) rfl rfl rfl rfl rfl rfl rfl rfl (by omega) ?_
        refine sp_about (w := 2) (h 75 (7 + 4 * g + 2)) rfl (by omega) (by omega) ?_
        show am_wp L xs _ _ _ _ 166 [.ref 74, .int (nI j), .int (nI g), .int (h 75 (35 + 3 * j + 1)), .int ((h 75 (7 + 4 * g + 1)) - (h 75 (35 + 3 * j + 1))), .int (20 - (2 * ((h 75 (7 + 4 * g + 1)) - (h 75 (35 + 3 * j + 1)))))] [.int (h 75 (7 + 4 * g + 2)), .int ((20 - (2 * ((h 75 (7 + 4 * g + 1)) - (h 75 (35 + 3 * j + 1))))) + (h 75 (7 + 4 * g)))] (am_S b) h _
        refine wp_run 1 (pc' := 167) (ls' := [.ref 74, .int (nI j), .int (nI g), .int (h 75 (35 + 3 * j + 1)), .int ((h 75 (7 + 4 * g + 1)) - (h 75 (35 + 3 * j + 1))), .int (20 - (2 * ((h 75 (7 + 4 * g + 1)) - (h 75 (35 + 3 * j + 1)))))]) (st' := [.int (((20 - (2 * ((h 75 (7 + 4 * g + 1)) - (h 75 (35 + 3 * j + 1))))) + (h 75 (7 + 4 * g))) - (h 75 (7 + 4 * g + 2)))]) rfl ?_
        refine wp_ret rfl ?_
        have ej : pu_suitp (20 - (2 * ((h 75 (7 + 4 * g + 1)) - (h 75 (35 + 3 * j + 1))))) (h 75 (35 + 3 * j)) (h 75 (35 + 3 * j + 1)) (h 75 (7 + 4 * g)) (h 75 (7 + 4 * g + 2)) (h 75 0) = (((20 - (2 * ((h 75 (7 + 4 * g + 1)) - (h 75 (35 + 3 * j + 1))))) + (h 75 (7 + 4 * g))) - (h 75 (7 + 4 * g + 2))) := by simp (decide := true) [pu_suitp, sw53]
        rw [ej] at kk
        exact kk
      · skip
        refine wp_run 2 (pc' := 171) (ls' := [.ref 74, .int (nI j), .int (nI g), .int (h 75 (35 + 3 * j + 1)), .int ((h 75 (7 + 4 * g + 1)) - (h 75 (35 + 3 * j + 1))), .int (20 - (2 * ((h 75 (7 + 4 * g + 1)) - (h 75 (35 + 3 * j + 1)))))]) (st' := [.int 2, .int (20 - (2 * ((h 75 (7 + 4 * g + 1)) - (h 75 (35 + 3 * j + 1)))))]) rfl ?_
        refine wp_idiv rfl (by decide) ?_
        refine wp_ret rfl ?_
        have ej : pu_suitp (20 - (2 * ((h 75 (7 + 4 * g + 1)) - (h 75 (35 + 3 * j + 1))))) (h 75 (35 + 3 * j)) (h 75 (35 + 3 * j + 1)) (h 75 (7 + 4 * g)) (h 75 (7 + 4 * g + 2)) (h 75 0) = ((20 - (2 * ((h 75 (7 + 4 * g + 1)) - (h 75 (35 + 3 * j + 1))))) / 2) := by simp (decide := true) [pu_suitp, sw53]
        rw [ej] at kk
        exact kk
    · intro sw53
      refine wp_run 1 (pc' := 175) (ls' := [.ref 74, .int (nI j), .int (nI g), .int (h 75 (35 + 3 * j + 1)), .int ((h 75 (7 + 4 * g + 1)) - (h 75 (35 + 3 * j + 1))), .int (20 - (2 * ((h 75 (7 + 4 * g + 1)) - (h 75 (35 + 3 * j + 1)))))]) (st' := [.int (20 - (2 * ((h 75 (7 + 4 * g + 1)) - (h 75 (35 + 3 * j + 1)))))]) rfl ?_
      refine wp_ret rfl ?_
      simp only [List.forall_mem_cons] at sw53
      have ej : pu_suitp (20 - (2 * ((h 75 (7 + 4 * g + 1)) - (h 75 (35 + 3 * j + 1))))) (h 75 (35 + 3 * j)) (h 75 (35 + 3 * j + 1)) (h 75 (7 + 4 * g)) (h 75 (7 + 4 * g + 2)) (h 75 0) = (20 - (2 * ((h 75 (7 + 4 * g + 1)) - (h 75 (35 + 3 * j + 1))))) := by simp (decide := true) [pu_suitp, sw53]
      rw [ej] at kk
      exact kk
theorem sp_makes {L : Nat} {xs : Nat → Int32} {d ms b : Nat} {h : am_HI} {Q : am_Q} {j g : Nat} (hj : j < 7) (hg : g < 7) (hd : 1 ≤ d) (kk : Q (some (.int (pu_makes (h 75 (35 + 3 * j)) (h 75 (35 + 3 * j + 1)) (h 75 (7 + 4 * g)) (h 75 0)))) (am_S b) h) :
    am_wp L xs d 0 ms 139 0 [.ref 74, .int (nI j), .int (nI g), am_du] [] (am_S b) h Q := by
  unfold pu_makes at kk
  refine wp_run 3 (pc' := 3) (ls' := [.ref 74, .int (nI j), .int (nI g), am_du]) (st' := [.int 0, .int (nI g), .ref 74]) rfl ?_
  refine wp_callV (o := 74) (as := [.int (nI g), .int 0]) (rest := []) (els := [.ref 74, .int (nI g), .int 0]) rfl rfl rfl rfl rfl rfl rfl rfl (by omega) ?_
  refine sp_about (w := 0) (h 75 (7 + 4 * g)) rfl (by omega) (by omega) ?_
  show am_wp L xs _ _ _ _ 6 [.ref 74, .int (nI j), .int (nI g), am_du] [.int (h 75 (7 + 4 * g))] (am_S b) h _
  refine wp_run 1 (pc' := 7) (ls' := [.ref 74, .int (nI j), .int (nI g), am_du]) (st' := [.ref 74, .int (h 75 (7 + 4 * g))]) rfl ?_
  refine wp_getr 75 rfl rfl rfl ?_
  refine wp_run 1 (pc' := 11) (ls' := [.ref 74, .int (nI j), .int (nI g), am_du]) (st' := [.int 0, .ref 75, .int (h 75 (7 + 4 * g))]) rfl ?_
  refine wp_ald (i := 0) (h 75 0) rfl rfl rfl rfl (by decide) rfl ?_
  refine wp_run 1 (pc' := 13) (ls' := [.ref 74, .int (nI j), .int (nI g), am_du]) (st' := [.int 3, .int (h 75 0), .int (h 75 (7 + 4 * g))]) rfl ?_
  refine wp_irem rfl (by decide) ?_
  refine wp_run 5 (pc' := 19) (ls' := [.ref 74, .int (nI j), .int (nI g), .int ((h 75 (7 + 4 * g)) + (am_rem (h 75 0) 3))]) (st' := [.int 0, .int (nI j), .ref 74]) rfl ?_
  refine wp_callV (o := 74) (as := [.int (nI j), .int 0]) (rest := []) (els := [.ref 74, .int (nI j), .int 0]) rfl rfl rfl rfl rfl rfl rfl rfl (by omega) ?_
  refine sp_of (w := 0) (h 75 (35 + 3 * j)) rfl (by omega) (by omega) ?_
  show am_wp L xs _ _ _ _ 22 [.ref 74, .int (nI j), .int (nI g), .int ((h 75 (7 + 4 * g)) + (am_rem (h 75 0) 3))] [.int (h 75 (35 + 3 * j))] (am_S b) h _
  refine wp_switch [(1, 60), (2, 64), (3, 90), (4, 68), (5, 79), (6, 85)] rfl rfl rfl ?_ ?_
  · refine List.forall_mem_cons.mpr ⟨fun (sw22 : (h 75 (35 + 3 * j)) = _) => ?_, List.forall_mem_cons.mpr ⟨fun (sw22 : (h 75 (35 + 3 * j)) = _) => ?_, List.forall_mem_cons.mpr ⟨fun (sw22 : (h 75 (35 + 3 * j)) = _) => ?_, List.forall_mem_cons.mpr ⟨fun (sw22 : (h 75 (35 + 3 * j)) = _) => ?_, List.forall_mem_cons.mpr ⟨fun (sw22 : (h 75 (35 + 3 * j)) = _) => ?_, List.forall_mem_cons.mpr ⟨fun (sw22 : (h 75 (35 + 3 * j)) = _) => ?_, fun _ h => absurd h List.not_mem_nil⟩⟩⟩⟩⟩⟩
    · skip
      refine wp_run 3 (pc' := 63) (ls' := [.ref 74, .int (nI j), .int (nI g), .int ((h 75 (7 + 4 * g)) + (am_rem (h 75 0) 3))]) (st' := [.int (2 * ((h 75 (7 + 4 * g)) + (am_rem (h 75 0) 3)))]) rfl ?_
      refine wp_ret rfl ?_
      have ej : pu_makep ((h 75 (7 + 4 * g)) + (am_rem (h 75 0) 3)) (h 75 (35 + 3 * j)) (h 75 (35 + 3 * j + 1)) = (2 * ((h 75 (7 + 4 * g)) + (am_rem (h 75 0) 3))) := by simp (decide := true) [pu_makep, sw22]
      rw [ej] at kk
      exact kk
    · skip
      refine wp_run 2 (pc' := 66) (ls' := [.ref 74, .int (nI j), .int (nI g), .int ((h 75 (7 + 4 * g)) + (am_rem (h 75 0) 3))]) (st' := [.int 2, .int ((h 75 (7 + 4 * g)) + (am_rem (h 75 0) 3))]) rfl ?_
      refine wp_idiv rfl (by decide) ?_
      refine wp_ret rfl ?_
      have ej : pu_makep ((h 75 (7 + 4 * g)) + (am_rem (h 75 0) 3)) (h 75 (35 + 3 * j)) (h 75 (35 + 3 * j + 1)) = (((h 75 (7 + 4 * g)) + (am_rem (h 75 0) 3)) / 2) := by simp (decide := true) [pu_makep, sw22]
      rw [ej] at kk
      exact kk
    · skip
      refine wp_run 1 (pc' := 91) (ls' := [.ref 74, .int (nI j), .int (nI g), .int ((h 75 (7 + 4 * g)) + (am_rem (h 75 0) 3))]) (st' := [.int ((h 75 (7 + 4 * g)) + (am_rem (h 75 0) 3))]) rfl ?_
      refine wp_ret rfl ?_
      have ej : pu_makep ((h 75 (7 + 4 * g)) + am_rem (h 75 0) 3) (h 75 (35 + 3 * j)) (h 75 (35 + 3 * j + 1)) = ((h 75 (7 + 4 * g)) + (am_rem (h 75 0) 3)) := by simp (decide := true) [pu_makep, sw22]
      rw [ej] at kk
      exact kk
    · skip
      refine wp_run 6 (pc' := 74) (ls' := [.ref 74, .int (nI j), .int (nI g), .int ((h 75 (7 + 4 * g)) + (am_rem (h 75 0) 3))]) (st' := [.int 1, .int (nI j), .ref 74, .int (2 * ((h 75 (7 + 4 * g)) + (am_rem (h 75 0) 3)))]) rfl ?_
      refine wp_callV (o := 74) (as := [.int (nI j), .int 1]) (rest := [.int (2 * ((h 75 (7 + 4 * g)) + (am_rem (h 75 0) 3)))]) (els := [.ref 74, .int (nI j), .int 1]) rfl rfl rfl rfl rfl rfl rfl rfl (by omega) ?_
      refine sp_of (w := 1) (h 75 (35 + 3 * j + 1)) rfl (by omega) (by omega) ?_
      show am_wp L xs _ _ _ _ 77 [.ref 74, .int (nI j), .int (nI g), .int ((h 75 (7 + 4 * g)) + (am_rem (h 75 0) 3))] [.int (h 75 (35 + 3 * j + 1)), .int (2 * ((h 75 (7 + 4 * g)) + (am_rem (h 75 0) 3)))] (am_S b) h _
      refine wp_run 1 (pc' := 78) (ls' := [.ref 74, .int (nI j), .int (nI g), .int ((h 75 (7 + 4 * g)) + (am_rem (h 75 0) 3))]) (st' := [.int ((2 * ((h 75 (7 + 4 * g)) + (am_rem (h 75 0) 3))) - (h 75 (35 + 3 * j + 1)))]) rfl ?_
      refine wp_ret rfl ?_
      have ej : pu_makep ((h 75 (7 + 4 * g)) + (am_rem (h 75 0) 3)) (h 75 (35 + 3 * j)) (h 75 (35 + 3 * j + 1)) = ((2 * ((h 75 (7 + 4 * g)) + (am_rem (h 75 0) 3))) - (h 75 (35 + 3 * j + 1))) := by simp (decide := true) [pu_makep, sw22]
      rw [ej] at kk
      exact kk
    · skip
      refine wp_run 2 (pc' := 81) (ls' := [.ref 74, .int (nI j), .int (nI g), .int ((h 75 (7 + 4 * g)) + (am_rem (h 75 0) 3))]) (st' := [.int 2, .int ((h 75 (7 + 4 * g)) + (am_rem (h 75 0) 3))]) rfl ?_
      refine wp_idiv rfl (by decide) ?_
      refine wp_run 2 (pc' := 84) (ls' := [.ref 74, .int (nI j), .int (nI g), .int ((h 75 (7 + 4 * g)) + (am_rem (h 75 0) 3))]) (st' := [.int ((((h 75 (7 + 4 * g)) + (am_rem (h 75 0) 3)) / 2) + 3)]) rfl ?_
      refine wp_ret rfl ?_
      have ej : pu_makep ((h 75 (7 + 4 * g)) + (am_rem (h 75 0) 3)) (h 75 (35 + 3 * j)) (h 75 (35 + 3 * j + 1)) = ((((h 75 (7 + 4 * g)) + (am_rem (h 75 0) 3)) / 2) + 3) := by simp (decide := true) [pu_makep, sw22]
      rw [ej] at kk
      exact kk
    · skip
      refine wp_run 3 (pc' := 89) (ls' := [.ref 74, .int (nI j), .int (nI g), .int ((h 75 (7 + 4 * g)) + (am_rem (h 75 0) 3))]) (st' := [.int (30 - ((h 75 (7 + 4 * g)) + (am_rem (h 75 0) 3)))]) rfl ?_
      refine wp_ret rfl ?_
      have ej : pu_makep ((h 75 (7 + 4 * g)) + (am_rem (h 75 0) 3)) (h 75 (35 + 3 * j)) (h 75 (35 + 3 * j + 1)) = (30 - ((h 75 (7 + 4 * g)) + (am_rem (h 75 0) 3))) := by simp (decide := true) [pu_makep, sw22]
      rw [ej] at kk
      exact kk
  · intro sw22
    refine wp_run 1 (pc' := 91) (ls' := [.ref 74, .int (nI j), .int (nI g), .int ((h 75 (7 + 4 * g)) + (am_rem (h 75 0) 3))]) (st' := [.int ((h 75 (7 + 4 * g)) + (am_rem (h 75 0) 3))]) rfl ?_
    refine wp_ret rfl ?_
    simp only [List.forall_mem_cons] at sw22
    have ej : pu_makep ((h 75 (7 + 4 * g)) + (am_rem (h 75 0) 3)) (h 75 (35 + 3 * j)) (h 75 (35 + 3 * j + 1)) = ((h 75 (7 + 4 * g)) + (am_rem (h 75 0) 3)) := by simp (decide := true) [pu_makep, sw22]
    rw [ej] at kk
    exact kk
def re_sg (a : Int32) : Prop := a = 43 ∨ a = 45 ∨ a = 42 ∨ a = 47 ∨ a = 37 ∨ a = 60 ∨ a = 61 ∨ a = 62 ∨ a = 38 ∨ a = 124
theorem sp_twoOf {L : Nat} {xs : Nat → Int32} {d ms : Nat} {h : am_HI} {sh : am_SH} {Q : am_Q} {v a b2 : Int32} (hs : re_sg v) (kk : Q (some (.int (pu_j v a b2))) sh h) :
    am_wp L xs d 0 ms 143 0 [.int v, .int a, .int b2] [] sh h Q := by
  refine wp_run 1 (pc' := 1) (ls' := [.int v, .int a, .int b2]) (st' := [.int v]) rfl ?_
  refine wp_switch [(37, 144), (38, 189), (39, 203), (40, 203), (41, 203), (42, 128), (43, 120), (44, 203), (45, 124), (46, 203), (47, 132), (48, 203), (49, 203), (50, 203), (51, 203), (52, 203), (53, 203), (54, 203), (55, 203), (56, 203), (57, 203), (58, 203), (59, 203), (60, 156), (61, 167), (62, 178)] rfl rfl rfl ?_ ?_
  · refine List.forall_mem_cons.mpr ⟨fun (sw1 : v = _) => ?_, List.forall_mem_cons.mpr ⟨fun (sw1 : v = _) => ?_, List.forall_mem_cons.mpr ⟨fun (sw1 : v = _) => ?_, List.forall_mem_cons.mpr ⟨fun (sw1 : v = _) => ?_, List.forall_mem_cons.mpr ⟨fun (sw1 : v = _) => ?_, List.forall_mem_cons.mpr ⟨fun (sw1 : v = _) => ?_, List.forall_mem_cons.mpr ⟨fun (sw1 : v = _) => ?_, List.forall_mem_cons.mpr ⟨fun (sw1 : v = _) => ?_, List.forall_mem_cons.mpr ⟨fun (sw1 : v = _) => ?_, List.forall_mem_cons.mpr ⟨fun (sw1 : v = _) => ?_, List.forall_mem_cons.mpr ⟨fun (sw1 : v = _) => ?_, List.forall_mem_cons.mpr ⟨fun (sw1 : v = _) => ?_, List.forall_mem_cons.mpr ⟨fun (sw1 : v = _) => ?_, List.forall_mem_cons.mpr ⟨fun (sw1 : v = _) => ?_, List.forall_mem_cons.mpr ⟨fun (sw1 : v = _) => ?_, List.forall_mem_cons.mpr ⟨fun (sw1 : v = _) => ?_, List.forall_mem_cons.mpr ⟨fun (sw1 : v = _) => ?_, List.forall_mem_cons.mpr ⟨fun (sw1 : v = _) => ?_, List.forall_mem_cons.mpr ⟨fun (sw1 : v = _) => ?_, List.forall_mem_cons.mpr ⟨fun (sw1 : v = _) => ?_, List.forall_mem_cons.mpr ⟨fun (sw1 : v = _) => ?_, List.forall_mem_cons.mpr ⟨fun (sw1 : v = _) => ?_, List.forall_mem_cons.mpr ⟨fun (sw1 : v = _) => ?_, List.forall_mem_cons.mpr ⟨fun (sw1 : v = _) => ?_, List.forall_mem_cons.mpr ⟨fun (sw1 : v = _) => ?_, List.forall_mem_cons.mpr ⟨fun (sw1 : v = _) => ?_, fun _ h => absurd h List.not_mem_nil⟩⟩⟩⟩⟩⟩⟩⟩⟩⟩⟩⟩⟩⟩⟩⟩⟩⟩⟩⟩⟩⟩⟩⟩⟩⟩
    · skip
      refine wp_run 1 (pc' := 145) (ls' := [.int v, .int a, .int b2]) (st' := [.int b2]) rfl ?_
      refine wp_if rfl (fun (cq145 : ¬ b2 = 0) => ?_) (fun (cq145 : ¬ (¬ b2 = 0)) => ?_)
      · skip
        refine wp_run 2 (pc' := 154) (ls' := [.int v, .int a, .int b2]) (st' := [.int b2, .int a]) rfl ?_
        refine wp_irem rfl cq145 ?_
        refine wp_ret rfl ?_
        have ej : pu_j v a b2 = (am_rem a b2) := by simp (decide := true) [pu_j, sw1, cq145]
        rw [ej] at kk
        exact kk
      · skip
        replace cq145 := Decidable.not_not.mp cq145
        refine wp_run 2 (pc' := 155) (ls' := [.int v, .int a, .int b2]) (st' := [.int 0]) rfl ?_
        refine wp_ret rfl ?_
        have ej : pu_j v a b2 = 0 := by simp (decide := true) [pu_j, sw1, cq145]
        rw [ej] at kk
        exact kk
    · skip
      refine wp_run 1 (pc' := 190) (ls' := [.int v, .int a, .int b2]) (st' := [.int a]) rfl ?_
      refine wp_if rfl (fun (cq190 : a = 0) => ?_) (fun (cq190 : ¬ (a = 0)) => ?_)
      · skip
        refine wp_run 1 (pc' := 202) (ls' := [.int v, .int a, .int b2]) (st' := [.int 0]) rfl ?_
        refine wp_ret rfl ?_
        have ej : pu_j v a b2 = 0 := by simp (decide := true) [pu_j, sw1, cq190]
        rw [ej] at kk
        exact kk
      · skip
        refine wp_run 1 (pc' := 194) (ls' := [.int v, .int a, .int b2]) (st' := [.int b2]) rfl ?_
        refine wp_if rfl (fun (cq194 : b2 = 0) => ?_) (fun (cq194 : ¬ (b2 = 0)) => ?_)
        · skip
          refine wp_run 1 (pc' := 202) (ls' := [.int v, .int a, .int b2]) (st' := [.int 0]) rfl ?_
          refine wp_ret rfl ?_
          have ej : pu_j v a b2 = 0 := by simp (decide := true) [pu_j, sw1, cq190, cq194]
          rw [ej] at kk
          exact kk
        · skip
          refine wp_run 2 (pc' := 202) (ls' := [.int v, .int a, .int b2]) (st' := [.int 1]) rfl ?_
          refine wp_ret rfl ?_
          have ej : pu_j v a b2 = 1 := by simp (decide := true) [pu_j, sw1, cq190, cq194]
          rw [ej] at kk
          exact kk
    · skip
      refine wp_run 1 (pc' := 204) (ls' := [.int v, .int a, .int b2]) (st' := [.int a]) rfl ?_
      refine wp_if rfl (fun (cq204 : ¬ a = 0) => ?_) (fun (cq204 : ¬ (¬ a = 0)) => ?_)
      · skip
        refine wp_run 2 (pc' := 216) (ls' := [.int v, .int a, .int b2]) (st' := [.int 1]) rfl ?_
        refine wp_ret rfl ?_
        exact absurd sw1 (by rcases hs with e | e | e | e | e | e | e | e | e | e <;> subst e <;> decide)
      · skip
        replace cq204 := Decidable.not_not.mp cq204
        refine wp_run 1 (pc' := 208) (ls' := [.int v, .int a, .int b2]) (st' := [.int b2]) rfl ?_
        refine wp_if rfl (fun (cq208 : b2 = 0) => ?_) (fun (cq208 : ¬ (b2 = 0)) => ?_)
        · skip
          refine wp_run 1 (pc' := 216) (ls' := [.int v, .int a, .int b2]) (st' := [.int 0]) rfl ?_
          refine wp_ret rfl ?_
          exact absurd sw1 (by rcases hs with e | e | e | e | e | e | e | e | e | e <;> subst e <;> decide)
        · skip
          refine wp_run 2 (pc' := 216) (ls' := [.int v, .int a, .int b2]) (st' := [.int 1]) rfl ?_
          refine wp_ret rfl ?_
          exact absurd sw1 (by rcases hs with e | e | e | e | e | e | e | e | e | e <;> subst e <;> decide)
    · skip
      refine wp_run 1 (pc' := 204) (ls' := [.int v, .int a, .int b2]) (st' := [.int a]) rfl ?_
      refine wp_if rfl (fun (cq204 : ¬ a = 0) => ?_) (fun (cq204 : ¬ (¬ a = 0)) => ?_)
      · skip
        refine wp_run 2 (pc' := 216) (ls' := [.int v, .int a, .int b2]) (st' := [.int 1]) rfl ?_
        refine wp_ret rfl ?_
        exact absurd sw1 (by rcases hs with e | e | e | e | e | e | e | e | e | e <;> subst e <;> decide)
      · skip
        replace cq204 := Decidable.not_not.mp cq204
        refine wp_run 1 (pc' := 208) (ls' := [.int v, .int a, .int b2]) (st' := [.int b2]) rfl ?_
        refine wp_if rfl (fun (cq208 : b2 = 0) => ?_) (fun (cq208 : ¬ (b2 = 0)) => ?_)
        · skip
          refine wp_run 1 (pc' := 216) (ls' := [.int v, .int a, .int b2]) (st' := [.int 0]) rfl ?_
          refine wp_ret rfl ?_
          exact absurd sw1 (by rcases hs with e | e | e | e | e | e | e | e | e | e <;> subst e <;> decide)
        · skip
          refine wp_run 2 (pc' := 216) (ls' := [.int v, .int a, .int b2]) (st' := [.int 1]) rfl ?_
          refine wp_ret rfl ?_
          exact absurd sw1 (by rcases hs with e | e | e | e | e | e | e | e | e | e <;> subst e <;> decide)
    · skip
      refine wp_run 1 (pc' := 204) (ls' := [.int v, .int a, .int b2]) (st' := [.int a]) rfl ?_
      refine wp_if rfl (fun (cq204 : ¬ a = 0) => ?_) (fun (cq204 : ¬ (¬ a = 0)) => ?_)
      · skip
        refine wp_run 2 (pc' := 216) (ls' := [.int v, .int a, .int b2]) (st' := [.int 1]) rfl ?_
        refine wp_ret rfl ?_
        exact absurd sw1 (by rcases hs with e | e | e | e | e | e | e | e | e | e <;> subst e <;> decide)
      · skip
        replace cq204 := Decidable.not_not.mp cq204
        refine wp_run 1 (pc' := 208) (ls' := [.int v, .int a, .int b2]) (st' := [.int b2]) rfl ?_
        refine wp_if rfl (fun (cq208 : b2 = 0) => ?_) (fun (cq208 : ¬ (b2 = 0)) => ?_)
        · skip
          refine wp_run 1 (pc' := 216) (ls' := [.int v, .int a, .int b2]) (st' := [.int 0]) rfl ?_
          refine wp_ret rfl ?_
          exact absurd sw1 (by rcases hs with e | e | e | e | e | e | e | e | e | e <;> subst e <;> decide)
        · skip
          refine wp_run 2 (pc' := 216) (ls' := [.int v, .int a, .int b2]) (st' := [.int 1]) rfl ?_
          refine wp_ret rfl ?_
          exact absurd sw1 (by rcases hs with e | e | e | e | e | e | e | e | e | e <;> subst e <;> decide)
    · skip
      refine wp_run 3 (pc' := 131) (ls' := [.int v, .int a, .int b2]) (st' := [.int (a * b2)]) rfl ?_
      refine wp_ret rfl ?_
      have ej : pu_j v a b2 = (a * b2) := by simp (decide := true) [pu_j, sw1]
      rw [ej] at kk
      exact kk
    · skip
      refine wp_run 3 (pc' := 123) (ls' := [.int v, .int a, .int b2]) (st' := [.int (a + b2)]) rfl ?_
      refine wp_ret rfl ?_
      have ej : pu_j v a b2 = (a + b2) := by simp (decide := true) [pu_j, sw1]
      rw [ej] at kk
      exact kk
    · skip
      refine wp_run 1 (pc' := 204) (ls' := [.int v, .int a, .int b2]) (st' := [.int a]) rfl ?_
      refine wp_if rfl (fun (cq204 : ¬ a = 0) => ?_) (fun (cq204 : ¬ (¬ a = 0)) => ?_)
      · skip
        refine wp_run 2 (pc' := 216) (ls' := [.int v, .int a, .int b2]) (st' := [.int 1]) rfl ?_
        refine wp_ret rfl ?_
        exact absurd sw1 (by rcases hs with e | e | e | e | e | e | e | e | e | e <;> subst e <;> decide)
      · skip
        replace cq204 := Decidable.not_not.mp cq204
        refine wp_run 1 (pc' := 208) (ls' := [.int v, .int a, .int b2]) (st' := [.int b2]) rfl ?_
        refine wp_if rfl (fun (cq208 : b2 = 0) => ?_) (fun (cq208 : ¬ (b2 = 0)) => ?_)
        · skip
          refine wp_run 1 (pc' := 216) (ls' := [.int v, .int a, .int b2]) (st' := [.int 0]) rfl ?_
          refine wp_ret rfl ?_
          exact absurd sw1 (by rcases hs with e | e | e | e | e | e | e | e | e | e <;> subst e <;> decide)
        · skip
          refine wp_run 2 (pc' := 216) (ls' := [.int v, .int a, .int b2]) (st' := [.int 1]) rfl ?_
          refine wp_ret rfl ?_
          exact absurd sw1 (by rcases hs with e | e | e | e | e | e | e | e | e | e <;> subst e <;> decide)
    · skip
      refine wp_run 3 (pc' := 127) (ls' := [.int v, .int a, .int b2]) (st' := [.int (a - b2)]) rfl ?_
      refine wp_ret rfl ?_
      have ej : pu_j v a b2 = (a - b2) := by simp (decide := true) [pu_j, sw1]
      rw [ej] at kk
      exact kk
    · skip
      refine wp_run 1 (pc' := 204) (ls' := [.int v, .int a, .int b2]) (st' := [.int a]) rfl ?_
      refine wp_if rfl (fun (cq204 : ¬ a = 0) => ?_) (fun (cq204 : ¬ (¬ a = 0)) => ?_)
      · skip
        refine wp_run 2 (pc' := 216) (ls' := [.int v, .int a, .int b2]) (st' := [.int 1]) rfl ?_
        refine wp_ret rfl ?_
        exact absurd sw1 (by rcases hs with e | e | e | e | e | e | e | e | e | e <;> subst e <;> decide)
      · skip
        replace cq204 := Decidable.not_not.mp cq204
        refine wp_run 1 (pc' := 208) (ls' := [.int v, .int a, .int b2]) (st' := [.int b2]) rfl ?_
        refine wp_if rfl (fun (cq208 : b2 = 0) => ?_) (fun (cq208 : ¬ (b2 = 0)) => ?_)
        · skip
          refine wp_run 1 (pc' := 216) (ls' := [.int v, .int a, .int b2]) (st' := [.int 0]) rfl ?_
          refine wp_ret rfl ?_
          exact absurd sw1 (by rcases hs with e | e | e | e | e | e | e | e | e | e <;> subst e <;> decide)
        · skip
          refine wp_run 2 (pc' := 216) (ls' := [.int v, .int a, .int b2]) (st' := [.int 1]) rfl ?_
          refine wp_ret rfl ?_
          exact absurd sw1 (by rcases hs with e | e | e | e | e | e | e | e | e | e <;> subst e <;> decide)
    · skip
      refine wp_run 1 (pc' := 133) (ls' := [.int v, .int a, .int b2]) (st' := [.int b2]) rfl ?_
      refine wp_if rfl (fun (cq133 : ¬ b2 = 0) => ?_) (fun (cq133 : ¬ (¬ b2 = 0)) => ?_)
      · skip
        refine wp_run 2 (pc' := 142) (ls' := [.int v, .int a, .int b2]) (st' := [.int b2, .int a]) rfl ?_
        refine wp_idiv rfl cq133 ?_
        refine wp_ret rfl ?_
        have ej : pu_j v a b2 = (a / b2) := by simp (decide := true) [pu_j, sw1, cq133]
        rw [ej] at kk
        exact kk
      · skip
        replace cq133 := Decidable.not_not.mp cq133
        refine wp_run 2 (pc' := 143) (ls' := [.int v, .int a, .int b2]) (st' := [.int 0]) rfl ?_
        refine wp_ret rfl ?_
        have ej : pu_j v a b2 = 0 := by simp (decide := true) [pu_j, sw1, cq133]
        rw [ej] at kk
        exact kk
    · skip
      refine wp_run 1 (pc' := 204) (ls' := [.int v, .int a, .int b2]) (st' := [.int a]) rfl ?_
      refine wp_if rfl (fun (cq204 : ¬ a = 0) => ?_) (fun (cq204 : ¬ (¬ a = 0)) => ?_)
      · skip
        refine wp_run 2 (pc' := 216) (ls' := [.int v, .int a, .int b2]) (st' := [.int 1]) rfl ?_
        refine wp_ret rfl ?_
        exact absurd sw1 (by rcases hs with e | e | e | e | e | e | e | e | e | e <;> subst e <;> decide)
      · skip
        replace cq204 := Decidable.not_not.mp cq204
        refine wp_run 1 (pc' := 208) (ls' := [.int v, .int a, .int b2]) (st' := [.int b2]) rfl ?_
        refine wp_if rfl (fun (cq208 : b2 = 0) => ?_) (fun (cq208 : ¬ (b2 = 0)) => ?_)
        · skip
          refine wp_run 1 (pc' := 216) (ls' := [.int v, .int a, .int b2]) (st' := [.int 0]) rfl ?_
          refine wp_ret rfl ?_
          exact absurd sw1 (by rcases hs with e | e | e | e | e | e | e | e | e | e <;> subst e <;> decide)
        · skip
          refine wp_run 2 (pc' := 216) (ls' := [.int v, .int a, .int b2]) (st' := [.int 1]) rfl ?_
          refine wp_ret rfl ?_
          exact absurd sw1 (by rcases hs with e | e | e | e | e | e | e | e | e | e <;> subst e <;> decide)
    · skip
      refine wp_run 1 (pc' := 204) (ls' := [.int v, .int a, .int b2]) (st' := [.int a]) rfl ?_
      refine wp_if rfl (fun (cq204 : ¬ a = 0) => ?_) (fun (cq204 : ¬ (¬ a = 0)) => ?_)
      · skip
        refine wp_run 2 (pc' := 216) (ls' := [.int v, .int a, .int b2]) (st' := [.int 1]) rfl ?_
        refine wp_ret rfl ?_
        exact absurd sw1 (by rcases hs with e | e | e | e | e | e | e | e | e | e <;> subst e <;> decide)
      · skip
        replace cq204 := Decidable.not_not.mp cq204
        refine wp_run 1 (pc' := 208) (ls' := [.int v, .int a, .int b2]) (st' := [.int b2]) rfl ?_
        refine wp_if rfl (fun (cq208 : b2 = 0) => ?_) (fun (cq208 : ¬ (b2 = 0)) => ?_)
        · skip
          refine wp_run 1 (pc' := 216) (ls' := [.int v, .int a, .int b2]) (st' := [.int 0]) rfl ?_
          refine wp_ret rfl ?_
          exact absurd sw1 (by rcases hs with e | e | e | e | e | e | e | e | e | e <;> subst e <;> decide)
        · skip
          refine wp_run 2 (pc' := 216) (ls' := [.int v, .int a, .int b2]) (st' := [.int 1]) rfl ?_
          refine wp_ret rfl ?_
          exact absurd sw1 (by rcases hs with e | e | e | e | e | e | e | e | e | e <;> subst e <;> decide)
    · skip
      refine wp_run 1 (pc' := 204) (ls' := [.int v, .int a, .int b2]) (st' := [.int a]) rfl ?_
      refine wp_if rfl (fun (cq204 : ¬ a = 0) => ?_) (fun (cq204 : ¬ (¬ a = 0)) => ?_)
      · skip
        refine wp_run 2 (pc' := 216) (ls' := [.int v, .int a, .int b2]) (st' := [.int 1]) rfl ?_
        refine wp_ret rfl ?_
        exact absurd sw1 (by rcases hs with e | e | e | e | e | e | e | e | e | e <;> subst e <;> decide)
      · skip
        replace cq204 := Decidable.not_not.mp cq204
        refine wp_run 1 (pc' := 208) (ls' := [.int v, .int a, .int b2]) (st' := [.int b2]) rfl ?_
        refine wp_if rfl (fun (cq208 : b2 = 0) => ?_) (fun (cq208 : ¬ (b2 = 0)) => ?_)
        · skip
          refine wp_run 1 (pc' := 216) (ls' := [.int v, .int a, .int b2]) (st' := [.int 0]) rfl ?_
          refine wp_ret rfl ?_
          exact absurd sw1 (by rcases hs with e | e | e | e | e | e | e | e | e | e <;> subst e <;> decide)
        · skip
          refine wp_run 2 (pc' := 216) (ls' := [.int v, .int a, .int b2]) (st' := [.int 1]) rfl ?_
          refine wp_ret rfl ?_
          exact absurd sw1 (by rcases hs with e | e | e | e | e | e | e | e | e | e <;> subst e <;> decide)
    · skip
      refine wp_run 1 (pc' := 204) (ls' := [.int v, .int a, .int b2]) (st' := [.int a]) rfl ?_
      refine wp_if rfl (fun (cq204 : ¬ a = 0) => ?_) (fun (cq204 : ¬ (¬ a = 0)) => ?_)
      · skip
        refine wp_run 2 (pc' := 216) (ls' := [.int v, .int a, .int b2]) (st' := [.int 1]) rfl ?_
        refine wp_ret rfl ?_
        exact absurd sw1 (by rcases hs with e | e | e | e | e | e | e | e | e | e <;> subst e <;> decide)
      · skip
        replace cq204 := Decidable.not_not.mp cq204
        refine wp_run 1 (pc' := 208) (ls' := [.int v, .int a, .int b2]) (st' := [.int b2]) rfl ?_
        refine wp_if rfl (fun (cq208 : b2 = 0) => ?_) (fun (cq208 : ¬ (b2 = 0)) => ?_)
        · skip
          refine wp_run 1 (pc' := 216) (ls' := [.int v, .int a, .int b2]) (st' := [.int 0]) rfl ?_
          refine wp_ret rfl ?_
          exact absurd sw1 (by rcases hs with e | e | e | e | e | e | e | e | e | e <;> subst e <;> decide)
        · skip
          refine wp_run 2 (pc' := 216) (ls' := [.int v, .int a, .int b2]) (st' := [.int 1]) rfl ?_
          refine wp_ret rfl ?_
          exact absurd sw1 (by rcases hs with e | e | e | e | e | e | e | e | e | e <;> subst e <;> decide)
    · skip
      refine wp_run 1 (pc' := 204) (ls' := [.int v, .int a, .int b2]) (st' := [.int a]) rfl ?_
      refine wp_if rfl (fun (cq204 : ¬ a = 0) => ?_) (fun (cq204 : ¬ (¬ a = 0)) => ?_)
      · skip
        refine wp_run 2 (pc' := 216) (ls' := [.int v, .int a, .int b2]) (st' := [.int 1]) rfl ?_
        refine wp_ret rfl ?_
        exact absurd sw1 (by rcases hs with e | e | e | e | e | e | e | e | e | e <;> subst e <;> decide)
      · skip
        replace cq204 := Decidable.not_not.mp cq204
        refine wp_run 1 (pc' := 208) (ls' := [.int v, .int a, .int b2]) (st' := [.int b2]) rfl ?_
        refine wp_if rfl (fun (cq208 : b2 = 0) => ?_) (fun (cq208 : ¬ (b2 = 0)) => ?_)
        · skip
          refine wp_run 1 (pc' := 216) (ls' := [.int v, .int a, .int b2]) (st' := [.int 0]) rfl ?_
          refine wp_ret rfl ?_
          exact absurd sw1 (by rcases hs with e | e | e | e | e | e | e | e | e | e <;> subst e <;> decide)
        · skip
          refine wp_run 2 (pc' := 216) (ls' := [.int v, .int a, .int b2]) (st' := [.int 1]) rfl ?_
          refine wp_ret rfl ?_
          exact absurd sw1 (by rcases hs with e | e | e | e | e | e | e | e | e | e <;> subst e <;> decide)
    · skip
      refine wp_run 1 (pc' := 204) (ls' := [.int v, .int a, .int b2]) (st' := [.int a]) rfl ?_
      refine wp_if rfl (fun (cq204 : ¬ a = 0) => ?_) (fun (cq204 : ¬ (¬ a = 0)) => ?_)
      · skip
        refine wp_run 2 (pc' := 216) (ls' := [.int v, .int a, .int b2]) (st' := [.int 1]) rfl ?_
        refine wp_ret rfl ?_
        exact absurd sw1 (by rcases hs with e | e | e | e | e | e | e | e | e | e <;> subst e <;> decide)
      · skip
        replace cq204 := Decidable.not_not.mp cq204
        refine wp_run 1 (pc' := 208) (ls' := [.int v, .int a, .int b2]) (st' := [.int b2]) rfl ?_
        refine wp_if rfl (fun (cq208 : b2 = 0) => ?_) (fun (cq208 : ¬ (b2 = 0)) => ?_)
        · skip
          refine wp_run 1 (pc' := 216) (ls' := [.int v, .int a, .int b2]) (st' := [.int 0]) rfl ?_
          refine wp_ret rfl ?_
          exact absurd sw1 (by rcases hs with e | e | e | e | e | e | e | e | e | e <;> subst e <;> decide)
        · skip
          refine wp_run 2 (pc' := 216) (ls' := [.int v, .int a, .int b2]) (st' := [.int 1]) rfl ?_
          refine wp_ret rfl ?_
          exact absurd sw1 (by rcases hs with e | e | e | e | e | e | e | e | e | e <;> subst e <;> decide)
    · skip
      refine wp_run 1 (pc' := 204) (ls' := [.int v, .int a, .int b2]) (st' := [.int a]) rfl ?_
      refine wp_if rfl (fun (cq204 : ¬ a = 0) => ?_) (fun (cq204 : ¬ (¬ a = 0)) => ?_)
      · skip
        refine wp_run 2 (pc' := 216) (ls' := [.int v, .int a, .int b2]) (st' := [.int 1]) rfl ?_
        refine wp_ret rfl ?_
        exact absurd sw1 (by rcases hs with e | e | e | e | e | e | e | e | e | e <;> subst e <;> decide)
      · skip
        replace cq204 := Decidable.not_not.mp cq204
        refine wp_run 1 (pc' := 208) (ls' := [.int v, .int a, .int b2]) (st' := [.int b2]) rfl ?_
        refine wp_if rfl (fun (cq208 : b2 = 0) => ?_) (fun (cq208 : ¬ (b2 = 0)) => ?_)
        · skip
          refine wp_run 1 (pc' := 216) (ls' := [.int v, .int a, .int b2]) (st' := [.int 0]) rfl ?_
          refine wp_ret rfl ?_
          exact absurd sw1 (by rcases hs with e | e | e | e | e | e | e | e | e | e <;> subst e <;> decide)
        · skip
          refine wp_run 2 (pc' := 216) (ls' := [.int v, .int a, .int b2]) (st' := [.int 1]) rfl ?_
          refine wp_ret rfl ?_
          exact absurd sw1 (by rcases hs with e | e | e | e | e | e | e | e | e | e <;> subst e <;> decide)
    · skip
      refine wp_run 1 (pc' := 204) (ls' := [.int v, .int a, .int b2]) (st' := [.int a]) rfl ?_
      refine wp_if rfl (fun (cq204 : ¬ a = 0) => ?_) (fun (cq204 : ¬ (¬ a = 0)) => ?_)
      · skip
        refine wp_run 2 (pc' := 216) (ls' := [.int v, .int a, .int b2]) (st' := [.int 1]) rfl ?_
        refine wp_ret rfl ?_
        exact absurd sw1 (by rcases hs with e | e | e | e | e | e | e | e | e | e <;> subst e <;> decide)
      · skip
        replace cq204 := Decidable.not_not.mp cq204
        refine wp_run 1 (pc' := 208) (ls' := [.int v, .int a, .int b2]) (st' := [.int b2]) rfl ?_
        refine wp_if rfl (fun (cq208 : b2 = 0) => ?_) (fun (cq208 : ¬ (b2 = 0)) => ?_)
        · skip
          refine wp_run 1 (pc' := 216) (ls' := [.int v, .int a, .int b2]) (st' := [.int 0]) rfl ?_
          refine wp_ret rfl ?_
          exact absurd sw1 (by rcases hs with e | e | e | e | e | e | e | e | e | e <;> subst e <;> decide)
        · skip
          refine wp_run 2 (pc' := 216) (ls' := [.int v, .int a, .int b2]) (st' := [.int 1]) rfl ?_
          refine wp_ret rfl ?_
          exact absurd sw1 (by rcases hs with e | e | e | e | e | e | e | e | e | e <;> subst e <;> decide)
    · skip
      refine wp_run 1 (pc' := 204) (ls' := [.int v, .int a, .int b2]) (st' := [.int a]) rfl ?_
      refine wp_if rfl (fun (cq204 : ¬ a = 0) => ?_) (fun (cq204 : ¬ (¬ a = 0)) => ?_)
      · skip
        refine wp_run 2 (pc' := 216) (ls' := [.int v, .int a, .int b2]) (st' := [.int 1]) rfl ?_
        refine wp_ret rfl ?_
        exact absurd sw1 (by rcases hs with e | e | e | e | e | e | e | e | e | e <;> subst e <;> decide)
      · skip
        replace cq204 := Decidable.not_not.mp cq204
        refine wp_run 1 (pc' := 208) (ls' := [.int v, .int a, .int b2]) (st' := [.int b2]) rfl ?_
        refine wp_if rfl (fun (cq208 : b2 = 0) => ?_) (fun (cq208 : ¬ (b2 = 0)) => ?_)
        · skip
          refine wp_run 1 (pc' := 216) (ls' := [.int v, .int a, .int b2]) (st' := [.int 0]) rfl ?_
          refine wp_ret rfl ?_
          exact absurd sw1 (by rcases hs with e | e | e | e | e | e | e | e | e | e <;> subst e <;> decide)
        · skip
          refine wp_run 2 (pc' := 216) (ls' := [.int v, .int a, .int b2]) (st' := [.int 1]) rfl ?_
          refine wp_ret rfl ?_
          exact absurd sw1 (by rcases hs with e | e | e | e | e | e | e | e | e | e <;> subst e <;> decide)
    · skip
      refine wp_run 1 (pc' := 204) (ls' := [.int v, .int a, .int b2]) (st' := [.int a]) rfl ?_
      refine wp_if rfl (fun (cq204 : ¬ a = 0) => ?_) (fun (cq204 : ¬ (¬ a = 0)) => ?_)
      · skip
        refine wp_run 2 (pc' := 216) (ls' := [.int v, .int a, .int b2]) (st' := [.int 1]) rfl ?_
        refine wp_ret rfl ?_
        exact absurd sw1 (by rcases hs with e | e | e | e | e | e | e | e | e | e <;> subst e <;> decide)
      · skip
        replace cq204 := Decidable.not_not.mp cq204
        refine wp_run 1 (pc' := 208) (ls' := [.int v, .int a, .int b2]) (st' := [.int b2]) rfl ?_
        refine wp_if rfl (fun (cq208 : b2 = 0) => ?_) (fun (cq208 : ¬ (b2 = 0)) => ?_)
        · skip
          refine wp_run 1 (pc' := 216) (ls' := [.int v, .int a, .int b2]) (st' := [.int 0]) rfl ?_
          refine wp_ret rfl ?_
          exact absurd sw1 (by rcases hs with e | e | e | e | e | e | e | e | e | e <;> subst e <;> decide)
        · skip
          refine wp_run 2 (pc' := 216) (ls' := [.int v, .int a, .int b2]) (st' := [.int 1]) rfl ?_
          refine wp_ret rfl ?_
          exact absurd sw1 (by rcases hs with e | e | e | e | e | e | e | e | e | e <;> subst e <;> decide)
    · skip
      refine wp_run 1 (pc' := 204) (ls' := [.int v, .int a, .int b2]) (st' := [.int a]) rfl ?_
      refine wp_if rfl (fun (cq204 : ¬ a = 0) => ?_) (fun (cq204 : ¬ (¬ a = 0)) => ?_)
      · skip
        refine wp_run 2 (pc' := 216) (ls' := [.int v, .int a, .int b2]) (st' := [.int 1]) rfl ?_
        refine wp_ret rfl ?_
        exact absurd sw1 (by rcases hs with e | e | e | e | e | e | e | e | e | e <;> subst e <;> decide)
      · skip
        replace cq204 := Decidable.not_not.mp cq204
        refine wp_run 1 (pc' := 208) (ls' := [.int v, .int a, .int b2]) (st' := [.int b2]) rfl ?_
        refine wp_if rfl (fun (cq208 : b2 = 0) => ?_) (fun (cq208 : ¬ (b2 = 0)) => ?_)
        · skip
          refine wp_run 1 (pc' := 216) (ls' := [.int v, .int a, .int b2]) (st' := [.int 0]) rfl ?_
          refine wp_ret rfl ?_
          exact absurd sw1 (by rcases hs with e | e | e | e | e | e | e | e | e | e <;> subst e <;> decide)
        · skip
          refine wp_run 2 (pc' := 216) (ls' := [.int v, .int a, .int b2]) (st' := [.int 1]) rfl ?_
          refine wp_ret rfl ?_
          exact absurd sw1 (by rcases hs with e | e | e | e | e | e | e | e | e | e <;> subst e <;> decide)
    · skip
      refine wp_run 1 (pc' := 204) (ls' := [.int v, .int a, .int b2]) (st' := [.int a]) rfl ?_
      refine wp_if rfl (fun (cq204 : ¬ a = 0) => ?_) (fun (cq204 : ¬ (¬ a = 0)) => ?_)
      · skip
        refine wp_run 2 (pc' := 216) (ls' := [.int v, .int a, .int b2]) (st' := [.int 1]) rfl ?_
        refine wp_ret rfl ?_
        exact absurd sw1 (by rcases hs with e | e | e | e | e | e | e | e | e | e <;> subst e <;> decide)
      · skip
        replace cq204 := Decidable.not_not.mp cq204
        refine wp_run 1 (pc' := 208) (ls' := [.int v, .int a, .int b2]) (st' := [.int b2]) rfl ?_
        refine wp_if rfl (fun (cq208 : b2 = 0) => ?_) (fun (cq208 : ¬ (b2 = 0)) => ?_)
        · skip
          refine wp_run 1 (pc' := 216) (ls' := [.int v, .int a, .int b2]) (st' := [.int 0]) rfl ?_
          refine wp_ret rfl ?_
          exact absurd sw1 (by rcases hs with e | e | e | e | e | e | e | e | e | e <;> subst e <;> decide)
        · skip
          refine wp_run 2 (pc' := 216) (ls' := [.int v, .int a, .int b2]) (st' := [.int 1]) rfl ?_
          refine wp_ret rfl ?_
          exact absurd sw1 (by rcases hs with e | e | e | e | e | e | e | e | e | e <;> subst e <;> decide)
    · skip
      refine wp_run 2 (pc' := 158) (ls' := [.int v, .int a, .int b2]) (st' := [.int b2, .int a]) rfl ?_
      refine wp_icmp rfl (fun (cq158 : b2 ≤ a) => ?_) (fun (cq158 : ¬ (b2 ≤ a)) => ?_)
      · skip
        refine wp_run 1 (pc' := 166) (ls' := [.int v, .int a, .int b2]) (st' := [.int 0]) rfl ?_
        refine wp_ret rfl ?_
        have ej : pu_j v a b2 = 0 := by simp (decide := true) [pu_j, sw1, cq158]
        rw [ej] at kk
        exact kk
      · skip
        refine wp_run 2 (pc' := 166) (ls' := [.int v, .int a, .int b2]) (st' := [.int 1]) rfl ?_
        refine wp_ret rfl ?_
        have ej : pu_j v a b2 = 1 := by simp (decide := true) [pu_j, sw1, cq158]
        rw [ej] at kk
        exact kk
    · skip
      refine wp_run 2 (pc' := 169) (ls' := [.int v, .int a, .int b2]) (st' := [.int b2, .int a]) rfl ?_
      refine wp_icmp rfl (fun (cq169 : ¬ a = b2) => ?_) (fun (cq169 : ¬ (¬ a = b2)) => ?_)
      · skip
        refine wp_run 1 (pc' := 177) (ls' := [.int v, .int a, .int b2]) (st' := [.int 0]) rfl ?_
        refine wp_ret rfl ?_
        have ej : pu_j v a b2 = 0 := by simp (decide := true) [pu_j, sw1, cq169]
        rw [ej] at kk
        exact kk
      · skip
        replace cq169 := Decidable.not_not.mp cq169
        refine wp_run 2 (pc' := 177) (ls' := [.int v, .int a, .int b2]) (st' := [.int 1]) rfl ?_
        refine wp_ret rfl ?_
        have ej : pu_j v a b2 = 1 := by simp (decide := true) [pu_j, sw1, cq169]
        rw [ej] at kk
        exact kk
    · skip
      refine wp_run 2 (pc' := 180) (ls' := [.int v, .int a, .int b2]) (st' := [.int b2, .int a]) rfl ?_
      refine wp_icmp rfl (fun (cq180 : a ≤ b2) => ?_) (fun (cq180 : ¬ (a ≤ b2)) => ?_)
      · skip
        refine wp_run 1 (pc' := 188) (ls' := [.int v, .int a, .int b2]) (st' := [.int 0]) rfl ?_
        refine wp_ret rfl ?_
        have ej : pu_j v a b2 = 0 := by simp (decide := true) [pu_j, sw1, cq180]
        rw [ej] at kk
        exact kk
      · skip
        refine wp_run 2 (pc' := 188) (ls' := [.int v, .int a, .int b2]) (st' := [.int 1]) rfl ?_
        refine wp_ret rfl ?_
        have ej : pu_j v a b2 = 1 := by simp (decide := true) [pu_j, sw1, cq180]
        rw [ej] at kk
        exact kk
  · intro sw1
    refine wp_run 1 (pc' := 204) (ls' := [.int v, .int a, .int b2]) (st' := [.int a]) rfl ?_
    refine wp_if rfl (fun (cq204 : ¬ a = 0) => ?_) (fun (cq204 : ¬ (¬ a = 0)) => ?_)
    · skip
      refine wp_run 2 (pc' := 216) (ls' := [.int v, .int a, .int b2]) (st' := [.int 1]) rfl ?_
      refine wp_ret rfl ?_
      simp only [List.forall_mem_cons] at sw1
      have e124 : v = 124 := by rcases hs with e | e | e | e | e | e | e | e | e | e <;> simp_all
      have ej : pu_j v a b2 = 1 := by simp (decide := true) [pu_j, e124, cq204]
      rw [ej] at kk
      exact kk
    · skip
      replace cq204 := Decidable.not_not.mp cq204
      refine wp_run 1 (pc' := 208) (ls' := [.int v, .int a, .int b2]) (st' := [.int b2]) rfl ?_
      refine wp_if rfl (fun (cq208 : b2 = 0) => ?_) (fun (cq208 : ¬ (b2 = 0)) => ?_)
      · skip
        refine wp_run 1 (pc' := 216) (ls' := [.int v, .int a, .int b2]) (st' := [.int 0]) rfl ?_
        refine wp_ret rfl ?_
        simp only [List.forall_mem_cons] at sw1
        have e124 : v = 124 := by rcases hs with e | e | e | e | e | e | e | e | e | e <;> simp_all
        have ej : pu_j v a b2 = 0 := by simp (decide := true) [pu_j, e124, cq204, cq208]
        rw [ej] at kk
        exact kk
      · skip
        refine wp_run 2 (pc' := 216) (ls' := [.int v, .int a, .int b2]) (st' := [.int 1]) rfl ?_
        refine wp_ret rfl ?_
        simp only [List.forall_mem_cons] at sw1
        have e124 : v = 124 := by rcases hs with e | e | e | e | e | e | e | e | e | e <;> simp_all
        have ej : pu_j v a b2 = 1 := by simp (decide := true) [pu_j, e124, cq204, cq208]
        rw [ej] at kk
        exact kk
