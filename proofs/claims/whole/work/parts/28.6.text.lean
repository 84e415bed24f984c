/-! reading a text: the class's reader -/
theorem sp_sgtop {L : Nat} {xs : Nat → Int32} {d ms : Nat} {Q : am_Q} {h : am_HI} {u : Nat} {o p : Nat} {w : Bool} {c s : List Int32} {X : am_HI} (hX : cr_st h X u o (w, c, s, p)) (hl : s.length ≤ 60) (kk : Q (some (.int (tx_hd s))) (am_S 10) X) : am_wp L xs d 0 ms 57 0 [.ref 59] [] (am_S 10) X Q := by
  cases s with
  | nil => exact sp_top0 (o := 59) rfl (show X 59 1 = nI 0 from hX.2.2.2.2.2.2.2.1) kk
  | cons x r =>
    have hl2 : r.length < 60 := hl
    refine sp_top (o := 59) (cap := 60) (n := r.length) rfl rfl rfl rfl (show X 59 1 = nI (r.length + 1) from hX.2.2.2.2.2.2.2.1) hl2 ?_
    rw [show X (59 + 1) r.length = tx_hd (x :: r) from hX.2.2.2.2.2.2.2.2.1]
    exact kk
theorem lp_closeNots {L : Nat} {xs : Nat → Int32} {d ms : Nat} {Q : am_Q} {h : am_HI} {u : Nat} {w : Bool} {p : Nat} (hd : 2 ≤ d) :
    ∀ (s c : List Int32) (i : Nat) (X : am_HI), cr_st h X u (tx_op s) (w, c, s, p) → c.length + s.length ≤ 60 → i + s.length ≤ 60 → (kk : ∀ X2, cr_st h X2 u (tx_op (tx_cn s c).2) (w, (tx_cn s c).1, (tx_cn s c).2, p) → Q none (am_S 10) X2) → am_wp L xs d 0 ms 56 2 [.ref 56, .int (nI i)] [] (am_S 10) X Q := by
  intro s
  induction s with
  | nil =>
    intro c i X hX hl hi kk
    refine wp_run 2 (pc' := 5) (ls' := [.ref 56, .int (nI i)]) (st' := [.int 60, .int (nI i)]) rfl ?_
    refine wp_icmp rfl (fun (cq5 : 60 ≤ (nI i)) => ?_) (fun (cq5 : ¬ (60 ≤ (nI i))) => ?_)
    · skip
      have cq5n : 60 ≤ i := (nI_leI (a := 60) (b := i) (by omega) (by omega)).mp cq5
      refine wp_retv rfl ?_
      exact kk X hX
    · skip
      have cq5n : ¬ (60 ≤ i) := fun q => cq5 ((nI_leI (a := 60) (b := i) (by omega) (by omega)).mpr q)
      refine wp_run 1 (pc' := 9) (ls' := [.ref 56, .int (nI i)]) (st' := [.ref 56]) rfl ?_
      refine wp_getr 59 rfl rfl rfl ?_
      refine wp_callV (o := 59) (as := []) (rest := []) (els := [.ref 59]) rfl rfl rfl rfl rfl rfl rfl rfl (by omega) ?_
      refine sp_sgtop hX (by omega) ?_
      show am_wp L xs _ _ _ _ 15 [.ref 56, .int (nI i)] [.int (tx_hd ([]))] (am_S 10) X _
      refine wp_run 1 (pc' := 17) (ls' := [.ref 56, .int (nI i)]) (st' := [.int 33, .int (tx_hd ([]))]) rfl ?_
      refine wp_icmp_t rfl (show ¬ (tx_hd ([])) = 33 from (show ¬ (0 : Int32) = 33 by decide)) ?_
      refine wp_retv rfl ?_
      exact kk X hX
  | cons x s ih =>
    intro c i X hX hl hi kk
    have hl2 : c.length + s.length + 1 ≤ 60 := hl
    have hi2 : i + s.length + 1 ≤ 60 := hi
    have hls : (x :: s).length = s.length + 1 := rfl
    refine wp_run 2 (pc' := 5) (ls' := [.ref 56, .int (nI i)]) (st' := [.int 60, .int (nI i)]) rfl ?_
    refine wp_icmp_f rfl (show ¬ (60 ≤ (nI i)) from mt (nI_leI (a := 60) (b := i) (by omega) (by omega)).mp (by omega)) ?_
    refine wp_run 1 (pc' := 9) (ls' := [.ref 56, .int (nI i)]) (st' := [.ref 56]) rfl ?_
    refine wp_getr 59 rfl rfl rfl ?_
    refine wp_callV (o := 59) (as := []) (rest := []) (els := [.ref 59]) rfl rfl rfl rfl rfl rfl rfl rfl (by omega) ?_
    refine sp_sgtop hX (by omega) ?_
    show am_wp L xs _ _ _ _ 15 [.ref 56, .int (nI i)] [.int (tx_hd (x :: s))] (am_S 10) X _
    refine wp_run 1 (pc' := 17) (ls' := [.ref 56, .int (nI i)]) (st' := [.int 33, .int (tx_hd (x :: s))]) rfl ?_
    refine wp_icmp rfl (fun (cq17 : ¬ (tx_hd (x :: s)) = 33) => ?_) (fun (cq17 : ¬ (¬ (tx_hd (x :: s)) = 33)) => ?_)
    · skip
      refine wp_retv rfl ?_
      refine kk X ?_
      rw [show tx_cn (x :: s) c = (c, x :: s) from if_neg cq17]
      exact hX
    · skip
      replace cq17 := Decidable.not_not.mp cq17
      have e33 : x = 33 := cq17
      subst e33
      refine wp_run 1 (pc' := 21) (ls' := [.ref 56, .int (nI i)]) (st' := [.ref 56]) rfl ?_
      refine wp_getr 57 rfl rfl rfl ?_
      refine wp_run 1 (pc' := 25) (ls' := [.ref 56, .int (nI i)]) (st' := [.ref 56, .ref 57]) rfl ?_
      refine wp_getr 59 rfl rfl rfl ?_
      refine wp_callV (o := 59) (as := []) (rest := [.ref 57]) (els := [.ref 59]) rfl rfl rfl rfl rfl rfl rfl rfl (by omega) ?_
      refine sp_pop (o := 59) (cap := 60) (n := s.length) rfl rfl rfl rfl (show _ = nI (s.length + 1) from hX.2.2.2.2.2.2.2.1) (by omega) ?_
      rw [show X (59 + 1) s.length = 33 from hX.2.2.2.2.2.2.2.2.1]
      show am_wp L xs _ _ _ _ 31 [.ref 56, .int (nI i)] [.int 33, .ref 57] (am_S 10) (am_u X 59 1 (nI s.length)) _
      refine wp_run 1 (pc' := 32) (ls' := [.ref 56, .int (nI i)]) (st' := [.int (-33), .ref 57]) rfl ?_
      refine wp_callV (o := 57) (as := [.int (-33)]) (rest := []) (els := [.ref 57, .int (-33)]) rfl rfl rfl rfl rfl rfl rfl rfl (by omega) ?_
      refine sp_push (o := 57) (cap := 60) (n := c.length) (v := (-33)) rfl rfl rfl rfl (cr_pop hX).2.2.2.2.2.1 (by omega) ?_
      show am_wp L xs _ _ _ _ 35 [.ref 56, .int (nI i)] [] (am_S 10) (am_u (am_u (am_u X 59 1 (nI s.length)) 58 c.length (-33)) 57 1 (nI (c.length + 1))) _
      refine wp_run 2 (pc' := 37) (ls' := [.ref 56, .int (nI i)]) (st' := [.ref 56, .ref 56]) rfl ?_
      refine wp_geti (a := 5) (nI (tx_op s + 1)) (show X 56 5 = nI (tx_op s + 1) from hX.2.2.2.1.trans (by rw [tx_op_o (Or.inl rfl)])) rfl rfl rfl ?_
      refine wp_run 2 (pc' := 42) (ls' := [.ref 56, .int (nI i)]) (st' := [.int ((nI (tx_op s + 1)) - 1), .ref 56]) rfl ?_
      rw [show (((nI (tx_op s + 1)) - 1) : Int32) = (nI (tx_op s)) from nI_pred (tx_op s)]
      refine wp_puti rfl rfl ?_
      refine wp_run 2 (pc' := 2) (ls' := [.ref 56, .int ((nI i) + 1)]) (st' := []) rfl ?_
      rw [show (((nI i) + 1) : Int32) = (nI (i + 1)) from nI_add i 1]
      have hlc : (c ++ [-33]).length = c.length + 1 := List.length_append
      exact ih (c ++ [-33]) (i + 1) _ (cr_o (cr_out (v := (-33)) (cr_pop hX))) (by omega) (by omega) kk
theorem sp_closeNots {L : Nat} {xs : Nat → Int32} {d ms : Nat} {Q : am_Q} {h : am_HI} {u : Nat} {w : Bool} {p : Nat} {s c : List Int32} {X : am_HI} (hX : cr_st h X u (tx_op s) (w, c, s, p)) (hl : c.length + s.length ≤ 60) (hd : 2 ≤ d) (kk : ∀ X2, cr_st h X2 u (tx_op (tx_cn s c).2) (w, (tx_cn s c).1, (tx_cn s c).2, p) → Q none (am_S 10) X2) :
    am_wp L xs d 0 ms 56 0 [.ref 56, am_du] [] (am_S 10) X Q := by
  refine wp_run 2 (pc' := 2) (ls' := [.ref 56, .int 0]) (st' := []) rfl ?_
  exact lp_closeNots hd s c 0 X hX hl (by omega) kk
theorem lp_sendOut {L : Nat} {xs : Nat → Int32} {d ms : Nat} {Q : am_Q} {h : am_HI} {u : Nat} {w : Bool} {p l o : Nat} (hl1 : 1 ≤ l) (hl6 : l ≤ 6) (hd : 2 ≤ d) :
    ∀ (s c : List Int32) (i : Nat) (X : am_HI), cr_st h X u o (w, c, s, p) → c.length + s.length ≤ 60 → i + s.length ≤ 60 → (kk : ∀ X2, cr_st h X2 u o (w, (tx_so l s c).1, (tx_so l s c).2, p) → Q none (am_S 10) X2) → am_wp L xs d 0 ms 61 2 [.ref 56, .int (nI l), .int (nI i)] [] (am_S 10) X Q := by
  intro s
  induction s with
  | nil =>
    intro c i X hX hl hi kk
    have hlv : tx_lev (tx_hd []) = 0 := by decide
    refine wp_run 2 (pc' := 5) (ls' := [.ref 56, .int (nI l), .int (nI i)]) (st' := [.int 60, .int (nI i)]) rfl ?_
    refine wp_icmp rfl (fun (cq5 : 60 ≤ (nI i)) => ?_) (fun (cq5 : ¬ (60 ≤ (nI i))) => ?_)
    · skip
      have cq5n : 60 ≤ i := (nI_leI (a := 60) (b := i) (by omega) (by omega)).mp cq5
      refine wp_retv rfl ?_
      exact kk X hX
    · skip
      have cq5n : ¬ (60 ≤ i) := fun q => cq5 ((nI_leI (a := 60) (b := i) (by omega) (by omega)).mpr q)
      refine wp_run 1 (pc' := 9) (ls' := [.ref 56, .int (nI l), .int (nI i)]) (st' := [.ref 56]) rfl ?_
      refine wp_getr 59 rfl rfl rfl ?_
      refine wp_callV (o := 59) (as := []) (rest := []) (els := [.ref 59]) rfl rfl rfl rfl rfl rfl rfl rfl (by omega) ?_
      refine sp_sgtop hX (by omega) ?_
      show am_wp L xs _ _ _ _ 15 [.ref 56, .int (nI l), .int (nI i)] [.int (tx_hd ([]))] (am_S 10) X _
      refine wp_callS (as := [.int (tx_hd ([]))]) (rest := []) (els := [.int (tx_hd ([]))]) rfl rfl rfl rfl rfl rfl rfl rfl (by omega) ?_
      refine sp_levelOf ?_
      show am_wp L xs _ _ _ _ 18 [.ref 56, .int (nI l), .int (nI i)] [.int (nI (tx_lev (tx_hd ([]))))] (am_S 10) X _
      refine wp_run 1 (pc' := 19) (ls' := [.ref 56, .int (nI l), .int (nI i)]) (st' := [.int (nI l), .int (nI (tx_lev (tx_hd ([]))))]) rfl ?_
      refine wp_icmp_t rfl (show (nI (tx_lev (tx_hd ([])))) < (nI l) from (nI_ltI (a := (tx_lev (tx_hd ([])))) (b := l) (by omega) (by omega)).mpr (by omega)) ?_
      refine wp_retv rfl ?_
      exact kk X hX
  | cons x s ih =>
    intro c i X hX hl hi kk
    have hl2 : c.length + s.length + 1 ≤ 60 := hl
    have hi2 : i + s.length + 1 ≤ 60 := hi
    have hls : (x :: s).length = s.length + 1 := rfl
    have hxx : tx_hd (x :: s) = x := rfl
    have hl5 := tx_lev_le (tx_hd (x :: s))
    refine wp_run 2 (pc' := 5) (ls' := [.ref 56, .int (nI l), .int (nI i)]) (st' := [.int 60, .int (nI i)]) rfl ?_
    refine wp_icmp_f rfl (show ¬ (60 ≤ (nI i)) from mt (nI_leI (a := 60) (b := i) (by omega) (by omega)).mp (by omega)) ?_
    refine wp_run 1 (pc' := 9) (ls' := [.ref 56, .int (nI l), .int (nI i)]) (st' := [.ref 56]) rfl ?_
    refine wp_getr 59 rfl rfl rfl ?_
    refine wp_callV (o := 59) (as := []) (rest := []) (els := [.ref 59]) rfl rfl rfl rfl rfl rfl rfl rfl (by omega) ?_
    refine sp_sgtop hX (by omega) ?_
    show am_wp L xs _ _ _ _ 15 [.ref 56, .int (nI l), .int (nI i)] [.int (tx_hd (x :: s))] (am_S 10) X _
    refine wp_callS (as := [.int (tx_hd (x :: s))]) (rest := []) (els := [.int (tx_hd (x :: s))]) rfl rfl rfl rfl rfl rfl rfl rfl (by omega) ?_
    refine sp_levelOf ?_
    show am_wp L xs _ _ _ _ 18 [.ref 56, .int (nI l), .int (nI i)] [.int (nI (tx_lev (tx_hd (x :: s))))] (am_S 10) X _
    refine wp_run 1 (pc' := 19) (ls' := [.ref 56, .int (nI l), .int (nI i)]) (st' := [.int (nI l), .int (nI (tx_lev (tx_hd (x :: s))))]) rfl ?_
    refine wp_icmp rfl (fun (cq19 : (nI (tx_lev (tx_hd (x :: s)))) < (nI l)) => ?_) (fun (cq19 : ¬ ((nI (tx_lev (tx_hd (x :: s)))) < (nI l))) => ?_)
    · skip
      have cq19n : (tx_lev (tx_hd (x :: s))) < l := (nI_ltI (a := (tx_lev (tx_hd (x :: s)))) (b := l) (by omega) (by omega)).mp cq19
      refine wp_retv rfl ?_
      refine kk X ?_
      rw [show tx_so l (x :: s) c = (c, x :: s) from if_neg (by rw [hxx] at cq19n; omega)]
      exact hX
    · skip
      have cq19n : ¬ ((tx_lev (tx_hd (x :: s))) < l) := fun q => cq19 ((nI_ltI (a := (tx_lev (tx_hd (x :: s)))) (b := l) (by omega) (by omega)).mpr q)
      refine wp_run 1 (pc' := 23) (ls' := [.ref 56, .int (nI l), .int (nI i)]) (st' := [.ref 56]) rfl ?_
      refine wp_getr 57 rfl rfl rfl ?_
      refine wp_run 1 (pc' := 27) (ls' := [.ref 56, .int (nI l), .int (nI i)]) (st' := [.ref 56, .ref 57]) rfl ?_
      refine wp_getr 59 rfl rfl rfl ?_
      refine wp_callV (o := 59) (as := []) (rest := [.ref 57]) (els := [.ref 59]) rfl rfl rfl rfl rfl rfl rfl rfl (by omega) ?_
      refine sp_pop (o := 59) (cap := 60) (n := s.length) rfl rfl rfl rfl (show _ = nI (s.length + 1) from hX.2.2.2.2.2.2.2.1) (by omega) ?_
      rw [show X (59 + 1) s.length = x from hX.2.2.2.2.2.2.2.2.1]
      show am_wp L xs _ _ _ _ 33 [.ref 56, .int (nI l), .int (nI i)] [.int x, .ref 57] (am_S 10) (am_u X 59 1 (nI s.length)) _
      refine wp_run 1 (pc' := 34) (ls' := [.ref 56, .int (nI l), .int (nI i)]) (st' := [.int (-x), .ref 57]) rfl ?_
      refine wp_callV (o := 57) (as := [.int (-x)]) (rest := []) (els := [.ref 57, .int (-x)]) rfl rfl rfl rfl rfl rfl rfl rfl (by omega) ?_
      refine sp_push (o := 57) (cap := 60) (n := c.length) (v := (-x)) rfl rfl rfl rfl (cr_pop hX).2.2.2.2.2.1 (by omega) ?_
      show am_wp L xs _ _ _ _ 37 [.ref 56, .int (nI l), .int (nI i)] [] (am_S 10) (am_u (am_u (am_u X 59 1 (nI s.length)) 58 c.length (-x)) 57 1 (nI (c.length + 1))) _
      refine wp_run 2 (pc' := 2) (ls' := [.ref 56, .int (nI l), .int ((nI i) + 1)]) (st' := []) rfl ?_
      rw [show (((nI i) + 1) : Int32) = (nI (i + 1)) from nI_add i 1]
      have hlc : (c ++ [-x]).length = c.length + 1 := List.length_append
      rw [show tx_so l (x :: s) c = tx_so l s (c ++ [-x]) from if_pos (by rw [hxx] at cq19n; omega)] at kk
      exact ih (c ++ [-x]) (i + 1) _ (cr_out (v := (-x)) (cr_pop hX)) (by omega) (by omega) kk
theorem sp_sendOut {L : Nat} {xs : Nat → Int32} {d ms : Nat} {Q : am_Q} {h : am_HI} {u : Nat} {w : Bool} {p o l : Nat} {s c : List Int32} {X : am_HI} (hl1 : 1 ≤ l) (hl6 : l ≤ 6) (hX : cr_st h X u o (w, c, s, p)) (hl : c.length + s.length ≤ 60) (hd : 2 ≤ d) (kk : ∀ X2, cr_st h X2 u o (w, (tx_so l s c).1, (tx_so l s c).2, p) → Q none (am_S 10) X2) :
    am_wp L xs d 0 ms 61 0 [.ref 56, .int (nI l), am_du] [] (am_S 10) X Q := by
  refine wp_run 2 (pc' := 2) (ls' := [.ref 56, .int (nI l), .int 0]) (st' := []) rfl ?_
  exact lp_sendOut hl1 hl6 hd s c 0 X hX hl (by omega) kk
theorem sp_partIsOut {L : Nat} {xs : Nat → Int32} {d ms : Nat} {Q : am_Q} {h : am_HI} {u : Nat} {w : Bool} {p : Nat} {s c : List Int32} {v : Int32} {X : am_HI} (hX : cr_st h X u (tx_op s) (w, c, s, p)) (hl : c.length + s.length < 60) (hd : 3 ≤ d) (kk : ∀ X2, cr_st h X2 u (tx_op (tx_dn (c ++ [v]) s p).2.2.1) (tx_dn (c ++ [v]) s p) → Q none (am_S 10) X2) :
    am_wp L xs d 0 ms 55 0 [.ref 56, .int v] [] (am_S 10) X Q := by
  have hlc : (c ++ [v]).length = c.length + 1 := List.length_append
  refine wp_run 1 (pc' := 1) (ls' := [.ref 56, .int v]) (st' := [.ref 56]) rfl ?_
  refine wp_getr 57 rfl rfl rfl ?_
  refine wp_run 1 (pc' := 5) (ls' := [.ref 56, .int v]) (st' := [.int v, .ref 57]) rfl ?_
  refine wp_callV (o := 57) (as := [.int v]) (rest := []) (els := [.ref 57, .int v]) rfl rfl rfl rfl rfl rfl rfl rfl (by omega) ?_
  refine sp_push (o := 57) (cap := 60) (n := c.length) (v := v) rfl rfl rfl rfl hX.2.2.2.2.2.1 (by omega) ?_
  show am_wp L xs _ _ _ _ 8 [.ref 56, .int v] [] (am_S 10) (am_u (am_u X 58 c.length v) 57 1 (nI (c.length + 1))) _
  refine wp_run 1 (pc' := 9) (ls' := [.ref 56, .int v]) (st' := [.ref 56]) rfl ?_
  refine wp_callV (o := 56) (as := []) (rest := []) (els := [.ref 56, am_du]) rfl rfl rfl rfl rfl rfl rfl rfl (by omega) ?_
  refine sp_closeNots (cr_out (v := v) hX) (by omega) (by omega) (fun X2 hX2 => ?_)
  show am_wp L xs _ _ _ _ 12 [.ref 56, .int v] [] (am_S 10) X2 _
  refine wp_run 2 (pc' := 14) (ls' := [.ref 56, .int v]) (st' := [.int 0, .ref 56]) rfl ?_
  refine wp_putz rfl (Or.inl rfl) rfl ?_
  refine wp_retv rfl ?_
  exact kk _ (cr_w0 hX2)
