/-! reading a text: the class's reader, its steps -/
theorem tx_numJ {v q : Nat} (h : 48 ≤ q) : (nI (v * 10) + nI q) - 48 = nI (v * 10 + (q - 48)) := by
  rw [nI_add, show (48 : Int32) = nI 48 from rfl, pk_sub (by omega)]
  congr 1
  omega
theorem tx_op_le : ∀ (s : List Int32), tx_op s ≤ s.length
  | [] => Nat.le_refl _
  | x :: r => by
    have ih := tx_op_le r
    unfold tx_op
    show _ ≤ r.length + 1
    split <;> omega
theorem tx_bh_in {B : Nat → Int32} {tp p : Nat} (h : p < tp) : tx_bh B tp p = B p := if_pos h
theorem lp_takeNumber {L : Nat} {xs : Nat → Int32} {d ms : Nat} {Q : am_Q} {h : am_HI} {u tp : Nat} {B : Nat → Int32} (htp : tp ≤ 60) (h9 : h 9 1 = nI tp) (h10 : ∀ i, i < tp → h 10 i = B i) {w : Bool} {c s : List Int32} {o : Nat} (hd : 3 ≤ d) :
    ∀ (k n v p : Nat) (X : am_HI), n + k = 4 → p ≤ tp → cr_st h X u o (w, c, s, p) → (kk : ∀ X2 n2, cr_st h X2 u o (w, c, s, (tx_num B tp k v p).2) → am_wp L xs d 0 ms 54 48 [.ref 56, .int (nI (tx_num B tp k v p).1), .int (nI n2)] [] (am_S 10) X2 Q) → am_wp L xs d 0 ms 54 4 [.ref 56, .int (nI v), .int (nI n)] [] (am_S 10) X Q := by
  intro k
  induction k with
  | zero =>
    intro n v p X hn hpt hX kk
    refine wp_run 2 (pc' := 6) (ls' := [.ref 56, .int (nI v), .int (nI n)]) (st' := [.int 4, .int (nI n)]) rfl ?_
    refine wp_icmp_t rfl (show 4 ≤ (nI n) from (nI_leI (a := 4) (b := n) (by omega) (by omega)).mpr (by omega)) ?_
    exact kk X n hX
  | succ k ih =>
    intro n v p X hn hpt hX kk
    refine wp_run 2 (pc' := 6) (ls' := [.ref 56, .int (nI v), .int (nI n)]) (st' := [.int 4, .int (nI n)]) rfl ?_
    refine wp_icmp_f rfl (show ¬ (4 ≤ (nI n)) from mt (nI_leI (a := 4) (b := n) (by omega) (by omega)).mp (by omega)) ?_
    refine wp_run 1 (pc' := 10) (ls' := [.ref 56, .int (nI v), .int (nI n)]) (st' := [.ref 56]) rfl ?_
    refine wp_callV (o := 56) (as := []) (rest := []) (els := [.ref 56]) rfl rfl rfl rfl rfl rfl rfl rfl (by omega) ?_
    refine sp_byteHere (B := B) (tp := tp) (p := p) htp (by rw [hX.1 9 rfl]; exact h9) (by rw [hX.1 10 rfl]; exact h10) hX.2.2.1 (by omega) ?_
    show am_wp L xs _ _ _ _ 13 [.ref 56, .int (nI v), .int (nI n)] [.int (tx_bh B tp p)] (am_S 10) X _
    refine wp_callS (as := [.int (tx_bh B tp p)]) (rest := []) (els := [.int (tx_bh B tp p)]) rfl rfl rfl rfl rfl rfl rfl rfl (by omega) ?_
    refine sp_isDigit (by omega) (fun q => ?_) (fun q => ?_)
    · skip
      have hdg := tx_bh_dig.mp q
      obtain ⟨q9, q91, q92, eq9⟩ := tx_dig_n hdg.2
      show am_wp L xs _ _ _ _ 16 [.ref 56, .int (nI v), .int (nI n)] [.int 1] (am_S 10) X _
      refine wp_if_f rfl (show ¬ ((1 : Int32) = 0) from by decide) ?_
      refine wp_run 4 (pc' := 24) (ls' := [.ref 56, .int (nI v), .int (nI n)]) (st' := [.ref 56, .int ((nI v) * 10)]) rfl ?_
      rw [show (((nI v) * 10) : Int32) = (nI (v * 10)) from pk_mul v 10]
      refine wp_callV (o := 56) (as := []) (rest := [.int (nI (v * 10))]) (els := [.ref 56]) rfl rfl rfl rfl rfl rfl rfl rfl (by omega) ?_
      refine sp_byteHere (B := B) (tp := tp) (p := p) htp (by rw [hX.1 9 rfl]; exact h9) (by rw [hX.1 10 rfl]; exact h10) hX.2.2.1 (by omega) ?_
      show am_wp L xs _ _ _ _ 27 [.ref 56, .int (nI v), .int (nI n)] [.int (tx_bh B tp p), .int (nI (v * 10))] (am_S 10) X _
      refine wp_run 6 (pc' := 34) (ls' := [.ref 56, .int (((nI (v * 10)) + (tx_bh B tp p)) - 48), .int (nI n)]) (st' := [.ref 56, .ref 56]) rfl ?_
      refine wp_geti (a := 4) (nI p) hX.2.2.1 rfl rfl rfl ?_
      refine wp_run 2 (pc' := 39) (ls' := [.ref 56, .int (((nI (v * 10)) + (tx_bh B tp p)) - 48), .int (nI n)]) (st' := [.int ((nI p) + 1), .ref 56]) rfl ?_
      rw [show (((nI p) + 1) : Int32) = (nI (p + 1)) from nI_add p 1]
      refine wp_puti rfl rfl ?_
      refine wp_run 2 (pc' := 4) (ls' := [.ref 56, .int (((nI (v * 10)) + (tx_bh B tp p)) - 48), .int ((nI n) + 1)]) (st' := []) rfl ?_
      rw [show (((nI n) + 1) : Int32) = (nI (n + 1)) from nI_add n 1]
      rw [show ((((nI (v * 10)) + (tx_bh B tp p)) - 48) : Int32) = nI (v * 10 + ((B p).toNatClampNeg - 48)) from by rw [tx_bh_in hdg.1, eq9, nI_clamp (by omega)]; exact tx_numJ q91]
      rw [tx_num_s hdg] at kk
      exact ih (n + 1) _ (p + 1) _ (by omega) (by omega) (cr_p hX) kk
    · skip
      have hdg : ¬ (p < tp ∧ tx_dig (B p) = true) := fun q2 => by rw [tx_bh_dig.mpr q2] at q; cases q
      show am_wp L xs _ _ _ _ 16 [.ref 56, .int (nI v), .int (nI n)] [.int 0] (am_S 10) X _
      refine wp_if_t rfl (show (0 : Int32) = 0 from by decide) ?_
      rw [tx_num_n hdg] at kk
      exact kk X n hX
theorem sp_takeNumber {L : Nat} {xs : Nat → Int32} {d ms : Nat} {Q : am_Q} {h : am_HI} {u tp : Nat} {B : Nat → Int32} (htp : tp ≤ 60) (h9 : h 9 1 = nI tp) (h10 : ∀ i, i < tp → h 10 i = B i) {w : Bool} {c s : List Int32} {p : Nat} {X : am_HI} (hX : cr_st h X u (tx_op s) (w, c, s, p)) (hpt : p ≤ tp) (hl : c.length + s.length < 60) (hd : 4 ≤ d) (kk : ∀ X2, cr_st h X2 u (tx_op (tx_dn (c ++ [nI (tx_num B tp 4 0 p).1]) s (tx_num B tp 4 0 p).2).2.2.1) (tx_dn (c ++ [nI (tx_num B tp 4 0 p).1]) s (tx_num B tp 4 0 p).2) → Q none (am_S 10) X2) :
    am_wp L xs d 0 ms 54 0 [.ref 56, am_du, am_du] [] (am_S 10) X Q := by
  refine wp_run 4 (pc' := 4) (ls' := [.ref 56, .int 0, .int 0]) (st' := []) rfl ?_
  refine lp_takeNumber htp h9 h10 (by omega) 4 0 0 p X rfl hpt hX (fun X2 n2 hX2 => ?_)
  refine wp_run 2 (pc' := 50) (ls' := [.ref 56, .int (nI ((tx_num B tp 4 0 p).1)), .int (nI n2)]) (st' := [.int (nI ((tx_num B tp 4 0 p).1)), .ref 56]) rfl ?_
  refine wp_callV (o := 56) (as := [.int (nI ((tx_num B tp 4 0 p).1))]) (rest := []) (els := [.ref 56, .int (nI ((tx_num B tp 4 0 p).1))]) rfl rfl rfl rfl rfl rfl rfl rfl (by omega) ?_
  refine sp_partIsOut hX2 (by omega) (by omega) (fun Y1 hY1 => ?_)
  show am_wp L xs _ _ _ _ 53 [.ref 56, .int (nI ((tx_num B tp 4 0 p).1)), .int (nI n2)] [] (am_S 10) Y1 _
  refine wp_retv rfl ?_
  exact kk _ hY1
theorem sp_takesPart {L : Nat} {xs : Nat → Int32} {d ms : Nat} {Q : am_Q} {h : am_HI} {u tp : Nat} {B : Nat → Int32} (htp : tp ≤ 60) (h9 : h 9 1 = nI tp) (h10 : ∀ i, i < tp → h 10 i = B i) (hu : u = 0 ∨ u = 1) {c s : List Int32} {p : Nat} {X : am_HI} (hX : cr_st h X u (tx_op s) (true, c, s, p)) (hp : p < tp) (hl : c.length + s.length ≤ p) (hd : 6 ≤ d) (kt : ∀ S2 X2, tx_pt B tp u c s p = some S2 → cr_st h X2 u (tx_op S2.2.2.1) S2 → Q (some (.int 1)) (am_S 10) X2) (kf : tx_pt B tp u c s p = none → Q (some (.int 0)) (am_S 10) X) :
    am_wp L xs d 0 ms 51 0 [.ref 56, am_du, am_du] [] (am_S 10) X Q := by
  have hop5 := tx_op_le s
  refine wp_run 1 (pc' := 1) (ls' := [.ref 56, am_du, am_du]) (st' := [.ref 56]) rfl ?_
  refine wp_callV (o := 56) (as := []) (rest := []) (els := [.ref 56]) rfl rfl rfl rfl rfl rfl rfl rfl (by omega) ?_
  refine sp_byteHere (B := B) (tp := tp) (p := p) htp (by rw [hX.1 9 rfl]; exact h9) (by rw [hX.1 10 rfl]; exact h10) hX.2.2.1 (by omega) ?_
  rw [tx_bh_in hp]
  show am_wp L xs _ _ _ _ 4 [.ref 56, am_du, am_du] [.int (B p)] (am_S 10) X _
  refine wp_run 2 (pc' := 6) (ls' := [.ref 56, .int (B p), am_du]) (st' := [.int (B p)]) rfl ?_
  refine wp_callS (as := [.int (B p)]) (rest := []) (els := [.int (B p)]) rfl rfl rfl rfl rfl rfl rfl rfl (by omega) ?_
  refine sp_isDigit (by omega) (fun q => ?_) (fun q => ?_)
  · skip
    have hdg := q
    show am_wp L xs _ _ _ _ 9 [.ref 56, .int (B p), am_du] [.int 1] (am_S 10) X _
    refine wp_if_f rfl (show ¬ ((1 : Int32) = 0) from by decide) ?_
    refine wp_run 1 (pc' := 13) (ls' := [.ref 56, .int (B p), am_du]) (st' := [.ref 56]) rfl ?_
    refine wp_callV (o := 56) (as := []) (rest := []) (els := [.ref 56, am_du, am_du]) rfl rfl rfl rfl rfl rfl rfl rfl (by omega) ?_
    refine sp_takeNumber htp h9 h10 hX (by omega) (by omega) (by omega) (fun Y1 hY1 => ?_)
    show am_wp L xs _ _ _ _ 16 [.ref 56, .int (B p), am_du] [] (am_S 10) Y1 _
    refine wp_run 1 (pc' := 17) (ls' := [.ref 56, .int (B p), am_du]) (st' := [.int 1]) rfl ?_
    refine wp_retz rfl (Or.inr rfl) ?_
    exact kt _ _ (if_pos hdg) hY1
  · skip
    have hdg := q
    show am_wp L xs _ _ _ _ 9 [.ref 56, .int (B p), am_du] [.int 0] (am_S 10) X _
    refine wp_if_t rfl (show (0 : Int32) = 0 from by decide) ?_
    refine wp_run 2 (pc' := 20) (ls' := [.ref 56, .int (B p), am_du]) (st' := [.int (B p), .ref 56]) rfl ?_
    refine wp_callV (o := 56) (as := [.int (B p)]) (rest := []) (els := [.ref 56, .int (B p), am_du, am_du]) rfl rfl rfl rfl rfl rfl rfl rfl (by omega) ?_
    refine sp_nameOf hu hX.2.1 ?_ ?_
    · skip
      intro kq hnm
      have hk3 := (tx_nm_dig hnm).2
      show am_wp L xs _ _ _ _ 23 [.ref 56, .int (B p), am_du] [.int (nI kq)] (am_S 10) X _
      refine wp_run 2 (pc' := 25) (ls' := [.ref 56, .int (B p), .int (nI kq)]) (st' := [.int (nI kq)]) rfl ?_
      refine wp_if_f rfl (show ¬ ((nI kq) < 0) from mt (nI_ltI (a := kq) (b := 0) (by omega) (by omega)).mp (by omega)) ?_
      refine wp_run 2 (pc' := 30) (ls' := [.ref 56, .int (B p), .int (nI kq)]) (st' := [.ref 56, .ref 56]) rfl ?_
      refine wp_geti (a := 4) (nI p) hX.2.2.1 rfl rfl rfl ?_
      refine wp_run 2 (pc' := 35) (ls' := [.ref 56, .int (B p), .int (nI kq)]) (st' := [.int ((nI p) + 1), .ref 56]) rfl ?_
      rw [show (((nI p) + 1) : Int32) = (nI (p + 1)) from nI_add p 1]
      refine wp_puti rfl rfl ?_
      refine wp_run 4 (pc' := 42) (ls' := [.ref 56, .int (B p), .int (nI kq)]) (st' := [.int ((-1) - (nI kq)), .ref 56]) rfl ?_
      refine wp_callV (o := 56) (as := [.int ((-1) - (nI kq))]) (rest := []) (els := [.ref 56, .int ((-1) - (nI kq))]) rfl rfl rfl rfl rfl rfl rfl rfl (by omega) ?_
      refine sp_partIsOut (cr_p hX) (by omega) (by omega) (fun Y1 hY1 => ?_)
      show am_wp L xs _ _ _ _ 45 [.ref 56, .int (B p), .int (nI kq)] [] (am_S 10) Y1 _
      refine wp_run 1 (pc' := 46) (ls' := [.ref 56, .int (B p), .int (nI kq)]) (st' := [.int 1]) rfl ?_
      refine wp_retz rfl (Or.inr rfl) ?_
      refine kt (tx_dn (c ++ [-1 - nI kq]) s (p + 1)) _ ?_ hY1
      unfold tx_pt
      rw [hdg, hnm]
      rfl
    · skip
      intro hnm
      show am_wp L xs _ _ _ _ 23 [.ref 56, .int (B p), am_du] [.int (-1)] (am_S 10) X _
      refine wp_run 2 (pc' := 25) (ls' := [.ref 56, .int (B p), .int (-1)]) (st' := [.int (-1)]) rfl ?_
      refine wp_if_t rfl (show ((-1) : Int32) < 0 from by decide) ?_
      refine wp_run 2 (pc' := 50) (ls' := [.ref 56, .int (B p), .int (-1)]) (st' := [.int 33, .int (B p)]) rfl ?_
      refine wp_icmp rfl (fun (cs33 : (B p) = 33) => ?_) (fun (cs33 : ¬ ((B p) = 33)) => ?_)
      · skip
        have hb : B p = 33 ∨ B p = 40 := Or.inl cs33
        refine wp_run 1 (pc' := 60) (ls' := [.ref 56, .int (B p), .int (-1)]) (st' := [.ref 56]) rfl ?_
        refine wp_geti (a := 5) (nI (tx_op s)) hX.2.2.2.1 rfl rfl rfl ?_
        refine wp_run 1 (pc' := 64) (ls' := [.ref 56, .int (B p), .int (-1)]) (st' := [.int 5, .int (nI (tx_op s))]) rfl ?_
        refine wp_icmp rfl (fun (cq64 : 5 ≤ (nI (tx_op s))) => ?_) (fun (cq64 : ¬ (5 ≤ (nI (tx_op s)))) => ?_)
        · skip
          have cq64n : 5 ≤ tx_op s := (nI_leI (a := 5) (b := tx_op s) (by omega) (by omega)).mp cq64
          refine wp_run 1 (pc' := 98) (ls' := [.ref 56, .int (B p), .int (-1)]) (st' := [.int 0]) rfl ?_
          refine wp_retz rfl (Or.inl rfl) ?_
          refine kf ?_
          unfold tx_pt
          rw [hdg, hnm]
          show (if (B p = 33 ∨ B p = 40) ∧ tx_op s < 5 then some (true, c, B p :: s, p + 1) else none) = _
          exact if_neg (fun q => by have := q.2; omega)
        · skip
          have cq64n : ¬ (5 ≤ tx_op s) := fun q => cq64 ((nI_leI (a := 5) (b := tx_op s) (by omega) (by omega)).mpr q)
          refine wp_run 2 (pc' := 69) (ls' := [.ref 56, .int (B p), .int (-1)]) (st' := [.ref 56, .ref 56]) rfl ?_
          refine wp_geti (a := 4) (nI p) hX.2.2.1 rfl rfl rfl ?_
          refine wp_run 2 (pc' := 74) (ls' := [.ref 56, .int (B p), .int (-1)]) (st' := [.int ((nI p) + 1), .ref 56]) rfl ?_
          rw [show (((nI p) + 1) : Int32) = (nI (p + 1)) from nI_add p 1]
          refine wp_puti rfl rfl ?_
          refine wp_run 2 (pc' := 79) (ls' := [.ref 56, .int (B p), .int (-1)]) (st' := [.ref 56, .ref 56]) rfl ?_
          refine wp_geti (a := 5) (nI (tx_op s)) hX.2.2.2.1 rfl rfl rfl ?_
          refine wp_run 2 (pc' := 84) (ls' := [.ref 56, .int (B p), .int (-1)]) (st' := [.int ((nI (tx_op s)) + 1), .ref 56]) rfl ?_
          rw [show (((nI (tx_op s)) + 1) : Int32) = (nI ((tx_op s) + 1)) from nI_add (tx_op s) 1]
          refine wp_puti rfl rfl ?_
          refine wp_run 1 (pc' := 88) (ls' := [.ref 56, .int (B p), .int (-1)]) (st' := [.ref 56]) rfl ?_
          refine wp_getr 59 rfl rfl rfl ?_
          refine wp_run 1 (pc' := 92) (ls' := [.ref 56, .int (B p), .int (-1)]) (st' := [.int (B p), .ref 59]) rfl ?_
          refine wp_callV (o := 59) (as := [.int (B p)]) (rest := []) (els := [.ref 59, .int (B p)]) rfl rfl rfl rfl rfl rfl rfl rfl (by omega) ?_
          refine sp_push (o := 59) (cap := 60) (n := s.length) (v := (B p)) rfl rfl rfl rfl (cr_o (cr_p hX)).2.2.2.2.2.2.2.1 (by omega) ?_
          show am_wp L xs _ _ _ _ 95 [.ref 56, .int (B p), .int (-1)] [] (am_S 10) (am_u (am_u (am_u (am_u X 56 4 (nI (p + 1))) 56 5 (nI ((tx_op s) + 1))) 60 s.length (B p)) 59 1 (nI (s.length + 1))) _
          refine wp_run 1 (pc' := 96) (ls' := [.ref 56, .int (B p), .int (-1)]) (st' := [.int 1]) rfl ?_
          refine wp_retz rfl (Or.inr rfl) ?_
          refine kt (true, c, B p :: s, p + 1) _ ?_ ?_
          · unfold tx_pt
            rw [hdg, hnm]
            show (if (B p = 33 ∨ B p = 40) ∧ tx_op s < 5 then some (true, c, B p :: s, p + 1) else none) = _
            exact if_pos ⟨hb, by omega⟩
          · rw [show tx_op (true, c, B p :: s, p + 1).2.2.1 = tx_op s + 1 from tx_op_o hb]
            exact (cr_push (v := (B p)) (cr_o (cr_p hX)))
      · skip
        refine wp_run 2 (pc' := 56) (ls' := [.ref 56, .int (B p), .int (-1)]) (st' := [.int 40, .int (B p)]) rfl ?_
        refine wp_icmp rfl (fun (cs40 : ¬ (B p) = 40) => ?_) (fun (cs40 : ¬ (¬ (B p) = 40)) => ?_)
        · skip
          refine wp_run 1 (pc' := 98) (ls' := [.ref 56, .int (B p), .int (-1)]) (st' := [.int 0]) rfl ?_
          refine wp_retz rfl (Or.inl rfl) ?_
          refine kf ?_
          unfold tx_pt
          rw [hdg, hnm]
          show (if (B p = 33 ∨ B p = 40) ∧ tx_op s < 5 then some (true, c, B p :: s, p + 1) else none) = _
          exact if_neg (fun q => q.1.elim cs33 cs40)
        · skip
          replace cs40 := Decidable.not_not.mp cs40
          have hb : B p = 33 ∨ B p = 40 := Or.inr cs40
          refine wp_run 1 (pc' := 60) (ls' := [.ref 56, .int (B p), .int (-1)]) (st' := [.ref 56]) rfl ?_
          refine wp_geti (a := 5) (nI (tx_op s)) hX.2.2.2.1 rfl rfl rfl ?_
          refine wp_run 1 (pc' := 64) (ls' := [.ref 56, .int (B p), .int (-1)]) (st' := [.int 5, .int (nI (tx_op s))]) rfl ?_
          refine wp_icmp rfl (fun (cq64 : 5 ≤ (nI (tx_op s))) => ?_) (fun (cq64 : ¬ (5 ≤ (nI (tx_op s)))) => ?_)
          · skip
            have cq64n : 5 ≤ tx_op s := (nI_leI (a := 5) (b := tx_op s) (by omega) (by omega)).mp cq64
            refine wp_run 1 (pc' := 98) (ls' := [.ref 56, .int (B p), .int (-1)]) (st' := [.int 0]) rfl ?_
            refine wp_retz rfl (Or.inl rfl) ?_
            refine kf ?_
            unfold tx_pt
            rw [hdg, hnm]
            show (if (B p = 33 ∨ B p = 40) ∧ tx_op s < 5 then some (true, c, B p :: s, p + 1) else none) = _
            exact if_neg (fun q => by have := q.2; omega)
          · skip
            have cq64n : ¬ (5 ≤ tx_op s) := fun q => cq64 ((nI_leI (a := 5) (b := tx_op s) (by omega) (by omega)).mpr q)
            refine wp_run 2 (pc' := 69) (ls' := [.ref 56, .int (B p), .int (-1)]) (st' := [.ref 56, .ref 56]) rfl ?_
            refine wp_geti (a := 4) (nI p) hX.2.2.1 rfl rfl rfl ?_
            refine wp_run 2 (pc' := 74) (ls' := [.ref 56, .int (B p), .int (-1)]) (st' := [.int ((nI p) + 1), .ref 56]) rfl ?_
            rw [show (((nI p) + 1) : Int32) = (nI (p + 1)) from nI_add p 1]
            refine wp_puti rfl rfl ?_
            refine wp_run 2 (pc' := 79) (ls' := [.ref 56, .int (B p), .int (-1)]) (st' := [.ref 56, .ref 56]) rfl ?_
            refine wp_geti (a := 5) (nI (tx_op s)) hX.2.2.2.1 rfl rfl rfl ?_
            refine wp_run 2 (pc' := 84) (ls' := [.ref 56, .int (B p), .int (-1)]) (st' := [.int ((nI (tx_op s)) + 1), .ref 56]) rfl ?_
            rw [show (((nI (tx_op s)) + 1) : Int32) = (nI ((tx_op s) + 1)) from nI_add (tx_op s) 1]
            refine wp_puti rfl rfl ?_
            refine wp_run 1 (pc' := 88) (ls' := [.ref 56, .int (B p), .int (-1)]) (st' := [.ref 56]) rfl ?_
            refine wp_getr 59 rfl rfl rfl ?_
            refine wp_run 1 (pc' := 92) (ls' := [.ref 56, .int (B p), .int (-1)]) (st' := [.int (B p), .ref 59]) rfl ?_
            refine wp_callV (o := 59) (as := [.int (B p)]) (rest := []) (els := [.ref 59, .int (B p)]) rfl rfl rfl rfl rfl rfl rfl rfl (by omega) ?_
            refine sp_push (o := 59) (cap := 60) (n := s.length) (v := (B p)) rfl rfl rfl rfl (cr_o (cr_p hX)).2.2.2.2.2.2.2.1 (by omega) ?_
            show am_wp L xs _ _ _ _ 95 [.ref 56, .int (B p), .int (-1)] [] (am_S 10) (am_u (am_u (am_u (am_u X 56 4 (nI (p + 1))) 56 5 (nI ((tx_op s) + 1))) 60 s.length (B p)) 59 1 (nI (s.length + 1))) _
            refine wp_run 1 (pc' := 96) (ls' := [.ref 56, .int (B p), .int (-1)]) (st' := [.int 1]) rfl ?_
            refine wp_retz rfl (Or.inr rfl) ?_
            refine kt (true, c, B p :: s, p + 1) _ ?_ ?_
            · unfold tx_pt
              rw [hdg, hnm]
              show (if (B p = 33 ∨ B p = 40) ∧ tx_op s < 5 then some (true, c, B p :: s, p + 1) else none) = _
              exact if_pos ⟨hb, by omega⟩
            · rw [show tx_op (true, c, B p :: s, p + 1).2.2.1 = tx_op s + 1 from tx_op_o hb]
              exact (cr_push (v := (B p)) (cr_o (cr_p hX)))
theorem sp_takesSign {L : Nat} {xs : Nat → Int32} {d ms : Nat} {Q : am_Q} {h : am_HI} {u tp : Nat} {B : Nat → Int32} (htp : tp ≤ 60) (h9 : h 9 1 = nI tp) (h10 : ∀ i, i < tp → h 10 i = B i) {c s : List Int32} {p : Nat} {X : am_HI} (hX : cr_st h X u (tx_op s) (false, c, s, p)) (hp : p < tp) (hl : c.length + s.length ≤ p) (hd : 6 ≤ d) (kt : ∀ S2 X2, tx_sg B c s p = some S2 → cr_st h X2 u (tx_op S2.2.2.1) S2 → Q (some (.int 1)) (am_S 10) X2) (kf : tx_sg B c s p = none → ∀ X2, (∀ a, [56, 57, 58, 59, 60].elem a = false → X2 a = h a) → X2 56 4 = nI p → Q (some (.int 0)) (am_S 10) X2) :
    am_wp L xs d 0 ms 59 0 [.ref 56, am_du, am_du, am_du] [] (am_S 10) X Q := by
  have hl5 := tx_lev_le (B p)
  refine wp_run 1 (pc' := 1) (ls' := [.ref 56, am_du, am_du, am_du]) (st' := [.ref 56]) rfl ?_
  refine wp_callV (o := 56) (as := []) (rest := []) (els := [.ref 56]) rfl rfl rfl rfl rfl rfl rfl rfl (by omega) ?_
  refine sp_byteHere (B := B) (tp := tp) (p := p) htp (by rw [hX.1 9 rfl]; exact h9) (by rw [hX.1 10 rfl]; exact h10) hX.2.2.1 (by omega) ?_
  rw [tx_bh_in hp]
  show am_wp L xs _ _ _ _ 4 [.ref 56, am_du, am_du, am_du] [.int (B p)] (am_S 10) X _
  refine wp_run 3 (pc' := 8) (ls' := [.ref 56, .int (B p), am_du, am_du]) (st' := [.int 41, .int (B p)]) rfl ?_
  refine wp_icmp rfl (fun (c41 : ¬ (B p) = 41) => ?_) (fun (c41 : ¬ (¬ (B p) = 41)) => ?_)
  · skip
    refine wp_run 1 (pc' := 17) (ls' := [.ref 56, .int (B p), am_du, am_du]) (st' := [.int (B p)]) rfl ?_
    refine wp_callS (as := [.int (B p)]) (rest := []) (els := [.int (B p)]) rfl rfl rfl rfl rfl rfl rfl rfl (by omega) ?_
    refine sp_levelOf ?_
    show am_wp L xs _ _ _ _ 20 [.ref 56, .int (B p), am_du, am_du] [.int (nI (tx_lev (B p)))] (am_S 10) X _
    refine wp_run 2 (pc' := 22) (ls' := [.ref 56, .int (B p), .int (nI (tx_lev (B p))), am_du]) (st' := [.int (nI (tx_lev (B p)))]) rfl ?_
    refine wp_if rfl (fun (c22 : ¬ (nI (tx_lev (B p))) = 0) => ?_) (fun (c22 : ¬ (¬ (nI (tx_lev (B p))) = 0)) => ?_)
    · skip
      have c22n : ¬ ((tx_lev (B p)) = 0) := fun q => c22 ((nI_eq (a := (tx_lev (B p))) (b := 0) (by omega) (by omega)).mpr q)
      refine wp_run 2 (pc' := 29) (ls' := [.ref 56, .int (B p), .int (nI (tx_lev (B p))), am_du]) (st' := [.int 3, .int (nI (tx_lev (B p)))]) rfl ?_
      refine wp_icmp rfl (fun (c29 : ¬ (nI (tx_lev (B p))) = 3) => ?_) (fun (c29 : ¬ (¬ (nI (tx_lev (B p))) = 3)) => ?_)
      · skip
        have c29n : ¬ ((tx_lev (B p)) = 3) := fun q => c29 ((nI_eq (a := (tx_lev (B p))) (b := 3) (by omega) (by omega)).mpr q)
        refine wp_run 4 (pc' := 40) (ls' := [.ref 56, .int (B p), .int (nI (tx_lev (B p))), .int 0]) (st' := [.int 0, .ref 56]) rfl ?_
        refine wp_if_t rfl (show (0 : Int32) = 0 from by decide) ?_
        refine wp_run 1 (pc' := 50) (ls' := [.ref 56, .int (B p), .int (nI (tx_lev (B p))), .int 0]) (st' := [.int (nI (tx_lev (B p))), .ref 56]) rfl ?_
        refine wp_callV (o := 56) (as := [.int (nI (tx_lev (B p)))]) (rest := []) (els := [.ref 56, .int (nI (tx_lev (B p))), am_du]) rfl rfl rfl rfl rfl rfl rfl rfl (by omega) ?_
        refine sp_sendOut (l := (tx_lev (B p))) (by omega) (by omega) hX (by omega) (by omega) (fun X1 hX1 => ?_)
        have hsl := tx_so_len (l := (tx_lev (B p))) s c
        show am_wp L xs _ _ _ _ 53 [.ref 56, .int (B p), .int (nI (tx_lev (B p))), .int 0] [] (am_S 10) X1 _
        refine wp_run 1 (pc' := 54) (ls' := [.ref 56, .int (B p), .int (nI (tx_lev (B p))), .int 0]) (st' := [.int 0]) rfl ?_
        refine wp_if_t rfl (show (0 : Int32) = 0 from by decide) ?_
        refine wp_run 2 (pc' := 75) (ls' := [.ref 56, .int (B p), .int (nI (tx_lev (B p))), .int 0]) (st' := [.ref 56, .ref 56]) rfl ?_
        refine wp_geti (a := 4) (nI p) hX1.2.2.1 rfl rfl rfl ?_
        refine wp_run 2 (pc' := 80) (ls' := [.ref 56, .int (B p), .int (nI (tx_lev (B p))), .int 0]) (st' := [.int ((nI p) + 1), .ref 56]) rfl ?_
        rw [show (((nI p) + 1) : Int32) = (nI (p + 1)) from nI_add p 1]
        refine wp_puti rfl rfl ?_
        refine wp_run 1 (pc' := 84) (ls' := [.ref 56, .int (B p), .int (nI (tx_lev (B p))), .int 0]) (st' := [.ref 56]) rfl ?_
        refine wp_getr 59 rfl rfl rfl ?_
        refine wp_run 1 (pc' := 88) (ls' := [.ref 56, .int (B p), .int (nI (tx_lev (B p))), .int 0]) (st' := [.int (B p), .ref 59]) rfl ?_
        refine wp_callV (o := 59) (as := [.int (B p)]) (rest := []) (els := [.ref 59, .int (B p)]) rfl rfl rfl rfl rfl rfl rfl rfl (by omega) ?_
        refine sp_push (o := 59) (cap := 60) (n := ((tx_so (tx_lev (B p)) s c).2).length) (v := (B p)) rfl rfl rfl rfl (cr_p hX1).2.2.2.2.2.2.2.1 (by omega) ?_
        show am_wp L xs _ _ _ _ 91 [.ref 56, .int (B p), .int (nI (tx_lev (B p))), .int 0] [] (am_S 10) (am_u (am_u (am_u X1 56 4 (nI (p + 1))) 60 (((tx_so (tx_lev (B p)) s c).2).length) (B p)) 59 1 (nI (((tx_so (tx_lev (B p)) s c).2).length + 1))) _
        refine wp_run 2 (pc' := 93) (ls' := [.ref 56, .int (B p), .int (nI (tx_lev (B p))), .int 0]) (st' := [.int 1, .ref 56]) rfl ?_
        refine wp_putz rfl (Or.inr rfl) rfl ?_
        refine wp_run 1 (pc' := 97) (ls' := [.ref 56, .int (B p), .int (nI (tx_lev (B p))), .int 0]) (st' := [.int 1]) rfl ?_
        refine wp_retz rfl (Or.inr rfl) ?_
        refine kt (true, (tx_so (tx_lev (B p)) s c).1, B p :: (tx_so (tx_lev (B p)) s c).2, p + 1) _ ?_ ?_
        · unfold tx_sg
          rw [if_neg c41, if_neg c22n, if_neg c29n]
        · rw [show tx_op (true, (tx_so (tx_lev (B p)) s c).1, B p :: (tx_so (tx_lev (B p)) s c).2, p + 1).2.2.1 = tx_op s from (tx_op_lev (by omega)).trans (tx_so_op (by omega) s c)]
          exact (cr_w1 (cr_push (v := (B p)) (cr_p hX1)))
      · skip
        replace c29 := Decidable.not_not.mp c29
        have c29n : (tx_lev (B p)) = 3 := (nI_eq (a := (tx_lev (B p))) (b := 3) (by omega) (by omega)).mp c29
        refine wp_run 5 (pc' := 40) (ls' := [.ref 56, .int (B p), .int (nI (tx_lev (B p))), .int 1]) (st' := [.int 1, .ref 56]) rfl ?_
        refine wp_if_f rfl (show ¬ ((1 : Int32) = 0) from by decide) ?_
        refine wp_run 4 (pc' := 50) (ls' := [.ref 56, .int (B p), .int (nI (tx_lev (B p))), .int 1]) (st' := [.int ((nI (tx_lev (B p))) + 1), .ref 56]) rfl ?_
        rw [show (((nI (tx_lev (B p))) + 1) : Int32) = (nI ((tx_lev (B p)) + 1)) from nI_add (tx_lev (B p)) 1]
        rw [show ((nI ((tx_lev (B p)) + 1)) : Int32) = nI 4 from by rw [c29n]]
        refine wp_callV (o := 56) (as := [.int (nI 4)]) (rest := []) (els := [.ref 56, .int (nI 4), am_du]) rfl rfl rfl rfl rfl rfl rfl rfl (by omega) ?_
        refine sp_sendOut (l := 4) (by omega) (by omega) hX (by omega) (by omega) (fun X1 hX1 => ?_)
        have hsl := tx_so_len (l := 4) s c
        show am_wp L xs _ _ _ _ 53 [.ref 56, .int (B p), .int (nI (tx_lev (B p))), .int 1] [] (am_S 10) X1 _
        refine wp_run 1 (pc' := 54) (ls' := [.ref 56, .int (B p), .int (nI (tx_lev (B p))), .int 1]) (st' := [.int 1]) rfl ?_
        refine wp_if_f rfl (show ¬ ((1 : Int32) = 0) from by decide) ?_
        refine wp_run 1 (pc' := 58) (ls' := [.ref 56, .int (B p), .int (nI (tx_lev (B p))), .int 1]) (st' := [.ref 56]) rfl ?_
        refine wp_getr 59 rfl rfl rfl ?_
        refine wp_callV (o := 59) (as := []) (rest := []) (els := [.ref 59]) rfl rfl rfl rfl rfl rfl rfl rfl (by omega) ?_
        refine sp_sgtop hX1 (by omega) ?_
        show am_wp L xs _ _ _ _ 64 [.ref 56, .int (B p), .int (nI (tx_lev (B p))), .int 1] [.int (tx_hd ((tx_so 4 s c).2))] (am_S 10) X1 _
        refine wp_callS (as := [.int (tx_hd ((tx_so 4 s c).2))]) (rest := []) (els := [.int (tx_hd ((tx_so 4 s c).2))]) rfl rfl rfl rfl rfl rfl rfl rfl (by omega) ?_
        refine sp_levelOf ?_
        show am_wp L xs _ _ _ _ 67 [.ref 56, .int (B p), .int (nI (tx_lev (B p))), .int 1] [.int (nI (tx_lev (tx_hd ((tx_so 4 s c).2))))] (am_S 10) X1 _
        refine wp_run 1 (pc' := 68) (ls' := [.ref 56, .int (B p), .int (nI (tx_lev (B p))), .int 1]) (st' := [.int (nI (tx_lev (B p))), .int (nI (tx_lev (tx_hd ((tx_so 4 s c).2))))]) rfl ?_
        refine wp_icmp rfl (fun (c68 : ¬ (nI (tx_lev (tx_hd ((tx_so 4 s c).2)))) = (nI (tx_lev (B p)))) => ?_) (fun (c68 : ¬ (¬ (nI (tx_lev (tx_hd ((tx_so 4 s c).2)))) = (nI (tx_lev (B p))))) => ?_)
        · skip
          have hl6 := tx_lev_le (tx_hd (tx_so 4 s c).2)
          have c68n : ¬ ((tx_lev (tx_hd ((tx_so 4 s c).2))) = (tx_lev (B p))) := fun q => c68 ((nI_eq (a := (tx_lev (tx_hd ((tx_so 4 s c).2)))) (b := (tx_lev (B p))) (by omega) (by omega)).mpr q)
          refine wp_run 2 (pc' := 75) (ls' := [.ref 56, .int (B p), .int (nI (tx_lev (B p))), .int 1]) (st' := [.ref 56, .ref 56]) rfl ?_
          refine wp_geti (a := 4) (nI p) hX1.2.2.1 rfl rfl rfl ?_
          refine wp_run 2 (pc' := 80) (ls' := [.ref 56, .int (B p), .int (nI (tx_lev (B p))), .int 1]) (st' := [.int ((nI p) + 1), .ref 56]) rfl ?_
          rw [show (((nI p) + 1) : Int32) = (nI (p + 1)) from nI_add p 1]
          refine wp_puti rfl rfl ?_
          refine wp_run 1 (pc' := 84) (ls' := [.ref 56, .int (B p), .int (nI (tx_lev (B p))), .int 1]) (st' := [.ref 56]) rfl ?_
          refine wp_getr 59 rfl rfl rfl ?_
          refine wp_run 1 (pc' := 88) (ls' := [.ref 56, .int (B p), .int (nI (tx_lev (B p))), .int 1]) (st' := [.int (B p), .ref 59]) rfl ?_
          refine wp_callV (o := 59) (as := [.int (B p)]) (rest := []) (els := [.ref 59, .int (B p)]) rfl rfl rfl rfl rfl rfl rfl rfl (by omega) ?_
          refine sp_push (o := 59) (cap := 60) (n := ((tx_so 4 s c).2).length) (v := (B p)) rfl rfl rfl rfl (cr_p hX1).2.2.2.2.2.2.2.1 (by omega) ?_
          show am_wp L xs _ _ _ _ 91 [.ref 56, .int (B p), .int (nI (tx_lev (B p))), .int 1] [] (am_S 10) (am_u (am_u (am_u X1 56 4 (nI (p + 1))) 60 (((tx_so 4 s c).2).length) (B p)) 59 1 (nI (((tx_so 4 s c).2).length + 1))) _
          refine wp_run 2 (pc' := 93) (ls' := [.ref 56, .int (B p), .int (nI (tx_lev (B p))), .int 1]) (st' := [.int 1, .ref 56]) rfl ?_
          refine wp_putz rfl (Or.inr rfl) rfl ?_
          refine wp_run 1 (pc' := 97) (ls' := [.ref 56, .int (B p), .int (nI (tx_lev (B p))), .int 1]) (st' := [.int 1]) rfl ?_
          refine wp_retz rfl (Or.inr rfl) ?_
          refine kt (true, (tx_so 4 s c).1, B p :: (tx_so 4 s c).2, p + 1) _ ?_ ?_
          · unfold tx_sg
            rw [if_neg c41, if_neg c22n, if_pos c29n]
            exact if_neg (by omega)
          · rw [show tx_op (true, (tx_so 4 s c).1, B p :: (tx_so 4 s c).2, p + 1).2.2.1 = tx_op s from (tx_op_lev (by omega)).trans (tx_so_op (by omega) s c)]
            exact (cr_w1 (cr_push (v := (B p)) (cr_p hX1)))
        · skip
          replace c68 := Decidable.not_not.mp c68
          have hl6 := tx_lev_le (tx_hd (tx_so 4 s c).2)
          have c68n : (tx_lev (tx_hd ((tx_so 4 s c).2))) = (tx_lev (B p)) := (nI_eq (a := (tx_lev (tx_hd ((tx_so 4 s c).2)))) (b := (tx_lev (B p))) (by omega) (by omega)).mp c68
          refine wp_run 1 (pc' := 72) (ls' := [.ref 56, .int (B p), .int (nI (tx_lev (B p))), .int 1]) (st' := [.int 0]) rfl ?_
          refine wp_retz rfl (Or.inl rfl) ?_
          refine kf ?_ _ hX1.1 hX1.2.2.1
          unfold tx_sg
          rw [if_neg c41, if_neg c22n, if_pos c29n]
          exact if_pos (by omega)
    · skip
      replace c22 := Decidable.not_not.mp c22
      have c22n : (tx_lev (B p)) = 0 := (nI_eq (a := (tx_lev (B p))) (b := 0) (by omega) (by omega)).mp c22
      refine wp_run 1 (pc' := 26) (ls' := [.ref 56, .int (B p), .int (nI (tx_lev (B p))), am_du]) (st' := [.int 0]) rfl ?_
      refine wp_retz rfl (Or.inl rfl) ?_
      refine kf ?_ _ hX.1 hX.2.2.1
      unfold tx_sg
      rw [if_neg c41]
      exact if_pos c22n
  · skip
    replace c41 := Decidable.not_not.mp c41
    refine wp_run 1 (pc' := 12) (ls' := [.ref 56, .int (B p), am_du, am_du]) (st' := [.ref 56]) rfl ?_
    refine wp_callV (o := 56) (as := []) (rest := []) (els := [.ref 56]) rfl rfl rfl rfl rfl rfl rfl rfl (by omega) ?_
    refine wp_run 2 (pc' := 2) (ls' := [.ref 56]) (st' := [.int 1, .ref 56]) rfl ?_
    refine wp_callV (o := 56) (as := [.int 1]) (rest := []) (els := [.ref 56, .int 1, am_du]) rfl rfl rfl rfl rfl rfl rfl rfl (by omega) ?_
    refine sp_sendOut (l := 1) (by omega) (by omega) hX (by omega) (by omega) (fun X1 hX1 => ?_)
    have hsl := tx_so_len (l := 1) s c
    show am_wp L xs _ _ _ _ 5 [.ref 56] [] (am_S 10) X1 _
    refine wp_run 1 (pc' := 6) (ls' := [.ref 56]) (st' := [.ref 56]) rfl ?_
    refine wp_getr 59 rfl rfl rfl ?_
    refine wp_callV (o := 59) (as := []) (rest := []) (els := [.ref 59]) rfl rfl rfl rfl rfl rfl rfl rfl (by omega) ?_
    refine sp_sgtop hX1 (by omega) ?_
    show am_wp L xs _ _ _ _ 12 [.ref 56] [.int (tx_hd ((tx_so 1 s c).2))] (am_S 10) X1 _
    refine wp_run 1 (pc' := 14) (ls' := [.ref 56]) (st' := [.int 40, .int (tx_hd ((tx_so 1 s c).2))]) rfl ?_
    refine wp_icmp rfl (fun (c40 : (tx_hd ((tx_so 1 s c).2)) = 40) => ?_) (fun (c40 : ¬ ((tx_hd ((tx_so 1 s c).2)) = 40)) => ?_)
    · skip
      obtain ⟨r, hr⟩ := tx_hd_40 c40
      rw [hr] at hX1 hsl
      have hrl : (40 :: r).length = r.length + 1 := rfl
      refine wp_run 2 (pc' := 21) (ls' := [.ref 56]) (st' := [.ref 56, .ref 56]) rfl ?_
      refine wp_geti (a := 4) (nI p) hX1.2.2.1 rfl rfl rfl ?_
      refine wp_run 2 (pc' := 26) (ls' := [.ref 56]) (st' := [.int ((nI p) + 1), .ref 56]) rfl ?_
      rw [show (((nI p) + 1) : Int32) = (nI (p + 1)) from nI_add p 1]
      refine wp_puti rfl rfl ?_
      refine wp_run 1 (pc' := 30) (ls' := [.ref 56]) (st' := [.ref 56]) rfl ?_
      refine wp_getr 59 rfl rfl rfl ?_
      refine wp_callV (o := 59) (as := []) (rest := []) (els := [.ref 59]) rfl rfl rfl rfl rfl rfl rfl rfl (by omega) ?_
      refine sp_pop (o := 59) (cap := 60) (n := r.length) rfl rfl rfl rfl (show _ = nI (r.length + 1) from (cr_p hX1).2.2.2.2.2.2.2.1) (by omega) ?_
      rw [show (am_u X1 56 4 (nI (p + 1))) (59 + 1) r.length = 40 from (cr_p hX1).2.2.2.2.2.2.2.2.1]
      show am_wp L xs _ _ _ _ 36 [.ref 56] [.int 40] (am_S 10) (am_u (am_u X1 56 4 (nI (p + 1))) 59 1 (nI r.length)) _
      refine wp_run 3 (pc' := 39) (ls' := [.ref 56]) (st' := [.ref 56, .ref 56]) rfl ?_
      refine wp_geti (a := 5) (nI (tx_op r + 1)) (show X1 56 5 = nI (tx_op r + 1) from hX1.2.2.2.1.trans (by rw [← tx_so_op (l := 1) (by decide) s c, hr, tx_op_o (Or.inr rfl)])) rfl rfl rfl ?_
      refine wp_run 2 (pc' := 44) (ls' := [.ref 56]) (st' := [.int ((nI (tx_op r + 1)) - 1), .ref 56]) rfl ?_
      rw [show (((nI (tx_op r + 1)) - 1) : Int32) = (nI (tx_op r)) from nI_pred (tx_op r)]
      refine wp_puti rfl rfl ?_
      refine wp_run 1 (pc' := 48) (ls' := [.ref 56]) (st' := [.ref 56]) rfl ?_
      refine wp_callV (o := 56) (as := []) (rest := []) (els := [.ref 56, am_du]) rfl rfl rfl rfl rfl rfl rfl rfl (by omega) ?_
      refine sp_closeNots (cr_o (cr_pop (cr_p hX1))) (by omega) (by omega) (fun Y2 hY2 => ?_)
      show am_wp L xs _ _ _ _ 51 [.ref 56] [] (am_S 10) Y2 _
      refine wp_run 1 (pc' := 52) (ls' := [.ref 56]) (st' := [.int 1]) rfl ?_
      refine wp_retz rfl (Or.inr rfl) ?_
      show am_wp L xs _ _ _ _ 15 [.ref 56, .int (B p), am_du, am_du] [.int 1] (am_S 10) Y2 _
      refine wp_retz rfl (Or.inr rfl) ?_
      refine kt (tx_dn (tx_so 1 s c).1 r (p + 1)) _ ?_ hY2
      unfold tx_sg
      rw [if_pos c41, hr]
      exact if_pos rfl
    · skip
      refine wp_run 1 (pc' := 18) (ls' := [.ref 56]) (st' := [.int 0]) rfl ?_
      refine wp_retz rfl (Or.inl rfl) ?_
      show am_wp L xs _ _ _ _ 15 [.ref 56, .int (B p), am_du, am_du] [.int 0] (am_S 10) X1 _
      refine wp_retz rfl (Or.inl rfl) ?_
      refine kf ?_ _ hX1.1 hX1.2.2.1
      unfold tx_sg
      rw [if_pos c41]
      exact if_neg c40
theorem sp_endsWell {L : Nat} {xs : Nat → Int32} {d ms : Nat} {Q : am_Q} {h : am_HI} {u tp : Nat} {B : Nat → Int32} (htp : tp ≤ 60) (h9 : h 9 1 = nI tp) (h10 : ∀ i, i < tp → h 10 i = B i) {w : Bool} {c s : List Int32} {p o : Nat} {X : am_HI} (hX : cr_st h X u o (w, c, s, p)) (hl : c.length + s.length ≤ 60) (hd : 3 ≤ d) (kt : ∀ X2 c2, tx_ew tp (w, c, s, p) = Sum.inr c2 → (∀ a, [56, 57, 58, 59, 60].elem a = false → X2 a = h a) → X2 57 1 = nI c2.length → (∀ i (hi : i < c2.length), X2 58 i = c2[i]) → c2.length ≤ 60 → Q (some (.int 1)) (am_S 10) X2) (kf : tx_ew tp (w, c, s, p) = Sum.inl tp → ∀ X2, (∀ a, [56, 57, 58, 59, 60].elem a = false → X2 a = h a) → Q (some (.int 0)) (am_S 10) X2) :
    am_wp L xs d 0 ms 63 0 [.ref 56] [] (am_S 10) X Q := by
  cases w with
  | true =>
    refine wp_run 1 (pc' := 1) (ls' := [.ref 56]) (st' := [.ref 56]) rfl ?_
    refine wp_geti (a := 6) 1 hX.2.2.2.2.1 rfl rfl rfl ?_
    refine wp_if_f rfl (show ¬ ((1 : Int32) = 0) from by decide) ?_
    refine wp_run 1 (pc' := 8) (ls' := [.ref 56]) (st' := [.int 0]) rfl ?_
    refine wp_retz rfl (Or.inl rfl) ?_
    exact kf rfl X hX.1
  | false =>
    refine wp_run 1 (pc' := 1) (ls' := [.ref 56]) (st' := [.ref 56]) rfl ?_
    refine wp_geti (a := 6) 0 hX.2.2.2.2.1 rfl rfl rfl ?_
    refine wp_if_t rfl (show (0 : Int32) = 0 from by decide) ?_
    refine wp_run 2 (pc' := 11) (ls' := [.ref 56]) (st' := [.int 1, .ref 56]) rfl ?_
    refine wp_callV (o := 56) (as := [.int 1]) (rest := []) (els := [.ref 56, .int 1, am_du]) rfl rfl rfl rfl rfl rfl rfl rfl (by omega) ?_
    refine sp_sendOut (l := 1) (by omega) (by omega) hX (by omega) (by omega) (fun X1 hX1 => ?_)
    have hsl := tx_so_len (l := 1) s c
    show am_wp L xs _ _ _ _ 14 [.ref 56] [] (am_S 10) X1 _
    refine wp_run 1 (pc' := 15) (ls' := [.ref 56]) (st' := [.ref 56]) rfl ?_
    refine wp_getr 59 rfl rfl rfl ?_
    refine wp_geti (a := 1) (nI (((tx_so 1 s c).2).length)) hX1.2.2.2.2.2.2.2.1 rfl rfl rfl ?_
    refine wp_if rfl (fun (c21 : ¬ (nI (((tx_so 1 s c).2).length)) = 0) => ?_) (fun (c21 : ¬ (¬ (nI (((tx_so 1 s c).2).length)) = 0)) => ?_)
    · skip
      have c21n : ¬ (((tx_so 1 s c).2).length = 0) := fun q => c21 ((nI_eq (a := ((tx_so 1 s c).2).length) (b := 0) (by omega) (by omega)).mpr q)
      refine wp_run 1 (pc' := 29) (ls' := [.ref 56]) (st' := [.int 0]) rfl ?_
      refine wp_retz rfl (Or.inl rfl) ?_
      have he : ¬ (tx_so 1 s c).2 = [] := fun q => c21n (by rw [q]; rfl)
      refine kf ?_ _ hX1.1
      show (if (tx_so 1 s c).2 = [] then _ else _) = _
      exact if_neg he
    · skip
      replace c21 := Decidable.not_not.mp c21
      have c21n : ((tx_so 1 s c).2).length = 0 := (nI_eq (a := ((tx_so 1 s c).2).length) (b := 0) (by omega) (by omega)).mp c21
      refine wp_run 2 (pc' := 29) (ls' := [.ref 56]) (st' := [.int 1]) rfl ?_
      refine wp_retz rfl (Or.inr rfl) ?_
      have he : (tx_so 1 s c).2 = [] := List.length_eq_zero_iff.mp c21n
      refine kt _ (tx_so 1 s c).1 ?_ hX1.1 hX1.2.2.2.2.2.1 hX1.2.2.2.2.2.2.1 (by omega)
      show (if (tx_so 1 s c).2 = [] then _ else _) = _
      exact if_pos he
