/-! calls tied: left -/
def pu_cnt (P : Nat) : Nat → Nat
  | 0 => 0
  | i + 1 => pu_cnt P i + (if P.testBit i then 1 else 0)
theorem pu_cnt_le (P : Nat) : ∀ n, pu_cnt P n ≤ n
  | 0 => Nat.le_refl 0
  | n + 1 => by
    have ih := pu_cnt_le P n
    show pu_cnt P n + _ ≤ _
    cases P.testBit n
    · exact Nat.le_succ_of_le ih
    · exact Nat.succ_le_succ ih
theorem pu_cnt7 : ∀ c, c < 8 → ∀ P, P < 128 → (∀ k, k < 7 → c ≤ k → P.testBit k = false) → pu_cnt P c = pu_cnt P 7 := by decide +kernel
theorem pu_and_not : ∀ A, A < 128 → ∀ W, W < 128 → nI A &&& (nI W ^^^ -1) = nI (A &&& (127 ^^^ W)) := by decide +kernel
theorem re_left {h : am_HI} {n c t tp wt : Nat} {s0 s1 : Int32} {p0 p1 : List Int32} (H : re_H h n c t tp wt s0 s1 p0 p1) : ((1 <<< (nI c &&& 31)) - 1) &&& (nI (ms_worn (fun g => h 75 (7 + 4 * g + 3)) n) ^^^ -1) = nI (hs_peg (h 5) c n) := by
  have hc7 := H.2.1.2.2
  have hw := fun g hg => (re_ms H).2.2.2.2.2.2.2.2 g hg
  have hl := ms_worn_lt (f := fun g => h 75 (7 + 4 * g + 3)) hc7 n hw
  have hw2 := fun g (hg : g < n) => (H.2.2.2.2.2.2.1 g hg).2.2.2
  have hp := hs_peg_lt (f := h 5) hc7 n hw2
  rw [pu_all_i c (by omega), pu_and_not _ (pu_all_lt c (by omega)) _ hl]
  congr 1
  refine pu_ext _ (Nat.lt_of_le_of_lt Nat.and_le_left (pu_all_lt c (by omega))) _ hp (fun k hk => ?_)
  rw [Nat.testBit_and, pu_all_bit c (by omega) k hk, Nat.testBit_xor]
  have h127 : Nat.testBit 127 k = true := by
    have : ∀ k, k < 7 → Nat.testBit 127 k = true := by decide
    exact this k hk
  rw [h127, Bool.true_xor]
  by_cases q : k < c
  · rw [re_bits H q]
    simp [q]
  · have e : (hs_peg (h 5) c n).testBit k = false := by
      rw [← Bool.not_eq_true]
      intro q2
      exact q ((hs_peg_bit hc7 k hk n hw2).mp q2).1
    rw [e]
    simp [q]
theorem pu_bc : ∀ P, P < 128 → (((((((((nI P) - ((am_ushr (nI P) 1) &&& 1431655765)) &&& 858993459) + ((am_ushr ((nI P) - ((am_ushr (nI P) 1) &&& 1431655765)) 2) &&& 858993459)) + (am_ushr ((((nI P) - ((am_ushr (nI P) 1) &&& 1431655765)) &&& 858993459) + ((am_ushr ((nI P) - ((am_ushr (nI P) 1) &&& 1431655765)) 2) &&& 858993459)) 4)) &&& 252645135) + (am_ushr ((((((nI P) - ((am_ushr (nI P) 1) &&& 1431655765)) &&& 858993459) + ((am_ushr ((nI P) - ((am_ushr (nI P) 1) &&& 1431655765)) 2) &&& 858993459)) + (am_ushr ((((nI P) - ((am_ushr (nI P) 1) &&& 1431655765)) &&& 858993459) + ((am_ushr ((nI P) - ((am_ushr (nI P) 1) &&& 1431655765)) 2) &&& 858993459)) 4)) &&& 252645135) 8)) + (am_ushr (((((((nI P) - ((am_ushr (nI P) 1) &&& 1431655765)) &&& 858993459) + ((am_ushr ((nI P) - ((am_ushr (nI P) 1) &&& 1431655765)) 2) &&& 858993459)) + (am_ushr ((((nI P) - ((am_ushr (nI P) 1) &&& 1431655765)) &&& 858993459) + ((am_ushr ((nI P) - ((am_ushr (nI P) 1) &&& 1431655765)) 2) &&& 858993459)) 4)) &&& 252645135) + (am_ushr ((((((nI P) - ((am_ushr (nI P) 1) &&& 1431655765)) &&& 858993459) + ((am_ushr ((nI P) - ((am_ushr (nI P) 1) &&& 1431655765)) 2) &&& 858993459)) + (am_ushr ((((nI P) - ((am_ushr (nI P) 1) &&& 1431655765)) &&& 858993459) + ((am_ushr ((nI P) - ((am_ushr (nI P) 1) &&& 1431655765)) 2) &&& 858993459)) 4)) &&& 252645135) 8)) 16)) &&& 63) = nI (pu_cnt P 7) := by decide +kernel
theorem sp_bitCount {L : Nat} {xs : Nat → Int32} {d ms : Nat} {h : am_HI} {sh : am_SH} {Q : am_Q} {P : Nat} (hP : P < 128) (kk : Q (some (.int (nI (pu_cnt P 7)))) sh h) :
    am_wp L xs d 0 ms 91 0 [.int (nI P)] [] sh h Q := by
  have bc := pu_bc
  refine wp_run 41 (pc' := 52) (ls' := [.int ((((((((nI P) - ((am_ushr (nI P) 1) &&& 1431655765)) &&& 858993459) + ((am_ushr ((nI P) - ((am_ushr (nI P) 1) &&& 1431655765)) 2) &&& 858993459)) + (am_ushr ((((nI P) - ((am_ushr (nI P) 1) &&& 1431655765)) &&& 858993459) + ((am_ushr ((nI P) - ((am_ushr (nI P) 1) &&& 1431655765)) 2) &&& 858993459)) 4)) &&& 252645135) + (am_ushr ((((((nI P) - ((am_ushr (nI P) 1) &&& 1431655765)) &&& 858993459) + ((am_ushr ((nI P) - ((am_ushr (nI P) 1) &&& 1431655765)) 2) &&& 858993459)) + (am_ushr ((((nI P) - ((am_ushr (nI P) 1) &&& 1431655765)) &&& 858993459) + ((am_ushr ((nI P) - ((am_ushr (nI P) 1) &&& 1431655765)) 2) &&& 858993459)) 4)) &&& 252645135) 8)) + (am_ushr (((((((nI P) - ((am_ushr (nI P) 1) &&& 1431655765)) &&& 858993459) + ((am_ushr ((nI P) - ((am_ushr (nI P) 1) &&& 1431655765)) 2) &&& 858993459)) + (am_ushr ((((nI P) - ((am_ushr (nI P) 1) &&& 1431655765)) &&& 858993459) + ((am_ushr ((nI P) - ((am_ushr (nI P) 1) &&& 1431655765)) 2) &&& 858993459)) 4)) &&& 252645135) + (am_ushr ((((((nI P) - ((am_ushr (nI P) 1) &&& 1431655765)) &&& 858993459) + ((am_ushr ((nI P) - ((am_ushr (nI P) 1) &&& 1431655765)) 2) &&& 858993459)) + (am_ushr ((((nI P) - ((am_ushr (nI P) 1) &&& 1431655765)) &&& 858993459) + ((am_ushr ((nI P) - ((am_ushr (nI P) 1) &&& 1431655765)) 2) &&& 858993459)) 4)) &&& 252645135) 8)) 16))]) (st' := [.int (((((((((nI P) - ((am_ushr (nI P) 1) &&& 1431655765)) &&& 858993459) + ((am_ushr ((nI P) - ((am_ushr (nI P) 1) &&& 1431655765)) 2) &&& 858993459)) + (am_ushr ((((nI P) - ((am_ushr (nI P) 1) &&& 1431655765)) &&& 858993459) + ((am_ushr ((nI P) - ((am_ushr (nI P) 1) &&& 1431655765)) 2) &&& 858993459)) 4)) &&& 252645135) + (am_ushr ((((((nI P) - ((am_ushr (nI P) 1) &&& 1431655765)) &&& 858993459) + ((am_ushr ((nI P) - ((am_ushr (nI P) 1) &&& 1431655765)) 2) &&& 858993459)) + (am_ushr ((((nI P) - ((am_ushr (nI P) 1) &&& 1431655765)) &&& 858993459) + ((am_ushr ((nI P) - ((am_ushr (nI P) 1) &&& 1431655765)) 2) &&& 858993459)) 4)) &&& 252645135) 8)) + (am_ushr (((((((nI P) - ((am_ushr (nI P) 1) &&& 1431655765)) &&& 858993459) + ((am_ushr ((nI P) - ((am_ushr (nI P) 1) &&& 1431655765)) 2) &&& 858993459)) + (am_ushr ((((nI P) - ((am_ushr (nI P) 1) &&& 1431655765)) &&& 858993459) + ((am_ushr ((nI P) - ((am_ushr (nI P) 1) &&& 1431655765)) 2) &&& 858993459)) 4)) &&& 252645135) + (am_ushr ((((((nI P) - ((am_ushr (nI P) 1) &&& 1431655765)) &&& 858993459) + ((am_ushr ((nI P) - ((am_ushr (nI P) 1) &&& 1431655765)) 2) &&& 858993459)) + (am_ushr ((((nI P) - ((am_ushr (nI P) 1) &&& 1431655765)) &&& 858993459) + ((am_ushr ((nI P) - ((am_ushr (nI P) 1) &&& 1431655765)) 2) &&& 858993459)) 4)) &&& 252645135) 8)) 16)) &&& 63)]) rfl ?_
  refine wp_ret rfl ?_
  rw [bc P hP]
  exact kk
theorem lp_left {L : Nat} {xs : Nat → Int32} {d ms b : Nat} {h : am_HI} {Q : am_Q} {x1 : Int32} {P c : Nat} (hP : P < 128) (hm3 : h 75 3 = nI c) (hc7 : c ≤ 7) (kk : Q (some (.int (if x1 = 0 then nI P else nI (pu_cnt P c)))) (am_S b) h) :
    ∀ (m i : Nat), i + m = c → am_wp L xs d 0 ms 191 39 [.ref 74, .int x1, .int (nI P), .int (nI (pu_cnt P i)), .int (nI i)] [] (am_S b) h Q := by
  intro m
  induction m with
  | zero =>
    intro i hi
    refine wp_run 2 (pc' := 42) (ls' := [.ref 74, .int x1, .int (nI P), .int (nI (pu_cnt P i)), .int (nI i)]) (st' := [.ref 74, .int (nI i)]) rfl ?_
    refine wp_getr 75 rfl rfl rfl ?_
    refine wp_run 1 (pc' := 46) (ls' := [.ref 74, .int x1, .int (nI P), .int (nI (pu_cnt P i)), .int (nI i)]) (st' := [.int 3, .ref 75, .int (nI i)]) rfl ?_
    refine wp_ald (i := 3) (nI c) hm3 rfl rfl rfl (by decide) rfl ?_
    refine wp_icmp_t rfl (show (nI c) ≤ (nI i) from (nI_leI (a := c) (b := i) (by omega) (by omega)).mpr (by omega)) ?_
    refine wp_run 1 (pc' := 66) (ls' := [.ref 74, .int x1, .int (nI P), .int (nI (pu_cnt P i)), .int (nI i)]) (st' := [.int x1]) rfl ?_
    refine wp_if rfl (fun (cq66 : ¬ x1 = 0) => ?_) (fun (cq66 : ¬ (¬ x1 = 0)) => ?_)
    · skip
      refine wp_run 1 (pc' := 74) (ls' := [.ref 74, .int x1, .int (nI P), .int (nI (pu_cnt P i)), .int (nI i)]) (st' := [.int (nI (pu_cnt P i))]) rfl ?_
      refine wp_ret rfl ?_
      have e : i = c := by omega
      subst e
      rw [if_neg cq66] at kk
      exact kk
    · skip
      replace cq66 := Decidable.not_not.mp cq66
      refine wp_run 2 (pc' := 74) (ls' := [.ref 74, .int x1, .int (nI P), .int (nI (pu_cnt P i)), .int (nI i)]) (st' := [.int (nI P)]) rfl ?_
      refine wp_ret rfl ?_
      have e : i = c := by omega
      subst e
      rw [if_pos cq66] at kk
      exact kk
  | succ m ih =>
    intro i hi
    refine wp_run 2 (pc' := 42) (ls' := [.ref 74, .int x1, .int (nI P), .int (nI (pu_cnt P i)), .int (nI i)]) (st' := [.ref 74, .int (nI i)]) rfl ?_
    refine wp_getr 75 rfl rfl rfl ?_
    refine wp_run 1 (pc' := 46) (ls' := [.ref 74, .int x1, .int (nI P), .int (nI (pu_cnt P i)), .int (nI i)]) (st' := [.int 3, .ref 75, .int (nI i)]) rfl ?_
    refine wp_ald (i := 3) (nI c) hm3 rfl rfl rfl (by decide) rfl ?_
    refine wp_icmp_f rfl (show ¬ ((nI c) ≤ (nI i)) from mt (nI_leI (a := c) (b := i) (by omega) (by omega)).mp (by omega)) ?_
    refine wp_run 10 (pc' := 39) (ls' := [.ref 74, .int x1, .int (nI P), .int ((nI (pu_cnt P i)) + (((nI P) >>> ((nI i) &&& 31)) &&& 1)), .int ((nI i) + 1)]) (st' := []) rfl ?_
    rw [show (((nI i) + 1) : Int32) = (nI (i + 1)) from nI_add i 1]
    have ih2 := ih (i + 1) (by omega)
    rw [show nI (pu_cnt P (i + 1)) = ((nI (pu_cnt P i)) + (((nI P) >>> ((nI i) &&& 31)) &&& 1)) from by rw [pu_bit_i P hP i (by omega)]; show nI (pu_cnt P i + _) = _; rw [← nI_add]; cases P.testBit i <;> rfl] at ih2
    exact ih2
theorem op_left {L : Nat} {xs : Nat → Int32} {d ms b N : Nat} {h : am_HI} {Q : am_Q} {x1 : Int32} (hd : 30 ≤ d) (hR : am_Rel N h) (hN : N < 100000)
    (kk : ∀ v b1 h1, (∀ ms2 Q2, (∀ b2 h2, am_Rel (N + 1) h2 → Q2 (some (.int v)) (am_S b2) h2) → am_wp L xs d 0 ms2 191 0 [.ref 74, .int x1, am_du, am_du, am_du] [] (am_S b1) h1 Q2) → Q (some (.int v)) (am_S b1) h1) :
    am_wp L xs d 0 ms 90 0 [.ref 0, .int x1, am_du] [] (am_S b) h Q := by
  obtain ⟨⟨n, c, t, tp, wt, s0, s1, p0, p1, H⟩, hI, hE, hS0, hS1, hS2, hS3, hT⟩ := id hR
  have hn := H.1.1
  have hm2 := H.1.2.1
  have hn7 := H.1.2.2
  have hc := H.2.1.1
  have hm3 := H.2.1.2.1
  have hc7 := H.2.1.2.2
  have ht := H.2.2.1.1
  have hm0 := H.2.2.1.2.1
  have ht9 := H.2.2.1.2.2
  have HS := re_hs H
  have HM := re_ms H
  have hpl := hs_peg_lt hc7 n HS.2.2.2.2.2.2.2.2.2.2
  refine wp_run 3 (pc' := 3) (ls' := [.ref 0, .int x1, am_du]) (st' := [.int 1, .int 0, .int x1]) rfl ?_
  refine wp_callS (as := [.int x1, .int 0, .int 1]) (rest := []) (els := [.int x1, .int 0, .int 1]) rfl rfl rfl rfl rfl rfl rfl rfl (by omega) ?_
  refine sp_x_within0 (m := 1) rfl rfl (pu_two ?_ ?_) ?_
  · skip
    intro ex1
    subst ex1
    show am_wp L xs _ _ _ _ 6 [.ref 0, .int 0, am_du] [.int 1] (am_S b) h _
    refine wp_if_t rfl (show ¬ (1 : Int32) = 0 from by decide) ?_
    refine wp_run 1 (pc' := 16) (ls' := [.ref 0, .int 0, am_du]) (st' := [.ref 0]) rfl ?_
    refine wp_getr 1 rfl rfl rfl ?_
    refine wp_callV (o := 1) (as := []) (rest := []) (els := [.ref 1, am_du, am_du]) rfl rfl rfl rfl rfl rfl rfl rfl (by omega) ?_
    refine sp_hanging (h := h) (n := n) (c := c) hn hn7 hc hc7 HS.2.2.2.2.2.2.2.2.2.2 (by omega) ?_
    show am_wp L xs _ _ _ _ 22 [.ref 0, .int 0, am_du] [.int (nI (hs_peg (h 5) c n))] (am_S b) h _
    refine wp_run 2 (pc' := 24) (ls' := [.ref 0, .int 0, .int (nI (hs_peg (h 5) c n))]) (st' := [.int 0]) rfl ?_
    refine wp_if_f rfl (show ¬ (¬ (0 : Int32) = 0) from by decide) ?_
    refine wp_run 2 (pc' := 35) (ls' := [.ref 0, .int 0, .int (nI (hs_peg (h 5) c n))]) (st' := [.int (nI (hs_peg (h 5) c n))]) rfl ?_
    refine wp_ret rfl ?_
    refine kk _ _ _ (fun ms2 Q2 kk2 => ?_)
    refine wp_run 3 (pc' := 3) (ls' := [.ref 74, .int 0, am_du, am_du, am_du]) (st' := [.int 1, .int 0, .int 0]) rfl ?_
    refine wp_callS (as := [.int 0, .int 0, .int 1]) (rest := []) (els := [.int 0, .int 0, .int 1]) rfl rfl rfl rfl rfl rfl rfl rfl (by omega) ?_
    refine sp_m_in0 (m := 1) rfl rfl (fun _ _ _ => ?_) (fun q => absurd rfl (q 0 (by omega)))
    show am_wp L xs _ _ _ _ 6 [.ref 74, .int 0, am_du, am_du, am_du] [.int 1] (am_S b) h _
    refine wp_if_t rfl (show ¬ (1 : Int32) = 0 from by decide) ?_
    refine wp_run 2 (pc' := 18) (ls' := [.ref 74, .int 0, am_du, am_du, am_du]) (st' := [.ref 74, .int 1]) rfl ?_
    refine wp_getr 75 rfl rfl rfl ?_
    refine wp_run 1 (pc' := 22) (ls' := [.ref 74, .int 0, am_du, am_du, am_du]) (st' := [.int 3, .ref 75, .int 1]) rfl ?_
    refine wp_ald (i := 3) (nI c) hm3 rfl rfl rfl (by decide) rfl ?_
    refine wp_run 4 (pc' := 27) (ls' := [.ref 74, .int 0, am_du, am_du, am_du]) (st' := [.ref 74, .int ((1 <<< ((nI c) &&& 31)) - 1)]) rfl ?_
    refine wp_callV (o := 74) (as := []) (rest := [.int ((1 <<< ((nI c) &&& 31)) - 1)]) (els := [.ref 74, am_du, am_du]) rfl rfl rfl rfl rfl rfl rfl rfl (by omega) ?_
    refine sp_worn (h := h) (n := n) (c := c) hm2 hn7 hc7 HM.2.2.2.2.2.2.2.2 (by omega) ?_
    show am_wp L xs _ _ _ _ 30 [.ref 74, .int 0, am_du, am_du, am_du] [.int (nI (ms_worn (fun g => h 75 (7 + 4 * g + 3)) n)), .int ((1 <<< ((nI c) &&& 31)) - 1)] (am_S b) h _
    refine wp_run 8 (pc' := 39) (ls' := [.ref 74, .int 0, .int (((1 <<< ((nI c) &&& 31)) - 1) &&& ((nI (ms_worn (fun g => h 75 (7 + 4 * g + 3)) n)) ^^^ (-1))), .int 0, .int 0]) (st' := []) rfl ?_
    rw [show ((((1 <<< ((nI c) &&& 31)) - 1) &&& ((nI (ms_worn (fun g => h 75 (7 + 4 * g + 3)) n)) ^^^ (-1))) : Int32) = nI (hs_peg (h 5) c n) from re_left H]
    refine lp_left (h := h) hpl hm3 hc7 ?_ c 0 (by omega)
    rw [if_pos rfl]
    exact kk2 _ _ ⟨⟨n, c, t, tp, wt, s0, s1, p0, p1, H⟩, re_im_s hI, hE, hS0, hS1, hS2, hS3, hT⟩
  · skip
    intro ex1
    subst ex1
    show am_wp L xs _ _ _ _ 6 [.ref 0, .int 1, am_du] [.int 1] (am_S b) h _
    refine wp_if_t rfl (show ¬ (1 : Int32) = 0 from by decide) ?_
    refine wp_run 1 (pc' := 16) (ls' := [.ref 0, .int 1, am_du]) (st' := [.ref 0]) rfl ?_
    refine wp_getr 1 rfl rfl rfl ?_
    refine wp_callV (o := 1) (as := []) (rest := []) (els := [.ref 1, am_du, am_du]) rfl rfl rfl rfl rfl rfl rfl rfl (by omega) ?_
    refine sp_hanging (h := h) (n := n) (c := c) hn hn7 hc hc7 HS.2.2.2.2.2.2.2.2.2.2 (by omega) ?_
    show am_wp L xs _ _ _ _ 22 [.ref 0, .int 1, am_du] [.int (nI (hs_peg (h 5) c n))] (am_S b) h _
    refine wp_run 2 (pc' := 24) (ls' := [.ref 0, .int 1, .int (nI (hs_peg (h 5) c n))]) (st' := [.int 1]) rfl ?_
    refine wp_if_t rfl (show ¬ (1 : Int32) = 0 from by decide) ?_
    refine wp_run 1 (pc' := 32) (ls' := [.ref 0, .int 1, .int (nI (hs_peg (h 5) c n))]) (st' := [.int (nI (hs_peg (h 5) c n))]) rfl ?_
    refine wp_callS (as := [.int (nI (hs_peg (h 5) c n))]) (rest := []) (els := [.int (nI (hs_peg (h 5) c n))]) rfl rfl rfl rfl rfl rfl rfl rfl (by omega) ?_
    refine sp_bitCount (P := (hs_peg (h 5) c n)) hpl ?_
    show am_wp L xs _ _ _ _ 35 [.ref 0, .int 1, .int (nI (hs_peg (h 5) c n))] [.int (nI (pu_cnt (hs_peg (h 5) c n) 7))] (am_S b) h _
    refine wp_ret rfl ?_
    refine kk _ _ _ (fun ms2 Q2 kk2 => ?_)
    refine wp_run 3 (pc' := 3) (ls' := [.ref 74, .int 1, am_du, am_du, am_du]) (st' := [.int 1, .int 0, .int 1]) rfl ?_
    refine wp_callS (as := [.int 1, .int 0, .int 1]) (rest := []) (els := [.int 1, .int 0, .int 1]) rfl rfl rfl rfl rfl rfl rfl rfl (by omega) ?_
    refine sp_m_in0 (m := 1) rfl rfl (fun _ _ _ => ?_) (fun q => absurd rfl (q 1 (by omega)))
    show am_wp L xs _ _ _ _ 6 [.ref 74, .int 1, am_du, am_du, am_du] [.int 1] (am_S b) h _
    refine wp_if_t rfl (show ¬ (1 : Int32) = 0 from by decide) ?_
    refine wp_run 2 (pc' := 18) (ls' := [.ref 74, .int 1, am_du, am_du, am_du]) (st' := [.ref 74, .int 1]) rfl ?_
    refine wp_getr 75 rfl rfl rfl ?_
    refine wp_run 1 (pc' := 22) (ls' := [.ref 74, .int 1, am_du, am_du, am_du]) (st' := [.int 3, .ref 75, .int 1]) rfl ?_
    refine wp_ald (i := 3) (nI c) hm3 rfl rfl rfl (by decide) rfl ?_
    refine wp_run 4 (pc' := 27) (ls' := [.ref 74, .int 1, am_du, am_du, am_du]) (st' := [.ref 74, .int ((1 <<< ((nI c) &&& 31)) - 1)]) rfl ?_
    refine wp_callV (o := 74) (as := []) (rest := [.int ((1 <<< ((nI c) &&& 31)) - 1)]) (els := [.ref 74, am_du, am_du]) rfl rfl rfl rfl rfl rfl rfl rfl (by omega) ?_
    refine sp_worn (h := h) (n := n) (c := c) hm2 hn7 hc7 HM.2.2.2.2.2.2.2.2 (by omega) ?_
    show am_wp L xs _ _ _ _ 30 [.ref 74, .int 1, am_du, am_du, am_du] [.int (nI (ms_worn (fun g => h 75 (7 + 4 * g + 3)) n)), .int ((1 <<< ((nI c) &&& 31)) - 1)] (am_S b) h _
    refine wp_run 8 (pc' := 39) (ls' := [.ref 74, .int 1, .int (((1 <<< ((nI c) &&& 31)) - 1) &&& ((nI (ms_worn (fun g => h 75 (7 + 4 * g + 3)) n)) ^^^ (-1))), .int 0, .int 0]) (st' := []) rfl ?_
    rw [show ((((1 <<< ((nI c) &&& 31)) - 1) &&& ((nI (ms_worn (fun g => h 75 (7 + 4 * g + 3)) n)) ^^^ (-1))) : Int32) = nI (hs_peg (h 5) c n) from re_left H]
    refine lp_left (h := h) hpl hm3 hc7 ?_ c 0 (by omega)
    rw [if_neg (by decide), pu_cnt7 c (by omega) (hs_peg (h 5) c n) hpl (fun k hk hk2 => by
      rw [← Bool.not_eq_true]
      intro q2
      exact absurd ((hs_peg_bit hc7 k hk n HS.2.2.2.2.2.2.2.2.2.2).mp q2).1 (by omega))]
    exact kk2 _ _ ⟨⟨n, c, t, tp, wt, s0, s1, p0, p1, H⟩, re_im_s hI, hE, hS0, hS1, hS2, hS3, hT⟩
  · skip
    intro hnx1
    show am_wp L xs _ _ _ _ 6 [.ref 0, .int x1, am_du] [.int 0] (am_S b) h _
    refine wp_if_f rfl (show ¬ (¬ (0 : Int32) = 0) from by decide) ?_
    refine wp_run 2 (pc' := 11) (ls' := [.ref 0, .int x1, am_du]) (st' := [.int 1, .ref 0]) rfl ?_
    refine wp_callV (o := 0) (as := [.int 1]) (rest := []) (els := [.ref 0, .int 1]) rfl rfl rfl rfl rfl rfl rfl rfl (by omega) ?_
    refine sp_refuse1 (by omega) ?_
    show am_wp L xs _ _ _ _ 14 [.ref 0, .int x1, am_du] [.int (-1000000001)] (am_S b) (am_u h 73 1 (h 73 1 + 1)) _
    refine wp_ret rfl ?_
    refine kk _ _ _ (fun ms2 Q2 kk2 => ?_)
    refine wp_run 3 (pc' := 3) (ls' := [.ref 74, .int x1, am_du, am_du, am_du]) (st' := [.int 1, .int 0, .int x1]) rfl ?_
    refine wp_callS (as := [.int x1, .int 0, .int 1]) (rest := []) (els := [.int x1, .int 0, .int 1]) rfl rfl rfl rfl rfl rfl rfl rfl (by omega) ?_
    refine sp_m_in0 (m := 1) rfl rfl (fun k hk e => absurd e (hnx1 k hk)) (fun _ => ?_)
    show am_wp L xs _ _ _ _ 6 [.ref 74, .int x1, am_du, am_du, am_du] [.int 0] (am_S b) (am_u h 73 1 (h 73 1 + 1)) _
    refine wp_if_f rfl (show ¬ (¬ (0 : Int32) = 0) from by decide) ?_
    refine wp_run 2 (pc' := 12) (ls' := [.ref 74, .int x1, am_du, am_du, am_du]) (st' := [.int (-1000000001), .ref 74]) rfl ?_
    refine wp_callV (o := 74) (as := [.int (-1000000001)]) (rest := []) (els := [.ref 74, .int (-1000000001)]) rfl rfl rfl rfl rfl rfl rfl rfl (by omega) ?_
    refine sp_error1 ?_
    show am_wp L xs _ _ _ _ 15 [.ref 74, .int x1, am_du, am_du, am_du] [.int (-1000000001)] (am_S b) (am_u (am_u h 73 1 (h 73 1 + 1)) 77 1 ((am_u h 73 1 (h 73 1 + 1)) 77 1 + 1)) _
    refine wp_ret rfl ?_
    exact kk2 _ _ (re_err1 hR)
