/-! calls tied: judge -/
def pu_ro (a b : Nat → Int32) (l n r : Nat) : Prop := r ≤ l ∧ (∀ q, q < r → q < n ∧ a q = b q) ∧ (r = l ∨ ¬ (r < n ∧ a r = b r))
theorem pu_ro_uniq {a b a2 b2 : Nat → Int32} {l n r r2 : Nat} (h : pu_ro a b l n r) (h2 : pu_ro a2 b2 l n r2) (e : ∀ q, q < l → q < n → (a q = b q ↔ a2 q = b2 q)) : r = r2 := by
  obtain ⟨h3, h4, h5⟩ := h
  obtain ⟨h6, h7, h8⟩ := h2
  rcases Nat.lt_trichotomy r r2 with q | q | q
  · rcases h5 with h5 | h5
    · omega
    · have := h7 r q
      exact absurd ⟨this.1, (e r (by omega) this.1).mpr this.2⟩ h5
  · exact q
  · rcases h8 with h8 | h8
    · omega
    · have := h4 r2 q
      exact absurd ⟨this.1, (e r2 (by omega) this.1).mp this.2⟩ h8
theorem lp_rightOnes {L : Nat} {xs : Nat → Int32} {d ms : Nat} {h : am_HI} {sh : am_SH} {Q : am_Q} {o e l n : Nat} (ho : am_objb sh o 5 = true) (hr : am_rf sh o 0 = o + 1 + 1) (hz : sh[o + 1]? = some (20, 24, [])) (he : sh[e]? = some (20, 7, [])) (ho2 : h o 2 = nI l) (hl : l ≤ 24) (hn7 : n ≤ 7) (kk : ∀ r, pu_ro (h (o + 1)) (h e) l n r → Q (some (.int (nI r))) sh h) :
    ∀ (m i : Nat) (hx : ∀ q, q < i → q < n ∧ h (o + 1) q = h e q), i + m = l → am_wp L xs d 0 ms 100 2 [.ref o, .ref e, .int (nI n), .int (nI i)] [] sh h Q := by
  intro m
  induction m with
  | zero =>
    intro i hx hi
    refine wp_run 2 (pc' := 4) (ls' := [.ref o, .ref e, .int (nI n), .int (nI i)]) (st' := [.ref o, .int (nI i)]) rfl ?_
    refine wp_geti (a := 2) (nI l) ho2 rfl rfl ho ?_
    refine wp_icmp_t rfl (show (nI l) ≤ (nI i) from (nI_leI (a := l) (b := i) (by omega) (by omega)).mpr (by omega)) ?_
    refine wp_run 1 (pc' := 42) (ls' := [.ref o, .ref e, .int (nI n), .int (nI i)]) (st' := [.ref o]) rfl ?_
    refine wp_geti (a := 2) (nI l) ho2 rfl rfl ho ?_
    refine wp_ret rfl ?_
    have e9 : i = l := by omega
    subst e9
    exact kk i ⟨by omega, hx, Or.inl rfl⟩
  | succ m ih =>
    intro i hx hi
    refine wp_run 2 (pc' := 4) (ls' := [.ref o, .ref e, .int (nI n), .int (nI i)]) (st' := [.ref o, .int (nI i)]) rfl ?_
    refine wp_geti (a := 2) (nI l) ho2 rfl rfl ho ?_
    refine wp_icmp_f rfl (show ¬ ((nI l) ≤ (nI i)) from mt (nI_leI (a := l) (b := i) (by omega) (by omega)).mp (by omega)) ?_
    refine wp_run 2 (pc' := 12) (ls' := [.ref o, .ref e, .int (nI n), .int (nI i)]) (st' := [.int (nI n), .int (nI i)]) rfl ?_
    refine wp_icmp rfl (fun (cq12 : (nI n) ≤ (nI i)) => ?_) (fun (cq12 : ¬ ((nI n) ≤ (nI i))) => ?_)
    · skip
      have cq12n : n ≤ i := (nI_leI (a := n) (b := i) (by omega) (by omega)).mp cq12
      refine wp_run 1 (pc' := 34) (ls' := [.ref o, .ref e, .int (nI n), .int (nI i)]) (st' := [.int (nI i)]) rfl ?_
      refine wp_ret rfl ?_
      exact kk i ⟨by omega, hx, Or.inr (fun q => absurd q.1 (by omega))⟩
    · skip
      have cq12n : ¬ (n ≤ i) := fun q => cq12 ((nI_leI (a := n) (b := i) (by omega) (by omega)).mpr q)
      refine wp_run 2 (pc' := 17) (ls' := [.ref o, .ref e, .int (nI n), .int (nI i)]) (st' := [.ref e, .int (nI i)]) rfl ?_
      refine wp_len rfl he ?_
      refine wp_icmp_f rfl (show ¬ ((nI 7) ≤ (nI i)) from mt (nI_leI (a := 7) (b := i) (by omega) (by omega)).mp (by omega)) ?_
      refine wp_run 1 (pc' := 22) (ls' := [.ref o, .ref e, .int (nI n), .int (nI i)]) (st' := [.ref o]) rfl ?_
      refine wp_getr (o + 1) rfl ho hr ?_
      refine wp_run 1 (pc' := 26) (ls' := [.ref o, .ref e, .int (nI n), .int (nI i)]) (st' := [.int (nI i), .ref (o + 1)]) rfl ?_
      refine wp_ald (i := i) (h (o + 1) i) rfl rfl hz rfl (by omega) rfl ?_
      refine wp_run 2 (pc' := 29) (ls' := [.ref o, .ref e, .int (nI n), .int (nI i)]) (st' := [.int (nI i), .ref e, .int (h (o + 1) i)]) rfl ?_
      refine wp_ald (i := i) (h e i) rfl rfl he rfl (by omega) rfl ?_
      refine wp_icmp rfl (fun (cq30 : (h (o + 1) i) = (h e i)) => ?_) (fun (cq30 : ¬ ((h (o + 1) i) = (h e i))) => ?_)
      · skip
        refine wp_run 2 (pc' := 2) (ls' := [.ref o, .ref e, .int (nI n), .int ((nI i) + 1)]) (st' := []) rfl ?_
        rw [show (((nI i) + 1) : Int32) = (nI (i + 1)) from nI_add i 1]
        exact ih (i + 1) (fun g hg => by rcases Nat.lt_succ_iff_lt_or_eq.mp hg with q2 | q2; exact hx g q2; rw [q2]; exact ⟨by omega, cq30⟩) (by omega)
      · skip
        refine wp_run 1 (pc' := 34) (ls' := [.ref o, .ref e, .int (nI n), .int (nI i)]) (st' := [.int (nI i)]) rfl ?_
        refine wp_ret rfl ?_
        exact kk i ⟨by omega, hx, Or.inr (fun q => cq30 q.2)⟩
theorem sp_rightOnes {L : Nat} {xs : Nat → Int32} {d ms : Nat} {h : am_HI} {sh : am_SH} {Q : am_Q} {o e l n : Nat} (ho : am_objb sh o 5 = true) (hr : am_rf sh o 0 = o + 1 + 1) (hz : sh[o + 1]? = some (20, 24, [])) (he : sh[e]? = some (20, 7, [])) (ho2 : h o 2 = nI l) (hl : l ≤ 24) (hn7 : n ≤ 7) (kk : ∀ r, pu_ro (h (o + 1)) (h e) l n r → Q (some (.int (nI r))) sh h) :
    am_wp L xs d 0 ms 100 0 [.ref o, .ref e, .int (nI n), am_du] [] sh h Q := by
  refine wp_run 2 (pc' := 2) (ls' := [.ref o, .ref e, .int (nI n), .int 0]) (st' := []) rfl ?_
  exact lp_rightOnes ho hr hz he ho2 hl hn7 kk l 0 (fun q hq => by omega) (by omega)
theorem lp_judge {L : Nat} {xs : Nat → Int32} {d ms b : Nat} {h : am_HI} {Q : am_Q} {s l n : Nat} (hs : s < 4) (hl : l ≤ 24) (hz2 : h 79 s = nI l) (hm2 : h 75 2 = nI n) (hn7 : n ≤ 7) (hd : 2 ≤ d) (kk : ∀ r, pu_ro (fun q => h 80 (24 * s + q)) (fun q => h 75 (7 + 4 * q + 3)) l n r → Q (some (.int (nI r))) (am_S b) h) :
    ∀ (m i : Nat) (hx : ∀ q, q < i → q < n ∧ h 80 (24 * s + q) = h 75 (7 + 4 * q + 3)), i + m = l → am_wp L xs d 0 ms 216 18 [.ref 74, .int (nI s), .int 0, .int (nI i)] [] (am_S b) h Q := by
  intro m
  induction m with
  | zero =>
    intro i hx hi
    refine wp_run 2 (pc' := 20) (ls' := [.ref 74, .int (nI s), .int 0, .int (nI i)]) (st' := [.ref 74, .int (nI i)]) rfl ?_
    refine wp_getr 79 rfl rfl rfl ?_
    refine wp_run 1 (pc' := 24) (ls' := [.ref 74, .int (nI s), .int 0, .int (nI i)]) (st' := [.int (nI s), .ref 79, .int (nI i)]) rfl ?_
    refine wp_ald (i := s) (nI l) hz2 rfl rfl rfl (by omega) rfl ?_
    refine wp_icmp_t rfl (show (nI l) ≤ (nI i) from (nI_leI (a := l) (b := i) (by omega) (by omega)).mpr (by omega)) ?_
    refine wp_run 1 (pc' := 65) (ls' := [.ref 74, .int (nI s), .int 0, .int (nI i)]) (st' := [.int (nI i)]) rfl ?_
    refine wp_ret rfl ?_
    have e9 : i = l := by omega
    subst e9
    exact kk i ⟨by omega, hx, Or.inl rfl⟩
  | succ m ih =>
    intro i hx hi
    refine wp_run 2 (pc' := 20) (ls' := [.ref 74, .int (nI s), .int 0, .int (nI i)]) (st' := [.ref 74, .int (nI i)]) rfl ?_
    refine wp_getr 79 rfl rfl rfl ?_
    refine wp_run 1 (pc' := 24) (ls' := [.ref 74, .int (nI s), .int 0, .int (nI i)]) (st' := [.int (nI s), .ref 79, .int (nI i)]) rfl ?_
    refine wp_ald (i := s) (nI l) hz2 rfl rfl rfl (by omega) rfl ?_
    refine wp_icmp_f rfl (show ¬ ((nI l) ≤ (nI i)) from mt (nI_leI (a := l) (b := i) (by omega) (by omega)).mp (by omega)) ?_
    refine wp_run 2 (pc' := 30) (ls' := [.ref 74, .int (nI s), .int 0, .int (nI i)]) (st' := [.ref 74, .int (nI i)]) rfl ?_
    refine wp_getr 75 rfl rfl rfl ?_
    refine wp_run 1 (pc' := 34) (ls' := [.ref 74, .int (nI s), .int 0, .int (nI i)]) (st' := [.int 2, .ref 75, .int (nI i)]) rfl ?_
    refine wp_ald (i := 2) (nI n) hm2 rfl rfl rfl (by decide) rfl ?_
    refine wp_icmp rfl (fun (cq35 : (nI n) ≤ (nI i)) => ?_) (fun (cq35 : ¬ ((nI n) ≤ (nI i))) => ?_)
    · skip
      have cq35n : n ≤ i := (nI_leI (a := n) (b := i) (by omega) (by omega)).mp cq35
      refine wp_run 1 (pc' := 65) (ls' := [.ref 74, .int (nI s), .int 0, .int (nI i)]) (st' := [.int (nI i)]) rfl ?_
      refine wp_ret rfl ?_
      exact kk i ⟨by omega, hx, Or.inr (fun q => absurd q.1 (by omega))⟩
    · skip
      have cq35n : ¬ (n ≤ i) := fun q => cq35 ((nI_leI (a := n) (b := i) (by omega) (by omega)).mpr q)
      refine wp_run 1 (pc' := 39) (ls' := [.ref 74, .int (nI s), .int 0, .int (nI i)]) (st' := [.ref 74]) rfl ?_
      refine wp_getr 80 rfl rfl rfl ?_
      refine wp_run 5 (pc' := 48) (ls' := [.ref 74, .int (nI s), .int 0, .int (nI i)]) (st' := [.int ((24 * (nI s)) + (nI i)), .ref 80]) rfl ?_
      rw [show ((24 * (nI s)) : Int32) = (nI (24 * s)) from pk_mul 24 s]
      rw [show (((nI (24 * s)) + (nI i)) : Int32) = (nI ((24 * s) + i)) from nI_add (24 * s) i]
      refine wp_ald (i := ((24 * s) + i)) (h 80 ((24 * s) + i)) rfl rfl rfl rfl (by omega) rfl ?_
      refine wp_run 3 (pc' := 52) (ls' := [.ref 74, .int (nI s), .int 0, .int (nI i)]) (st' := [.int 3, .int (nI i), .ref 74, .int (h 80 ((24 * s) + i))]) rfl ?_
      refine wp_callV (o := 74) (as := [.int (nI i), .int 3]) (rest := [.int (h 80 ((24 * s) + i))]) (els := [.ref 74, .int (nI i), .int 3]) rfl rfl rfl rfl rfl rfl rfl rfl (by omega) ?_
      refine sp_about (w := 3) (h 75 (7 + 4 * i + 3)) rfl (by omega) (by omega) ?_
      show am_wp L xs _ _ _ _ 55 [.ref 74, .int (nI s), .int 0, .int (nI i)] [.int (h 75 (7 + 4 * i + 3)), .int (h 80 ((24 * s) + i))] (am_S b) h _
      refine wp_icmp rfl (fun (cq55 : ¬ (h 80 ((24 * s) + i)) = (h 75 (7 + 4 * i + 3))) => ?_) (fun (cq55 : ¬ (¬ (h 80 ((24 * s) + i)) = (h 75 (7 + 4 * i + 3)))) => ?_)
      · skip
        refine wp_run 1 (pc' := 65) (ls' := [.ref 74, .int (nI s), .int 0, .int (nI i)]) (st' := [.int (nI i)]) rfl ?_
        refine wp_ret rfl ?_
        exact kk i ⟨by omega, hx, Or.inr (fun q => cq55 q.2)⟩
      · skip
        replace cq55 := Decidable.not_not.mp cq55
        refine wp_run 2 (pc' := 18) (ls' := [.ref 74, .int (nI s), .int 0, .int ((nI i) + 1)]) (st' := []) rfl ?_
        rw [show (((nI i) + 1) : Int32) = (nI (i + 1)) from nI_add i 1]
        exact ih (i + 1) (fun g hg => by rcases Nat.lt_succ_iff_lt_or_eq.mp hg with q2 | q2; exact hx g q2; rw [q2]; exact ⟨by omega, cq55⟩) (by omega)
theorem op_judge {L : Nat} {xs : Nat → Int32} {d ms b N : Nat} {h : am_HI} {Q : am_Q} {x1 : Int32} (hd : 30 ≤ d) (hR : am_Rel N h) (hN : N < 100000)
    (kk : ∀ v b1 h1, (∀ ms2 Q2, (∀ b2 h2, am_Rel (N + 1) h2 → Q2 (some (.int v)) (am_S b2) h2) → am_wp L xs d 0 ms2 216 0 [.ref 74, .int x1, am_du, am_du] [] (am_S b1) h1 Q2) → Q (some (.int v)) (am_S b1) h1) :
    am_wp L xs d 0 ms 119 0 [.ref 0, .int x1] [] (am_S b) h Q := by
  obtain ⟨⟨n, c, t, tp, wt, s0, s1, p0, p1, H⟩, hI, hE, hS0, hS1, hS2, hS3, hT⟩ := id hR
  have hn := H.1.1
  have hm2 := H.1.2.1
  have hn7 := H.1.2.2
  have hc := H.2.1.1
  have hm3 := H.2.1.2.1
  have hc7 := H.2.1.2.2
  have ht := H.2.2.1.1
  have hm0 := H.2.2.1.2.1
  have ht9 := H.2.2.1.2.2
  have HS := re_hs H
  have HM := re_ms H
  refine wp_run 1 (pc' := 1) (ls' := [.ref 0, .int x1]) (st' := [.int x1]) rfl ?_
  refine wp_callS (as := [.int x1]) (rest := []) (els := [.int x1]) rfl rfl rfl rfl rfl rfl rfl rfl (by omega) ?_
  refine sp_x_isSheet (by omega) (pu_four ?_ ?_ ?_ ?_) ?_
  · skip
    intro ex1
    subst ex1
    show am_wp L xs _ _ _ _ 4 [.ref 0, .int 0] [.int 1] (am_S b) h _
    refine wp_if_t rfl (show ¬ (1 : Int32) = 0 from by decide) ?_
    obtain ⟨l, hl24, ho2, hz2, hob, hbb, hri⟩ := id hS0
    rcases hbb with ⟨eb, el⟩ | eb | eb | eb
    · skip
      refine wp_run 1 (pc' := 14) (ls' := [.ref 0, .int 0]) (st' := [.ref 0]) rfl ?_
      refine wp_getr 64 rfl rfl rfl ?_
      refine wp_run 1 (pc' := 18) (ls' := [.ref 0, .int 0]) (st' := [.int 0, .ref 64]) rfl ?_
      refine wp_aald (r := 65) rfl rfl (Or.inr rfl) rfl (by decide) rfl rfl ?_
      refine wp_callV (o := 65) (as := []) (rest := []) (els := [.ref 65]) rfl rfl rfl rfl rfl rfl rfl rfl (by omega) ?_
      refine wp_run 1 (pc' := 1) (ls' := [.ref 65]) (st' := [.ref 65]) rfl ?_
      refine wp_geti (a := 1) 0 (hob.trans eb) rfl rfl rfl ?_
      refine wp_if_f rfl (show ¬ (¬ (0 : Int32) = 0) from by decide) ?_
      refine wp_run 2 (pc' := 12) (ls' := [.ref 65]) (st' := [.int 1]) rfl ?_
      refine wp_retz rfl (Or.inr rfl) ?_
      show am_wp L xs _ _ _ _ 22 [.ref 0, .int 0] [.int 1] (am_S b) h _
      refine wp_if_f rfl (show ¬ ((1 : Int32) = 0) from by decide) ?_
      refine wp_run 2 (pc' := 27) (ls' := [.ref 0, .int 0]) (st' := [.int 2, .ref 0]) rfl ?_
      refine wp_callV (o := 0) (as := [.int 2]) (rest := []) (els := [.ref 0, .int 2]) rfl rfl rfl rfl rfl rfl rfl rfl (by omega) ?_
      refine sp_refuse2 (by omega) ?_
      show am_wp L xs _ _ _ _ 30 [.ref 0, .int 0] [.int (-1000000002)] (am_S b) (am_u h 73 2 (h 73 2 + 1)) _
      refine wp_ret rfl ?_
      refine kk _ _ _ (fun ms2 Q2 kk2 => ?_)
      refine wp_run 2 (pc' := 2) (ls' := [.ref 74, .int 0, am_du, am_du]) (st' := [.int 0, .ref 74]) rfl ?_
      refine wp_callV (o := 74) (as := [.int 0]) (rest := []) (els := [.ref 74, .int 0]) rfl rfl rfl rfl rfl rfl rfl rfl (by omega) ?_
      refine wp_run 1 (pc' := 1) (ls' := [.ref 74, .int 0]) (st' := [.int 0]) rfl ?_
      refine wp_callS (as := [.int 0]) (rest := []) (els := [.int 0]) rfl rfl rfl rfl rfl rfl rfl rfl (by omega) ?_
      refine sp_m_isSheet (by omega) (fun _ _ _ => ?_) (fun q => absurd rfl (q 0 (by omega)))
      show am_wp L xs _ _ _ _ 4 [.ref 74, .int 0] [.int 1] (am_S b) (am_u h 73 2 (h 73 2 + 1)) _
      refine wp_if_t rfl (show ¬ (1 : Int32) = 0 from by decide) ?_
      refine wp_run 1 (pc' := 13) (ls' := [.ref 74, .int 0]) (st' := [.ref 74]) rfl ?_
      refine wp_getr 78 rfl rfl rfl ?_
      refine wp_run 1 (pc' := 17) (ls' := [.ref 74, .int 0]) (st' := [.int 0, .ref 78]) rfl ?_
      refine wp_ald (i := 0) 0 eb rfl rfl rfl (by decide) rfl ?_
      refine wp_if_f rfl (show ¬ (¬ (0 : Int32) = 0) from by decide) ?_
      refine wp_run 2 (pc' := 27) (ls' := [.ref 74, .int 0]) (st' := [.int (-1000000002)]) rfl ?_
      refine wp_ret rfl ?_
      show am_wp L xs _ _ _ _ 5 [.ref 74, .int 0, am_du, am_du] [.int (-1000000002)] (am_S b) (am_u h 73 2 (h 73 2 + 1)) _
      refine wp_run 2 (pc' := 7) (ls' := [.ref 74, .int 0, .int (-1000000002), am_du]) (st' := [.int (-1000000002)]) rfl ?_
      refine wp_if_f rfl (show ¬ (((-1000000002) : Int32) = 0) from by decide) ?_
      refine wp_run 2 (pc' := 12) (ls' := [.ref 74, .int 0, .int (-1000000002), am_du]) (st' := [.int (-1000000002), .ref 74]) rfl ?_
      refine wp_callV (o := 74) (as := [.int (-1000000002)]) (rest := []) (els := [.ref 74, .int (-1000000002)]) rfl rfl rfl rfl rfl rfl rfl rfl (by omega) ?_
      refine sp_error2 ?_
      show am_wp L xs _ _ _ _ 15 [.ref 74, .int 0, .int (-1000000002), am_du] [.int (-1000000002)] (am_S b) (am_u (am_u h 73 2 (h 73 2 + 1)) 77 2 ((am_u h 73 2 (h 73 2 + 1)) 77 2 + 1)) _
      refine wp_ret rfl ?_
      exact kk2 _ _ (re_err2 hR)
    · skip
      refine wp_run 1 (pc' := 14) (ls' := [.ref 0, .int 0]) (st' := [.ref 0]) rfl ?_
      refine wp_getr 64 rfl rfl rfl ?_
      refine wp_run 1 (pc' := 18) (ls' := [.ref 0, .int 0]) (st' := [.int 0, .ref 64]) rfl ?_
      refine wp_aald (r := 65) rfl rfl (Or.inr rfl) rfl (by decide) rfl rfl ?_
      refine wp_callV (o := 65) (as := []) (rest := []) (els := [.ref 65]) rfl rfl rfl rfl rfl rfl rfl rfl (by omega) ?_
      refine wp_run 1 (pc' := 1) (ls' := [.ref 65]) (st' := [.ref 65]) rfl ?_
      refine wp_geti (a := 1) 8 (hob.trans eb) rfl rfl rfl ?_
      refine wp_if_t rfl (show ¬ (8 : Int32) = 0 from by decide) ?_
      refine wp_run 1 (pc' := 12) (ls' := [.ref 65]) (st' := [.int 0]) rfl ?_
      refine wp_retz rfl (Or.inl rfl) ?_
      show am_wp L xs _ _ _ _ 22 [.ref 0, .int 0] [.int 0] (am_S b) h _
      refine wp_if_t rfl (show (0 : Int32) = 0 from by decide) ?_
      refine wp_run 1 (pc' := 32) (ls' := [.ref 0, .int 0]) (st' := [.ref 0]) rfl ?_
      refine wp_getr 64 rfl rfl rfl ?_
      refine wp_run 1 (pc' := 36) (ls' := [.ref 0, .int 0]) (st' := [.int 0, .ref 64]) rfl ?_
      refine wp_aald (r := 65) rfl rfl (Or.inr rfl) rfl (by decide) rfl rfl ?_
      refine wp_run 1 (pc' := 38) (ls' := [.ref 0, .int 0]) (st' := [.ref 0, .ref 65]) rfl ?_
      refine wp_getr 1 rfl rfl rfl ?_
      refine wp_getr 5 rfl rfl rfl ?_
      refine wp_run 1 (pc' := 45) (ls' := [.ref 0, .int 0]) (st' := [.ref 0, .ref 5, .ref 65]) rfl ?_
      refine wp_getr 1 rfl rfl rfl ?_
      refine wp_geti (a := 10) (nI n) hn rfl rfl rfl ?_
      refine wp_callV (o := 65) (as := [.ref 5, .int (nI n)]) (rest := []) (els := [.ref 65, .ref 5, .int (nI n), am_du]) rfl rfl rfl rfl rfl rfl rfl rfl (by omega) ?_
      refine sp_rightOnes (h := h) (l := l) (n := n) rfl rfl rfl rfl ho2 hl24 hn7 (fun r1 hr1 => ?_)
      show am_wp L xs _ _ _ _ 54 [.ref 0, .int 0] [.int (nI r1)] (am_S b) h _
      refine wp_ret rfl ?_
      refine kk _ _ _ (fun ms2 Q2 kk2 => ?_)
      refine wp_run 2 (pc' := 2) (ls' := [.ref 74, .int 0, am_du, am_du]) (st' := [.int 0, .ref 74]) rfl ?_
      refine wp_callV (o := 74) (as := [.int 0]) (rest := []) (els := [.ref 74, .int 0]) rfl rfl rfl rfl rfl rfl rfl rfl (by omega) ?_
      refine wp_run 1 (pc' := 1) (ls' := [.ref 74, .int 0]) (st' := [.int 0]) rfl ?_
      refine wp_callS (as := [.int 0]) (rest := []) (els := [.int 0]) rfl rfl rfl rfl rfl rfl rfl rfl (by omega) ?_
      refine sp_m_isSheet (by omega) (fun _ _ _ => ?_) (fun q => absurd rfl (q 0 (by omega)))
      show am_wp L xs _ _ _ _ 4 [.ref 74, .int 0] [.int 1] (am_S b) h _
      refine wp_if_t rfl (show ¬ (1 : Int32) = 0 from by decide) ?_
      refine wp_run 1 (pc' := 13) (ls' := [.ref 74, .int 0]) (st' := [.ref 74]) rfl ?_
      refine wp_getr 78 rfl rfl rfl ?_
      refine wp_run 1 (pc' := 17) (ls' := [.ref 74, .int 0]) (st' := [.int 0, .ref 78]) rfl ?_
      refine wp_ald (i := 0) 8 eb rfl rfl rfl (by decide) rfl ?_
      refine wp_if_t rfl (show ¬ (8 : Int32) = 0 from by decide) ?_
      refine wp_run 1 (pc' := 27) (ls' := [.ref 74, .int 0]) (st' := [.int 0]) rfl ?_
      refine wp_ret rfl ?_
      show am_wp L xs _ _ _ _ 5 [.ref 74, .int 0, am_du, am_du] [.int 0] (am_S b) h _
      refine wp_run 2 (pc' := 7) (ls' := [.ref 74, .int 0, .int 0, am_du]) (st' := [.int 0]) rfl ?_
      refine wp_if_t rfl (show (0 : Int32) = 0 from by decide) ?_
      refine wp_run 2 (pc' := 18) (ls' := [.ref 74, .int 0, .int 0, .int 0]) (st' := []) rfl ?_
      refine lp_judge (d := d) (s := 0) (l := l) (n := n) (by omega) hl24 hz2 hm2 hn7 (by omega) (fun r2 hr2 => ?_) l 0 (fun q hq => by omega) (by omega)
      have er : r1 = r2 := pu_ro_uniq hr1 hr2 (fun q hq hqn => by
        show h 66 q = h 5 q ↔ h 80 (24 * 0 + q) = h 75 (7 + 4 * q + 3)
        rw [hri q (by omega), re_hase H hqn])
      subst er
      exact kk2 _ _ ⟨⟨n, c, t, tp, wt, s0, s1, p0, p1, H⟩, re_im_s hI, hE, hS0, hS1, hS2, hS3, hT⟩
    · skip
      refine wp_run 1 (pc' := 14) (ls' := [.ref 0, .int 0]) (st' := [.ref 0]) rfl ?_
      refine wp_getr 64 rfl rfl rfl ?_
      refine wp_run 1 (pc' := 18) (ls' := [.ref 0, .int 0]) (st' := [.int 0, .ref 64]) rfl ?_
      refine wp_aald (r := 65) rfl rfl (Or.inr rfl) rfl (by decide) rfl rfl ?_
      refine wp_callV (o := 65) (as := []) (rest := []) (els := [.ref 65]) rfl rfl rfl rfl rfl rfl rfl rfl (by omega) ?_
      refine wp_run 1 (pc' := 1) (ls' := [.ref 65]) (st' := [.ref 65]) rfl ?_
      refine wp_geti (a := 1) 16 (hob.trans eb) rfl rfl rfl ?_
      refine wp_if_t rfl (show ¬ (16 : Int32) = 0 from by decide) ?_
      refine wp_run 1 (pc' := 12) (ls' := [.ref 65]) (st' := [.int 0]) rfl ?_
      refine wp_retz rfl (Or.inl rfl) ?_
      show am_wp L xs _ _ _ _ 22 [.ref 0, .int 0] [.int 0] (am_S b) h _
      refine wp_if_t rfl (show (0 : Int32) = 0 from by decide) ?_
      refine wp_run 1 (pc' := 32) (ls' := [.ref 0, .int 0]) (st' := [.ref 0]) rfl ?_
      refine wp_getr 64 rfl rfl rfl ?_
      refine wp_run 1 (pc' := 36) (ls' := [.ref 0, .int 0]) (st' := [.int 0, .ref 64]) rfl ?_
      refine wp_aald (r := 65) rfl rfl (Or.inr rfl) rfl (by decide) rfl rfl ?_
      refine wp_run 1 (pc' := 38) (ls' := [.ref 0, .int 0]) (st' := [.ref 0, .ref 65]) rfl ?_
      refine wp_getr 1 rfl rfl rfl ?_
      refine wp_getr 5 rfl rfl rfl ?_
      refine wp_run 1 (pc' := 45) (ls' := [.ref 0, .int 0]) (st' := [.ref 0, .ref 5, .ref 65]) rfl ?_
      refine wp_getr 1 rfl rfl rfl ?_
      refine wp_geti (a := 10) (nI n) hn rfl rfl rfl ?_
      refine wp_callV (o := 65) (as := [.ref 5, .int (nI n)]) (rest := []) (els := [.ref 65, .ref 5, .int (nI n), am_du]) rfl rfl rfl rfl rfl rfl rfl rfl (by omega) ?_
      refine sp_rightOnes (h := h) (l := l) (n := n) rfl rfl rfl rfl ho2 hl24 hn7 (fun r1 hr1 => ?_)
      show am_wp L xs _ _ _ _ 54 [.ref 0, .int 0] [.int (nI r1)] (am_S b) h _
      refine wp_ret rfl ?_
      refine kk _ _ _ (fun ms2 Q2 kk2 => ?_)
      refine wp_run 2 (pc' := 2) (ls' := [.ref 74, .int 0, am_du, am_du]) (st' := [.int 0, .ref 74]) rfl ?_
      refine wp_callV (o := 74) (as := [.int 0]) (rest := []) (els := [.ref 74, .int 0]) rfl rfl rfl rfl rfl rfl rfl rfl (by omega) ?_
      refine wp_run 1 (pc' := 1) (ls' := [.ref 74, .int 0]) (st' := [.int 0]) rfl ?_
      refine wp_callS (as := [.int 0]) (rest := []) (els := [.int 0]) rfl rfl rfl rfl rfl rfl rfl rfl (by omega) ?_
      refine sp_m_isSheet (by omega) (fun _ _ _ => ?_) (fun q => absurd rfl (q 0 (by omega)))
      show am_wp L xs _ _ _ _ 4 [.ref 74, .int 0] [.int 1] (am_S b) h _
      refine wp_if_t rfl (show ¬ (1 : Int32) = 0 from by decide) ?_
      refine wp_run 1 (pc' := 13) (ls' := [.ref 74, .int 0]) (st' := [.ref 74]) rfl ?_
      refine wp_getr 78 rfl rfl rfl ?_
      refine wp_run 1 (pc' := 17) (ls' := [.ref 74, .int 0]) (st' := [.int 0, .ref 78]) rfl ?_
      refine wp_ald (i := 0) 16 eb rfl rfl rfl (by decide) rfl ?_
      refine wp_if_t rfl (show ¬ (16 : Int32) = 0 from by decide) ?_
      refine wp_run 1 (pc' := 27) (ls' := [.ref 74, .int 0]) (st' := [.int 0]) rfl ?_
      refine wp_ret rfl ?_
      show am_wp L xs _ _ _ _ 5 [.ref 74, .int 0, am_du, am_du] [.int 0] (am_S b) h _
      refine wp_run 2 (pc' := 7) (ls' := [.ref 74, .int 0, .int 0, am_du]) (st' := [.int 0]) rfl ?_
      refine wp_if_t rfl (show (0 : Int32) = 0 from by decide) ?_
      refine wp_run 2 (pc' := 18) (ls' := [.ref 74, .int 0, .int 0, .int 0]) (st' := []) rfl ?_
      refine lp_judge (d := d) (s := 0) (l := l) (n := n) (by omega) hl24 hz2 hm2 hn7 (by omega) (fun r2 hr2 => ?_) l 0 (fun q hq => by omega) (by omega)
      have er : r1 = r2 := pu_ro_uniq hr1 hr2 (fun q hq hqn => by
        show h 66 q = h 5 q ↔ h 80 (24 * 0 + q) = h 75 (7 + 4 * q + 3)
        rw [hri q (by omega), re_hase H hqn])
      subst er
      exact kk2 _ _ ⟨⟨n, c, t, tp, wt, s0, s1, p0, p1, H⟩, re_im_s hI, hE, hS0, hS1, hS2, hS3, hT⟩
    · skip
      refine wp_run 1 (pc' := 14) (ls' := [.ref 0, .int 0]) (st' := [.ref 0]) rfl ?_
      refine wp_getr 64 rfl rfl rfl ?_
      refine wp_run 1 (pc' := 18) (ls' := [.ref 0, .int 0]) (st' := [.int 0, .ref 64]) rfl ?_
      refine wp_aald (r := 65) rfl rfl (Or.inr rfl) rfl (by decide) rfl rfl ?_
      refine wp_callV (o := 65) (as := []) (rest := []) (els := [.ref 65]) rfl rfl rfl rfl rfl rfl rfl rfl (by omega) ?_
      refine wp_run 1 (pc' := 1) (ls' := [.ref 65]) (st' := [.ref 65]) rfl ?_
      refine wp_geti (a := 1) 32 (hob.trans eb) rfl rfl rfl ?_
      refine wp_if_t rfl (show ¬ (32 : Int32) = 0 from by decide) ?_
      refine wp_run 1 (pc' := 12) (ls' := [.ref 65]) (st' := [.int 0]) rfl ?_
      refine wp_retz rfl (Or.inl rfl) ?_
      show am_wp L xs _ _ _ _ 22 [.ref 0, .int 0] [.int 0] (am_S b) h _
      refine wp_if_t rfl (show (0 : Int32) = 0 from by decide) ?_
      refine wp_run 1 (pc' := 32) (ls' := [.ref 0, .int 0]) (st' := [.ref 0]) rfl ?_
      refine wp_getr 64 rfl rfl rfl ?_
      refine wp_run 1 (pc' := 36) (ls' := [.ref 0, .int 0]) (st' := [.int 0, .ref 64]) rfl ?_
      refine wp_aald (r := 65) rfl rfl (Or.inr rfl) rfl (by decide) rfl rfl ?_
      refine wp_run 1 (pc' := 38) (ls' := [.ref 0, .int 0]) (st' := [.ref 0, .ref 65]) rfl ?_
      refine wp_getr 1 rfl rfl rfl ?_
      refine wp_getr 5 rfl rfl rfl ?_
      refine wp_run 1 (pc' := 45) (ls' := [.ref 0, .int 0]) (st' := [.ref 0, .ref 5, .ref 65]) rfl ?_
      refine wp_getr 1 rfl rfl rfl ?_
      refine wp_geti (a := 10) (nI n) hn rfl rfl rfl ?_
      refine wp_callV (o := 65) (as := [.ref 5, .int (nI n)]) (rest := []) (els := [.ref 65, .ref 5, .int (nI n), am_du]) rfl rfl rfl rfl rfl rfl rfl rfl (by omega) ?_
      refine sp_rightOnes (h := h) (l := l) (n := n) rfl rfl rfl rfl ho2 hl24 hn7 (fun r1 hr1 => ?_)
      show am_wp L xs _ _ _ _ 54 [.ref 0, .int 0] [.int (nI r1)] (am_S b) h _
      refine wp_ret rfl ?_
      refine kk _ _ _ (fun ms2 Q2 kk2 => ?_)
      refine wp_run 2 (pc' := 2) (ls' := [.ref 74, .int 0, am_du, am_du]) (st' := [.int 0, .ref 74]) rfl ?_
      refine wp_callV (o := 74) (as := [.int 0]) (rest := []) (els := [.ref 74, .int 0]) rfl rfl rfl rfl rfl rfl rfl rfl (by omega) ?_
      refine wp_run 1 (pc' := 1) (ls' := [.ref 74, .int 0]) (st' := [.int 0]) rfl ?_
      refine wp_callS (as := [.int 0]) (rest := []) (els := [.int 0]) rfl rfl rfl rfl rfl rfl rfl rfl (by omega) ?_
      refine sp_m_isSheet (by omega) (fun _ _ _ => ?_) (fun q => absurd rfl (q 0 (by omega)))
      show am_wp L xs _ _ _ _ 4 [.ref 74, .int 0] [.int 1] (am_S b) h _
      refine wp_if_t rfl (show ¬ (1 : Int32) = 0 from by decide) ?_
      refine wp_run 1 (pc' := 13) (ls' := [.ref 74, .int 0]) (st' := [.ref 74]) rfl ?_
      refine wp_getr 78 rfl rfl rfl ?_
      refine wp_run 1 (pc' := 17) (ls' := [.ref 74, .int 0]) (st' := [.int 0, .ref 78]) rfl ?_
      refine wp_ald (i := 0) 32 eb rfl rfl rfl (by decide) rfl ?_
      refine wp_if_t rfl (show ¬ (32 : Int32) = 0 from by decide) ?_
      refine wp_run 1 (pc' := 27) (ls' := [.ref 74, .int 0]) (st' := [.int 0]) rfl ?_
      refine wp_ret rfl ?_
      show am_wp L xs _ _ _ _ 5 [.ref 74, .int 0, am_du, am_du] [.int 0] (am_S b) h _
      refine wp_run 2 (pc' := 7) (ls' := [.ref 74, .int 0, .int 0, am_du]) (st' := [.int 0]) rfl ?_
      refine wp_if_t rfl (show (0 : Int32) = 0 from by decide) ?_
      refine wp_run 2 (pc' := 18) (ls' := [.ref 74, .int 0, .int 0, .int 0]) (st' := []) rfl ?_
      refine lp_judge (d := d) (s := 0) (l := l) (n := n) (by omega) hl24 hz2 hm2 hn7 (by omega) (fun r2 hr2 => ?_) l 0 (fun q hq => by omega) (by omega)
      have er : r1 = r2 := pu_ro_uniq hr1 hr2 (fun q hq hqn => by
        show h 66 q = h 5 q ↔ h 80 (24 * 0 + q) = h 75 (7 + 4 * q + 3)
        rw [hri q (by omega), re_hase H hqn])
      subst er
      exact kk2 _ _ ⟨⟨n, c, t, tp, wt, s0, s1, p0, p1, H⟩, re_im_s hI, hE, hS0, hS1, hS2, hS3, hT⟩
  · skip
    intro ex1
    subst ex1
    show am_wp L xs _ _ _ _ 4 [.ref 0, .int 1] [.int 1] (am_S b) h _
    refine wp_if_t rfl (show ¬ (1 : Int32) = 0 from by decide) ?_
    obtain ⟨l, hl24, ho2, hz2, hob, hbb, hri⟩ := id hS1
    rcases hbb with ⟨eb, el⟩ | eb | eb | eb
    · skip
      refine wp_run 1 (pc' := 14) (ls' := [.ref 0, .int 1]) (st' := [.ref 0]) rfl ?_
      refine wp_getr 64 rfl rfl rfl ?_
      refine wp_run 1 (pc' := 18) (ls' := [.ref 0, .int 1]) (st' := [.int 1, .ref 64]) rfl ?_
      refine wp_aald (r := 67) rfl rfl (Or.inr rfl) rfl (by decide) rfl rfl ?_
      refine wp_callV (o := 67) (as := []) (rest := []) (els := [.ref 67]) rfl rfl rfl rfl rfl rfl rfl rfl (by omega) ?_
      refine wp_run 1 (pc' := 1) (ls' := [.ref 67]) (st' := [.ref 67]) rfl ?_
      refine wp_geti (a := 1) 0 (hob.trans eb) rfl rfl rfl ?_
      refine wp_if_f rfl (show ¬ (¬ (0 : Int32) = 0) from by decide) ?_
      refine wp_run 2 (pc' := 12) (ls' := [.ref 67]) (st' := [.int 1]) rfl ?_
      refine wp_retz rfl (Or.inr rfl) ?_
      show am_wp L xs _ _ _ _ 22 [.ref 0, .int 1] [.int 1] (am_S b) h _
      refine wp_if_f rfl (show ¬ ((1 : Int32) = 0) from by decide) ?_
      refine wp_run 2 (pc' := 27) (ls' := [.ref 0, .int 1]) (st' := [.int 2, .ref 0]) rfl ?_
      refine wp_callV (o := 0) (as := [.int 2]) (rest := []) (els := [.ref 0, .int 2]) rfl rfl rfl rfl rfl rfl rfl rfl (by omega) ?_
      refine sp_refuse2 (by omega) ?_
      show am_wp L xs _ _ _ _ 30 [.ref 0, .int 1] [.int (-1000000002)] (am_S b) (am_u h 73 2 (h 73 2 + 1)) _
      refine wp_ret rfl ?_
      refine kk _ _ _ (fun ms2 Q2 kk2 => ?_)
      refine wp_run 2 (pc' := 2) (ls' := [.ref 74, .int 1, am_du, am_du]) (st' := [.int 1, .ref 74]) rfl ?_
      refine wp_callV (o := 74) (as := [.int 1]) (rest := []) (els := [.ref 74, .int 1]) rfl rfl rfl rfl rfl rfl rfl rfl (by omega) ?_
      refine wp_run 1 (pc' := 1) (ls' := [.ref 74, .int 1]) (st' := [.int 1]) rfl ?_
      refine wp_callS (as := [.int 1]) (rest := []) (els := [.int 1]) rfl rfl rfl rfl rfl rfl rfl rfl (by omega) ?_
      refine sp_m_isSheet (by omega) (fun _ _ _ => ?_) (fun q => absurd rfl (q 1 (by omega)))
      show am_wp L xs _ _ _ _ 4 [.ref 74, .int 1] [.int 1] (am_S b) (am_u h 73 2 (h 73 2 + 1)) _
      refine wp_if_t rfl (show ¬ (1 : Int32) = 0 from by decide) ?_
      refine wp_run 1 (pc' := 13) (ls' := [.ref 74, .int 1]) (st' := [.ref 74]) rfl ?_
      refine wp_getr 78 rfl rfl rfl ?_
      refine wp_run 1 (pc' := 17) (ls' := [.ref 74, .int 1]) (st' := [.int 1, .ref 78]) rfl ?_
      refine wp_ald (i := 1) 0 eb rfl rfl rfl (by decide) rfl ?_
      refine wp_if_f rfl (show ¬ (¬ (0 : Int32) = 0) from by decide) ?_
      refine wp_run 2 (pc' := 27) (ls' := [.ref 74, .int 1]) (st' := [.int (-1000000002)]) rfl ?_
      refine wp_ret rfl ?_
      show am_wp L xs _ _ _ _ 5 [.ref 74, .int 1, am_du, am_du] [.int (-1000000002)] (am_S b) (am_u h 73 2 (h 73 2 + 1)) _
      refine wp_run 2 (pc' := 7) (ls' := [.ref 74, .int 1, .int (-1000000002), am_du]) (st' := [.int (-1000000002)]) rfl ?_
      refine wp_if_f rfl (show ¬ (((-1000000002) : Int32) = 0) from by decide) ?_
      refine wp_run 2 (pc' := 12) (ls' := [.ref 74, .int 1, .int (-1000000002), am_du]) (st' := [.int (-1000000002), .ref 74]) rfl ?_
      refine wp_callV (o := 74) (as := [.int (-1000000002)]) (rest := []) (els := [.ref 74, .int (-1000000002)]) rfl rfl rfl rfl rfl rfl rfl rfl (by omega) ?_
      refine sp_error2 ?_
      show am_wp L xs _ _ _ _ 15 [.ref 74, .int 1, .int (-1000000002), am_du] [.int (-1000000002)] (am_S b) (am_u (am_u h 73 2 (h 73 2 + 1)) 77 2 ((am_u h 73 2 (h 73 2 + 1)) 77 2 + 1)) _
      refine wp_ret rfl ?_
      exact kk2 _ _ (re_err2 hR)
    · skip
      refine wp_run 1 (pc' := 14) (ls' := [.ref 0, .int 1]) (st' := [.ref 0]) rfl ?_
      refine wp_getr 64 rfl rfl rfl ?_
      refine wp_run 1 (pc' := 18) (ls' := [.ref 0, .int 1]) (st' := [.int 1, .ref 64]) rfl ?_
      refine wp_aald (r := 67) rfl rfl (Or.inr rfl) rfl (by decide) rfl rfl ?_
      refine wp_callV (o := 67) (as := []) (rest := []) (els := [.ref 67]) rfl rfl rfl rfl rfl rfl rfl rfl (by omega) ?_
      refine wp_run 1 (pc' := 1) (ls' := [.ref 67]) (st' := [.ref 67]) rfl ?_
      refine wp_geti (a := 1) 8 (hob.trans eb) rfl rfl rfl ?_
      refine wp_if_t rfl (show ¬ (8 : Int32) = 0 from by decide) ?_
      refine wp_run 1 (pc' := 12) (ls' := [.ref 67]) (st' := [.int 0]) rfl ?_
      refine wp_retz rfl (Or.inl rfl) ?_
      show am_wp L xs _ _ _ _ 22 [.ref 0, .int 1] [.int 0] (am_S b) h _
      refine wp_if_t rfl (show (0 : Int32) = 0 from by decide) ?_
      refine wp_run 1 (pc' := 32) (ls' := [.ref 0, .int 1]) (st' := [.ref 0]) rfl ?_
      refine wp_getr 64 rfl rfl rfl ?_
      refine wp_run 1 (pc' := 36) (ls' := [.ref 0, .int 1]) (st' := [.int 1, .ref 64]) rfl ?_
      refine wp_aald (r := 67) rfl rfl (Or.inr rfl) rfl (by decide) rfl rfl ?_
      refine wp_run 1 (pc' := 38) (ls' := [.ref 0, .int 1]) (st' := [.ref 0, .ref 67]) rfl ?_
      refine wp_getr 1 rfl rfl rfl ?_
      refine wp_getr 5 rfl rfl rfl ?_
      refine wp_run 1 (pc' := 45) (ls' := [.ref 0, .int 1]) (st' := [.ref 0, .ref 5, .ref 67]) rfl ?_
      refine wp_getr 1 rfl rfl rfl ?_
      refine wp_geti (a := 10) (nI n) hn rfl rfl rfl ?_
      refine wp_callV (o := 67) (as := [.ref 5, .int (nI n)]) (rest := []) (els := [.ref 67, .ref 5, .int (nI n), am_du]) rfl rfl rfl rfl rfl rfl rfl rfl (by omega) ?_
      refine sp_rightOnes (h := h) (l := l) (n := n) rfl rfl rfl rfl ho2 hl24 hn7 (fun r1 hr1 => ?_)
      show am_wp L xs _ _ _ _ 54 [.ref 0, .int 1] [.int (nI r1)] (am_S b) h _
      refine wp_ret rfl ?_
      refine kk _ _ _ (fun ms2 Q2 kk2 => ?_)
      refine wp_run 2 (pc' := 2) (ls' := [.ref 74, .int 1, am_du, am_du]) (st' := [.int 1, .ref 74]) rfl ?_
      refine wp_callV (o := 74) (as := [.int 1]) (rest := []) (els := [.ref 74, .int 1]) rfl rfl rfl rfl rfl rfl rfl rfl (by omega) ?_
      refine wp_run 1 (pc' := 1) (ls' := [.ref 74, .int 1]) (st' := [.int 1]) rfl ?_
      refine wp_callS (as := [.int 1]) (rest := []) (els := [.int 1]) rfl rfl rfl rfl rfl rfl rfl rfl (by omega) ?_
      refine sp_m_isSheet (by omega) (fun _ _ _ => ?_) (fun q => absurd rfl (q 1 (by omega)))
      show am_wp L xs _ _ _ _ 4 [.ref 74, .int 1] [.int 1] (am_S b) h _
      refine wp_if_t rfl (show ¬ (1 : Int32) = 0 from by decide) ?_
      refine wp_run 1 (pc' := 13) (ls' := [.ref 74, .int 1]) (st' := [.ref 74]) rfl ?_
      refine wp_getr 78 rfl rfl rfl ?_
      refine wp_run 1 (pc' := 17) (ls' := [.ref 74, .int 1]) (st' := [.int 1, .ref 78]) rfl ?_
      refine wp_ald (i := 1) 8 eb rfl rfl rfl (by decide) rfl ?_
      refine wp_if_t rfl (show ¬ (8 : Int32) = 0 from by decide) ?_
      refine wp_run 1 (pc' := 27) (ls' := [.ref 74, .int 1]) (st' := [.int 0]) rfl ?_
      refine wp_ret rfl ?_
      show am_wp L xs _ _ _ _ 5 [.ref 74, .int 1, am_du, am_du] [.int 0] (am_S b) h _
      refine wp_run 2 (pc' := 7) (ls' := [.ref 74, .int 1, .int 0, am_du]) (st' := [.int 0]) rfl ?_
      refine wp_if_t rfl (show (0 : Int32) = 0 from by decide) ?_
      refine wp_run 2 (pc' := 18) (ls' := [.ref 74, .int 1, .int 0, .int 0]) (st' := []) rfl ?_
      refine lp_judge (d := d) (s := 1) (l := l) (n := n) (by omega) hl24 hz2 hm2 hn7 (by omega) (fun r2 hr2 => ?_) l 0 (fun q hq => by omega) (by omega)
      have er : r1 = r2 := pu_ro_uniq hr1 hr2 (fun q hq hqn => by
        show h 68 q = h 5 q ↔ h 80 (24 * 1 + q) = h 75 (7 + 4 * q + 3)
        rw [hri q (by omega), re_hase H hqn])
      subst er
      exact kk2 _ _ ⟨⟨n, c, t, tp, wt, s0, s1, p0, p1, H⟩, re_im_s hI, hE, hS0, hS1, hS2, hS3, hT⟩
    · skip
      refine wp_run 1 (pc' := 14) (ls' := [.ref 0, .int 1]) (st' := [.ref 0]) rfl ?_
      refine wp_getr 64 rfl rfl rfl ?_
      refine wp_run 1 (pc' := 18) (ls' := [.ref 0, .int 1]) (st' := [.int 1, .ref 64]) rfl ?_
      refine wp_aald (r := 67) rfl rfl (Or.inr rfl) rfl (by decide) rfl rfl ?_
      refine wp_callV (o := 67) (as := []) (rest := []) (els := [.ref 67]) rfl rfl rfl rfl rfl rfl rfl rfl (by omega) ?_
      refine wp_run 1 (pc' := 1) (ls' := [.ref 67]) (st' := [.ref 67]) rfl ?_
      refine wp_geti (a := 1) 16 (hob.trans eb) rfl rfl rfl ?_
      refine wp_if_t rfl (show ¬ (16 : Int32) = 0 from by decide) ?_
      refine wp_run 1 (pc' := 12) (ls' := [.ref 67]) (st' := [.int 0]) rfl ?_
      refine wp_retz rfl (Or.inl rfl) ?_
      show am_wp L xs _ _ _ _ 22 [.ref 0, .int 1] [.int 0] (am_S b) h _
      refine wp_if_t rfl (show (0 : Int32) = 0 from by decide) ?_
      refine wp_run 1 (pc' := 32) (ls' := [.ref 0, .int 1]) (st' := [.ref 0]) rfl ?_
      refine wp_getr 64 rfl rfl rfl ?_
      refine wp_run 1 (pc' := 36) (ls' := [.ref 0, .int 1]) (st' := [.int 1, .ref 64]) rfl ?_
      refine wp_aald (r := 67) rfl rfl (Or.inr rfl) rfl (by decide) rfl rfl ?_
      refine wp_run 1 (pc' := 38) (ls' := [.ref 0, .int 1]) (st' := [.ref 0, .ref 67]) rfl ?_
      refine wp_getr 1 rfl rfl rfl ?_
      refine wp_getr 5 rfl rfl rfl ?_
      refine wp_run 1 (pc' := 45) (ls' := [.ref 0, .int 1]) (st' := [.ref 0, .ref 5, .ref 67]) rfl ?_
      refine wp_getr 1 rfl rfl rfl ?_
      refine wp_geti (a := 10) (nI n) hn rfl rfl rfl ?_
      refine wp_callV (o := 67) (as := [.ref 5, .int (nI n)]) (rest := []) (els := [.ref 67, .ref 5, .int (nI n), am_du]) rfl rfl rfl rfl rfl rfl rfl rfl (by omega) ?_
      refine sp_rightOnes (h := h) (l := l) (n := n) rfl rfl rfl rfl ho2 hl24 hn7 (fun r1 hr1 => ?_)
      show am_wp L xs _ _ _ _ 54 [.ref 0, .int 1] [.int (nI r1)] (am_S b) h _
      refine wp_ret rfl ?_
      refine kk _ _ _ (fun ms2 Q2 kk2 => ?_)
      refine wp_run 2 (pc' := 2) (ls' := [.ref 74, .int 1, am_du, am_du]) (st' := [.int 1, .ref 74]) rfl ?_
      refine wp_callV (o := 74) (as := [.int 1]) (rest := []) (els := [.ref 74, .int 1]) rfl rfl rfl rfl rfl rfl rfl rfl (by omega) ?_
      refine wp_run 1 (pc' := 1) (ls' := [.ref 74, .int 1]) (st' := [.int 1]) rfl ?_
      refine wp_callS (as := [.int 1]) (rest := []) (els := [.int 1]) rfl rfl rfl rfl rfl rfl rfl rfl (by omega) ?_
      refine sp_m_isSheet (by omega) (fun _ _ _ => ?_) (fun q => absurd rfl (q 1 (by omega)))
      show am_wp L xs _ _ _ _ 4 [.ref 74, .int 1] [.int 1] (am_S b) h _
      refine wp_if_t rfl (show ¬ (1 : Int32) = 0 from by decide) ?_
      refine wp_run 1 (pc' := 13) (ls' := [.ref 74, .int 1]) (st' := [.ref 74]) rfl ?_
      refine wp_getr 78 rfl rfl rfl ?_
      refine wp_run 1 (pc' := 17) (ls' := [.ref 74, .int 1]) (st' := [.int 1, .ref 78]) rfl ?_
      refine wp_ald (i := 1) 16 eb rfl rfl rfl (by decide) rfl ?_
      refine wp_if_t rfl (show ¬ (16 : Int32) = 0 from by decide) ?_
      refine wp_run 1 (pc' := 27) (ls' := [.ref 74, .int 1]) (st' := [.int 0]) rfl ?_
      refine wp_ret rfl ?_
      show am_wp L xs _ _ _ _ 5 [.ref 74, .int 1, am_du, am_du] [.int 0] (am_S b) h _
      refine wp_run 2 (pc' := 7) (ls' := [.ref 74, .int 1, .int 0, am_du]) (st' := [.int 0]) rfl ?_
      refine wp_if_t rfl (show (0 : Int32) = 0 from by decide) ?_
      refine wp_run 2 (pc' := 18) (ls' := [.ref 74, .int 1, .int 0, .int 0]) (st' := []) rfl ?_
      refine lp_judge (d := d) (s := 1) (l := l) (n := n) (by omega) hl24 hz2 hm2 hn7 (by omega) (fun r2 hr2 => ?_) l 0 (fun q hq => by omega) (by omega)
      have er : r1 = r2 := pu_ro_uniq hr1 hr2 (fun q hq hqn => by
        show h 68 q = h 5 q ↔ h 80 (24 * 1 + q) = h 75 (7 + 4 * q + 3)
        rw [hri q (by omega), re_hase H hqn])
      subst er
      exact kk2 _ _ ⟨⟨n, c, t, tp, wt, s0, s1, p0, p1, H⟩, re_im_s hI, hE, hS0, hS1, hS2, hS3, hT⟩
    · skip
      refine wp_run 1 (pc' := 14) (ls' := [.ref 0, .int 1]) (st' := [.ref 0]) rfl ?_
      refine wp_getr 64 rfl rfl rfl ?_
      refine wp_run 1 (pc' := 18) (ls' := [.ref 0, .int 1]) (st' := [.int 1, .ref 64]) rfl ?_
      refine wp_aald (r := 67) rfl rfl (Or.inr rfl) rfl (by decide) rfl rfl ?_
      refine wp_callV (o := 67) (as := []) (rest := []) (els := [.ref 67]) rfl rfl rfl rfl rfl rfl rfl rfl (by omega) ?_
      refine wp_run 1 (pc' := 1) (ls' := [.ref 67]) (st' := [.ref 67]) rfl ?_
      refine wp_geti (a := 1) 32 (hob.trans eb) rfl rfl rfl ?_
      refine wp_if_t rfl (show ¬ (32 : Int32) = 0 from by decide) ?_
      refine wp_run 1 (pc' := 12) (ls' := [.ref 67]) (st' := [.int 0]) rfl ?_
      refine wp_retz rfl (Or.inl rfl) ?_
      show am_wp L xs _ _ _ _ 22 [.ref 0, .int 1] [.int 0] (am_S b) h _
      refine wp_if_t rfl (show (0 : Int32) = 0 from by decide) ?_
      refine wp_run 1 (pc' := 32) (ls' := [.ref 0, .int 1]) (st' := [.ref 0]) rfl ?_
      refine wp_getr 64 rfl rfl rfl ?_
      refine wp_run 1 (pc' := 36) (ls' := [.ref 0, .int 1]) (st' := [.int 1, .ref 64]) rfl ?_
      refine wp_aald (r := 67) rfl rfl (Or.inr rfl) rfl (by decide) rfl rfl ?_
      refine wp_run 1 (pc' := 38) (ls' := [.ref 0, .int 1]) (st' := [.ref 0, .ref 67]) rfl ?_
      refine wp_getr 1 rfl rfl rfl ?_
      refine wp_getr 5 rfl rfl rfl ?_
      refine wp_run 1 (pc' := 45) (ls' := [.ref 0, .int 1]) (st' := [.ref 0, .ref 5, .ref 67]) rfl ?_
      refine wp_getr 1 rfl rfl rfl ?_
      refine wp_geti (a := 10) (nI n) hn rfl rfl rfl ?_
      refine wp_callV (o := 67) (as := [.ref 5, .int (nI n)]) (rest := []) (els := [.ref 67, .ref 5, .int (nI n), am_du]) rfl rfl rfl rfl rfl rfl rfl rfl (by omega) ?_
      refine sp_rightOnes (h := h) (l := l) (n := n) rfl rfl rfl rfl ho2 hl24 hn7 (fun r1 hr1 => ?_)
      show am_wp L xs _ _ _ _ 54 [.ref 0, .int 1] [.int (nI r1)] (am_S b) h _
      refine wp_ret rfl ?_
      refine kk _ _ _ (fun ms2 Q2 kk2 => ?_)
      refine wp_run 2 (pc' := 2) (ls' := [.ref 74, .int 1, am_du, am_du]) (st' := [.int 1, .ref 74]) rfl ?_
      refine wp_callV (o := 74) (as := [.int 1]) (rest := []) (els := [.ref 74, .int 1]) rfl rfl rfl rfl rfl rfl rfl rfl (by omega) ?_
      refine wp_run 1 (pc' := 1) (ls' := [.ref 74, .int 1]) (st' := [.int 1]) rfl ?_
      refine wp_callS (as := [.int 1]) (rest := []) (els := [.int 1]) rfl rfl rfl rfl rfl rfl rfl rfl (by omega) ?_
      refine sp_m_isSheet (by omega) (fun _ _ _ => ?_) (fun q => absurd rfl (q 1 (by omega)))
      show am_wp L xs _ _ _ _ 4 [.ref 74, .int 1] [.int 1] (am_S b) h _
      refine wp_if_t rfl (show ¬ (1 : Int32) = 0 from by decide) ?_
      refine wp_run 1 (pc' := 13) (ls' := [.ref 74, .int 1]) (st' := [.ref 74]) rfl ?_
      refine wp_getr 78 rfl rfl rfl ?_
      refine wp_run 1 (pc' := 17) (ls' := [.ref 74, .int 1]) (st' := [.int 1, .ref 78]) rfl ?_
      refine wp_ald (i := 1) 32 eb rfl rfl rfl (by decide) rfl ?_
      refine wp_if_t rfl (show ¬ (32 : Int32) = 0 from by decide) ?_
      refine wp_run 1 (pc' := 27) (ls' := [.ref 74, .int 1]) (st' := [.int 0]) rfl ?_
      refine wp_ret rfl ?_
      show am_wp L xs _ _ _ _ 5 [.ref 74, .int 1, am_du, am_du] [.int 0] (am_S b) h _
      refine wp_run 2 (pc' := 7) (ls' := [.ref 74, .int 1, .int 0, am_du]) (st' := [.int 0]) rfl ?_
      refine wp_if_t rfl (show (0 : Int32) = 0 from by decide) ?_
      refine wp_run 2 (pc' := 18) (ls' := [.ref 74, .int 1, .int 0, .int 0]) (st' := []) rfl ?_
      refine lp_judge (d := d) (s := 1) (l := l) (n := n) (by omega) hl24 hz2 hm2 hn7 (by omega) (fun r2 hr2 => ?_) l 0 (fun q hq => by omega) (by omega)
      have er : r1 = r2 := pu_ro_uniq hr1 hr2 (fun q hq hqn => by
        show h 68 q = h 5 q ↔ h 80 (24 * 1 + q) = h 75 (7 + 4 * q + 3)
        rw [hri q (by omega), re_hase H hqn])
      subst er
      exact kk2 _ _ ⟨⟨n, c, t, tp, wt, s0, s1, p0, p1, H⟩, re_im_s hI, hE, hS0, hS1, hS2, hS3, hT⟩
  · skip
    intro ex1
    subst ex1
    show am_wp L xs _ _ _ _ 4 [.ref 0, .int 2] [.int 1] (am_S b) h _
    refine wp_if_t rfl (show ¬ (1 : Int32) = 0 from by decide) ?_
    obtain ⟨l, hl24, ho2, hz2, hob, hbb, hri⟩ := id hS2
    rcases hbb with ⟨eb, el⟩ | eb | eb | eb
    · skip
      refine wp_run 1 (pc' := 14) (ls' := [.ref 0, .int 2]) (st' := [.ref 0]) rfl ?_
      refine wp_getr 64 rfl rfl rfl ?_
      refine wp_run 1 (pc' := 18) (ls' := [.ref 0, .int 2]) (st' := [.int 2, .ref 64]) rfl ?_
      refine wp_aald (r := 69) rfl rfl (Or.inr rfl) rfl (by decide) rfl rfl ?_
      refine wp_callV (o := 69) (as := []) (rest := []) (els := [.ref 69]) rfl rfl rfl rfl rfl rfl rfl rfl (by omega) ?_
      refine wp_run 1 (pc' := 1) (ls' := [.ref 69]) (st' := [.ref 69]) rfl ?_
      refine wp_geti (a := 1) 0 (hob.trans eb) rfl rfl rfl ?_
      refine wp_if_f rfl (show ¬ (¬ (0 : Int32) = 0) from by decide) ?_
      refine wp_run 2 (pc' := 12) (ls' := [.ref 69]) (st' := [.int 1]) rfl ?_
      refine wp_retz rfl (Or.inr rfl) ?_
      show am_wp L xs _ _ _ _ 22 [.ref 0, .int 2] [.int 1] (am_S b) h _
      refine wp_if_f rfl (show ¬ ((1 : Int32) = 0) from by decide) ?_
      refine wp_run 2 (pc' := 27) (ls' := [.ref 0, .int 2]) (st' := [.int 2, .ref 0]) rfl ?_
      refine wp_callV (o := 0) (as := [.int 2]) (rest := []) (els := [.ref 0, .int 2]) rfl rfl rfl rfl rfl rfl rfl rfl (by omega) ?_
      refine sp_refuse2 (by omega) ?_
      show am_wp L xs _ _ _ _ 30 [.ref 0, .int 2] [.int (-1000000002)] (am_S b) (am_u h 73 2 (h 73 2 + 1)) _
      refine wp_ret rfl ?_
      refine kk _ _ _ (fun ms2 Q2 kk2 => ?_)
      refine wp_run 2 (pc' := 2) (ls' := [.ref 74, .int 2, am_du, am_du]) (st' := [.int 2, .ref 74]) rfl ?_
      refine wp_callV (o := 74) (as := [.int 2]) (rest := []) (els := [.ref 74, .int 2]) rfl rfl rfl rfl rfl rfl rfl rfl (by omega) ?_
      refine wp_run 1 (pc' := 1) (ls' := [.ref 74, .int 2]) (st' := [.int 2]) rfl ?_
      refine wp_callS (as := [.int 2]) (rest := []) (els := [.int 2]) rfl rfl rfl rfl rfl rfl rfl rfl (by omega) ?_
      refine sp_m_isSheet (by omega) (fun _ _ _ => ?_) (fun q => absurd rfl (q 2 (by omega)))
      show am_wp L xs _ _ _ _ 4 [.ref 74, .int 2] [.int 1] (am_S b) (am_u h 73 2 (h 73 2 + 1)) _
      refine wp_if_t rfl (show ¬ (1 : Int32) = 0 from by decide) ?_
      refine wp_run 1 (pc' := 13) (ls' := [.ref 74, .int 2]) (st' := [.ref 74]) rfl ?_
      refine wp_getr 78 rfl rfl rfl ?_
      refine wp_run 1 (pc' := 17) (ls' := [.ref 74, .int 2]) (st' := [.int 2, .ref 78]) rfl ?_
      refine wp_ald (i := 2) 0 eb rfl rfl rfl (by decide) rfl ?_
      refine wp_if_f rfl (show ¬ (¬ (0 : Int32) = 0) from by decide) ?_
      refine wp_run 2 (pc' := 27) (ls' := [.ref 74, .int 2]) (st' := [.int (-1000000002)]) rfl ?_
      refine wp_ret rfl ?_
      show am_wp L xs _ _ _ _ 5 [.ref 74, .int 2, am_du, am_du] [.int (-1000000002)] (am_S b) (am_u h 73 2 (h 73 2 + 1)) _
      refine wp_run 2 (pc' := 7) (ls' := [.ref 74, .int 2, .int (-1000000002), am_du]) (st' := [.int (-1000000002)]) rfl ?_
      refine wp_if_f rfl (show ¬ (((-1000000002) : Int32) = 0) from by decide) ?_
      refine wp_run 2 (pc' := 12) (ls' := [.ref 74, .int 2, .int (-1000000002), am_du]) (st' := [.int (-1000000002), .ref 74]) rfl ?_
      refine wp_callV (o := 74) (as := [.int (-1000000002)]) (rest := []) (els := [.ref 74, .int (-1000000002)]) rfl rfl rfl rfl rfl rfl rfl rfl (by omega) ?_
      refine sp_error2 ?_
      show am_wp L xs _ _ _ _ 15 [.ref 74, .int 2, .int (-1000000002), am_du] [.int (-1000000002)] (am_S b) (am_u (am_u h 73 2 (h 73 2 + 1)) 77 2 ((am_u h 73 2 (h 73 2 + 1)) 77 2 + 1)) _
      refine wp_ret rfl ?_
      exact kk2 _ _ (re_err2 hR)
    · skip
      refine wp_run 1 (pc' := 14) (ls' := [.ref 0, .int 2]) (st' := [.ref 0]) rfl ?_
      refine wp_getr 64 rfl rfl rfl ?_
      refine wp_run 1 (pc' := 18) (ls' := [.ref 0, .int 2]) (st' := [.int 2, .ref 64]) rfl ?_
      refine wp_aald (r := 69) rfl rfl (Or.inr rfl) rfl (by decide) rfl rfl ?_
      refine wp_callV (o := 69) (as := []) (rest := []) (els := [.ref 69]) rfl rfl rfl rfl rfl rfl rfl rfl (by omega) ?_
      refine wp_run 1 (pc' := 1) (ls' := [.ref 69]) (st' := [.ref 69]) rfl ?_
      refine wp_geti (a := 1) 8 (hob.trans eb) rfl rfl rfl ?_
      refine wp_if_t rfl (show ¬ (8 : Int32) = 0 from by decide) ?_
      refine wp_run 1 (pc' := 12) (ls' := [.ref 69]) (st' := [.int 0]) rfl ?_
      refine wp_retz rfl (Or.inl rfl) ?_
      show am_wp L xs _ _ _ _ 22 [.ref 0, .int 2] [.int 0] (am_S b) h _
      refine wp_if_t rfl (show (0 : Int32) = 0 from by decide) ?_
      refine wp_run 1 (pc' := 32) (ls' := [.ref 0, .int 2]) (st' := [.ref 0]) rfl ?_
      refine wp_getr 64 rfl rfl rfl ?_
      refine wp_run 1 (pc' := 36) (ls' := [.ref 0, .int 2]) (st' := [.int 2, .ref 64]) rfl ?_
      refine wp_aald (r := 69) rfl rfl (Or.inr rfl) rfl (by decide) rfl rfl ?_
      refine wp_run 1 (pc' := 38) (ls' := [.ref 0, .int 2]) (st' := [.ref 0, .ref 69]) rfl ?_
      refine wp_getr 1 rfl rfl rfl ?_
      refine wp_getr 5 rfl rfl rfl ?_
      refine wp_run 1 (pc' := 45) (ls' := [.ref 0, .int 2]) (st' := [.ref 0, .ref 5, .ref 69]) rfl ?_
      refine wp_getr 1 rfl rfl rfl ?_
      refine wp_geti (a := 10) (nI n) hn rfl rfl rfl ?_
      refine wp_callV (o := 69) (as := [.ref 5, .int (nI n)]) (rest := []) (els := [.ref 69, .ref 5, .int (nI n), am_du]) rfl rfl rfl rfl rfl rfl rfl rfl (by omega) ?_
      refine sp_rightOnes (h := h) (l := l) (n := n) rfl rfl rfl rfl ho2 hl24 hn7 (fun r1 hr1 => ?_)
      show am_wp L xs _ _ _ _ 54 [.ref 0, .int 2] [.int (nI r1)] (am_S b) h _
      refine wp_ret rfl ?_
      refine kk _ _ _ (fun ms2 Q2 kk2 => ?_)
      refine wp_run 2 (pc' := 2) (ls' := [.ref 74, .int 2, am_du, am_du]) (st' := [.int 2, .ref 74]) rfl ?_
      refine wp_callV (o := 74) (as := [.int 2]) (rest := []) (els := [.ref 74, .int 2]) rfl rfl rfl rfl rfl rfl rfl rfl (by omega) ?_
      refine wp_run 1 (pc' := 1) (ls' := [.ref 74, .int 2]) (st' := [.int 2]) rfl ?_
      refine wp_callS (as := [.int 2]) (rest := []) (els := [.int 2]) rfl rfl rfl rfl rfl rfl rfl rfl (by omega) ?_
      refine sp_m_isSheet (by omega) (fun _ _ _ => ?_) (fun q => absurd rfl (q 2 (by omega)))
      show am_wp L xs _ _ _ _ 4 [.ref 74, .int 2] [.int 1] (am_S b) h _
      refine wp_if_t rfl (show ¬ (1 : Int32) = 0 from by decide) ?_
      refine wp_run 1 (pc' := 13) (ls' := [.ref 74, .int 2]) (st' := [.ref 74]) rfl ?_
      refine wp_getr 78 rfl rfl rfl ?_
      refine wp_run 1 (pc' := 17) (ls' := [.ref 74, .int 2]) (st' := [.int 2, .ref 78]) rfl ?_
      refine wp_ald (i := 2) 8 eb rfl rfl rfl (by decide) rfl ?_
      refine wp_if_t rfl (show ¬ (8 : Int32) = 0 from by decide) ?_
      refine wp_run 1 (pc' := 27) (ls' := [.ref 74, .int 2]) (st' := [.int 0]) rfl ?_
      refine wp_ret rfl ?_
      show am_wp L xs _ _ _ _ 5 [.ref 74, .int 2, am_du, am_du] [.int 0] (am_S b) h _
      refine wp_run 2 (pc' := 7) (ls' := [.ref 74, .int 2, .int 0, am_du]) (st' := [.int 0]) rfl ?_
      refine wp_if_t rfl (show (0 : Int32) = 0 from by decide) ?_
      refine wp_run 2 (pc' := 18) (ls' := [.ref 74, .int 2, .int 0, .int 0]) (st' := []) rfl ?_
      refine lp_judge (d := d) (s := 2) (l := l) (n := n) (by omega) hl24 hz2 hm2 hn7 (by omega) (fun r2 hr2 => ?_) l 0 (fun q hq => by omega) (by omega)
      have er : r1 = r2 := pu_ro_uniq hr1 hr2 (fun q hq hqn => by
        show h 70 q = h 5 q ↔ h 80 (24 * 2 + q) = h 75 (7 + 4 * q + 3)
        rw [hri q (by omega), re_hase H hqn])
      subst er
      exact kk2 _ _ ⟨⟨n, c, t, tp, wt, s0, s1, p0, p1, H⟩, re_im_s hI, hE, hS0, hS1, hS2, hS3, hT⟩
    · skip
      refine wp_run 1 (pc' := 14) (ls' := [.ref 0, .int 2]) (st' := [.ref 0]) rfl ?_
      refine wp_getr 64 rfl rfl rfl ?_
      refine wp_run 1 (pc' := 18) (ls' := [.ref 0, .int 2]) (st' := [.int 2, .ref 64]) rfl ?_
      refine wp_aald (r := 69) rfl rfl (Or.inr rfl) rfl (by decide) rfl rfl ?_
      refine wp_callV (o := 69) (as := []) (rest := []) (els := [.ref 69]) rfl rfl rfl rfl rfl rfl rfl rfl (by omega) ?_
      refine wp_run 1 (pc' := 1) (ls' := [.ref 69]) (st' := [.ref 69]) rfl ?_
      refine wp_geti (a := 1) 16 (hob.trans eb) rfl rfl rfl ?_
      refine wp_if_t rfl (show ¬ (16 : Int32) = 0 from by decide) ?_
      refine wp_run 1 (pc' := 12) (ls' := [.ref 69]) (st' := [.int 0]) rfl ?_
      refine wp_retz rfl (Or.inl rfl) ?_
      show am_wp L xs _ _ _ _ 22 [.ref 0, .int 2] [.int 0] (am_S b) h _
      refine wp_if_t rfl (show (0 : Int32) = 0 from by decide) ?_
      refine wp_run 1 (pc' := 32) (ls' := [.ref 0, .int 2]) (st' := [.ref 0]) rfl ?_
      refine wp_getr 64 rfl rfl rfl ?_
      refine wp_run 1 (pc' := 36) (ls' := [.ref 0, .int 2]) (st' := [.int 2, .ref 64]) rfl ?_
      refine wp_aald (r := 69) rfl rfl (Or.inr rfl) rfl (by decide) rfl rfl ?_
      refine wp_run 1 (pc' := 38) (ls' := [.ref 0, .int 2]) (st' := [.ref 0, .ref 69]) rfl ?_
      refine wp_getr 1 rfl rfl rfl ?_
      refine wp_getr 5 rfl rfl rfl ?_
      refine wp_run 1 (pc' := 45) (ls' := [.ref 0, .int 2]) (st' := [.ref 0, .ref 5, .ref 69]) rfl ?_
      refine wp_getr 1 rfl rfl rfl ?_
      refine wp_geti (a := 10) (nI n) hn rfl rfl rfl ?_
      refine wp_callV (o := 69) (as := [.ref 5, .int (nI n)]) (rest := []) (els := [.ref 69, .ref 5, .int (nI n), am_du]) rfl rfl rfl rfl rfl rfl rfl rfl (by omega) ?_
      refine sp_rightOnes (h := h) (l := l) (n := n) rfl rfl rfl rfl ho2 hl24 hn7 (fun r1 hr1 => ?_)
      show am_wp L xs _ _ _ _ 54 [.ref 0, .int 2] [.int (nI r1)] (am_S b) h _
      refine wp_ret rfl ?_
      refine kk _ _ _ (fun ms2 Q2 kk2 => ?_)
      refine wp_run 2 (pc' := 2) (ls' := [.ref 74, .int 2, am_du, am_du]) (st' := [.int 2, .ref 74]) rfl ?_
      refine wp_callV (o := 74) (as := [.int 2]) (rest := []) (els := [.ref 74, .int 2]) rfl rfl rfl rfl rfl rfl rfl rfl (by omega) ?_
      refine wp_run 1 (pc' := 1) (ls' := [.ref 74, .int 2]) (st' := [.int 2]) rfl ?_
      refine wp_callS (as := [.int 2]) (rest := []) (els := [.int 2]) rfl rfl rfl rfl rfl rfl rfl rfl (by omega) ?_
      refine sp_m_isSheet (by omega) (fun _ _ _ => ?_) (fun q => absurd rfl (q 2 (by omega)))
      show am_wp L xs _ _ _ _ 4 [.ref 74, .int 2] [.int 1] (am_S b) h _
      refine wp_if_t rfl (show ¬ (1 : Int32) = 0 from by decide) ?_
      refine wp_run 1 (pc' := 13) (ls' := [.ref 74, .int 2]) (st' := [.ref 74]) rfl ?_
      refine wp_getr 78 rfl rfl rfl ?_
      refine wp_run 1 (pc' := 17) (ls' := [.ref 74, .int 2]) (st' := [.int 2, .ref 78]) rfl ?_
      refine wp_ald (i := 2) 16 eb rfl rfl rfl (by decide) rfl ?_
      refine wp_if_t rfl (show ¬ (16 : Int32) = 0 from by decide) ?_
      refine wp_run 1 (pc' := 27) (ls' := [.ref 74, .int 2]) (st' := [.int 0]) rfl ?_
      refine wp_ret rfl ?_
      show am_wp L xs _ _ _ _ 5 [.ref 74, .int 2, am_du, am_du] [.int 0] (am_S b) h _
      refine wp_run 2 (pc' := 7) (ls' := [.ref 74, .int 2, .int 0, am_du]) (st' := [.int 0]) rfl ?_
      refine wp_if_t rfl (show (0 : Int32) = 0 from by decide) ?_
      refine wp_run 2 (pc' := 18) (ls' := [.ref 74, .int 2, .int 0, .int 0]) (st' := []) rfl ?_
      refine lp_judge (d := d) (s := 2) (l := l) (n := n) (by omega) hl24 hz2 hm2 hn7 (by omega) (fun r2 hr2 => ?_) l 0 (fun q hq => by omega) (by omega)
      have er : r1 = r2 := pu_ro_uniq hr1 hr2 (fun q hq hqn => by
        show h 70 q = h 5 q ↔ h 80 (24 * 2 + q) = h 75 (7 + 4 * q + 3)
        rw [hri q (by omega), re_hase H hqn])
      subst er
      exact kk2 _ _ ⟨⟨n, c, t, tp, wt, s0, s1, p0, p1, H⟩, re_im_s hI, hE, hS0, hS1, hS2, hS3, hT⟩
    · skip
      refine wp_run 1 (pc' := 14) (ls' := [.ref 0, .int 2]) (st' := [.ref 0]) rfl ?_
      refine wp_getr 64 rfl rfl rfl ?_
      refine wp_run 1 (pc' := 18) (ls' := [.ref 0, .int 2]) (st' := [.int 2, .ref 64]) rfl ?_
      refine wp_aald (r := 69) rfl rfl (Or.inr rfl) rfl (by decide) rfl rfl ?_
      refine wp_callV (o := 69) (as := []) (rest := []) (els := [.ref 69]) rfl rfl rfl rfl rfl rfl rfl rfl (by omega) ?_
      refine wp_run 1 (pc' := 1) (ls' := [.ref 69]) (st' := [.ref 69]) rfl ?_
      refine wp_geti (a := 1) 32 (hob.trans eb) rfl rfl rfl ?_
      refine wp_if_t rfl (show ¬ (32 : Int32) = 0 from by decide) ?_
      refine wp_run 1 (pc' := 12) (ls' := [.ref 69]) (st' := [.int 0]) rfl ?_
      refine wp_retz rfl (Or.inl rfl) ?_
      show am_wp L xs _ _ _ _ 22 [.ref 0, .int 2] [.int 0] (am_S b) h _
      refine wp_if_t rfl (show (0 : Int32) = 0 from by decide) ?_
      refine wp_run 1 (pc' := 32) (ls' := [.ref 0, .int 2]) (st' := [.ref 0]) rfl ?_
      refine wp_getr 64 rfl rfl rfl ?_
      refine wp_run 1 (pc' := 36) (ls' := [.ref 0, .int 2]) (st' := [.int 2, .ref 64]) rfl ?_
      refine wp_aald (r := 69) rfl rfl (Or.inr rfl) rfl (by decide) rfl rfl ?_
      refine wp_run 1 (pc' := 38) (ls' := [.ref 0, .int 2]) (st' := [.ref 0, .ref 69]) rfl ?_
      refine wp_getr 1 rfl rfl rfl ?_
      refine wp_getr 5 rfl rfl rfl ?_
      refine wp_run 1 (pc' := 45) (ls' := [.ref 0, .int 2]) (st' := [.ref 0, .ref 5, .ref 69]) rfl ?_
      refine wp_getr 1 rfl rfl rfl ?_
      refine wp_geti (a := 10) (nI n) hn rfl rfl rfl ?_
      refine wp_callV (o := 69) (as := [.ref 5, .int (nI n)]) (rest := []) (els := [.ref 69, .ref 5, .int (nI n), am_du]) rfl rfl rfl rfl rfl rfl rfl rfl (by omega) ?_
      refine sp_rightOnes (h := h) (l := l) (n := n) rfl rfl rfl rfl ho2 hl24 hn7 (fun r1 hr1 => ?_)
      show am_wp L xs _ _ _ _ 54 [.ref 0, .int 2] [.int (nI r1)] (am_S b) h _
      refine wp_ret rfl ?_
      refine kk _ _ _ (fun ms2 Q2 kk2 => ?_)
      refine wp_run 2 (pc' := 2) (ls' := [.ref 74, .int 2, am_du, am_du]) (st' := [.int 2, .ref 74]) rfl ?_
      refine wp_callV (o := 74) (as := [.int 2]) (rest := []) (els := [.ref 74, .int 2]) rfl rfl rfl rfl rfl rfl rfl rfl (by omega) ?_
      refine wp_run 1 (pc' := 1) (ls' := [.ref 74, .int 2]) (st' := [.int 2]) rfl ?_
      refine wp_callS (as := [.int 2]) (rest := []) (els := [.int 2]) rfl rfl rfl rfl rfl rfl rfl rfl (by omega) ?_
      refine sp_m_isSheet (by omega) (fun _ _ _ => ?_) (fun q => absurd rfl (q 2 (by omega)))
      show am_wp L xs _ _ _ _ 4 [.ref 74, .int 2] [.int 1] (am_S b) h _
      refine wp_if_t rfl (show ¬ (1 : Int32) = 0 from by decide) ?_
      refine wp_run 1 (pc' := 13) (ls' := [.ref 74, .int 2]) (st' := [.ref 74]) rfl ?_
      refine wp_getr 78 rfl rfl rfl ?_
      refine wp_run 1 (pc' := 17) (ls' := [.ref 74, .int 2]) (st' := [.int 2, .ref 78]) rfl ?_
      refine wp_ald (i := 2) 32 eb rfl rfl rfl (by decide) rfl ?_
      refine wp_if_t rfl (show ¬ (32 : Int32) = 0 from by decide) ?_
      refine wp_run 1 (pc' := 27) (ls' := [.ref 74, .int 2]) (st' := [.int 0]) rfl ?_
      refine wp_ret rfl ?_
      show am_wp L xs _ _ _ _ 5 [.ref 74, .int 2, am_du, am_du] [.int 0] (am_S b) h _
      refine wp_run 2 (pc' := 7) (ls' := [.ref 74, .int 2, .int 0, am_du]) (st' := [.int 0]) rfl ?_
      refine wp_if_t rfl (show (0 : Int32) = 0 from by decide) ?_
      refine wp_run 2 (pc' := 18) (ls' := [.ref 74, .int 2, .int 0, .int 0]) (st' := []) rfl ?_
      refine lp_judge (d := d) (s := 2) (l := l) (n := n) (by omega) hl24 hz2 hm2 hn7 (by omega) (fun r2 hr2 => ?_) l 0 (fun q hq => by omega) (by omega)
      have er : r1 = r2 := pu_ro_uniq hr1 hr2 (fun q hq hqn => by
        show h 70 q = h 5 q ↔ h 80 (24 * 2 + q) = h 75 (7 + 4 * q + 3)
        rw [hri q (by omega), re_hase H hqn])
      subst er
      exact kk2 _ _ ⟨⟨n, c, t, tp, wt, s0, s1, p0, p1, H⟩, re_im_s hI, hE, hS0, hS1, hS2, hS3, hT⟩
  · skip
    intro ex1
    subst ex1
    show am_wp L xs _ _ _ _ 4 [.ref 0, .int 3] [.int 1] (am_S b) h _
    refine wp_if_t rfl (show ¬ (1 : Int32) = 0 from by decide) ?_
    obtain ⟨l, hl24, ho2, hz2, hob, hbb, hri⟩ := id hS3
    rcases hbb with ⟨eb, el⟩ | eb | eb | eb
    · skip
      refine wp_run 1 (pc' := 14) (ls' := [.ref 0, .int 3]) (st' := [.ref 0]) rfl ?_
      refine wp_getr 64 rfl rfl rfl ?_
      refine wp_run 1 (pc' := 18) (ls' := [.ref 0, .int 3]) (st' := [.int 3, .ref 64]) rfl ?_
      refine wp_aald (r := 71) rfl rfl (Or.inr rfl) rfl (by decide) rfl rfl ?_
      refine wp_callV (o := 71) (as := []) (rest := []) (els := [.ref 71]) rfl rfl rfl rfl rfl rfl rfl rfl (by omega) ?_
      refine wp_run 1 (pc' := 1) (ls' := [.ref 71]) (st' := [.ref 71]) rfl ?_
      refine wp_geti (a := 1) 0 (hob.trans eb) rfl rfl rfl ?_
      refine wp_if_f rfl (show ¬ (¬ (0 : Int32) = 0) from by decide) ?_
      refine wp_run 2 (pc' := 12) (ls' := [.ref 71]) (st' := [.int 1]) rfl ?_
      refine wp_retz rfl (Or.inr rfl) ?_
      show am_wp L xs _ _ _ _ 22 [.ref 0, .int 3] [.int 1] (am_S b) h _
      refine wp_if_f rfl (show ¬ ((1 : Int32) = 0) from by decide) ?_
      refine wp_run 2 (pc' := 27) (ls' := [.ref 0, .int 3]) (st' := [.int 2, .ref 0]) rfl ?_
      refine wp_callV (o := 0) (as := [.int 2]) (rest := []) (els := [.ref 0, .int 2]) rfl rfl rfl rfl rfl rfl rfl rfl (by omega) ?_
      refine sp_refuse2 (by omega) ?_
      show am_wp L xs _ _ _ _ 30 [.ref 0, .int 3] [.int (-1000000002)] (am_S b) (am_u h 73 2 (h 73 2 + 1)) _
      refine wp_ret rfl ?_
      refine kk _ _ _ (fun ms2 Q2 kk2 => ?_)
      refine wp_run 2 (pc' := 2) (ls' := [.ref 74, .int 3, am_du, am_du]) (st' := [.int 3, .ref 74]) rfl ?_
      refine wp_callV (o := 74) (as := [.int 3]) (rest := []) (els := [.ref 74, .int 3]) rfl rfl rfl rfl rfl rfl rfl rfl (by omega) ?_
      refine wp_run 1 (pc' := 1) (ls' := [.ref 74, .int 3]) (st' := [.int 3]) rfl ?_
      refine wp_callS (as := [.int 3]) (rest := []) (els := [.int 3]) rfl rfl rfl rfl rfl rfl rfl rfl (by omega) ?_
      refine sp_m_isSheet (by omega) (fun _ _ _ => ?_) (fun q => absurd rfl (q 3 (by omega)))
      show am_wp L xs _ _ _ _ 4 [.ref 74, .int 3] [.int 1] (am_S b) (am_u h 73 2 (h 73 2 + 1)) _
      refine wp_if_t rfl (show ¬ (1 : Int32) = 0 from by decide) ?_
      refine wp_run 1 (pc' := 13) (ls' := [.ref 74, .int 3]) (st' := [.ref 74]) rfl ?_
      refine wp_getr 78 rfl rfl rfl ?_
      refine wp_run 1 (pc' := 17) (ls' := [.ref 74, .int 3]) (st' := [.int 3, .ref 78]) rfl ?_
      refine wp_ald (i := 3) 0 eb rfl rfl rfl (by decide) rfl ?_
      refine wp_if_f rfl (show ¬ (¬ (0 : Int32) = 0) from by decide) ?_
      refine wp_run 2 (pc' := 27) (ls' := [.ref 74, .int 3]) (st' := [.int (-1000000002)]) rfl ?_
      refine wp_ret rfl ?_
      show am_wp L xs _ _ _ _ 5 [.ref 74, .int 3, am_du, am_du] [.int (-1000000002)] (am_S b) (am_u h 73 2 (h 73 2 + 1)) _
      refine wp_run 2 (pc' := 7) (ls' := [.ref 74, .int 3, .int (-1000000002), am_du]) (st' := [.int (-1000000002)]) rfl ?_
      refine wp_if_f rfl (show ¬ (((-1000000002) : Int32) = 0) from by decide) ?_
      refine wp_run 2 (pc' := 12) (ls' := [.ref 74, .int 3, .int (-1000000002), am_du]) (st' := [.int (-1000000002), .ref 74]) rfl ?_
      refine wp_callV (o := 74) (as := [.int (-1000000002)]) (rest := []) (els := [.ref 74, .int (-1000000002)]) rfl rfl rfl rfl rfl rfl rfl rfl (by omega) ?_
      refine sp_error2 ?_
      show am_wp L xs _ _ _ _ 15 [.ref 74, .int 3, .int (-1000000002), am_du] [.int (-1000000002)] (am_S b) (am_u (am_u h 73 2 (h 73 2 + 1)) 77 2 ((am_u h 73 2 (h 73 2 + 1)) 77 2 + 1)) _
      refine wp_ret rfl ?_
      exact kk2 _ _ (re_err2 hR)
    · skip
      refine wp_run 1 (pc' := 14) (ls' := [.ref 0, .int 3]) (st' := [.ref 0]) rfl ?_
      refine wp_getr 64 rfl rfl rfl ?_
      refine wp_run 1 (pc' := 18) (ls' := [.ref 0, .int 3]) (st' := [.int 3, .ref 64]) rfl ?_
      refine wp_aald (r := 71) rfl rfl (Or.inr rfl) rfl (by decide) rfl rfl ?_
      refine wp_callV (o := 71) (as := []) (rest := []) (els := [.ref 71]) rfl rfl rfl rfl rfl rfl rfl rfl (by omega) ?_
      refine wp_run 1 (pc' := 1) (ls' := [.ref 71]) (st' := [.ref 71]) rfl ?_
      refine wp_geti (a := 1) 8 (hob.trans eb) rfl rfl rfl ?_
      refine wp_if_t rfl (show ¬ (8 : Int32) = 0 from by decide) ?_
      refine wp_run 1 (pc' := 12) (ls' := [.ref 71]) (st' := [.int 0]) rfl ?_
      refine wp_retz rfl (Or.inl rfl) ?_
      show am_wp L xs _ _ _ _ 22 [.ref 0, .int 3] [.int 0] (am_S b) h _
      refine wp_if_t rfl (show (0 : Int32) = 0 from by decide) ?_
      refine wp_run 1 (pc' := 32) (ls' := [.ref 0, .int 3]) (st' := [.ref 0]) rfl ?_
      refine wp_getr 64 rfl rfl rfl ?_
      refine wp_run 1 (pc' := 36) (ls' := [.ref 0, .int 3]) (st' := [.int 3, .ref 64]) rfl ?_
      refine wp_aald (r := 71) rfl rfl (Or.inr rfl) rfl (by decide) rfl rfl ?_
      refine wp_run 1 (pc' := 38) (ls' := [.ref 0, .int 3]) (st' := [.ref 0, .ref 71]) rfl ?_
      refine wp_getr 1 rfl rfl rfl ?_
      refine wp_getr 5 rfl rfl rfl ?_
      refine wp_run 1 (pc' := 45) (ls' := [.ref 0, .int 3]) (st' := [.ref 0, .ref 5, .ref 71]) rfl ?_
      refine wp_getr 1 rfl rfl rfl ?_
      refine wp_geti (a := 10) (nI n) hn rfl rfl rfl ?_
      refine wp_callV (o := 71) (as := [.ref 5, .int (nI n)]) (rest := []) (els := [.ref 71, .ref 5, .int (nI n), am_du]) rfl rfl rfl rfl rfl rfl rfl rfl (by omega) ?_
      refine sp_rightOnes (h := h) (l := l) (n := n) rfl rfl rfl rfl ho2 hl24 hn7 (fun r1 hr1 => ?_)
      show am_wp L xs _ _ _ _ 54 [.ref 0, .int 3] [.int (nI r1)] (am_S b) h _
      refine wp_ret rfl ?_
      refine kk _ _ _ (fun ms2 Q2 kk2 => ?_)
      refine wp_run 2 (pc' := 2) (ls' := [.ref 74, .int 3, am_du, am_du]) (st' := [.int 3, .ref 74]) rfl ?_
      refine wp_callV (o := 74) (as := [.int 3]) (rest := []) (els := [.ref 74, .int 3]) rfl rfl rfl rfl rfl rfl rfl rfl (by omega) ?_
      refine wp_run 1 (pc' := 1) (ls' := [.ref 74, .int 3]) (st' := [.int 3]) rfl ?_
      refine wp_callS (as := [.int 3]) (rest := []) (els := [.int 3]) rfl rfl rfl rfl rfl rfl rfl rfl (by omega) ?_
      refine sp_m_isSheet (by omega) (fun _ _ _ => ?_) (fun q => absurd rfl (q 3 (by omega)))
      show am_wp L xs _ _ _ _ 4 [.ref 74, .int 3] [.int 1] (am_S b) h _
      refine wp_if_t rfl (show ¬ (1 : Int32) = 0 from by decide) ?_
      refine wp_run 1 (pc' := 13) (ls' := [.ref 74, .int 3]) (st' := [.ref 74]) rfl ?_
      refine wp_getr 78 rfl rfl rfl ?_
      refine wp_run 1 (pc' := 17) (ls' := [.ref 74, .int 3]) (st' := [.int 3, .ref 78]) rfl ?_
      refine wp_ald (i := 3) 8 eb rfl rfl rfl (by decide) rfl ?_
      refine wp_if_t rfl (show ¬ (8 : Int32) = 0 from by decide) ?_
      refine wp_run 1 (pc' := 27) (ls' := [.ref 74, .int 3]) (st' := [.int 0]) rfl ?_
      refine wp_ret rfl ?_
      show am_wp L xs _ _ _ _ 5 [.ref 74, .int 3, am_du, am_du] [.int 0] (am_S b) h _
      refine wp_run 2 (pc' := 7) (ls' := [.ref 74, .int 3, .int 0, am_du]) (st' := [.int 0]) rfl ?_
      refine wp_if_t rfl (show (0 : Int32) = 0 from by decide) ?_
      refine wp_run 2 (pc' := 18) (ls' := [.ref 74, .int 3, .int 0, .int 0]) (st' := []) rfl ?_
      refine lp_judge (d := d) (s := 3) (l := l) (n := n) (by omega) hl24 hz2 hm2 hn7 (by omega) (fun r2 hr2 => ?_) l 0 (fun q hq => by omega) (by omega)
      have er : r1 = r2 := pu_ro_uniq hr1 hr2 (fun q hq hqn => by
        show h 72 q = h 5 q ↔ h 80 (24 * 3 + q) = h 75 (7 + 4 * q + 3)
        rw [hri q (by omega), re_hase H hqn])
      subst er
      exact kk2 _ _ ⟨⟨n, c, t, tp, wt, s0, s1, p0, p1, H⟩, re_im_s hI, hE, hS0, hS1, hS2, hS3, hT⟩
    · skip
      refine wp_run 1 (pc' := 14) (ls' := [.ref 0, .int 3]) (st' := [.ref 0]) rfl ?_
      refine wp_getr 64 rfl rfl rfl ?_
      refine wp_run 1 (pc' := 18) (ls' := [.ref 0, .int 3]) (st' := [.int 3, .ref 64]) rfl ?_
      refine wp_aald (r := 71) rfl rfl (Or.inr rfl) rfl (by decide) rfl rfl ?_
      refine wp_callV (o := 71) (as := []) (rest := []) (els := [.ref 71]) rfl rfl rfl rfl rfl rfl rfl rfl (by omega) ?_
      refine wp_run 1 (pc' := 1) (ls' := [.ref 71]) (st' := [.ref 71]) rfl ?_
      refine wp_geti (a := 1) 16 (hob.trans eb) rfl rfl rfl ?_
      refine wp_if_t rfl (show ¬ (16 : Int32) = 0 from by decide) ?_
      refine wp_run 1 (pc' := 12) (ls' := [.ref 71]) (st' := [.int 0]) rfl ?_
      refine wp_retz rfl (Or.inl rfl) ?_
      show am_wp L xs _ _ _ _ 22 [.ref 0, .int 3] [.int 0] (am_S b) h _
      refine wp_if_t rfl (show (0 : Int32) = 0 from by decide) ?_
      refine wp_run 1 (pc' := 32) (ls' := [.ref 0, .int 3]) (st' := [.ref 0]) rfl ?_
      refine wp_getr 64 rfl rfl rfl ?_
      refine wp_run 1 (pc' := 36) (ls' := [.ref 0, .int 3]) (st' := [.int 3, .ref 64]) rfl ?_
      refine wp_aald (r := 71) rfl rfl (Or.inr rfl) rfl (by decide) rfl rfl ?_
      refine wp_run 1 (pc' := 38) (ls' := [.ref 0, .int 3]) (st' := [.ref 0, .ref 71]) rfl ?_
      refine wp_getr 1 rfl rfl rfl ?_
      refine wp_getr 5 rfl rfl rfl ?_
      refine wp_run 1 (pc' := 45) (ls' := [.ref 0, .int 3]) (st' := [.ref 0, .ref 5, .ref 71]) rfl ?_
      refine wp_getr 1 rfl rfl rfl ?_
      refine wp_geti (a := 10) (nI n) hn rfl rfl rfl ?_
      refine wp_callV (o := 71) (as := [.ref 5, .int (nI n)]) (rest := []) (els := [.ref 71, .ref 5, .int (nI n), am_du]) rfl rfl rfl rfl rfl rfl rfl rfl (by omega) ?_
      refine sp_rightOnes (h := h) (l := l) (n := n) rfl rfl rfl rfl ho2 hl24 hn7 (fun r1 hr1 => ?_)
      show am_wp L xs _ _ _ _ 54 [.ref 0, .int 3] [.int (nI r1)] (am_S b) h _
      refine wp_ret rfl ?_
      refine kk _ _ _ (fun ms2 Q2 kk2 => ?_)
      refine wp_run 2 (pc' := 2) (ls' := [.ref 74, .int 3, am_du, am_du]) (st' := [.int 3, .ref 74]) rfl ?_
      refine wp_callV (o := 74) (as := [.int 3]) (rest := []) (els := [.ref 74, .int 3]) rfl rfl rfl rfl rfl rfl rfl rfl (by omega) ?_
      refine wp_run 1 (pc' := 1) (ls' := [.ref 74, .int 3]) (st' := [.int 3]) rfl ?_
      refine wp_callS (as := [.int 3]) (rest := []) (els := [.int 3]) rfl rfl rfl rfl rfl rfl rfl rfl (by omega) ?_
      refine sp_m_isSheet (by omega) (fun _ _ _ => ?_) (fun q => absurd rfl (q 3 (by omega)))
      show am_wp L xs _ _ _ _ 4 [.ref 74, .int 3] [.int 1] (am_S b) h _
      refine wp_if_t rfl (show ¬ (1 : Int32) = 0 from by decide) ?_
      refine wp_run 1 (pc' := 13) (ls' := [.ref 74, .int 3]) (st' := [.ref 74]) rfl ?_
      refine wp_getr 78 rfl rfl rfl ?_
      refine wp_run 1 (pc' := 17) (ls' := [.ref 74, .int 3]) (st' := [.int 3, .ref 78]) rfl ?_
      refine wp_ald (i := 3) 16 eb rfl rfl rfl (by decide) rfl ?_
      refine wp_if_t rfl (show ¬ (16 : Int32) = 0 from by decide) ?_
      refine wp_run 1 (pc' := 27) (ls' := [.ref 74, .int 3]) (st' := [.int 0]) rfl ?_
      refine wp_ret rfl ?_
      show am_wp L xs _ _ _ _ 5 [.ref 74, .int 3, am_du, am_du] [.int 0] (am_S b) h _
      refine wp_run 2 (pc' := 7) (ls' := [.ref 74, .int 3, .int 0, am_du]) (st' := [.int 0]) rfl ?_
      refine wp_if_t rfl (show (0 : Int32) = 0 from by decide) ?_
      refine wp_run 2 (pc' := 18) (ls' := [.ref 74, .int 3, .int 0, .int 0]) (st' := []) rfl ?_
      refine lp_judge (d := d) (s := 3) (l := l) (n := n) (by omega) hl24 hz2 hm2 hn7 (by omega) (fun r2 hr2 => ?_) l 0 (fun q hq => by omega) (by omega)
      have er : r1 = r2 := pu_ro_uniq hr1 hr2 (fun q hq hqn => by
        show h 72 q = h 5 q ↔ h 80 (24 * 3 + q) = h 75 (7 + 4 * q + 3)
        rw [hri q (by omega), re_hase H hqn])
      subst er
      exact kk2 _ _ ⟨⟨n, c, t, tp, wt, s0, s1, p0, p1, H⟩, re_im_s hI, hE, hS0, hS1, hS2, hS3, hT⟩
    · skip
      refine wp_run 1 (pc' := 14) (ls' := [.ref 0, .int 3]) (st' := [.ref 0]) rfl ?_
      refine wp_getr 64 rfl rfl rfl ?_
      refine wp_run 1 (pc' := 18) (ls' := [.ref 0, .int 3]) (st' := [.int 3, .ref 64]) rfl ?_
      refine wp_aald (r := 71) rfl rfl (Or.inr rfl) rfl (by decide) rfl rfl ?_
      refine wp_callV (o := 71) (as := []) (rest := []) (els := [.ref 71]) rfl rfl rfl rfl rfl rfl rfl rfl (by omega) ?_
      refine wp_run 1 (pc' := 1) (ls' := [.ref 71]) (st' := [.ref 71]) rfl ?_
      refine wp_geti (a := 1) 32 (hob.trans eb) rfl rfl rfl ?_
      refine wp_if_t rfl (show ¬ (32 : Int32) = 0 from by decide) ?_
      refine wp_run 1 (pc' := 12) (ls' := [.ref 71]) (st' := [.int 0]) rfl ?_
      refine wp_retz rfl (Or.inl rfl) ?_
      show am_wp L xs _ _ _ _ 22 [.ref 0, .int 3] [.int 0] (am_S b) h _
      refine wp_if_t rfl (show (0 : Int32) = 0 from by decide) ?_
      refine wp_run 1 (pc' := 32) (ls' := [.ref 0, .int 3]) (st' := [.ref 0]) rfl ?_
      refine wp_getr 64 rfl rfl rfl ?_
      refine wp_run 1 (pc' := 36) (ls' := [.ref 0, .int 3]) (st' := [.int 3, .ref 64]) rfl ?_
      refine wp_aald (r := 71) rfl rfl (Or.inr rfl) rfl (by decide) rfl rfl ?_
      refine wp_run 1 (pc' := 38) (ls' := [.ref 0, .int 3]) (st' := [.ref 0, .ref 71]) rfl ?_
      refine wp_getr 1 rfl rfl rfl ?_
      refine wp_getr 5 rfl rfl rfl ?_
      refine wp_run 1 (pc' := 45) (ls' := [.ref 0, .int 3]) (st' := [.ref 0, .ref 5, .ref 71]) rfl ?_
      refine wp_getr 1 rfl rfl rfl ?_
      refine wp_geti (a := 10) (nI n) hn rfl rfl rfl ?_
      refine wp_callV (o := 71) (as := [.ref 5, .int (nI n)]) (rest := []) (els := [.ref 71, .ref 5, .int (nI n), am_du]) rfl rfl rfl rfl rfl rfl rfl rfl (by omega) ?_
      refine sp_rightOnes (h := h) (l := l) (n := n) rfl rfl rfl rfl ho2 hl24 hn7 (fun r1 hr1 => ?_)
      show am_wp L xs _ _ _ _ 54 [.ref 0, .int 3] [.int (nI r1)] (am_S b) h _
      refine wp_ret rfl ?_
      refine kk _ _ _ (fun ms2 Q2 kk2 => ?_)
      refine wp_run 2 (pc' := 2) (ls' := [.ref 74, .int 3, am_du, am_du]) (st' := [.int 3, .ref 74]) rfl ?_
      refine wp_callV (o := 74) (as := [.int 3]) (rest := []) (els := [.ref 74, .int 3]) rfl rfl rfl rfl rfl rfl rfl rfl (by omega) ?_
      refine wp_run 1 (pc' := 1) (ls' := [.ref 74, .int 3]) (st' := [.int 3]) rfl ?_
      refine wp_callS (as := [.int 3]) (rest := []) (els := [.int 3]) rfl rfl rfl rfl rfl rfl rfl rfl (by omega) ?_
      refine sp_m_isSheet (by omega) (fun _ _ _ => ?_) (fun q => absurd rfl (q 3 (by omega)))
      show am_wp L xs _ _ _ _ 4 [.ref 74, .int 3] [.int 1] (am_S b) h _
      refine wp_if_t rfl (show ¬ (1 : Int32) = 0 from by decide) ?_
      refine wp_run 1 (pc' := 13) (ls' := [.ref 74, .int 3]) (st' := [.ref 74]) rfl ?_
      refine wp_getr 78 rfl rfl rfl ?_
      refine wp_run 1 (pc' := 17) (ls' := [.ref 74, .int 3]) (st' := [.int 3, .ref 78]) rfl ?_
      refine wp_ald (i := 3) 32 eb rfl rfl rfl (by decide) rfl ?_
      refine wp_if_t rfl (show ¬ (32 : Int32) = 0 from by decide) ?_
      refine wp_run 1 (pc' := 27) (ls' := [.ref 74, .int 3]) (st' := [.int 0]) rfl ?_
      refine wp_ret rfl ?_
      show am_wp L xs _ _ _ _ 5 [.ref 74, .int 3, am_du, am_du] [.int 0] (am_S b) h _
      refine wp_run 2 (pc' := 7) (ls' := [.ref 74, .int 3, .int 0, am_du]) (st' := [.int 0]) rfl ?_
      refine wp_if_t rfl (show (0 : Int32) = 0 from by decide) ?_
      refine wp_run 2 (pc' := 18) (ls' := [.ref 74, .int 3, .int 0, .int 0]) (st' := []) rfl ?_
      refine lp_judge (d := d) (s := 3) (l := l) (n := n) (by omega) hl24 hz2 hm2 hn7 (by omega) (fun r2 hr2 => ?_) l 0 (fun q hq => by omega) (by omega)
      have er : r1 = r2 := pu_ro_uniq hr1 hr2 (fun q hq hqn => by
        show h 72 q = h 5 q ↔ h 80 (24 * 3 + q) = h 75 (7 + 4 * q + 3)
        rw [hri q (by omega), re_hase H hqn])
      subst er
      exact kk2 _ _ ⟨⟨n, c, t, tp, wt, s0, s1, p0, p1, H⟩, re_im_s hI, hE, hS0, hS1, hS2, hS3, hT⟩
  · skip
    intro hnx1
    show am_wp L xs _ _ _ _ 4 [.ref 0, .int x1] [.int 0] (am_S b) h _
    refine wp_if_f rfl (show ¬ (¬ (0 : Int32) = 0) from by decide) ?_
    refine wp_run 2 (pc' := 9) (ls' := [.ref 0, .int x1]) (st' := [.int 1, .ref 0]) rfl ?_
    refine wp_callV (o := 0) (as := [.int 1]) (rest := []) (els := [.ref 0, .int 1]) rfl rfl rfl rfl rfl rfl rfl rfl (by omega) ?_
    refine sp_refuse1 (by omega) ?_
    show am_wp L xs _ _ _ _ 12 [.ref 0, .int x1] [.int (-1000000001)] (am_S b) (am_u h 73 1 (h 73 1 + 1)) _
    refine wp_ret rfl ?_
    refine kk _ _ _ (fun ms2 Q2 kk2 => ?_)
    refine wp_run 2 (pc' := 2) (ls' := [.ref 74, .int x1, am_du, am_du]) (st' := [.int x1, .ref 74]) rfl ?_
    refine wp_callV (o := 74) (as := [.int x1]) (rest := []) (els := [.ref 74, .int x1]) rfl rfl rfl rfl rfl rfl rfl rfl (by omega) ?_
    refine wp_run 1 (pc' := 1) (ls' := [.ref 74, .int x1]) (st' := [.int x1]) rfl ?_
    refine wp_callS (as := [.int x1]) (rest := []) (els := [.int x1]) rfl rfl rfl rfl rfl rfl rfl rfl (by omega) ?_
    refine sp_m_isSheet (by omega) (fun k hk e => absurd e (hnx1 k hk)) (fun _ => ?_)
    show am_wp L xs _ _ _ _ 4 [.ref 74, .int x1] [.int 0] (am_S b) (am_u h 73 1 (h 73 1 + 1)) _
    refine wp_if_f rfl (show ¬ (¬ (0 : Int32) = 0) from by decide) ?_
    refine wp_run 2 (pc' := 27) (ls' := [.ref 74, .int x1]) (st' := [.int (-1000000001)]) rfl ?_
    refine wp_ret rfl ?_
    show am_wp L xs _ _ _ _ 5 [.ref 74, .int x1, am_du, am_du] [.int (-1000000001)] (am_S b) (am_u h 73 1 (h 73 1 + 1)) _
    refine wp_run 2 (pc' := 7) (ls' := [.ref 74, .int x1, .int (-1000000001), am_du]) (st' := [.int (-1000000001)]) rfl ?_
    refine wp_if_f rfl (show ¬ (((-1000000001) : Int32) = 0) from by decide) ?_
    refine wp_run 2 (pc' := 12) (ls' := [.ref 74, .int x1, .int (-1000000001), am_du]) (st' := [.int (-1000000001), .ref 74]) rfl ?_
    refine wp_callV (o := 74) (as := [.int (-1000000001)]) (rest := []) (els := [.ref 74, .int (-1000000001)]) rfl rfl rfl rfl rfl rfl rfl rfl (by omega) ?_
    refine sp_error1 ?_
    show am_wp L xs _ _ _ _ 15 [.ref 74, .int x1, .int (-1000000001), am_du] [.int (-1000000001)] (am_S b) (am_u (am_u h 73 1 (h 73 1 + 1)) 77 1 ((am_u h 73 1 (h 73 1 + 1)) 77 1 + 1)) _
    refine wp_ret rfl ?_
    exact kk2 _ _ (re_err1 hR)
