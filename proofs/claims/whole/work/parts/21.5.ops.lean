/-! calls tied: wearsAll -/
def md_is (k i : Nat) : Prop := 7 ≤ k ∧ (k - 7) % 4 = 3 ∧ (k - 7) / 4 < i
theorem md_is_at {g i : Nat} : md_is (7 + 4 * g + 3) i ↔ g < i := by
  unfold md_is
  constructor
  · rintro ⟨-, -, h⟩
    omega
  · intro h
    omega
theorem md_is_dec (k i : Nat) : md_is k i ∨ ¬ md_is k i := Classical.em _
noncomputable def md_u (m : Nat → Int32) (i : Nat) : Nat → Int32 := fun k => @ite _ (md_is k i) (Classical.propDecidable _) (-1) (m k)
noncomputable def md_f (a m : Nat → Int32) (n i : Nat) : Nat → Int32 := fun k => @ite _ (md_is k n) (Classical.propDecidable _) (if (k - 7) / 4 < i then a ((k - 7) / 4) else -1) (m k)
theorem md_u_off {m : Nat → Int32} {i k : Nat} (h : ¬ md_is k i) : md_u m i k = m k := if_neg h
theorem md_f_off {a m : Nat → Int32} {n i k : Nat} (h : ¬ md_is k n) : md_f a m n i k = m k := if_neg h
theorem md_f_at {a m : Nat → Int32} {n i g : Nat} (h : g < n) : md_f a m n i (7 + 4 * g + 3) = if g < i then a g else -1 := by
  unfold md_f
  rw [if_pos (md_is_at.mpr h), show (7 + 4 * g + 3 - 7) / 4 = g by omega]
theorem md_0u (h : am_HI) : am_ur h 75 (md_u (h 75) 0) = h := by
  funext b j
  unfold am_ur
  by_cases e : b = 75
  · rw [if_pos e, e]
    exact md_u_off (fun q => absurd q.2.2 (Nat.not_lt_zero _))
  · rw [if_neg e]
theorem md_us (h : am_HI) (i : Nat) : am_u (am_ur h 75 (md_u (h 75) i)) 75 (7 + 4 * i + 3) (-1) = am_ur h 75 (md_u (h 75) (i + 1)) := by
  funext b j
  unfold am_ur am_u
  by_cases e : b = 75
  · subst e
    simp only [if_pos, upd]
    by_cases e1 : j = 7 + 4 * i + 3
    · rw [if_pos e1, e1]
      exact (if_pos (md_is_at.mpr (by omega))).symm
    · rw [if_neg e1]
      by_cases e2 : md_is j i
      · exact (if_pos e2).trans (if_pos (show md_is j (i + 1) from ⟨e2.1, e2.2.1, by have := e2.2.2; omega⟩)).symm
      · exact (if_neg e2).trans (if_neg (fun q => e2 ⟨q.1, q.2.1, by have h1 := q.1; have h2 := q.2.1; have h3 := q.2.2; omega⟩)).symm
  · simp only [if_neg e]
theorem md_0 (h : am_HI) (a : Nat → Int32) (n : Nat) : am_ur h 75 (md_u (h 75) n) = am_ur h 75 (md_f a (h 75) n 0) := by
  congr 1
theorem md_s (h : am_HI) (a : Nat → Int32) {n i : Nat} (hi : i < n) : am_u (am_ur h 75 (md_f a (h 75) n i)) 75 (7 + 4 * i + 3) (a i) = am_ur h 75 (md_f a (h 75) n (i + 1)) := by
  funext b j
  unfold am_ur am_u
  by_cases e : b = 75
  · subst e
    simp only [if_pos, upd]
    by_cases e1 : j = 7 + 4 * i + 3
    · rw [if_pos e1, e1, md_f_at hi, if_pos (by omega)]
    · rw [if_neg e1]
      by_cases e2 : md_is j n
      · have h1 := e2.1
        have h2 := e2.2.1
        unfold md_f
        rw [if_pos e2, if_pos e2]
        by_cases e3 : (j - 7) / 4 < i
        · rw [if_pos e3, if_pos (by omega)]
        · rw [if_neg e3, if_neg (by omega)]
      · exact (md_f_off e2).trans (md_f_off e2).symm
  · simp only [if_neg e]
theorem dr_ok_c {a b : Nat → Int32} {n c q : Nat} (e : ∀ g, g ≤ q → a g = b g) : dr_ok a n c q ↔ dr_ok b n c q := by
  unfold dr_ok
  rw [e q (Nat.le_refl q)]
  have e2 : (∀ g, g < q → a g ≠ b q) ↔ (∀ g, g < q → b g ≠ b q) := ⟨fun h g hg => by rw [← e g (by omega)]; exact h g hg, fun h g hg => by rw [e g (by omega)]; exact h g hg⟩
  rw [e2]
theorem re_dress {n c t tp wt : Nat} {s0 s1 : Int32} {p0 p1 : List Int32} {o w z s e k q u tS tR aS aR l0 c0 r0 l1 c1 r1 m a b : Nat → Int32} {l r : Nat} (H : re_house n c t tp wt s0 s1 p0 p1 o w z s e k q u tS tR aS aR l0 c0 r0 l1 c1 r1 m) (hr : pu_fst (dr_ok a n c) l r) (hab : ∀ g, g < r → a g = b g) : re_house n c t tp wt s0 s1 p0 p1 o w z s (dr_f a e n r) k q u tS tR aS aR l0 c0 r0 l1 c1 r1 (md_f b m n r) := by
  have hn7 := H.1.2.2
  have off : ∀ i, (i < 7 ∨ 35 ≤ i) → md_f b m n r i = m i := fun i hi => md_f_off (fun q => by have h1 := q.1; have h2 := q.2.2; omega)
  have hrn : r ≤ n := by
    by_cases h0 : r = 0
    · omega
    · have := (hr.2.1 (r - 1) (by omega)).1
      omega
  refine ⟨⟨H.1.1, (off 2 (by omega)).trans H.1.2.1, H.1.2.2⟩, ⟨H.2.1.1, (off 3 (by omega)).trans H.2.1.2.1, H.2.1.2.2⟩, ⟨H.2.2.1.1, (off 0 (by omega)).trans H.2.2.1.2.1, H.2.2.1.2.2⟩, ⟨H.2.2.2.1.1.trans (off 4 (by omega)).symm, H.2.2.2.1.2.trans (off 1 (by omega)).symm⟩, ?_, re_g6 H.2.2.2.2.2.1 (fun i h1 h2 => off i (by omega)), ?_, H.2.2.2.2.2.2.2.1, ?_, ?_, re_law_m H.2.2.2.2.2.2.2.2.2.2.1 (fun i h1 h2 => off i (by omega)), re_law_m H.2.2.2.2.2.2.2.2.2.2.2 (fun i h1 h2 => off i (by omega))⟩
  · intro g hg
    obtain ⟨h1, h2, h3, h4⟩ := H.2.2.2.2.1 g hg
    refine ⟨h1.trans (md_f_off (fun q => by have := q.2.1; omega)).symm, h2.trans (md_f_off (fun q => by have := q.2.1; omega)).symm, h3.trans (md_f_off (fun q => by have := q.2.1; omega)).symm, ?_⟩
    by_cases hgn : g < n
    · rw [md_f_at hgn]
      by_cases hgr : g < r
      · rw [if_pos hgr, dr_lo hgr]
        exact hab g hgr
      · rw [if_neg hgr, dr_hi hgr hgn]
    · rw [md_f_off (fun q => hgn (md_is_at.mp q))]
      exact ((if_neg (by omega)).trans (if_neg hgn)).trans h4
  · intro g hg
    obtain ⟨h1, h2, h3, h4⟩ := H.2.2.2.2.2.2.1 g hg
    refine ⟨h1, h2, h3, ?_⟩
    by_cases hgr : g < r
    · rw [dr_lo hgr]
      rcases (hr.2.1 g hgr).2 with q | q
      · exact Or.inl q
      · exact Or.inr q.1
    · exact Or.inl (dr_hi hgr hg)
  · have h := H.2.2.2.2.2.2.2.2.1
    exact ⟨h.1, (off 5 (by omega)).trans h.2.1, h.2.2.1, re_g9 h.2.2.1 h.2.2.2 (fun i h1 h2 => off i (by omega))⟩
  · have h := H.2.2.2.2.2.2.2.2.2.1
    exact ⟨h.1, (off 6 (by omega)).trans h.2.1, h.2.2.1, re_g10 h.2.2.1 h.2.2.2 (fun i h1 h2 => off i (by omega))⟩
theorem lp_wa2 {L : Nat} {xs : Nat → Int32} {d ms b : Nat} {h : am_HI} {Q : am_Q} {s n c l : Nat} (hs : s < 4) (hm2 : h 75 2 = nI n) (hn7 : n ≤ 7) (hm3 : h 75 3 = nI c) (hc7 : c ≤ 7) (hl : l ≤ 24) (hz2 : h 79 s = nI l) (hd : 4 ≤ d) (kk : ∀ r, pu_fst (dr_ok (fun q => h 80 (24 * s + q)) n c) l r → Q (some (.int (nI r))) (am_S b) (am_ur h 75 (md_f (fun q => h 80 (24 * s + q)) (h 75) n r))) :
    ∀ (m i : Nat) (u5 : Value) (hx : ∀ q, q < i → dr_ok (fun q => h 80 (24 * s + q)) n c q), i + m = l → am_wp L xs d 0 ms 215 45 [.ref 74, .int (nI s), .int 0, .int (nI i), .int 1, u5] [] (am_S b) (am_ur h 75 (md_f (fun q => h 80 (24 * s + q)) (h 75) n i)) Q := by
  intro m
  induction m with
  | zero =>
    intro i u5 hx hi
    refine wp_run 2 (pc' := 47) (ls' := [.ref 74, .int (nI s), .int 0, .int (nI i), .int 1, u5]) (st' := [.ref 74, .int (nI i)]) rfl ?_
    refine wp_getr 79 rfl rfl rfl ?_
    refine wp_run 1 (pc' := 51) (ls' := [.ref 74, .int (nI s), .int 0, .int (nI i), .int 1, u5]) (st' := [.int (nI s), .ref 79, .int (nI i)]) rfl ?_
    refine wp_ald (i := s) (nI l) hz2 rfl rfl rfl (by omega) rfl ?_
    refine wp_icmp_t rfl (show (nI l) ≤ (nI i) from (nI_leI (a := l) (b := i) (by omega) (by omega)).mpr (by omega)) ?_
    refine wp_run 1 (pc' := 133) (ls' := [.ref 74, .int (nI s), .int 0, .int (nI i), .int 1, u5]) (st' := [.int (nI i)]) rfl ?_
    refine wp_ret rfl ?_
    have e9 : i = l := by omega
    subst e9
    exact kk i ⟨by omega, hx, Or.inl rfl⟩
  | succ m ih =>
    intro i u5 hx hi
    refine wp_run 2 (pc' := 47) (ls' := [.ref 74, .int (nI s), .int 0, .int (nI i), .int 1, u5]) (st' := [.ref 74, .int (nI i)]) rfl ?_
    refine wp_getr 79 rfl rfl rfl ?_
    refine wp_run 1 (pc' := 51) (ls' := [.ref 74, .int (nI s), .int 0, .int (nI i), .int 1, u5]) (st' := [.int (nI s), .ref 79, .int (nI i)]) rfl ?_
    refine wp_ald (i := s) (nI l) hz2 rfl rfl rfl (by omega) rfl ?_
    refine wp_icmp_f rfl (show ¬ ((nI l) ≤ (nI i)) from mt (nI_leI (a := l) (b := i) (by omega) (by omega)).mp (by omega)) ?_
    refine wp_run 2 (pc' := 57) (ls' := [.ref 74, .int (nI s), .int 0, .int (nI i), .int 1, u5]) (st' := [.ref 74, .int (nI i)]) rfl ?_
    refine wp_getr 75 rfl rfl rfl ?_
    refine wp_run 1 (pc' := 61) (ls' := [.ref 74, .int (nI s), .int 0, .int (nI i), .int 1, u5]) (st' := [.int 2, .ref 75, .int (nI i)]) rfl ?_
    refine wp_ald (i := 2) (nI n) (show md_f (fun q => h 80 (24 * s + q)) (h 75) n i 2 = nI n from (md_f_off (fun q => by have h1 := q.1; have h2 := q.2.1; have h3 := q.2.2; omega)).trans hm2) rfl rfl rfl (by decide) rfl ?_
    refine wp_icmp rfl (fun (cq62 : (nI n) ≤ (nI i)) => ?_) (fun (cq62 : ¬ ((nI n) ≤ (nI i))) => ?_)
    · skip
      have cq62n : n ≤ i := (nI_leI (a := n) (b := i) (by omega) (by omega)).mp cq62
      refine wp_run 1 (pc' := 133) (ls' := [.ref 74, .int (nI s), .int 0, .int (nI i), .int 1, u5]) (st' := [.int (nI i)]) rfl ?_
      refine wp_ret rfl ?_
      exact kk i ⟨by omega, hx, Or.inr (fun q => absurd q.1 (by omega))⟩
    · skip
      have cq62n : ¬ (n ≤ i) := fun q => cq62 ((nI_leI (a := n) (b := i) (by omega) (by omega)).mpr q)
      have cq62n2 : i < n := by omega
      refine wp_run 1 (pc' := 67) (ls' := [.ref 74, .int (nI s), .int 0, .int (nI i), .int 1, u5]) (st' := [.int 1]) rfl ?_
      refine wp_if_f rfl (show ¬ ((1 : Int32) = 0) from by decide) ?_
      refine wp_run 1 (pc' := 71) (ls' := [.ref 74, .int (nI s), .int 0, .int (nI i), .int 1, u5]) (st' := [.ref 74]) rfl ?_
      refine wp_getr 80 rfl rfl rfl ?_
      refine wp_run 5 (pc' := 80) (ls' := [.ref 74, .int (nI s), .int 0, .int (nI i), .int 1, u5]) (st' := [.int ((24 * (nI s)) + (nI i)), .ref 80]) rfl ?_
      rw [show ((24 * (nI s)) : Int32) = (nI (24 * s)) from pk_mul 24 s]
      rw [show (((nI (24 * s)) + (nI i)) : Int32) = (nI ((24 * s) + i)) from nI_add (24 * s) i]
      refine wp_ald (i := ((24 * s) + i)) (h 80 (24 * s + i)) rfl rfl rfl rfl (by omega) rfl ?_
      refine wp_run 3 (pc' := 86) (ls' := [.ref 74, .int (nI s), .int 0, .int (nI i), .int 1, .int (h 80 (24 * s + i))]) (st' := [.int (-1), .int (h 80 (24 * s + i))]) rfl ?_
      refine wp_icmp rfl (fun (cq86 : (h 80 (24 * s + i)) = (-1)) => ?_) (fun (cq86 : ¬ ((h 80 (24 * s + i)) = (-1))) => ?_)
      · skip
        refine wp_run 4 (pc' := 116) (ls' := [.ref 74, .int (nI s), .int 0, .int (nI i), .int 1, .int (h 80 (24 * s + i))]) (st' := [.int 1]) rfl ?_
        refine wp_if_f rfl (show ¬ ((1 : Int32) = 0) from by decide) ?_
        refine wp_run 3 (pc' := 123) (ls' := [.ref 74, .int (nI s), .int 0, .int (nI i), .int 1, .int (h 80 (24 * s + i))]) (st' := [.int (h 80 (24 * s + i)), .int (nI i), .ref 74]) rfl ?_
        refine wp_callV (o := 74) (as := [.int (nI i), .int (h 80 (24 * s + i))]) (rest := []) (els := [.ref 74, .int (nI i), .int (h 80 (24 * s + i))]) rfl rfl rfl rfl rfl rfl rfl rfl (by omega) ?_
        refine sp_puts (g := i) (by omega) ?_
        show am_wp L xs _ _ _ _ 126 [.ref 74, .int (nI s), .int 0, .int (nI i), .int 1, .int (h 80 (24 * s + i))] [] (am_S b) (am_u (am_ur h 75 (md_f (fun q => h 80 (24 * s + q)) (h 75) n i)) 75 (7 + 4 * i + 3) (h 80 (24 * s + i))) _
        refine wp_run 2 (pc' := 45) (ls' := [.ref 74, .int (nI s), .int 0, .int ((nI i) + 1), .int 1, .int (h 80 (24 * s + i))]) (st' := []) rfl ?_
        rw [show (((nI i) + 1) : Int32) = (nI (i + 1)) from nI_add i 1]
        rw [show ((am_u (am_ur h 75 (md_f (fun q => h 80 (24 * s + q)) (h 75) n i)) 75 (7 + 4 * i + 3) (h 80 (24 * s + i))) : am_HI) = (am_ur h 75 (md_f (fun q => h 80 (24 * s + q)) (h 75) n (i + 1))) from md_s h (fun q => h 80 (24 * s + q)) cq62n2]
        exact ih (i + 1) _ (fun g hg => by rcases Nat.lt_succ_iff_lt_or_eq.mp hg with q2 | q2; exact hx g q2; rw [q2]; exact ⟨cq62n2, Or.inl cq86⟩) (by omega)
      · skip
        refine wp_run 2 (pc' := 92) (ls' := [.ref 74, .int (nI s), .int 0, .int (nI i), .int 1, .int (h 80 (24 * s + i))]) (st' := [.int (h 80 (24 * s + i)), .ref 74]) rfl ?_
        refine wp_callV (o := 74) (as := [.int (h 80 (24 * s + i))]) (rest := []) (els := [.ref 74, .int (h 80 (24 * s + i))]) rfl rfl rfl rfl rfl rfl rfl rfl (by omega) ?_
        refine sp_m_isCoat (h := (am_ur h 75 (md_f (fun q => h 80 (24 * s + q)) (h 75) n i))) (v := (h 80 (24 * s + i))) (show md_f (fun q => h 80 (24 * s + q)) (h 75) n i 3 = nI c from (md_f_off (fun q => by have h1 := q.1; have h2 := q.2.1; have h3 := q.2.2; omega)).trans hm3) hc7 (by omega) ?_ ?_
        · skip
          intro j1 hj1 ea
          show am_wp L xs _ _ _ _ 95 [.ref 74, .int (nI s), .int 0, .int (nI i), .int 1, .int (h 80 (24 * s + i))] [.int 1] (am_S b) (am_ur h 75 (md_f (fun q => h 80 (24 * s + q)) (h 75) n i)) _
          refine wp_if_f rfl (show ¬ ((1 : Int32) = 0) from by decide) ?_
          refine wp_run 2 (pc' := 101) (ls' := [.ref 74, .int (nI s), .int 0, .int (nI i), .int 1, .int (h 80 (24 * s + i))]) (st' := [.int (h 80 (24 * s + i)), .ref 74]) rfl ?_
          refine wp_callV (o := 74) (as := [.int (h 80 (24 * s + i))]) (rest := []) (els := [.ref 74, .int (h 80 (24 * s + i)), am_du]) rfl rfl rfl rfl rfl rfl rfl rfl (by omega) ?_
          refine sp_whoWears (h := (am_ur h 75 (md_f (fun q => h 80 (24 * s + q)) (h 75) n i))) (v := (h 80 (24 * s + i))) (n := n) (show md_f (fun q => h 80 (24 * s + q)) (h 75) n i 2 = nI n from (md_f_off (fun q => by have h1 := q.1; have h2 := q.2.1; have h3 := q.2.2; omega)).trans hm2) hn7 (by omega) ?_ ?_
          · skip
            intro w1 hw1 hq1 he1
            have hnok : ¬ dr_ok (fun q => h 80 (24 * s + q)) n c i := fun q => by
              have he2 : md_f (fun q => h 80 (24 * s + q)) (h 75) n i (7 + 4 * w1 + 3) = (h 80 (24 * s + i)) := he1
              rw [md_f_at hw1] at he2
              by_cases hwi : w1 < i
              · rw [if_pos hwi] at he2
                exact q.2.elim cq86 (fun q => q.2 w1 hwi he2)
              · rw [if_neg hwi] at he2
                exact cq86 he2.symm
            show am_wp L xs _ _ _ _ 104 [.ref 74, .int (nI s), .int 0, .int (nI i), .int 1, .int (h 80 (24 * s + i))] [.int (nI w1)] (am_S b) (am_ur h 75 (md_f (fun q => h 80 (24 * s + q)) (h 75) n i)) _
            refine wp_if_t rfl (show 0 ≤ (nI w1) from (nI_leI (a := 0) (b := w1) (by omega) (by omega)).mpr (by omega)) ?_
            refine wp_run 3 (pc' := 116) (ls' := [.ref 74, .int (nI s), .int 0, .int (nI i), .int 0, .int (h 80 (24 * s + i))]) (st' := [.int 0]) rfl ?_
            refine wp_if_t rfl (show (0 : Int32) = 0 from by decide) ?_
            refine wp_run 1 (pc' := 45) (ls' := [.ref 74, .int (nI s), .int 0, .int (nI i), .int 0, .int (h 80 (24 * s + i))]) (st' := []) rfl ?_
            refine wp_run 2 (pc' := 47) (ls' := [.ref 74, .int (nI s), .int 0, .int (nI i), .int 0, .int (h 80 (24 * s + i))]) (st' := [.ref 74, .int (nI i)]) rfl ?_
            refine wp_getr 79 rfl rfl rfl ?_
            refine wp_run 1 (pc' := 51) (ls' := [.ref 74, .int (nI s), .int 0, .int (nI i), .int 0, .int (h 80 (24 * s + i))]) (st' := [.int (nI s), .ref 79, .int (nI i)]) rfl ?_
            refine wp_ald (i := s) (nI l) hz2 rfl rfl rfl (by omega) rfl ?_
            refine wp_icmp_f rfl (show ¬ ((nI l) ≤ (nI i)) from mt (nI_leI (a := l) (b := i) (by omega) (by omega)).mp (by omega)) ?_
            refine wp_run 2 (pc' := 57) (ls' := [.ref 74, .int (nI s), .int 0, .int (nI i), .int 0, .int (h 80 (24 * s + i))]) (st' := [.ref 74, .int (nI i)]) rfl ?_
            refine wp_getr 75 rfl rfl rfl ?_
            refine wp_run 1 (pc' := 61) (ls' := [.ref 74, .int (nI s), .int 0, .int (nI i), .int 0, .int (h 80 (24 * s + i))]) (st' := [.int 2, .ref 75, .int (nI i)]) rfl ?_
            refine wp_ald (i := 2) (nI n) (show md_f (fun q => h 80 (24 * s + q)) (h 75) n i 2 = nI n from (md_f_off (fun q => by have h1 := q.1; have h2 := q.2.1; have h3 := q.2.2; omega)).trans hm2) rfl rfl rfl (by decide) rfl ?_
            refine wp_icmp_f rfl (show ¬ ((nI n) ≤ (nI i)) from mt (nI_leI (a := n) (b := i) (by omega) (by omega)).mp (by omega)) ?_
            refine wp_run 1 (pc' := 67) (ls' := [.ref 74, .int (nI s), .int 0, .int (nI i), .int 0, .int (h 80 (24 * s + i))]) (st' := [.int 0]) rfl ?_
            refine wp_if_t rfl (show (0 : Int32) = 0 from by decide) ?_
            refine wp_run 1 (pc' := 133) (ls' := [.ref 74, .int (nI s), .int 0, .int (nI i), .int 0, .int (h 80 (24 * s + i))]) (st' := [.int (nI i)]) rfl ?_
            refine wp_ret rfl ?_
            exact kk i ⟨by omega, hx, Or.inr (fun q => hnok q)⟩
          · skip
            intro hf1
            have hall : ∀ g, g < i → (fun q => h 80 (24 * s + q)) g ≠ (fun q => h 80 (24 * s + q)) i := fun g hg q => hf1 g (by omega) (show md_f (fun q => h 80 (24 * s + q)) (h 75) n i (7 + 4 * g + 3) = (h 80 (24 * s + i)) from (md_f_at (by omega)).trans ((if_pos hg).trans q))
            show am_wp L xs _ _ _ _ 104 [.ref 74, .int (nI s), .int 0, .int (nI i), .int 1, .int (h 80 (24 * s + i))] [.int (-1)] (am_S b) (am_ur h 75 (md_f (fun q => h 80 (24 * s + q)) (h 75) n i)) _
            refine wp_if_f rfl (show ¬ (0 ≤ ((-1) : Int32)) from by decide) ?_
            refine wp_run 4 (pc' := 116) (ls' := [.ref 74, .int (nI s), .int 0, .int (nI i), .int 1, .int (h 80 (24 * s + i))]) (st' := [.int 1]) rfl ?_
            refine wp_if_f rfl (show ¬ ((1 : Int32) = 0) from by decide) ?_
            refine wp_run 3 (pc' := 123) (ls' := [.ref 74, .int (nI s), .int 0, .int (nI i), .int 1, .int (h 80 (24 * s + i))]) (st' := [.int (h 80 (24 * s + i)), .int (nI i), .ref 74]) rfl ?_
            refine wp_callV (o := 74) (as := [.int (nI i), .int (h 80 (24 * s + i))]) (rest := []) (els := [.ref 74, .int (nI i), .int (h 80 (24 * s + i))]) rfl rfl rfl rfl rfl rfl rfl rfl (by omega) ?_
            refine sp_puts (g := i) (by omega) ?_
            show am_wp L xs _ _ _ _ 126 [.ref 74, .int (nI s), .int 0, .int (nI i), .int 1, .int (h 80 (24 * s + i))] [] (am_S b) (am_u (am_ur h 75 (md_f (fun q => h 80 (24 * s + q)) (h 75) n i)) 75 (7 + 4 * i + 3) (h 80 (24 * s + i))) _
            refine wp_run 2 (pc' := 45) (ls' := [.ref 74, .int (nI s), .int 0, .int ((nI i) + 1), .int 1, .int (h 80 (24 * s + i))]) (st' := []) rfl ?_
            rw [show (((nI i) + 1) : Int32) = (nI (i + 1)) from nI_add i 1]
            rw [show ((am_u (am_ur h 75 (md_f (fun q => h 80 (24 * s + q)) (h 75) n i)) 75 (7 + 4 * i + 3) (h 80 (24 * s + i))) : am_HI) = (am_ur h 75 (md_f (fun q => h 80 (24 * s + q)) (h 75) n (i + 1))) from md_s h (fun q => h 80 (24 * s + q)) cq62n2]
            exact ih (i + 1) _ (fun g hg => by rcases Nat.lt_succ_iff_lt_or_eq.mp hg with q2 | q2; exact hx g q2; rw [q2]; exact ⟨cq62n2, Or.inr ⟨⟨j1, hj1, ea⟩, hall⟩⟩) (by omega)
        · skip
          intro hno
          show am_wp L xs _ _ _ _ 95 [.ref 74, .int (nI s), .int 0, .int (nI i), .int 1, .int (h 80 (24 * s + i))] [.int 0] (am_S b) (am_ur h 75 (md_f (fun q => h 80 (24 * s + q)) (h 75) n i)) _
          refine wp_if_t rfl (show (0 : Int32) = 0 from by decide) ?_
          refine wp_run 3 (pc' := 116) (ls' := [.ref 74, .int (nI s), .int 0, .int (nI i), .int 0, .int (h 80 (24 * s + i))]) (st' := [.int 0]) rfl ?_
          refine wp_if_t rfl (show (0 : Int32) = 0 from by decide) ?_
          refine wp_run 1 (pc' := 45) (ls' := [.ref 74, .int (nI s), .int 0, .int (nI i), .int 0, .int (h 80 (24 * s + i))]) (st' := []) rfl ?_
          refine wp_run 2 (pc' := 47) (ls' := [.ref 74, .int (nI s), .int 0, .int (nI i), .int 0, .int (h 80 (24 * s + i))]) (st' := [.ref 74, .int (nI i)]) rfl ?_
          refine wp_getr 79 rfl rfl rfl ?_
          refine wp_run 1 (pc' := 51) (ls' := [.ref 74, .int (nI s), .int 0, .int (nI i), .int 0, .int (h 80 (24 * s + i))]) (st' := [.int (nI s), .ref 79, .int (nI i)]) rfl ?_
          refine wp_ald (i := s) (nI l) hz2 rfl rfl rfl (by omega) rfl ?_
          refine wp_icmp_f rfl (show ¬ ((nI l) ≤ (nI i)) from mt (nI_leI (a := l) (b := i) (by omega) (by omega)).mp (by omega)) ?_
          refine wp_run 2 (pc' := 57) (ls' := [.ref 74, .int (nI s), .int 0, .int (nI i), .int 0, .int (h 80 (24 * s + i))]) (st' := [.ref 74, .int (nI i)]) rfl ?_
          refine wp_getr 75 rfl rfl rfl ?_
          refine wp_run 1 (pc' := 61) (ls' := [.ref 74, .int (nI s), .int 0, .int (nI i), .int 0, .int (h 80 (24 * s + i))]) (st' := [.int 2, .ref 75, .int (nI i)]) rfl ?_
          refine wp_ald (i := 2) (nI n) (show md_f (fun q => h 80 (24 * s + q)) (h 75) n i 2 = nI n from (md_f_off (fun q => by have h1 := q.1; have h2 := q.2.1; have h3 := q.2.2; omega)).trans hm2) rfl rfl rfl (by decide) rfl ?_
          refine wp_icmp_f rfl (show ¬ ((nI n) ≤ (nI i)) from mt (nI_leI (a := n) (b := i) (by omega) (by omega)).mp (by omega)) ?_
          refine wp_run 1 (pc' := 67) (ls' := [.ref 74, .int (nI s), .int 0, .int (nI i), .int 0, .int (h 80 (24 * s + i))]) (st' := [.int 0]) rfl ?_
          refine wp_if_t rfl (show (0 : Int32) = 0 from by decide) ?_
          refine wp_run 1 (pc' := 133) (ls' := [.ref 74, .int (nI s), .int 0, .int (nI i), .int 0, .int (h 80 (24 * s + i))]) (st' := [.int (nI i)]) rfl ?_
          refine wp_ret rfl ?_
          exact kk i ⟨by omega, hx, Or.inr (fun q => q.2.elim cq86 (fun q => q.1.elim (fun j q => hno j q.1 q.2)))⟩
theorem lp_wa1 {L : Nat} {xs : Nat → Int32} {d ms b : Nat} {h : am_HI} {Q : am_Q} {s n c l : Nat} (hs : s < 4) (hm2 : h 75 2 = nI n) (hn7 : n ≤ 7) (hm3 : h 75 3 = nI c) (hc7 : c ≤ 7) (hl : l ≤ 24) (hz2 : h 79 s = nI l) (hd : 4 ≤ d) (kk : ∀ r, pu_fst (dr_ok (fun q => h 80 (24 * s + q)) n c) l r → Q (some (.int (nI r))) (am_S b) (am_ur h 75 (md_f (fun q => h 80 (24 * s + q)) (h 75) n r))) :
    ∀ (m i : Nat), i + m = n → am_wp L xs d 0 ms 215 18 [.ref 74, .int (nI s), .int 0, .int (nI i), am_du, am_du] [] (am_S b) (am_ur h 75 (md_u (h 75) i)) Q := by
  intro m
  induction m with
  | zero =>
    intro i hi
    refine wp_run 2 (pc' := 20) (ls' := [.ref 74, .int (nI s), .int 0, .int (nI i), am_du, am_du]) (st' := [.ref 74, .int (nI i)]) rfl ?_
    refine wp_getr 75 rfl rfl rfl ?_
    refine wp_run 1 (pc' := 24) (ls' := [.ref 74, .int (nI s), .int 0, .int (nI i), am_du, am_du]) (st' := [.int 2, .ref 75, .int (nI i)]) rfl ?_
    refine wp_ald (i := 2) (nI n) (show md_u (h 75) i 2 = nI n from (md_u_off (fun q => by have h1 := q.1; have h2 := q.2.1; have h3 := q.2.2; omega)).trans hm2) rfl rfl rfl (by decide) rfl ?_
    refine wp_icmp_t rfl (show (nI n) ≤ (nI i) from (nI_leI (a := n) (b := i) (by omega) (by omega)).mpr (by omega)) ?_
    refine wp_run 4 (pc' := 45) (ls' := [.ref 74, .int (nI s), .int 0, .int 0, .int 1, am_du]) (st' := []) rfl ?_
    have e9 : i = n := by omega
    subst e9
    rw [md_0 h (fun q => h 80 (24 * s + q)) i]
    exact lp_wa2 hs hm2 hn7 hm3 hc7 hl hz2 (by omega) kk l 0 _ (fun q hq => by omega) (by omega)
  | succ m ih =>
    intro i hi
    refine wp_run 2 (pc' := 20) (ls' := [.ref 74, .int (nI s), .int 0, .int (nI i), am_du, am_du]) (st' := [.ref 74, .int (nI i)]) rfl ?_
    refine wp_getr 75 rfl rfl rfl ?_
    refine wp_run 1 (pc' := 24) (ls' := [.ref 74, .int (nI s), .int 0, .int (nI i), am_du, am_du]) (st' := [.int 2, .ref 75, .int (nI i)]) rfl ?_
    refine wp_ald (i := 2) (nI n) (show md_u (h 75) i 2 = nI n from (md_u_off (fun q => by have h1 := q.1; have h2 := q.2.1; have h3 := q.2.2; omega)).trans hm2) rfl rfl rfl (by decide) rfl ?_
    refine wp_icmp_f rfl (show ¬ ((nI n) ≤ (nI i)) from mt (nI_leI (a := n) (b := i) (by omega) (by omega)).mp (by omega)) ?_
    refine wp_run 3 (pc' := 31) (ls' := [.ref 74, .int (nI s), .int 0, .int (nI i), am_du, am_du]) (st' := [.int (-1), .int (nI i), .ref 74]) rfl ?_
    refine wp_callV (o := 74) (as := [.int (nI i), .int (-1)]) (rest := []) (els := [.ref 74, .int (nI i), .int (-1)]) rfl rfl rfl rfl rfl rfl rfl rfl (by omega) ?_
    refine sp_puts (g := i) (by omega) ?_
    show am_wp L xs _ _ _ _ 34 [.ref 74, .int (nI s), .int 0, .int (nI i), am_du, am_du] [] (am_S b) (am_u (am_ur h 75 (md_u (h 75) i)) 75 (7 + 4 * i + 3) (-1)) _
    refine wp_run 2 (pc' := 18) (ls' := [.ref 74, .int (nI s), .int 0, .int ((nI i) + 1), am_du, am_du]) (st' := []) rfl ?_
    rw [show (((nI i) + 1) : Int32) = (nI (i + 1)) from nI_add i 1]
    rw [md_us]
    exact ih (i + 1) (by omega)
theorem op_wearsAll {L : Nat} {xs : Nat → Int32} {d ms b N : Nat} {h : am_HI} {Q : am_Q} {x1 : Int32} (hd : 30 ≤ d) (hR : am_Rel N h) (hN : N < 100000)
    (kk : ∀ v b1 h1, (∀ ms2 Q2, (∀ b2 h2, am_Rel (N + 1) h2 → Q2 (some (.int v)) (am_S b2) h2) → am_wp L xs d 0 ms2 215 0 [.ref 74, .int x1, am_du, am_du, am_du, am_du] [] (am_S b1) h1 Q2) → Q (some (.int v)) (am_S b1) h1) :
    am_wp L xs d 0 ms 117 0 [.ref 0, .int x1] [] (am_S b) h Q := by
  obtain ⟨⟨n, c, t, tp, wt, s0, s1, p0, p1, H⟩, hI, hE, hS0, hS1, hS2, hS3, hT⟩ := id hR
  have hn := H.1.1
  have hm2 := H.1.2.1
  have hn7 := H.1.2.2
  have hc := H.2.1.1
  have hm3 := H.2.1.2.1
  have hc7 := H.2.1.2.2
  have ht := H.2.2.1.1
  have hm0 := H.2.2.1.2.1
  have ht9 := H.2.2.1.2.2
  have HS := re_hs H
  have HM := re_ms H
  refine wp_run 1 (pc' := 1) (ls' := [.ref 0, .int x1]) (st' := [.int x1]) rfl ?_
  refine wp_callS (as := [.int x1]) (rest := []) (els := [.int x1]) rfl rfl rfl rfl rfl rfl rfl rfl (by omega) ?_
  refine sp_x_isSheet (by omega) (pu_four ?_ ?_ ?_ ?_) ?_
  · skip
    intro ex1
    subst ex1
    show am_wp L xs _ _ _ _ 4 [.ref 0, .int 0] [.int 1] (am_S b) h _
    refine wp_if_t rfl (show ¬ (1 : Int32) = 0 from by decide) ?_
    obtain ⟨l, hl24, ho2, hz2, hob, hbb, hri⟩ := id hS0
    rcases hbb with ⟨eb, el⟩ | eb | eb | eb
    · skip
      refine wp_run 1 (pc' := 14) (ls' := [.ref 0, .int 0]) (st' := [.ref 0]) rfl ?_
      refine wp_getr 64 rfl rfl rfl ?_
      refine wp_run 1 (pc' := 18) (ls' := [.ref 0, .int 0]) (st' := [.int 0, .ref 64]) rfl ?_
      refine wp_aald (r := 65) rfl rfl (Or.inr rfl) rfl (by decide) rfl rfl ?_
      refine wp_callV (o := 65) (as := []) (rest := []) (els := [.ref 65]) rfl rfl rfl rfl rfl rfl rfl rfl (by omega) ?_
      refine wp_run 1 (pc' := 1) (ls' := [.ref 65]) (st' := [.ref 65]) rfl ?_
      refine wp_geti (a := 1) 0 (hob.trans eb) rfl rfl rfl ?_
      refine wp_if_f rfl (show ¬ (¬ (0 : Int32) = 0) from by decide) ?_
      refine wp_run 2 (pc' := 12) (ls' := [.ref 65]) (st' := [.int 1]) rfl ?_
      refine wp_retz rfl (Or.inr rfl) ?_
      show am_wp L xs _ _ _ _ 22 [.ref 0, .int 0] [.int 1] (am_S b) h _
      refine wp_if_f rfl (show ¬ ((1 : Int32) = 0) from by decide) ?_
      refine wp_run 2 (pc' := 27) (ls' := [.ref 0, .int 0]) (st' := [.int 2, .ref 0]) rfl ?_
      refine wp_callV (o := 0) (as := [.int 2]) (rest := []) (els := [.ref 0, .int 2]) rfl rfl rfl rfl rfl rfl rfl rfl (by omega) ?_
      refine sp_refuse2 (by omega) ?_
      show am_wp L xs _ _ _ _ 30 [.ref 0, .int 0] [.int (-1000000002)] (am_S b) (am_u h 73 2 (h 73 2 + 1)) _
      refine wp_ret rfl ?_
      refine kk _ _ _ (fun ms2 Q2 kk2 => ?_)
      refine wp_run 2 (pc' := 2) (ls' := [.ref 74, .int 0, am_du, am_du, am_du, am_du]) (st' := [.int 0, .ref 74]) rfl ?_
      refine wp_callV (o := 74) (as := [.int 0]) (rest := []) (els := [.ref 74, .int 0]) rfl rfl rfl rfl rfl rfl rfl rfl (by omega) ?_
      refine wp_run 1 (pc' := 1) (ls' := [.ref 74, .int 0]) (st' := [.int 0]) rfl ?_
      refine wp_callS (as := [.int 0]) (rest := []) (els := [.int 0]) rfl rfl rfl rfl rfl rfl rfl rfl (by omega) ?_
      refine sp_m_isSheet (by omega) (fun _ _ _ => ?_) (fun q => absurd rfl (q 0 (by omega)))
      show am_wp L xs _ _ _ _ 4 [.ref 74, .int 0] [.int 1] (am_S b) (am_u h 73 2 (h 73 2 + 1)) _
      refine wp_if_t rfl (show ¬ (1 : Int32) = 0 from by decide) ?_
      refine wp_run 1 (pc' := 13) (ls' := [.ref 74, .int 0]) (st' := [.ref 74]) rfl ?_
      refine wp_getr 78 rfl rfl rfl ?_
      refine wp_run 1 (pc' := 17) (ls' := [.ref 74, .int 0]) (st' := [.int 0, .ref 78]) rfl ?_
      refine wp_ald (i := 0) 0 eb rfl rfl rfl (by decide) rfl ?_
      refine wp_if_f rfl (show ¬ (¬ (0 : Int32) = 0) from by decide) ?_
      refine wp_run 2 (pc' := 27) (ls' := [.ref 74, .int 0]) (st' := [.int (-1000000002)]) rfl ?_
      refine wp_ret rfl ?_
      show am_wp L xs _ _ _ _ 5 [.ref 74, .int 0, am_du, am_du, am_du, am_du] [.int (-1000000002)] (am_S b) (am_u h 73 2 (h 73 2 + 1)) _
      refine wp_run 2 (pc' := 7) (ls' := [.ref 74, .int 0, .int (-1000000002), am_du, am_du, am_du]) (st' := [.int (-1000000002)]) rfl ?_
      refine wp_if_f rfl (show ¬ (((-1000000002) : Int32) = 0) from by decide) ?_
      refine wp_run 2 (pc' := 12) (ls' := [.ref 74, .int 0, .int (-1000000002), am_du, am_du, am_du]) (st' := [.int (-1000000002), .ref 74]) rfl ?_
      refine wp_callV (o := 74) (as := [.int (-1000000002)]) (rest := []) (els := [.ref 74, .int (-1000000002)]) rfl rfl rfl rfl rfl rfl rfl rfl (by omega) ?_
      refine sp_error2 ?_
      show am_wp L xs _ _ _ _ 15 [.ref 74, .int 0, .int (-1000000002), am_du, am_du, am_du] [.int (-1000000002)] (am_S b) (am_u (am_u h 73 2 (h 73 2 + 1)) 77 2 ((am_u h 73 2 (h 73 2 + 1)) 77 2 + 1)) _
      refine wp_ret rfl ?_
      exact kk2 _ _ (re_err2 hR)
    · skip
      refine wp_run 1 (pc' := 14) (ls' := [.ref 0, .int 0]) (st' := [.ref 0]) rfl ?_
      refine wp_getr 64 rfl rfl rfl ?_
      refine wp_run 1 (pc' := 18) (ls' := [.ref 0, .int 0]) (st' := [.int 0, .ref 64]) rfl ?_
      refine wp_aald (r := 65) rfl rfl (Or.inr rfl) rfl (by decide) rfl rfl ?_
      refine wp_callV (o := 65) (as := []) (rest := []) (els := [.ref 65]) rfl rfl rfl rfl rfl rfl rfl rfl (by omega) ?_
      refine wp_run 1 (pc' := 1) (ls' := [.ref 65]) (st' := [.ref 65]) rfl ?_
      refine wp_geti (a := 1) 8 (hob.trans eb) rfl rfl rfl ?_
      refine wp_if_t rfl (show ¬ (8 : Int32) = 0 from by decide) ?_
      refine wp_run 1 (pc' := 12) (ls' := [.ref 65]) (st' := [.int 0]) rfl ?_
      refine wp_retz rfl (Or.inl rfl) ?_
      show am_wp L xs _ _ _ _ 22 [.ref 0, .int 0] [.int 0] (am_S b) h _
      refine wp_if_t rfl (show (0 : Int32) = 0 from by decide) ?_
      refine wp_run 1 (pc' := 32) (ls' := [.ref 0, .int 0]) (st' := [.ref 0]) rfl ?_
      refine wp_getr 1 rfl rfl rfl ?_
      refine wp_run 1 (pc' := 36) (ls' := [.ref 0, .int 0]) (st' := [.ref 0, .ref 1]) rfl ?_
      refine wp_getr 64 rfl rfl rfl ?_
      refine wp_run 1 (pc' := 40) (ls' := [.ref 0, .int 0]) (st' := [.int 0, .ref 64, .ref 1]) rfl ?_
      refine wp_aald (r := 65) rfl rfl (Or.inr rfl) rfl (by decide) rfl rfl ?_
      refine wp_callV (o := 1) (as := [.ref 65]) (rest := []) (els := [.ref 1, .ref 65, am_du, am_du]) rfl rfl rfl rfl rfl rfl rfl rfl (by omega) ?_
      refine sp_dress65 (h := h) hn hn7 hc hc7 hl24 ho2 (by omega) (fun r1 hr1 => ?_)
      show am_wp L xs _ _ _ _ 44 [.ref 0, .int 0] [.int (nI r1)] (am_S b) (am_ur h 5 (dr_f (h 66) (h 5) n r1)) _
      refine wp_ret rfl ?_
      refine kk _ _ _ (fun ms2 Q2 kk2 => ?_)
      refine wp_run 2 (pc' := 2) (ls' := [.ref 74, .int 0, am_du, am_du, am_du, am_du]) (st' := [.int 0, .ref 74]) rfl ?_
      refine wp_callV (o := 74) (as := [.int 0]) (rest := []) (els := [.ref 74, .int 0]) rfl rfl rfl rfl rfl rfl rfl rfl (by omega) ?_
      refine wp_run 1 (pc' := 1) (ls' := [.ref 74, .int 0]) (st' := [.int 0]) rfl ?_
      refine wp_callS (as := [.int 0]) (rest := []) (els := [.int 0]) rfl rfl rfl rfl rfl rfl rfl rfl (by omega) ?_
      refine sp_m_isSheet (by omega) (fun _ _ _ => ?_) (fun q => absurd rfl (q 0 (by omega)))
      show am_wp L xs _ _ _ _ 4 [.ref 74, .int 0] [.int 1] (am_S b) (am_ur h 5 (dr_f (h 66) (h 5) n r1)) _
      refine wp_if_t rfl (show ¬ (1 : Int32) = 0 from by decide) ?_
      refine wp_run 1 (pc' := 13) (ls' := [.ref 74, .int 0]) (st' := [.ref 74]) rfl ?_
      refine wp_getr 78 rfl rfl rfl ?_
      refine wp_run 1 (pc' := 17) (ls' := [.ref 74, .int 0]) (st' := [.int 0, .ref 78]) rfl ?_
      refine wp_ald (i := 0) 8 eb rfl rfl rfl (by decide) rfl ?_
      refine wp_if_t rfl (show ¬ (8 : Int32) = 0 from by decide) ?_
      refine wp_run 1 (pc' := 27) (ls' := [.ref 74, .int 0]) (st' := [.int 0]) rfl ?_
      refine wp_ret rfl ?_
      show am_wp L xs _ _ _ _ 5 [.ref 74, .int 0, am_du, am_du, am_du, am_du] [.int 0] (am_S b) (am_ur h 5 (dr_f (h 66) (h 5) n r1)) _
      refine wp_run 2 (pc' := 7) (ls' := [.ref 74, .int 0, .int 0, am_du, am_du, am_du]) (st' := [.int 0]) rfl ?_
      refine wp_if_t rfl (show (0 : Int32) = 0 from by decide) ?_
      refine wp_run 2 (pc' := 18) (ls' := [.ref 74, .int 0, .int 0, .int 0, am_du, am_du]) (st' := []) rfl ?_
      have hp := fun kq => lp_wa1 (L := L) (xs := xs) (d := d) (ms := ms2) (b := b) (h := (am_ur h 5 (dr_f (h 66) (h 5) n r1))) (Q := Q2) (s := 0) (n := n) (c := c) (l := l) (by omega) hm2 hn7 hm3 hc7 hl24 hz2 (by omega) kq n 0 (by omega)
      rw [md_0u] at hp
      refine hp (fun r2 hr2 => ?_)
      have er : r1 = r2 := pu_fst_uniq hr1 hr2 (fun q hq => dr_ok_c (fun g hg => hri g (by omega)))
      subst er
      have Hn := re_dress H hr1 (b := fun q => h 80 (24 * 0 + q)) (fun g hg => hri g (by have := hr1.1; omega))
      exact kk2 _ _ ⟨⟨n, c, t, tp, wt, s0, s1, p0, p1, Hn⟩, re_im_s hI, hE, hS0, hS1, hS2, hS3, hT⟩
    · skip
      refine wp_run 1 (pc' := 14) (ls' := [.ref 0, .int 0]) (st' := [.ref 0]) rfl ?_
      refine wp_getr 64 rfl rfl rfl ?_
      refine wp_run 1 (pc' := 18) (ls' := [.ref 0, .int 0]) (st' := [.int 0, .ref 64]) rfl ?_
      refine wp_aald (r := 65) rfl rfl (Or.inr rfl) rfl (by decide) rfl rfl ?_
      refine wp_callV (o := 65) (as := []) (rest := []) (els := [.ref 65]) rfl rfl rfl rfl rfl rfl rfl rfl (by omega) ?_
      refine wp_run 1 (pc' := 1) (ls' := [.ref 65]) (st' := [.ref 65]) rfl ?_
      refine wp_geti (a := 1) 16 (hob.trans eb) rfl rfl rfl ?_
      refine wp_if_t rfl (show ¬ (16 : Int32) = 0 from by decide) ?_
      refine wp_run 1 (pc' := 12) (ls' := [.ref 65]) (st' := [.int 0]) rfl ?_
      refine wp_retz rfl (Or.inl rfl) ?_
      show am_wp L xs _ _ _ _ 22 [.ref 0, .int 0] [.int 0] (am_S b) h _
      refine wp_if_t rfl (show (0 : Int32) = 0 from by decide) ?_
      refine wp_run 1 (pc' := 32) (ls' := [.ref 0, .int 0]) (st' := [.ref 0]) rfl ?_
      refine wp_getr 1 rfl rfl rfl ?_
      refine wp_run 1 (pc' := 36) (ls' := [.ref 0, .int 0]) (st' := [.ref 0, .ref 1]) rfl ?_
      refine wp_getr 64 rfl rfl rfl ?_
      refine wp_run 1 (pc' := 40) (ls' := [.ref 0, .int 0]) (st' := [.int 0, .ref 64, .ref 1]) rfl ?_
      refine wp_aald (r := 65) rfl rfl (Or.inr rfl) rfl (by decide) rfl rfl ?_
      refine wp_callV (o := 1) (as := [.ref 65]) (rest := []) (els := [.ref 1, .ref 65, am_du, am_du]) rfl rfl rfl rfl rfl rfl rfl rfl (by omega) ?_
      refine sp_dress65 (h := h) hn hn7 hc hc7 hl24 ho2 (by omega) (fun r1 hr1 => ?_)
      show am_wp L xs _ _ _ _ 44 [.ref 0, .int 0] [.int (nI r1)] (am_S b) (am_ur h 5 (dr_f (h 66) (h 5) n r1)) _
      refine wp_ret rfl ?_
      refine kk _ _ _ (fun ms2 Q2 kk2 => ?_)
      refine wp_run 2 (pc' := 2) (ls' := [.ref 74, .int 0, am_du, am_du, am_du, am_du]) (st' := [.int 0, .ref 74]) rfl ?_
      refine wp_callV (o := 74) (as := [.int 0]) (rest := []) (els := [.ref 74, .int 0]) rfl rfl rfl rfl rfl rfl rfl rfl (by omega) ?_
      refine wp_run 1 (pc' := 1) (ls' := [.ref 74, .int 0]) (st' := [.int 0]) rfl ?_
      refine wp_callS (as := [.int 0]) (rest := []) (els := [.int 0]) rfl rfl rfl rfl rfl rfl rfl rfl (by omega) ?_
      refine sp_m_isSheet (by omega) (fun _ _ _ => ?_) (fun q => absurd rfl (q 0 (by omega)))
      show am_wp L xs _ _ _ _ 4 [.ref 74, .int 0] [.int 1] (am_S b) (am_ur h 5 (dr_f (h 66) (h 5) n r1)) _
      refine wp_if_t rfl (show ¬ (1 : Int32) = 0 from by decide) ?_
      refine wp_run 1 (pc' := 13) (ls' := [.ref 74, .int 0]) (st' := [.ref 74]) rfl ?_
      refine wp_getr 78 rfl rfl rfl ?_
      refine wp_run 1 (pc' := 17) (ls' := [.ref 74, .int 0]) (st' := [.int 0, .ref 78]) rfl ?_
      refine wp_ald (i := 0) 16 eb rfl rfl rfl (by decide) rfl ?_
      refine wp_if_t rfl (show ¬ (16 : Int32) = 0 from by decide) ?_
      refine wp_run 1 (pc' := 27) (ls' := [.ref 74, .int 0]) (st' := [.int 0]) rfl ?_
      refine wp_ret rfl ?_
      show am_wp L xs _ _ _ _ 5 [.ref 74, .int 0, am_du, am_du, am_du, am_du] [.int 0] (am_S b) (am_ur h 5 (dr_f (h 66) (h 5) n r1)) _
      refine wp_run 2 (pc' := 7) (ls' := [.ref 74, .int 0, .int 0, am_du, am_du, am_du]) (st' := [.int 0]) rfl ?_
      refine wp_if_t rfl (show (0 : Int32) = 0 from by decide) ?_
      refine wp_run 2 (pc' := 18) (ls' := [.ref 74, .int 0, .int 0, .int 0, am_du, am_du]) (st' := []) rfl ?_
      have hp := fun kq => lp_wa1 (L := L) (xs := xs) (d := d) (ms := ms2) (b := b) (h := (am_ur h 5 (dr_f (h 66) (h 5) n r1))) (Q := Q2) (s := 0) (n := n) (c := c) (l := l) (by omega) hm2 hn7 hm3 hc7 hl24 hz2 (by omega) kq n 0 (by omega)
      rw [md_0u] at hp
      refine hp (fun r2 hr2 => ?_)
      have er : r1 = r2 := pu_fst_uniq hr1 hr2 (fun q hq => dr_ok_c (fun g hg => hri g (by omega)))
      subst er
      have Hn := re_dress H hr1 (b := fun q => h 80 (24 * 0 + q)) (fun g hg => hri g (by have := hr1.1; omega))
      exact kk2 _ _ ⟨⟨n, c, t, tp, wt, s0, s1, p0, p1, Hn⟩, re_im_s hI, hE, hS0, hS1, hS2, hS3, hT⟩
    · skip
      refine wp_run 1 (pc' := 14) (ls' := [.ref 0, .int 0]) (st' := [.ref 0]) rfl ?_
      refine wp_getr 64 rfl rfl rfl ?_
      refine wp_run 1 (pc' := 18) (ls' := [.ref 0, .int 0]) (st' := [.int 0, .ref 64]) rfl ?_
      refine wp_aald (r := 65) rfl rfl (Or.inr rfl) rfl (by decide) rfl rfl ?_
      refine wp_callV (o := 65) (as := []) (rest := []) (els := [.ref 65]) rfl rfl rfl rfl rfl rfl rfl rfl (by omega) ?_
      refine wp_run 1 (pc' := 1) (ls' := [.ref 65]) (st' := [.ref 65]) rfl ?_
      refine wp_geti (a := 1) 32 (hob.trans eb) rfl rfl rfl ?_
      refine wp_if_t rfl (show ¬ (32 : Int32) = 0 from by decide) ?_
      refine wp_run 1 (pc' := 12) (ls' := [.ref 65]) (st' := [.int 0]) rfl ?_
      refine wp_retz rfl (Or.inl rfl) ?_
      show am_wp L xs _ _ _ _ 22 [.ref 0, .int 0] [.int 0] (am_S b) h _
      refine wp_if_t rfl (show (0 : Int32) = 0 from by decide) ?_
      refine wp_run 1 (pc' := 32) (ls' := [.ref 0, .int 0]) (st' := [.ref 0]) rfl ?_
      refine wp_getr 1 rfl rfl rfl ?_
      refine wp_run 1 (pc' := 36) (ls' := [.ref 0, .int 0]) (st' := [.ref 0, .ref 1]) rfl ?_
      refine wp_getr 64 rfl rfl rfl ?_
      refine wp_run 1 (pc' := 40) (ls' := [.ref 0, .int 0]) (st' := [.int 0, .ref 64, .ref 1]) rfl ?_
      refine wp_aald (r := 65) rfl rfl (Or.inr rfl) rfl (by decide) rfl rfl ?_
      refine wp_callV (o := 1) (as := [.ref 65]) (rest := []) (els := [.ref 1, .ref 65, am_du, am_du]) rfl rfl rfl rfl rfl rfl rfl rfl (by omega) ?_
      refine sp_dress65 (h := h) hn hn7 hc hc7 hl24 ho2 (by omega) (fun r1 hr1 => ?_)
      show am_wp L xs _ _ _ _ 44 [.ref 0, .int 0] [.int (nI r1)] (am_S b) (am_ur h 5 (dr_f (h 66) (h 5) n r1)) _
      refine wp_ret rfl ?_
      refine kk _ _ _ (fun ms2 Q2 kk2 => ?_)
      refine wp_run 2 (pc' := 2) (ls' := [.ref 74, .int 0, am_du, am_du, am_du, am_du]) (st' := [.int 0, .ref 74]) rfl ?_
      refine wp_callV (o := 74) (as := [.int 0]) (rest := []) (els := [.ref 74, .int 0]) rfl rfl rfl rfl rfl rfl rfl rfl (by omega) ?_
      refine wp_run 1 (pc' := 1) (ls' := [.ref 74, .int 0]) (st' := [.int 0]) rfl ?_
      refine wp_callS (as := [.int 0]) (rest := []) (els := [.int 0]) rfl rfl rfl rfl rfl rfl rfl rfl (by omega) ?_
      refine sp_m_isSheet (by omega) (fun _ _ _ => ?_) (fun q => absurd rfl (q 0 (by omega)))
      show am_wp L xs _ _ _ _ 4 [.ref 74, .int 0] [.int 1] (am_S b) (am_ur h 5 (dr_f (h 66) (h 5) n r1)) _
      refine wp_if_t rfl (show ¬ (1 : Int32) = 0 from by decide) ?_
      refine wp_run 1 (pc' := 13) (ls' := [.ref 74, .int 0]) (st' := [.ref 74]) rfl ?_
      refine wp_getr 78 rfl rfl rfl ?_
      refine wp_run 1 (pc' := 17) (ls' := [.ref 74, .int 0]) (st' := [.int 0, .ref 78]) rfl ?_
      refine wp_ald (i := 0) 32 eb rfl rfl rfl (by decide) rfl ?_
      refine wp_if_t rfl (show ¬ (32 : Int32) = 0 from by decide) ?_
      refine wp_run 1 (pc' := 27) (ls' := [.ref 74, .int 0]) (st' := [.int 0]) rfl ?_
      refine wp_ret rfl ?_
      show am_wp L xs _ _ _ _ 5 [.ref 74, .int 0, am_du, am_du, am_du, am_du] [.int 0] (am_S b) (am_ur h 5 (dr_f (h 66) (h 5) n r1)) _
      refine wp_run 2 (pc' := 7) (ls' := [.ref 74, .int 0, .int 0, am_du, am_du, am_du]) (st' := [.int 0]) rfl ?_
      refine wp_if_t rfl (show (0 : Int32) = 0 from by decide) ?_
      refine wp_run 2 (pc' := 18) (ls' := [.ref 74, .int 0, .int 0, .int 0, am_du, am_du]) (st' := []) rfl ?_
      have hp := fun kq => lp_wa1 (L := L) (xs := xs) (d := d) (ms := ms2) (b := b) (h := (am_ur h 5 (dr_f (h 66) (h 5) n r1))) (Q := Q2) (s := 0) (n := n) (c := c) (l := l) (by omega) hm2 hn7 hm3 hc7 hl24 hz2 (by omega) kq n 0 (by omega)
      rw [md_0u] at hp
      refine hp (fun r2 hr2 => ?_)
      have er : r1 = r2 := pu_fst_uniq hr1 hr2 (fun q hq => dr_ok_c (fun g hg => hri g (by omega)))
      subst er
      have Hn := re_dress H hr1 (b := fun q => h 80 (24 * 0 + q)) (fun g hg => hri g (by have := hr1.1; omega))
      exact kk2 _ _ ⟨⟨n, c, t, tp, wt, s0, s1, p0, p1, Hn⟩, re_im_s hI, hE, hS0, hS1, hS2, hS3, hT⟩
  · skip
    intro ex1
    subst ex1
    show am_wp L xs _ _ _ _ 4 [.ref 0, .int 1] [.int 1] (am_S b) h _
    refine wp_if_t rfl (show ¬ (1 : Int32) = 0 from by decide) ?_
    obtain ⟨l, hl24, ho2, hz2, hob, hbb, hri⟩ := id hS1
    rcases hbb with ⟨eb, el⟩ | eb | eb | eb
    · skip
      refine wp_run 1 (pc' := 14) (ls' := [.ref 0, .int 1]) (st' := [.ref 0]) rfl ?_
      refine wp_getr 64 rfl rfl rfl ?_
      refine wp_run 1 (pc' := 18) (ls' := [.ref 0, .int 1]) (st' := [.int 1, .ref 64]) rfl ?_
      refine wp_aald (r := 67) rfl rfl (Or.inr rfl) rfl (by decide) rfl rfl ?_
      refine wp_callV (o := 67) (as := []) (rest := []) (els := [.ref 67]) rfl rfl rfl rfl rfl rfl rfl rfl (by omega) ?_
      refine wp_run 1 (pc' := 1) (ls' := [.ref 67]) (st' := [.ref 67]) rfl ?_
      refine wp_geti (a := 1) 0 (hob.trans eb) rfl rfl rfl ?_
      refine wp_if_f rfl (show ¬ (¬ (0 : Int32) = 0) from by decide) ?_
      refine wp_run 2 (pc' := 12) (ls' := [.ref 67]) (st' := [.int 1]) rfl ?_
      refine wp_retz rfl (Or.inr rfl) ?_
      show am_wp L xs _ _ _ _ 22 [.ref 0, .int 1] [.int 1] (am_S b) h _
      refine wp_if_f rfl (show ¬ ((1 : Int32) = 0) from by decide) ?_
      refine wp_run 2 (pc' := 27) (ls' := [.ref 0, .int 1]) (st' := [.int 2, .ref 0]) rfl ?_
      refine wp_callV (o := 0) (as := [.int 2]) (rest := []) (els := [.ref 0, .int 2]) rfl rfl rfl rfl rfl rfl rfl rfl (by omega) ?_
      refine sp_refuse2 (by omega) ?_
      show am_wp L xs _ _ _ _ 30 [.ref 0, .int 1] [.int (-1000000002)] (am_S b) (am_u h 73 2 (h 73 2 + 1)) _
      refine wp_ret rfl ?_
      refine kk _ _ _ (fun ms2 Q2 kk2 => ?_)
      refine wp_run 2 (pc' := 2) (ls' := [.ref 74, .int 1, am_du, am_du, am_du, am_du]) (st' := [.int 1, .ref 74]) rfl ?_
      refine wp_callV (o := 74) (as := [.int 1]) (rest := []) (els := [.ref 74, .int 1]) rfl rfl rfl rfl rfl rfl rfl rfl (by omega) ?_
      refine wp_run 1 (pc' := 1) (ls' := [.ref 74, .int 1]) (st' := [.int 1]) rfl ?_
      refine wp_callS (as := [.int 1]) (rest := []) (els := [.int 1]) rfl rfl rfl rfl rfl rfl rfl rfl (by omega) ?_
      refine sp_m_isSheet (by omega) (fun _ _ _ => ?_) (fun q => absurd rfl (q 1 (by omega)))
      show am_wp L xs _ _ _ _ 4 [.ref 74, .int 1] [.int 1] (am_S b) (am_u h 73 2 (h 73 2 + 1)) _
      refine wp_if_t rfl (show ¬ (1 : Int32) = 0 from by decide) ?_
      refine wp_run 1 (pc' := 13) (ls' := [.ref 74, .int 1]) (st' := [.ref 74]) rfl ?_
      refine wp_getr 78 rfl rfl rfl ?_
      refine wp_run 1 (pc' := 17) (ls' := [.ref 74, .int 1]) (st' := [.int 1, .ref 78]) rfl ?_
      refine wp_ald (i := 1) 0 eb rfl rfl rfl (by decide) rfl ?_
      refine wp_if_f rfl (show ¬ (¬ (0 : Int32) = 0) from by decide) ?_
      refine wp_run 2 (pc' := 27) (ls' := [.ref 74, .int 1]) (st' := [.int (-1000000002)]) rfl ?_
      refine wp_ret rfl ?_
      show am_wp L xs _ _ _ _ 5 [.ref 74, .int 1, am_du, am_du, am_du, am_du] [.int (-1000000002)] (am_S b) (am_u h 73 2 (h 73 2 + 1)) _
      refine wp_run 2 (pc' := 7) (ls' := [.ref 74, .int 1, .int (-1000000002), am_du, am_du, am_du]) (st' := [.int (-1000000002)]) rfl ?_
      refine wp_if_f rfl (show ¬ (((-1000000002) : Int32) = 0) from by decide) ?_
      refine wp_run 2 (pc' := 12) (ls' := [.ref 74, .int 1, .int (-1000000002), am_du, am_du, am_du]) (st' := [.int (-1000000002), .ref 74]) rfl ?_
      refine wp_callV (o := 74) (as := [.int (-1000000002)]) (rest := []) (els := [.ref 74, .int (-1000000002)]) rfl rfl rfl rfl rfl rfl rfl rfl (by omega) ?_
      refine sp_error2 ?_
      show am_wp L xs _ _ _ _ 15 [.ref 74, .int 1, .int (-1000000002), am_du, am_du, am_du] [.int (-1000000002)] (am_S b) (am_u (am_u h 73 2 (h 73 2 + 1)) 77 2 ((am_u h 73 2 (h 73 2 + 1)) 77 2 + 1)) _
      refine wp_ret rfl ?_
      exact kk2 _ _ (re_err2 hR)
    · skip
      refine wp_run 1 (pc' := 14) (ls' := [.ref 0, .int 1]) (st' := [.ref 0]) rfl ?_
      refine wp_getr 64 rfl rfl rfl ?_
      refine wp_run 1 (pc' := 18) (ls' := [.ref 0, .int 1]) (st' := [.int 1, .ref 64]) rfl ?_
      refine wp_aald (r := 67) rfl rfl (Or.inr rfl) rfl (by decide) rfl rfl ?_
      refine wp_callV (o := 67) (as := []) (rest := []) (els := [.ref 67]) rfl rfl rfl rfl rfl rfl rfl rfl (by omega) ?_
      refine wp_run 1 (pc' := 1) (ls' := [.ref 67]) (st' := [.ref 67]) rfl ?_
      refine wp_geti (a := 1) 8 (hob.trans eb) rfl rfl rfl ?_
      refine wp_if_t rfl (show ¬ (8 : Int32) = 0 from by decide) ?_
      refine wp_run 1 (pc' := 12) (ls' := [.ref 67]) (st' := [.int 0]) rfl ?_
      refine wp_retz rfl (Or.inl rfl) ?_
      show am_wp L xs _ _ _ _ 22 [.ref 0, .int 1] [.int 0] (am_S b) h _
      refine wp_if_t rfl (show (0 : Int32) = 0 from by decide) ?_
      refine wp_run 1 (pc' := 32) (ls' := [.ref 0, .int 1]) (st' := [.ref 0]) rfl ?_
      refine wp_getr 1 rfl rfl rfl ?_
      refine wp_run 1 (pc' := 36) (ls' := [.ref 0, .int 1]) (st' := [.ref 0, .ref 1]) rfl ?_
      refine wp_getr 64 rfl rfl rfl ?_
      refine wp_run 1 (pc' := 40) (ls' := [.ref 0, .int 1]) (st' := [.int 1, .ref 64, .ref 1]) rfl ?_
      refine wp_aald (r := 67) rfl rfl (Or.inr rfl) rfl (by decide) rfl rfl ?_
      refine wp_callV (o := 1) (as := [.ref 67]) (rest := []) (els := [.ref 1, .ref 67, am_du, am_du]) rfl rfl rfl rfl rfl rfl rfl rfl (by omega) ?_
      refine sp_dress67 (h := h) hn hn7 hc hc7 hl24 ho2 (by omega) (fun r1 hr1 => ?_)
      show am_wp L xs _ _ _ _ 44 [.ref 0, .int 1] [.int (nI r1)] (am_S b) (am_ur h 5 (dr_f (h 68) (h 5) n r1)) _
      refine wp_ret rfl ?_
      refine kk _ _ _ (fun ms2 Q2 kk2 => ?_)
      refine wp_run 2 (pc' := 2) (ls' := [.ref 74, .int 1, am_du, am_du, am_du, am_du]) (st' := [.int 1, .ref 74]) rfl ?_
      refine wp_callV (o := 74) (as := [.int 1]) (rest := []) (els := [.ref 74, .int 1]) rfl rfl rfl rfl rfl rfl rfl rfl (by omega) ?_
      refine wp_run 1 (pc' := 1) (ls' := [.ref 74, .int 1]) (st' := [.int 1]) rfl ?_
      refine wp_callS (as := [.int 1]) (rest := []) (els := [.int 1]) rfl rfl rfl rfl rfl rfl rfl rfl (by omega) ?_
      refine sp_m_isSheet (by omega) (fun _ _ _ => ?_) (fun q => absurd rfl (q 1 (by omega)))
      show am_wp L xs _ _ _ _ 4 [.ref 74, .int 1] [.int 1] (am_S b) (am_ur h 5 (dr_f (h 68) (h 5) n r1)) _
      refine wp_if_t rfl (show ¬ (1 : Int32) = 0 from by decide) ?_
      refine wp_run 1 (pc' := 13) (ls' := [.ref 74, .int 1]) (st' := [.ref 74]) rfl ?_
      refine wp_getr 78 rfl rfl rfl ?_
      refine wp_run 1 (pc' := 17) (ls' := [.ref 74, .int 1]) (st' := [.int 1, .ref 78]) rfl ?_
      refine wp_ald (i := 1) 8 eb rfl rfl rfl (by decide) rfl ?_
      refine wp_if_t rfl (show ¬ (8 : Int32) = 0 from by decide) ?_
      refine wp_run 1 (pc' := 27) (ls' := [.ref 74, .int 1]) (st' := [.int 0]) rfl ?_
      refine wp_ret rfl ?_
      show am_wp L xs _ _ _ _ 5 [.ref 74, .int 1, am_du, am_du, am_du, am_du] [.int 0] (am_S b) (am_ur h 5 (dr_f (h 68) (h 5) n r1)) _
      refine wp_run 2 (pc' := 7) (ls' := [.ref 74, .int 1, .int 0, am_du, am_du, am_du]) (st' := [.int 0]) rfl ?_
      refine wp_if_t rfl (show (0 : Int32) = 0 from by decide) ?_
      refine wp_run 2 (pc' := 18) (ls' := [.ref 74, .int 1, .int 0, .int 0, am_du, am_du]) (st' := []) rfl ?_
      have hp := fun kq => lp_wa1 (L := L) (xs := xs) (d := d) (ms := ms2) (b := b) (h := (am_ur h 5 (dr_f (h 68) (h 5) n r1))) (Q := Q2) (s := 1) (n := n) (c := c) (l := l) (by omega) hm2 hn7 hm3 hc7 hl24 hz2 (by omega) kq n 0 (by omega)
      rw [md_0u] at hp
      refine hp (fun r2 hr2 => ?_)
      have er : r1 = r2 := pu_fst_uniq hr1 hr2 (fun q hq => dr_ok_c (fun g hg => hri g (by omega)))
      subst er
      have Hn := re_dress H hr1 (b := fun q => h 80 (24 * 1 + q)) (fun g hg => hri g (by have := hr1.1; omega))
      exact kk2 _ _ ⟨⟨n, c, t, tp, wt, s0, s1, p0, p1, Hn⟩, re_im_s hI, hE, hS0, hS1, hS2, hS3, hT⟩
    · skip
      refine wp_run 1 (pc' := 14) (ls' := [.ref 0, .int 1]) (st' := [.ref 0]) rfl ?_
      refine wp_getr 64 rfl rfl rfl ?_
      refine wp_run 1 (pc' := 18) (ls' := [.ref 0, .int 1]) (st' := [.int 1, .ref 64]) rfl ?_
      refine wp_aald (r := 67) rfl rfl (Or.inr rfl) rfl (by decide) rfl rfl ?_
      refine wp_callV (o := 67) (as := []) (rest := []) (els := [.ref 67]) rfl rfl rfl rfl rfl rfl rfl rfl (by omega) ?_
      refine wp_run 1 (pc' := 1) (ls' := [.ref 67]) (st' := [.ref 67]) rfl ?_
      refine wp_geti (a := 1) 16 (hob.trans eb) rfl rfl rfl ?_
      refine wp_if_t rfl (show ¬ (16 : Int32) = 0 from by decide) ?_
      refine wp_run 1 (pc' := 12) (ls' := [.ref 67]) (st' := [.int 0]) rfl ?_
      refine wp_retz rfl (Or.inl rfl) ?_
      show am_wp L xs _ _ _ _ 22 [.ref 0, .int 1] [.int 0] (am_S b) h _
      refine wp_if_t rfl (show (0 : Int32) = 0 from by decide) ?_
      refine wp_run 1 (pc' := 32) (ls' := [.ref 0, .int 1]) (st' := [.ref 0]) rfl ?_
      refine wp_getr 1 rfl rfl rfl ?_
      refine wp_run 1 (pc' := 36) (ls' := [.ref 0, .int 1]) (st' := [.ref 0, .ref 1]) rfl ?_
      refine wp_getr 64 rfl rfl rfl ?_
      refine wp_run 1 (pc' := 40) (ls' := [.ref 0, .int 1]) (st' := [.int 1, .ref 64, .ref 1]) rfl ?_
      refine wp_aald (r := 67) rfl rfl (Or.inr rfl) rfl (by decide) rfl rfl ?_
      refine wp_callV (o := 1) (as := [.ref 67]) (rest := []) (els := [.ref 1, .ref 67, am_du, am_du]) rfl rfl rfl rfl rfl rfl rfl rfl (by omega) ?_
      refine sp_dress67 (h := h) hn hn7 hc hc7 hl24 ho2 (by omega) (fun r1 hr1 => ?_)
      show am_wp L xs _ _ _ _ 44 [.ref 0, .int 1] [.int (nI r1)] (am_S b) (am_ur h 5 (dr_f (h 68) (h 5) n r1)) _
      refine wp_ret rfl ?_
      refine kk _ _ _ (fun ms2 Q2 kk2 => ?_)
      refine wp_run 2 (pc' := 2) (ls' := [.ref 74, .int 1, am_du, am_du, am_du, am_du]) (st' := [.int 1, .ref 74]) rfl ?_
      refine wp_callV (o := 74) (as := [.int 1]) (rest := []) (els := [.ref 74, .int 1]) rfl rfl rfl rfl rfl rfl rfl rfl (by omega) ?_
      refine wp_run 1 (pc' := 1) (ls' := [.ref 74, .int 1]) (st' := [.int 1]) rfl ?_
      refine wp_callS (as := [.int 1]) (rest := []) (els := [.int 1]) rfl rfl rfl rfl rfl rfl rfl rfl (by omega) ?_
      refine sp_m_isSheet (by omega) (fun _ _ _ => ?_) (fun q => absurd rfl (q 1 (by omega)))
      show am_wp L xs _ _ _ _ 4 [.ref 74, .int 1] [.int 1] (am_S b) (am_ur h 5 (dr_f (h 68) (h 5) n r1)) _
      refine wp_if_t rfl (show ¬ (1 : Int32) = 0 from by decide) ?_
      refine wp_run 1 (pc' := 13) (ls' := [.ref 74, .int 1]) (st' := [.ref 74]) rfl ?_
      refine wp_getr 78 rfl rfl rfl ?_
      refine wp_run 1 (pc' := 17) (ls' := [.ref 74, .int 1]) (st' := [.int 1, .ref 78]) rfl ?_
      refine wp_ald (i := 1) 16 eb rfl rfl rfl (by decide) rfl ?_
      refine wp_if_t rfl (show ¬ (16 : Int32) = 0 from by decide) ?_
      refine wp_run 1 (pc' := 27) (ls' := [.ref 74, .int 1]) (st' := [.int 0]) rfl ?_
      refine wp_ret rfl ?_
      show am_wp L xs _ _ _ _ 5 [.ref 74, .int 1, am_du, am_du, am_du, am_du] [.int 0] (am_S b) (am_ur h 5 (dr_f (h 68) (h 5) n r1)) _
      refine wp_run 2 (pc' := 7) (ls' := [.ref 74, .int 1, .int 0, am_du, am_du, am_du]) (st' := [.int 0]) rfl ?_
      refine wp_if_t rfl (show (0 : Int32) = 0 from by decide) ?_
      refine wp_run 2 (pc' := 18) (ls' := [.ref 74, .int 1, .int 0, .int 0, am_du, am_du]) (st' := []) rfl ?_
      have hp := fun kq => lp_wa1 (L := L) (xs := xs) (d := d) (ms := ms2) (b := b) (h := (am_ur h 5 (dr_f (h 68) (h 5) n r1))) (Q := Q2) (s := 1) (n := n) (c := c) (l := l) (by omega) hm2 hn7 hm3 hc7 hl24 hz2 (by omega) kq n 0 (by omega)
      rw [md_0u] at hp
      refine hp (fun r2 hr2 => ?_)
      have er : r1 = r2 := pu_fst_uniq hr1 hr2 (fun q hq => dr_ok_c (fun g hg => hri g (by omega)))
      subst er
      have Hn := re_dress H hr1 (b := fun q => h 80 (24 * 1 + q)) (fun g hg => hri g (by have := hr1.1; omega))
      exact kk2 _ _ ⟨⟨n, c, t, tp, wt, s0, s1, p0, p1, Hn⟩, re_im_s hI, hE, hS0, hS1, hS2, hS3, hT⟩
    · skip
      refine wp_run 1 (pc' := 14) (ls' := [.ref 0, .int 1]) (st' := [.ref 0]) rfl ?_
      refine wp_getr 64 rfl rfl rfl ?_
      refine wp_run 1 (pc' := 18) (ls' := [.ref 0, .int 1]) (st' := [.int 1, .ref 64]) rfl ?_
      refine wp_aald (r := 67) rfl rfl (Or.inr rfl) rfl (by decide) rfl rfl ?_
      refine wp_callV (o := 67) (as := []) (rest := []) (els := [.ref 67]) rfl rfl rfl rfl rfl rfl rfl rfl (by omega) ?_
      refine wp_run 1 (pc' := 1) (ls' := [.ref 67]) (st' := [.ref 67]) rfl ?_
      refine wp_geti (a := 1) 32 (hob.trans eb) rfl rfl rfl ?_
      refine wp_if_t rfl (show ¬ (32 : Int32) = 0 from by decide) ?_
      refine wp_run 1 (pc' := 12) (ls' := [.ref 67]) (st' := [.int 0]) rfl ?_
      refine wp_retz rfl (Or.inl rfl) ?_
      show am_wp L xs _ _ _ _ 22 [.ref 0, .int 1] [.int 0] (am_S b) h _
      refine wp_if_t rfl (show (0 : Int32) = 0 from by decide) ?_
      refine wp_run 1 (pc' := 32) (ls' := [.ref 0, .int 1]) (st' := [.ref 0]) rfl ?_
      refine wp_getr 1 rfl rfl rfl ?_
      refine wp_run 1 (pc' := 36) (ls' := [.ref 0, .int 1]) (st' := [.ref 0, .ref 1]) rfl ?_
      refine wp_getr 64 rfl rfl rfl ?_
      refine wp_run 1 (pc' := 40) (ls' := [.ref 0, .int 1]) (st' := [.int 1, .ref 64, .ref 1]) rfl ?_
      refine wp_aald (r := 67) rfl rfl (Or.inr rfl) rfl (by decide) rfl rfl ?_
      refine wp_callV (o := 1) (as := [.ref 67]) (rest := []) (els := [.ref 1, .ref 67, am_du, am_du]) rfl rfl rfl rfl rfl rfl rfl rfl (by omega) ?_
      refine sp_dress67 (h := h) hn hn7 hc hc7 hl24 ho2 (by omega) (fun r1 hr1 => ?_)
      show am_wp L xs _ _ _ _ 44 [.ref 0, .int 1] [.int (nI r1)] (am_S b) (am_ur h 5 (dr_f (h 68) (h 5) n r1)) _
      refine wp_ret rfl ?_
      refine kk _ _ _ (fun ms2 Q2 kk2 => ?_)
      refine wp_run 2 (pc' := 2) (ls' := [.ref 74, .int 1, am_du, am_du, am_du, am_du]) (st' := [.int 1, .ref 74]) rfl ?_
      refine wp_callV (o := 74) (as := [.int 1]) (rest := []) (els := [.ref 74, .int 1]) rfl rfl rfl rfl rfl rfl rfl rfl (by omega) ?_
      refine wp_run 1 (pc' := 1) (ls' := [.ref 74, .int 1]) (st' := [.int 1]) rfl ?_
      refine wp_callS (as := [.int 1]) (rest := []) (els := [.int 1]) rfl rfl rfl rfl rfl rfl rfl rfl (by omega) ?_
      refine sp_m_isSheet (by omega) (fun _ _ _ => ?_) (fun q => absurd rfl (q 1 (by omega)))
      show am_wp L xs _ _ _ _ 4 [.ref 74, .int 1] [.int 1] (am_S b) (am_ur h 5 (dr_f (h 68) (h 5) n r1)) _
      refine wp_if_t rfl (show ¬ (1 : Int32) = 0 from by decide) ?_
      refine wp_run 1 (pc' := 13) (ls' := [.ref 74, .int 1]) (st' := [.ref 74]) rfl ?_
      refine wp_getr 78 rfl rfl rfl ?_
      refine wp_run 1 (pc' := 17) (ls' := [.ref 74, .int 1]) (st' := [.int 1, .ref 78]) rfl ?_
      refine wp_ald (i := 1) 32 eb rfl rfl rfl (by decide) rfl ?_
      refine wp_if_t rfl (show ¬ (32 : Int32) = 0 from by decide) ?_
      refine wp_run 1 (pc' := 27) (ls' := [.ref 74, .int 1]) (st' := [.int 0]) rfl ?_
      refine wp_ret rfl ?_
      show am_wp L xs _ _ _ _ 5 [.ref 74, .int 1, am_du, am_du, am_du, am_du] [.int 0] (am_S b) (am_ur h 5 (dr_f (h 68) (h 5) n r1)) _
      refine wp_run 2 (pc' := 7) (ls' := [.ref 74, .int 1, .int 0, am_du, am_du, am_du]) (st' := [.int 0]) rfl ?_
      refine wp_if_t rfl (show (0 : Int32) = 0 from by decide) ?_
      refine wp_run 2 (pc' := 18) (ls' := [.ref 74, .int 1, .int 0, .int 0, am_du, am_du]) (st' := []) rfl ?_
      have hp := fun kq => lp_wa1 (L := L) (xs := xs) (d := d) (ms := ms2) (b := b) (h := (am_ur h 5 (dr_f (h 68) (h 5) n r1))) (Q := Q2) (s := 1) (n := n) (c := c) (l := l) (by omega) hm2 hn7 hm3 hc7 hl24 hz2 (by omega) kq n 0 (by omega)
      rw [md_0u] at hp
      refine hp (fun r2 hr2 => ?_)
      have er : r1 = r2 := pu_fst_uniq hr1 hr2 (fun q hq => dr_ok_c (fun g hg => hri g (by omega)))
      subst er
      have Hn := re_dress H hr1 (b := fun q => h 80 (24 * 1 + q)) (fun g hg => hri g (by have := hr1.1; omega))
      exact kk2 _ _ ⟨⟨n, c, t, tp, wt, s0, s1, p0, p1, Hn⟩, re_im_s hI, hE, hS0, hS1, hS2, hS3, hT⟩
  · skip
    intro ex1
    subst ex1
    show am_wp L xs _ _ _ _ 4 [.ref 0, .int 2] [.int 1] (am_S b) h _
    refine wp_if_t rfl (show ¬ (1 : Int32) = 0 from by decide) ?_
    obtain ⟨l, hl24, ho2, hz2, hob, hbb, hri⟩ := id hS2
    rcases hbb with ⟨eb, el⟩ | eb | eb | eb
    · skip
      refine wp_run 1 (pc' := 14) (ls' := [.ref 0, .int 2]) (st' := [.ref 0]) rfl ?_
      refine wp_getr 64 rfl rfl rfl ?_
      refine wp_run 1 (pc' := 18) (ls' := [.ref 0, .int 2]) (st' := [.int 2, .ref 64]) rfl ?_
      refine wp_aald (r := 69) rfl rfl (Or.inr rfl) rfl (by decide) rfl rfl ?_
      refine wp_callV (o := 69) (as := []) (rest := []) (els := [.ref 69]) rfl rfl rfl rfl rfl rfl rfl rfl (by omega) ?_
      refine wp_run 1 (pc' := 1) (ls' := [.ref 69]) (st' := [.ref 69]) rfl ?_
      refine wp_geti (a := 1) 0 (hob.trans eb) rfl rfl rfl ?_
      refine wp_if_f rfl (show ¬ (¬ (0 : Int32) = 0) from by decide) ?_
      refine wp_run 2 (pc' := 12) (ls' := [.ref 69]) (st' := [.int 1]) rfl ?_
      refine wp_retz rfl (Or.inr rfl) ?_
      show am_wp L xs _ _ _ _ 22 [.ref 0, .int 2] [.int 1] (am_S b) h _
      refine wp_if_f rfl (show ¬ ((1 : Int32) = 0) from by decide) ?_
      refine wp_run 2 (pc' := 27) (ls' := [.ref 0, .int 2]) (st' := [.int 2, .ref 0]) rfl ?_
      refine wp_callV (o := 0) (as := [.int 2]) (rest := []) (els := [.ref 0, .int 2]) rfl rfl rfl rfl rfl rfl rfl rfl (by omega) ?_
      refine sp_refuse2 (by omega) ?_
      show am_wp L xs _ _ _ _ 30 [.ref 0, .int 2] [.int (-1000000002)] (am_S b) (am_u h 73 2 (h 73 2 + 1)) _
      refine wp_ret rfl ?_
      refine kk _ _ _ (fun ms2 Q2 kk2 => ?_)
      refine wp_run 2 (pc' := 2) (ls' := [.ref 74, .int 2, am_du, am_du, am_du, am_du]) (st' := [.int 2, .ref 74]) rfl ?_
      refine wp_callV (o := 74) (as := [.int 2]) (rest := []) (els := [.ref 74, .int 2]) rfl rfl rfl rfl rfl rfl rfl rfl (by omega) ?_
      refine wp_run 1 (pc' := 1) (ls' := [.ref 74, .int 2]) (st' := [.int 2]) rfl ?_
      refine wp_callS (as := [.int 2]) (rest := []) (els := [.int 2]) rfl rfl rfl rfl rfl rfl rfl rfl (by omega) ?_
      refine sp_m_isSheet (by omega) (fun _ _ _ => ?_) (fun q => absurd rfl (q 2 (by omega)))
      show am_wp L xs _ _ _ _ 4 [.ref 74, .int 2] [.int 1] (am_S b) (am_u h 73 2 (h 73 2 + 1)) _
      refine wp_if_t rfl (show ¬ (1 : Int32) = 0 from by decide) ?_
      refine wp_run 1 (pc' := 13) (ls' := [.ref 74, .int 2]) (st' := [.ref 74]) rfl ?_
      refine wp_getr 78 rfl rfl rfl ?_
      refine wp_run 1 (pc' := 17) (ls' := [.ref 74, .int 2]) (st' := [.int 2, .ref 78]) rfl ?_
      refine wp_ald (i := 2) 0 eb rfl rfl rfl (by decide) rfl ?_
      refine wp_if_f rfl (show ¬ (¬ (0 : Int32) = 0) from by decide) ?_
      refine wp_run 2 (pc' := 27) (ls' := [.ref 74, .int 2]) (st' := [.int (-1000000002)]) rfl ?_
      refine wp_ret rfl ?_
      show am_wp L xs _ _ _ _ 5 [.ref 74, .int 2, am_du, am_du, am_du, am_du] [.int (-1000000002)] (am_S b) (am_u h 73 2 (h 73 2 + 1)) _
      refine wp_run 2 (pc' := 7) (ls' := [.ref 74, .int 2, .int (-1000000002), am_du, am_du, am_du]) (st' := [.int (-1000000002)]) rfl ?_
      refine wp_if_f rfl (show ¬ (((-1000000002) : Int32) = 0) from by decide) ?_
      refine wp_run 2 (pc' := 12) (ls' := [.ref 74, .int 2, .int (-1000000002), am_du, am_du, am_du]) (st' := [.int (-1000000002), .ref 74]) rfl ?_
      refine wp_callV (o := 74) (as := [.int (-1000000002)]) (rest := []) (els := [.ref 74, .int (-1000000002)]) rfl rfl rfl rfl rfl rfl rfl rfl (by omega) ?_
      refine sp_error2 ?_
      show am_wp L xs _ _ _ _ 15 [.ref 74, .int 2, .int (-1000000002), am_du, am_du, am_du] [.int (-1000000002)] (am_S b) (am_u (am_u h 73 2 (h 73 2 + 1)) 77 2 ((am_u h 73 2 (h 73 2 + 1)) 77 2 + 1)) _
      refine wp_ret rfl ?_
      exact kk2 _ _ (re_err2 hR)
    · skip
      refine wp_run 1 (pc' := 14) (ls' := [.ref 0, .int 2]) (st' := [.ref 0]) rfl ?_
      refine wp_getr 64 rfl rfl rfl ?_
      refine wp_run 1 (pc' := 18) (ls' := [.ref 0, .int 2]) (st' := [.int 2, .ref 64]) rfl ?_
      refine wp_aald (r := 69) rfl rfl (Or.inr rfl) rfl (by decide) rfl rfl ?_
      refine wp_callV (o := 69) (as := []) (rest := []) (els := [.ref 69]) rfl rfl rfl rfl rfl rfl rfl rfl (by omega) ?_
      refine wp_run 1 (pc' := 1) (ls' := [.ref 69]) (st' := [.ref 69]) rfl ?_
      refine wp_geti (a := 1) 8 (hob.trans eb) rfl rfl rfl ?_
      refine wp_if_t rfl (show ¬ (8 : Int32) = 0 from by decide) ?_
      refine wp_run 1 (pc' := 12) (ls' := [.ref 69]) (st' := [.int 0]) rfl ?_
      refine wp_retz rfl (Or.inl rfl) ?_
      show am_wp L xs _ _ _ _ 22 [.ref 0, .int 2] [.int 0] (am_S b) h _
      refine wp_if_t rfl (show (0 : Int32) = 0 from by decide) ?_
      refine wp_run 1 (pc' := 32) (ls' := [.ref 0, .int 2]) (st' := [.ref 0]) rfl ?_
      refine wp_getr 1 rfl rfl rfl ?_
      refine wp_run 1 (pc' := 36) (ls' := [.ref 0, .int 2]) (st' := [.ref 0, .ref 1]) rfl ?_
      refine wp_getr 64 rfl rfl rfl ?_
      refine wp_run 1 (pc' := 40) (ls' := [.ref 0, .int 2]) (st' := [.int 2, .ref 64, .ref 1]) rfl ?_
      refine wp_aald (r := 69) rfl rfl (Or.inr rfl) rfl (by decide) rfl rfl ?_
      refine wp_callV (o := 1) (as := [.ref 69]) (rest := []) (els := [.ref 1, .ref 69, am_du, am_du]) rfl rfl rfl rfl rfl rfl rfl rfl (by omega) ?_
      refine sp_dress69 (h := h) hn hn7 hc hc7 hl24 ho2 (by omega) (fun r1 hr1 => ?_)
      show am_wp L xs _ _ _ _ 44 [.ref 0, .int 2] [.int (nI r1)] (am_S b) (am_ur h 5 (dr_f (h 70) (h 5) n r1)) _
      refine wp_ret rfl ?_
      refine kk _ _ _ (fun ms2 Q2 kk2 => ?_)
      refine wp_run 2 (pc' := 2) (ls' := [.ref 74, .int 2, am_du, am_du, am_du, am_du]) (st' := [.int 2, .ref 74]) rfl ?_
      refine wp_callV (o := 74) (as := [.int 2]) (rest := []) (els := [.ref 74, .int 2]) rfl rfl rfl rfl rfl rfl rfl rfl (by omega) ?_
      refine wp_run 1 (pc' := 1) (ls' := [.ref 74, .int 2]) (st' := [.int 2]) rfl ?_
      refine wp_callS (as := [.int 2]) (rest := []) (els := [.int 2]) rfl rfl rfl rfl rfl rfl rfl rfl (by omega) ?_
      refine sp_m_isSheet (by omega) (fun _ _ _ => ?_) (fun q => absurd rfl (q 2 (by omega)))
      show am_wp L xs _ _ _ _ 4 [.ref 74, .int 2] [.int 1] (am_S b) (am_ur h 5 (dr_f (h 70) (h 5) n r1)) _
      refine wp_if_t rfl (show ¬ (1 : Int32) = 0 from by decide) ?_
      refine wp_run 1 (pc' := 13) (ls' := [.ref 74, .int 2]) (st' := [.ref 74]) rfl ?_
      refine wp_getr 78 rfl rfl rfl ?_
      refine wp_run 1 (pc' := 17) (ls' := [.ref 74, .int 2]) (st' := [.int 2, .ref 78]) rfl ?_
      refine wp_ald (i := 2) 8 eb rfl rfl rfl (by decide) rfl ?_
      refine wp_if_t rfl (show ¬ (8 : Int32) = 0 from by decide) ?_
      refine wp_run 1 (pc' := 27) (ls' := [.ref 74, .int 2]) (st' := [.int 0]) rfl ?_
      refine wp_ret rfl ?_
      show am_wp L xs _ _ _ _ 5 [.ref 74, .int 2, am_du, am_du, am_du, am_du] [.int 0] (am_S b) (am_ur h 5 (dr_f (h 70) (h 5) n r1)) _
      refine wp_run 2 (pc' := 7) (ls' := [.ref 74, .int 2, .int 0, am_du, am_du, am_du]) (st' := [.int 0]) rfl ?_
      refine wp_if_t rfl (show (0 : Int32) = 0 from by decide) ?_
      refine wp_run 2 (pc' := 18) (ls' := [.ref 74, .int 2, .int 0, .int 0, am_du, am_du]) (st' := []) rfl ?_
      have hp := fun kq => lp_wa1 (L := L) (xs := xs) (d := d) (ms := ms2) (b := b) (h := (am_ur h 5 (dr_f (h 70) (h 5) n r1))) (Q := Q2) (s := 2) (n := n) (c := c) (l := l) (by omega) hm2 hn7 hm3 hc7 hl24 hz2 (by omega) kq n 0 (by omega)
      rw [md_0u] at hp
      refine hp (fun r2 hr2 => ?_)
      have er : r1 = r2 := pu_fst_uniq hr1 hr2 (fun q hq => dr_ok_c (fun g hg => hri g (by omega)))
      subst er
      have Hn := re_dress H hr1 (b := fun q => h 80 (24 * 2 + q)) (fun g hg => hri g (by have := hr1.1; omega))
      exact kk2 _ _ ⟨⟨n, c, t, tp, wt, s0, s1, p0, p1, Hn⟩, re_im_s hI, hE, hS0, hS1, hS2, hS3, hT⟩
    · skip
      refine wp_run 1 (pc' := 14) (ls' := [.ref 0, .int 2]) (st' := [.ref 0]) rfl ?_
      refine wp_getr 64 rfl rfl rfl ?_
      refine wp_run 1 (pc' := 18) (ls' := [.ref 0, .int 2]) (st' := [.int 2, .ref 64]) rfl ?_
      refine wp_aald (r := 69) rfl rfl (Or.inr rfl) rfl (by decide) rfl rfl ?_
      refine wp_callV (o := 69) (as := []) (rest := []) (els := [.ref 69]) rfl rfl rfl rfl rfl rfl rfl rfl (by omega) ?_
      refine wp_run 1 (pc' := 1) (ls' := [.ref 69]) (st' := [.ref 69]) rfl ?_
      refine wp_geti (a := 1) 16 (hob.trans eb) rfl rfl rfl ?_
      refine wp_if_t rfl (show ¬ (16 : Int32) = 0 from by decide) ?_
      refine wp_run 1 (pc' := 12) (ls' := [.ref 69]) (st' := [.int 0]) rfl ?_
      refine wp_retz rfl (Or.inl rfl) ?_
      show am_wp L xs _ _ _ _ 22 [.ref 0, .int 2] [.int 0] (am_S b) h _
      refine wp_if_t rfl (show (0 : Int32) = 0 from by decide) ?_
      refine wp_run 1 (pc' := 32) (ls' := [.ref 0, .int 2]) (st' := [.ref 0]) rfl ?_
      refine wp_getr 1 rfl rfl rfl ?_
      refine wp_run 1 (pc' := 36) (ls' := [.ref 0, .int 2]) (st' := [.ref 0, .ref 1]) rfl ?_
      refine wp_getr 64 rfl rfl rfl ?_
      refine wp_run 1 (pc' := 40) (ls' := [.ref 0, .int 2]) (st' := [.int 2, .ref 64, .ref 1]) rfl ?_
      refine wp_aald (r := 69) rfl rfl (Or.inr rfl) rfl (by decide) rfl rfl ?_
      refine wp_callV (o := 1) (as := [.ref 69]) (rest := []) (els := [.ref 1, .ref 69, am_du, am_du]) rfl rfl rfl rfl rfl rfl rfl rfl (by omega) ?_
      refine sp_dress69 (h := h) hn hn7 hc hc7 hl24 ho2 (by omega) (fun r1 hr1 => ?_)
      show am_wp L xs _ _ _ _ 44 [.ref 0, .int 2] [.int (nI r1)] (am_S b) (am_ur h 5 (dr_f (h 70) (h 5) n r1)) _
      refine wp_ret rfl ?_
      refine kk _ _ _ (fun ms2 Q2 kk2 => ?_)
      refine wp_run 2 (pc' := 2) (ls' := [.ref 74, .int 2, am_du, am_du, am_du, am_du]) (st' := [.int 2, .ref 74]) rfl ?_
      refine wp_callV (o := 74) (as := [.int 2]) (rest := []) (els := [.ref 74, .int 2]) rfl rfl rfl rfl rfl rfl rfl rfl (by omega) ?_
      refine wp_run 1 (pc' := 1) (ls' := [.ref 74, .int 2]) (st' := [.int 2]) rfl ?_
      refine wp_callS (as := [.int 2]) (rest := []) (els := [.int 2]) rfl rfl rfl rfl rfl rfl rfl rfl (by omega) ?_
      refine sp_m_isSheet (by omega) (fun _ _ _ => ?_) (fun q => absurd rfl (q 2 (by omega)))
      show am_wp L xs _ _ _ _ 4 [.ref 74, .int 2] [.int 1] (am_S b) (am_ur h 5 (dr_f (h 70) (h 5) n r1)) _
      refine wp_if_t rfl (show ¬ (1 : Int32) = 0 from by decide) ?_
      refine wp_run 1 (pc' := 13) (ls' := [.ref 74, .int 2]) (st' := [.ref 74]) rfl ?_
      refine wp_getr 78 rfl rfl rfl ?_
      refine wp_run 1 (pc' := 17) (ls' := [.ref 74, .int 2]) (st' := [.int 2, .ref 78]) rfl ?_
      refine wp_ald (i := 2) 16 eb rfl rfl rfl (by decide) rfl ?_
      refine wp_if_t rfl (show ¬ (16 : Int32) = 0 from by decide) ?_
      refine wp_run 1 (pc' := 27) (ls' := [.ref 74, .int 2]) (st' := [.int 0]) rfl ?_
      refine wp_ret rfl ?_
      show am_wp L xs _ _ _ _ 5 [.ref 74, .int 2, am_du, am_du, am_du, am_du] [.int 0] (am_S b) (am_ur h 5 (dr_f (h 70) (h 5) n r1)) _
      refine wp_run 2 (pc' := 7) (ls' := [.ref 74, .int 2, .int 0, am_du, am_du, am_du]) (st' := [.int 0]) rfl ?_
      refine wp_if_t rfl (show (0 : Int32) = 0 from by decide) ?_
      refine wp_run 2 (pc' := 18) (ls' := [.ref 74, .int 2, .int 0, .int 0, am_du, am_du]) (st' := []) rfl ?_
      have hp := fun kq => lp_wa1 (L := L) (xs := xs) (d := d) (ms := ms2) (b := b) (h := (am_ur h 5 (dr_f (h 70) (h 5) n r1))) (Q := Q2) (s := 2) (n := n) (c := c) (l := l) (by omega) hm2 hn7 hm3 hc7 hl24 hz2 (by omega) kq n 0 (by omega)
      rw [md_0u] at hp
      refine hp (fun r2 hr2 => ?_)
      have er : r1 = r2 := pu_fst_uniq hr1 hr2 (fun q hq => dr_ok_c (fun g hg => hri g (by omega)))
      subst er
      have Hn := re_dress H hr1 (b := fun q => h 80 (24 * 2 + q)) (fun g hg => hri g (by have := hr1.1; omega))
      exact kk2 _ _ ⟨⟨n, c, t, tp, wt, s0, s1, p0, p1, Hn⟩, re_im_s hI, hE, hS0, hS1, hS2, hS3, hT⟩
    · skip
      refine wp_run 1 (pc' := 14) (ls' := [.ref 0, .int 2]) (st' := [.ref 0]) rfl ?_
      refine wp_getr 64 rfl rfl rfl ?_
      refine wp_run 1 (pc' := 18) (ls' := [.ref 0, .int 2]) (st' := [.int 2, .ref 64]) rfl ?_
      refine wp_aald (r := 69) rfl rfl (Or.inr rfl) rfl (by decide) rfl rfl ?_
      refine wp_callV (o := 69) (as := []) (rest := []) (els := [.ref 69]) rfl rfl rfl rfl rfl rfl rfl rfl (by omega) ?_
      refine wp_run 1 (pc' := 1) (ls' := [.ref 69]) (st' := [.ref 69]) rfl ?_
      refine wp_geti (a := 1) 32 (hob.trans eb) rfl rfl rfl ?_
      refine wp_if_t rfl (show ¬ (32 : Int32) = 0 from by decide) ?_
      refine wp_run 1 (pc' := 12) (ls' := [.ref 69]) (st' := [.int 0]) rfl ?_
      refine wp_retz rfl (Or.inl rfl) ?_
      show am_wp L xs _ _ _ _ 22 [.ref 0, .int 2] [.int 0] (am_S b) h _
      refine wp_if_t rfl (show (0 : Int32) = 0 from by decide) ?_
      refine wp_run 1 (pc' := 32) (ls' := [.ref 0, .int 2]) (st' := [.ref 0]) rfl ?_
      refine wp_getr 1 rfl rfl rfl ?_
      refine wp_run 1 (pc' := 36) (ls' := [.ref 0, .int 2]) (st' := [.ref 0, .ref 1]) rfl ?_
      refine wp_getr 64 rfl rfl rfl ?_
      refine wp_run 1 (pc' := 40) (ls' := [.ref 0, .int 2]) (st' := [.int 2, .ref 64, .ref 1]) rfl ?_
      refine wp_aald (r := 69) rfl rfl (Or.inr rfl) rfl (by decide) rfl rfl ?_
      refine wp_callV (o := 1) (as := [.ref 69]) (rest := []) (els := [.ref 1, .ref 69, am_du, am_du]) rfl rfl rfl rfl rfl rfl rfl rfl (by omega) ?_
      refine sp_dress69 (h := h) hn hn7 hc hc7 hl24 ho2 (by omega) (fun r1 hr1 => ?_)
      show am_wp L xs _ _ _ _ 44 [.ref 0, .int 2] [.int (nI r1)] (am_S b) (am_ur h 5 (dr_f (h 70) (h 5) n r1)) _
      refine wp_ret rfl ?_
      refine kk _ _ _ (fun ms2 Q2 kk2 => ?_)
      refine wp_run 2 (pc' := 2) (ls' := [.ref 74, .int 2, am_du, am_du, am_du, am_du]) (st' := [.int 2, .ref 74]) rfl ?_
      refine wp_callV (o := 74) (as := [.int 2]) (rest := []) (els := [.ref 74, .int 2]) rfl rfl rfl rfl rfl rfl rfl rfl (by omega) ?_
      refine wp_run 1 (pc' := 1) (ls' := [.ref 74, .int 2]) (st' := [.int 2]) rfl ?_
      refine wp_callS (as := [.int 2]) (rest := []) (els := [.int 2]) rfl rfl rfl rfl rfl rfl rfl rfl (by omega) ?_
      refine sp_m_isSheet (by omega) (fun _ _ _ => ?_) (fun q => absurd rfl (q 2 (by omega)))
      show am_wp L xs _ _ _ _ 4 [.ref 74, .int 2] [.int 1] (am_S b) (am_ur h 5 (dr_f (h 70) (h 5) n r1)) _
      refine wp_if_t rfl (show ¬ (1 : Int32) = 0 from by decide) ?_
      refine wp_run 1 (pc' := 13) (ls' := [.ref 74, .int 2]) (st' := [.ref 74]) rfl ?_
      refine wp_getr 78 rfl rfl rfl ?_
      refine wp_run 1 (pc' := 17) (ls' := [.ref 74, .int 2]) (st' := [.int 2, .ref 78]) rfl ?_
      refine wp_ald (i := 2) 32 eb rfl rfl rfl (by decide) rfl ?_
      refine wp_if_t rfl (show ¬ (32 : Int32) = 0 from by decide) ?_
      refine wp_run 1 (pc' := 27) (ls' := [.ref 74, .int 2]) (st' := [.int 0]) rfl ?_
      refine wp_ret rfl ?_
      show am_wp L xs _ _ _ _ 5 [.ref 74, .int 2, am_du, am_du, am_du, am_du] [.int 0] (am_S b) (am_ur h 5 (dr_f (h 70) (h 5) n r1)) _
      refine wp_run 2 (pc' := 7) (ls' := [.ref 74, .int 2, .int 0, am_du, am_du, am_du]) (st' := [.int 0]) rfl ?_
      refine wp_if_t rfl (show (0 : Int32) = 0 from by decide) ?_
      refine wp_run 2 (pc' := 18) (ls' := [.ref 74, .int 2, .int 0, .int 0, am_du, am_du]) (st' := []) rfl ?_
      have hp := fun kq => lp_wa1 (L := L) (xs := xs) (d := d) (ms := ms2) (b := b) (h := (am_ur h 5 (dr_f (h 70) (h 5) n r1))) (Q := Q2) (s := 2) (n := n) (c := c) (l := l) (by omega) hm2 hn7 hm3 hc7 hl24 hz2 (by omega) kq n 0 (by omega)
      rw [md_0u] at hp
      refine hp (fun r2 hr2 => ?_)
      have er : r1 = r2 := pu_fst_uniq hr1 hr2 (fun q hq => dr_ok_c (fun g hg => hri g (by omega)))
      subst er
      have Hn := re_dress H hr1 (b := fun q => h 80 (24 * 2 + q)) (fun g hg => hri g (by have := hr1.1; omega))
      exact kk2 _ _ ⟨⟨n, c, t, tp, wt, s0, s1, p0, p1, Hn⟩, re_im_s hI, hE, hS0, hS1, hS2, hS3, hT⟩
  · skip
    intro ex1
    subst ex1
    show am_wp L xs _ _ _ _ 4 [.ref 0, .int 3] [.int 1] (am_S b) h _
    refine wp_if_t rfl (show ¬ (1 : Int32) = 0 from by decide) ?_
    obtain ⟨l, hl24, ho2, hz2, hob, hbb, hri⟩ := id hS3
    rcases hbb with ⟨eb, el⟩ | eb | eb | eb
    · skip
      refine wp_run 1 (pc' := 14) (ls' := [.ref 0, .int 3]) (st' := [.ref 0]) rfl ?_
      refine wp_getr 64 rfl rfl rfl ?_
      refine wp_run 1 (pc' := 18) (ls' := [.ref 0, .int 3]) (st' := [.int 3, .ref 64]) rfl ?_
      refine wp_aald (r := 71) rfl rfl (Or.inr rfl) rfl (by decide) rfl rfl ?_
      refine wp_callV (o := 71) (as := []) (rest := []) (els := [.ref 71]) rfl rfl rfl rfl rfl rfl rfl rfl (by omega) ?_
      refine wp_run 1 (pc' := 1) (ls' := [.ref 71]) (st' := [.ref 71]) rfl ?_
      refine wp_geti (a := 1) 0 (hob.trans eb) rfl rfl rfl ?_
      refine wp_if_f rfl (show ¬ (¬ (0 : Int32) = 0) from by decide) ?_
      refine wp_run 2 (pc' := 12) (ls' := [.ref 71]) (st' := [.int 1]) rfl ?_
      refine wp_retz rfl (Or.inr rfl) ?_
      show am_wp L xs _ _ _ _ 22 [.ref 0, .int 3] [.int 1] (am_S b) h _
      refine wp_if_f rfl (show ¬ ((1 : Int32) = 0) from by decide) ?_
      refine wp_run 2 (pc' := 27) (ls' := [.ref 0, .int 3]) (st' := [.int 2, .ref 0]) rfl ?_
      refine wp_callV (o := 0) (as := [.int 2]) (rest := []) (els := [.ref 0, .int 2]) rfl rfl rfl rfl rfl rfl rfl rfl (by omega) ?_
      refine sp_refuse2 (by omega) ?_
      show am_wp L xs _ _ _ _ 30 [.ref 0, .int 3] [.int (-1000000002)] (am_S b) (am_u h 73 2 (h 73 2 + 1)) _
      refine wp_ret rfl ?_
      refine kk _ _ _ (fun ms2 Q2 kk2 => ?_)
      refine wp_run 2 (pc' := 2) (ls' := [.ref 74, .int 3, am_du, am_du, am_du, am_du]) (st' := [.int 3, .ref 74]) rfl ?_
      refine wp_callV (o := 74) (as := [.int 3]) (rest := []) (els := [.ref 74, .int 3]) rfl rfl rfl rfl rfl rfl rfl rfl (by omega) ?_
      refine wp_run 1 (pc' := 1) (ls' := [.ref 74, .int 3]) (st' := [.int 3]) rfl ?_
      refine wp_callS (as := [.int 3]) (rest := []) (els := [.int 3]) rfl rfl rfl rfl rfl rfl rfl rfl (by omega) ?_
      refine sp_m_isSheet (by omega) (fun _ _ _ => ?_) (fun q => absurd rfl (q 3 (by omega)))
      show am_wp L xs _ _ _ _ 4 [.ref 74, .int 3] [.int 1] (am_S b) (am_u h 73 2 (h 73 2 + 1)) _
      refine wp_if_t rfl (show ¬ (1 : Int32) = 0 from by decide) ?_
      refine wp_run 1 (pc' := 13) (ls' := [.ref 74, .int 3]) (st' := [.ref 74]) rfl ?_
      refine wp_getr 78 rfl rfl rfl ?_
      refine wp_run 1 (pc' := 17) (ls' := [.ref 74, .int 3]) (st' := [.int 3, .ref 78]) rfl ?_
      refine wp_ald (i := 3) 0 eb rfl rfl rfl (by decide) rfl ?_
      refine wp_if_f rfl (show ¬ (¬ (0 : Int32) = 0) from by decide) ?_
      refine wp_run 2 (pc' := 27) (ls' := [.ref 74, .int 3]) (st' := [.int (-1000000002)]) rfl ?_
      refine wp_ret rfl ?_
      show am_wp L xs _ _ _ _ 5 [.ref 74, .int 3, am_du, am_du, am_du, am_du] [.int (-1000000002)] (am_S b) (am_u h 73 2 (h 73 2 + 1)) _
      refine wp_run 2 (pc' := 7) (ls' := [.ref 74, .int 3, .int (-1000000002), am_du, am_du, am_du]) (st' := [.int (-1000000002)]) rfl ?_
      refine wp_if_f rfl (show ¬ (((-1000000002) : Int32) = 0) from by decide) ?_
      refine wp_run 2 (pc' := 12) (ls' := [.ref 74, .int 3, .int (-1000000002), am_du, am_du, am_du]) (st' := [.int (-1000000002), .ref 74]) rfl ?_
      refine wp_callV (o := 74) (as := [.int (-1000000002)]) (rest := []) (els := [.ref 74, .int (-1000000002)]) rfl rfl rfl rfl rfl rfl rfl rfl (by omega) ?_
      refine sp_error2 ?_
      show am_wp L xs _ _ _ _ 15 [.ref 74, .int 3, .int (-1000000002), am_du, am_du, am_du] [.int (-1000000002)] (am_S b) (am_u (am_u h 73 2 (h 73 2 + 1)) 77 2 ((am_u h 73 2 (h 73 2 + 1)) 77 2 + 1)) _
      refine wp_ret rfl ?_
      exact kk2 _ _ (re_err2 hR)
    · skip
      refine wp_run 1 (pc' := 14) (ls' := [.ref 0, .int 3]) (st' := [.ref 0]) rfl ?_
      refine wp_getr 64 rfl rfl rfl ?_
      refine wp_run 1 (pc' := 18) (ls' := [.ref 0, .int 3]) (st' := [.int 3, .ref 64]) rfl ?_
      refine wp_aald (r := 71) rfl rfl (Or.inr rfl) rfl (by decide) rfl rfl ?_
      refine wp_callV (o := 71) (as := []) (rest := []) (els := [.ref 71]) rfl rfl rfl rfl rfl rfl rfl rfl (by omega) ?_
      refine wp_run 1 (pc' := 1) (ls' := [.ref 71]) (st' := [.ref 71]) rfl ?_
      refine wp_geti (a := 1) 8 (hob.trans eb) rfl rfl rfl ?_
      refine wp_if_t rfl (show ¬ (8 : Int32) = 0 from by decide) ?_
      refine wp_run 1 (pc' := 12) (ls' := [.ref 71]) (st' := [.int 0]) rfl ?_
      refine wp_retz rfl (Or.inl rfl) ?_
      show am_wp L xs _ _ _ _ 22 [.ref 0, .int 3] [.int 0] (am_S b) h _
      refine wp_if_t rfl (show (0 : Int32) = 0 from by decide) ?_
      refine wp_run 1 (pc' := 32) (ls' := [.ref 0, .int 3]) (st' := [.ref 0]) rfl ?_
      refine wp_getr 1 rfl rfl rfl ?_
      refine wp_run 1 (pc' := 36) (ls' := [.ref 0, .int 3]) (st' := [.ref 0, .ref 1]) rfl ?_
      refine wp_getr 64 rfl rfl rfl ?_
      refine wp_run 1 (pc' := 40) (ls' := [.ref 0, .int 3]) (st' := [.int 3, .ref 64, .ref 1]) rfl ?_
      refine wp_aald (r := 71) rfl rfl (Or.inr rfl) rfl (by decide) rfl rfl ?_
      refine wp_callV (o := 1) (as := [.ref 71]) (rest := []) (els := [.ref 1, .ref 71, am_du, am_du]) rfl rfl rfl rfl rfl rfl rfl rfl (by omega) ?_
      refine sp_dress71 (h := h) hn hn7 hc hc7 hl24 ho2 (by omega) (fun r1 hr1 => ?_)
      show am_wp L xs _ _ _ _ 44 [.ref 0, .int 3] [.int (nI r1)] (am_S b) (am_ur h 5 (dr_f (h 72) (h 5) n r1)) _
      refine wp_ret rfl ?_
      refine kk _ _ _ (fun ms2 Q2 kk2 => ?_)
      refine wp_run 2 (pc' := 2) (ls' := [.ref 74, .int 3, am_du, am_du, am_du, am_du]) (st' := [.int 3, .ref 74]) rfl ?_
      refine wp_callV (o := 74) (as := [.int 3]) (rest := []) (els := [.ref 74, .int 3]) rfl rfl rfl rfl rfl rfl rfl rfl (by omega) ?_
      refine wp_run 1 (pc' := 1) (ls' := [.ref 74, .int 3]) (st' := [.int 3]) rfl ?_
      refine wp_callS (as := [.int 3]) (rest := []) (els := [.int 3]) rfl rfl rfl rfl rfl rfl rfl rfl (by omega) ?_
      refine sp_m_isSheet (by omega) (fun _ _ _ => ?_) (fun q => absurd rfl (q 3 (by omega)))
      show am_wp L xs _ _ _ _ 4 [.ref 74, .int 3] [.int 1] (am_S b) (am_ur h 5 (dr_f (h 72) (h 5) n r1)) _
      refine wp_if_t rfl (show ¬ (1 : Int32) = 0 from by decide) ?_
      refine wp_run 1 (pc' := 13) (ls' := [.ref 74, .int 3]) (st' := [.ref 74]) rfl ?_
      refine wp_getr 78 rfl rfl rfl ?_
      refine wp_run 1 (pc' := 17) (ls' := [.ref 74, .int 3]) (st' := [.int 3, .ref 78]) rfl ?_
      refine wp_ald (i := 3) 8 eb rfl rfl rfl (by decide) rfl ?_
      refine wp_if_t rfl (show ¬ (8 : Int32) = 0 from by decide) ?_
      refine wp_run 1 (pc' := 27) (ls' := [.ref 74, .int 3]) (st' := [.int 0]) rfl ?_
      refine wp_ret rfl ?_
      show am_wp L xs _ _ _ _ 5 [.ref 74, .int 3, am_du, am_du, am_du, am_du] [.int 0] (am_S b) (am_ur h 5 (dr_f (h 72) (h 5) n r1)) _
      refine wp_run 2 (pc' := 7) (ls' := [.ref 74, .int 3, .int 0, am_du, am_du, am_du]) (st' := [.int 0]) rfl ?_
      refine wp_if_t rfl (show (0 : Int32) = 0 from by decide) ?_
      refine wp_run 2 (pc' := 18) (ls' := [.ref 74, .int 3, .int 0, .int 0, am_du, am_du]) (st' := []) rfl ?_
      have hp := fun kq => lp_wa1 (L := L) (xs := xs) (d := d) (ms := ms2) (b := b) (h := (am_ur h 5 (dr_f (h 72) (h 5) n r1))) (Q := Q2) (s := 3) (n := n) (c := c) (l := l) (by omega) hm2 hn7 hm3 hc7 hl24 hz2 (by omega) kq n 0 (by omega)
      rw [md_0u] at hp
      refine hp (fun r2 hr2 => ?_)
      have er : r1 = r2 := pu_fst_uniq hr1 hr2 (fun q hq => dr_ok_c (fun g hg => hri g (by omega)))
      subst er
      have Hn := re_dress H hr1 (b := fun q => h 80 (24 * 3 + q)) (fun g hg => hri g (by have := hr1.1; omega))
      exact kk2 _ _ ⟨⟨n, c, t, tp, wt, s0, s1, p0, p1, Hn⟩, re_im_s hI, hE, hS0, hS1, hS2, hS3, hT⟩
    · skip
      refine wp_run 1 (pc' := 14) (ls' := [.ref 0, .int 3]) (st' := [.ref 0]) rfl ?_
      refine wp_getr 64 rfl rfl rfl ?_
      refine wp_run 1 (pc' := 18) (ls' := [.ref 0, .int 3]) (st' := [.int 3, .ref 64]) rfl ?_
      refine wp_aald (r := 71) rfl rfl (Or.inr rfl) rfl (by decide) rfl rfl ?_
      refine wp_callV (o := 71) (as := []) (rest := []) (els := [.ref 71]) rfl rfl rfl rfl rfl rfl rfl rfl (by omega) ?_
      refine wp_run 1 (pc' := 1) (ls' := [.ref 71]) (st' := [.ref 71]) rfl ?_
      refine wp_geti (a := 1) 16 (hob.trans eb) rfl rfl rfl ?_
      refine wp_if_t rfl (show ¬ (16 : Int32) = 0 from by decide) ?_
      refine wp_run 1 (pc' := 12) (ls' := [.ref 71]) (st' := [.int 0]) rfl ?_
      refine wp_retz rfl (Or.inl rfl) ?_
      show am_wp L xs _ _ _ _ 22 [.ref 0, .int 3] [.int 0] (am_S b) h _
      refine wp_if_t rfl (show (0 : Int32) = 0 from by decide) ?_
      refine wp_run 1 (pc' := 32) (ls' := [.ref 0, .int 3]) (st' := [.ref 0]) rfl ?_
      refine wp_getr 1 rfl rfl rfl ?_
      refine wp_run 1 (pc' := 36) (ls' := [.ref 0, .int 3]) (st' := [.ref 0, .ref 1]) rfl ?_
      refine wp_getr 64 rfl rfl rfl ?_
      refine wp_run 1 (pc' := 40) (ls' := [.ref 0, .int 3]) (st' := [.int 3, .ref 64, .ref 1]) rfl ?_
      refine wp_aald (r := 71) rfl rfl (Or.inr rfl) rfl (by decide) rfl rfl ?_
      refine wp_callV (o := 1) (as := [.ref 71]) (rest := []) (els := [.ref 1, .ref 71, am_du, am_du]) rfl rfl rfl rfl rfl rfl rfl rfl (by omega) ?_
      refine sp_dress71 (h := h) hn hn7 hc hc7 hl24 ho2 (by omega) (fun r1 hr1 => ?_)
      show am_wp L xs _ _ _ _ 44 [.ref 0, .int 3] [.int (nI r1)] (am_S b) (am_ur h 5 (dr_f (h 72) (h 5) n r1)) _
      refine wp_ret rfl ?_
      refine kk _ _ _ (fun ms2 Q2 kk2 => ?_)
      refine wp_run 2 (pc' := 2) (ls' := [.ref 74, .int 3, am_du, am_du, am_du, am_du]) (st' := [.int 3, .ref 74]) rfl ?_
      refine wp_callV (o := 74) (as := [.int 3]) (rest := []) (els := [.ref 74, .int 3]) rfl rfl rfl rfl rfl rfl rfl rfl (by omega) ?_
      refine wp_run 1 (pc' := 1) (ls' := [.ref 74, .int 3]) (st' := [.int 3]) rfl ?_
      refine wp_callS (as := [.int 3]) (rest := []) (els := [.int 3]) rfl rfl rfl rfl rfl rfl rfl rfl (by omega) ?_
      refine sp_m_isSheet (by omega) (fun _ _ _ => ?_) (fun q => absurd rfl (q 3 (by omega)))
      show am_wp L xs _ _ _ _ 4 [.ref 74, .int 3] [.int 1] (am_S b) (am_ur h 5 (dr_f (h 72) (h 5) n r1)) _
      refine wp_if_t rfl (show ¬ (1 : Int32) = 0 from by decide) ?_
      refine wp_run 1 (pc' := 13) (ls' := [.ref 74, .int 3]) (st' := [.ref 74]) rfl ?_
      refine wp_getr 78 rfl rfl rfl ?_
      refine wp_run 1 (pc' := 17) (ls' := [.ref 74, .int 3]) (st' := [.int 3, .ref 78]) rfl ?_
      refine wp_ald (i := 3) 16 eb rfl rfl rfl (by decide) rfl ?_
      refine wp_if_t rfl (show ¬ (16 : Int32) = 0 from by decide) ?_
      refine wp_run 1 (pc' := 27) (ls' := [.ref 74, .int 3]) (st' := [.int 0]) rfl ?_
      refine wp_ret rfl ?_
      show am_wp L xs _ _ _ _ 5 [.ref 74, .int 3, am_du, am_du, am_du, am_du] [.int 0] (am_S b) (am_ur h 5 (dr_f (h 72) (h 5) n r1)) _
      refine wp_run 2 (pc' := 7) (ls' := [.ref 74, .int 3, .int 0, am_du, am_du, am_du]) (st' := [.int 0]) rfl ?_
      refine wp_if_t rfl (show (0 : Int32) = 0 from by decide) ?_
      refine wp_run 2 (pc' := 18) (ls' := [.ref 74, .int 3, .int 0, .int 0, am_du, am_du]) (st' := []) rfl ?_
      have hp := fun kq => lp_wa1 (L := L) (xs := xs) (d := d) (ms := ms2) (b := b) (h := (am_ur h 5 (dr_f (h 72) (h 5) n r1))) (Q := Q2) (s := 3) (n := n) (c := c) (l := l) (by omega) hm2 hn7 hm3 hc7 hl24 hz2 (by omega) kq n 0 (by omega)
      rw [md_0u] at hp
      refine hp (fun r2 hr2 => ?_)
      have er : r1 = r2 := pu_fst_uniq hr1 hr2 (fun q hq => dr_ok_c (fun g hg => hri g (by omega)))
      subst er
      have Hn := re_dress H hr1 (b := fun q => h 80 (24 * 3 + q)) (fun g hg => hri g (by have := hr1.1; omega))
      exact kk2 _ _ ⟨⟨n, c, t, tp, wt, s0, s1, p0, p1, Hn⟩, re_im_s hI, hE, hS0, hS1, hS2, hS3, hT⟩
    · skip
      refine wp_run 1 (pc' := 14) (ls' := [.ref 0, .int 3]) (st' := [.ref 0]) rfl ?_
      refine wp_getr 64 rfl rfl rfl ?_
      refine wp_run 1 (pc' := 18) (ls' := [.ref 0, .int 3]) (st' := [.int 3, .ref 64]) rfl ?_
      refine wp_aald (r := 71) rfl rfl (Or.inr rfl) rfl (by decide) rfl rfl ?_
      refine wp_callV (o := 71) (as := []) (rest := []) (els := [.ref 71]) rfl rfl rfl rfl rfl rfl rfl rfl (by omega) ?_
      refine wp_run 1 (pc' := 1) (ls' := [.ref 71]) (st' := [.ref 71]) rfl ?_
      refine wp_geti (a := 1) 32 (hob.trans eb) rfl rfl rfl ?_
      refine wp_if_t rfl (show ¬ (32 : Int32) = 0 from by decide) ?_
      refine wp_run 1 (pc' := 12) (ls' := [.ref 71]) (st' := [.int 0]) rfl ?_
      refine wp_retz rfl (Or.inl rfl) ?_
      show am_wp L xs _ _ _ _ 22 [.ref 0, .int 3] [.int 0] (am_S b) h _
      refine wp_if_t rfl (show (0 : Int32) = 0 from by decide) ?_
      refine wp_run 1 (pc' := 32) (ls' := [.ref 0, .int 3]) (st' := [.ref 0]) rfl ?_
      refine wp_getr 1 rfl rfl rfl ?_
      refine wp_run 1 (pc' := 36) (ls' := [.ref 0, .int 3]) (st' := [.ref 0, .ref 1]) rfl ?_
      refine wp_getr 64 rfl rfl rfl ?_
      refine wp_run 1 (pc' := 40) (ls' := [.ref 0, .int 3]) (st' := [.int 3, .ref 64, .ref 1]) rfl ?_
      refine wp_aald (r := 71) rfl rfl (Or.inr rfl) rfl (by decide) rfl rfl ?_
      refine wp_callV (o := 1) (as := [.ref 71]) (rest := []) (els := [.ref 1, .ref 71, am_du, am_du]) rfl rfl rfl rfl rfl rfl rfl rfl (by omega) ?_
      refine sp_dress71 (h := h) hn hn7 hc hc7 hl24 ho2 (by omega) (fun r1 hr1 => ?_)
      show am_wp L xs _ _ _ _ 44 [.ref 0, .int 3] [.int (nI r1)] (am_S b) (am_ur h 5 (dr_f (h 72) (h 5) n r1)) _
      refine wp_ret rfl ?_
      refine kk _ _ _ (fun ms2 Q2 kk2 => ?_)
      refine wp_run 2 (pc' := 2) (ls' := [.ref 74, .int 3, am_du, am_du, am_du, am_du]) (st' := [.int 3, .ref 74]) rfl ?_
      refine wp_callV (o := 74) (as := [.int 3]) (rest := []) (els := [.ref 74, .int 3]) rfl rfl rfl rfl rfl rfl rfl rfl (by omega) ?_
      refine wp_run 1 (pc' := 1) (ls' := [.ref 74, .int 3]) (st' := [.int 3]) rfl ?_
      refine wp_callS (as := [.int 3]) (rest := []) (els := [.int 3]) rfl rfl rfl rfl rfl rfl rfl rfl (by omega) ?_
      refine sp_m_isSheet (by omega) (fun _ _ _ => ?_) (fun q => absurd rfl (q 3 (by omega)))
      show am_wp L xs _ _ _ _ 4 [.ref 74, .int 3] [.int 1] (am_S b) (am_ur h 5 (dr_f (h 72) (h 5) n r1)) _
      refine wp_if_t rfl (show ¬ (1 : Int32) = 0 from by decide) ?_
      refine wp_run 1 (pc' := 13) (ls' := [.ref 74, .int 3]) (st' := [.ref 74]) rfl ?_
      refine wp_getr 78 rfl rfl rfl ?_
      refine wp_run 1 (pc' := 17) (ls' := [.ref 74, .int 3]) (st' := [.int 3, .ref 78]) rfl ?_
      refine wp_ald (i := 3) 32 eb rfl rfl rfl (by decide) rfl ?_
      refine wp_if_t rfl (show ¬ (32 : Int32) = 0 from by decide) ?_
      refine wp_run 1 (pc' := 27) (ls' := [.ref 74, .int 3]) (st' := [.int 0]) rfl ?_
      refine wp_ret rfl ?_
      show am_wp L xs _ _ _ _ 5 [.ref 74, .int 3, am_du, am_du, am_du, am_du] [.int 0] (am_S b) (am_ur h 5 (dr_f (h 72) (h 5) n r1)) _
      refine wp_run 2 (pc' := 7) (ls' := [.ref 74, .int 3, .int 0, am_du, am_du, am_du]) (st' := [.int 0]) rfl ?_
      refine wp_if_t rfl (show (0 : Int32) = 0 from by decide) ?_
      refine wp_run 2 (pc' := 18) (ls' := [.ref 74, .int 3, .int 0, .int 0, am_du, am_du]) (st' := []) rfl ?_
      have hp := fun kq => lp_wa1 (L := L) (xs := xs) (d := d) (ms := ms2) (b := b) (h := (am_ur h 5 (dr_f (h 72) (h 5) n r1))) (Q := Q2) (s := 3) (n := n) (c := c) (l := l) (by omega) hm2 hn7 hm3 hc7 hl24 hz2 (by omega) kq n 0 (by omega)
      rw [md_0u] at hp
      refine hp (fun r2 hr2 => ?_)
      have er : r1 = r2 := pu_fst_uniq hr1 hr2 (fun q hq => dr_ok_c (fun g hg => hri g (by omega)))
      subst er
      have Hn := re_dress H hr1 (b := fun q => h 80 (24 * 3 + q)) (fun g hg => hri g (by have := hr1.1; omega))
      exact kk2 _ _ ⟨⟨n, c, t, tp, wt, s0, s1, p0, p1, Hn⟩, re_im_s hI, hE, hS0, hS1, hS2, hS3, hT⟩
  · skip
    intro hnx1
    show am_wp L xs _ _ _ _ 4 [.ref 0, .int x1] [.int 0] (am_S b) h _
    refine wp_if_f rfl (show ¬ (¬ (0 : Int32) = 0) from by decide) ?_
    refine wp_run 2 (pc' := 9) (ls' := [.ref 0, .int x1]) (st' := [.int 1, .ref 0]) rfl ?_
    refine wp_callV (o := 0) (as := [.int 1]) (rest := []) (els := [.ref 0, .int 1]) rfl rfl rfl rfl rfl rfl rfl rfl (by omega) ?_
    refine sp_refuse1 (by omega) ?_
    show am_wp L xs _ _ _ _ 12 [.ref 0, .int x1] [.int (-1000000001)] (am_S b) (am_u h 73 1 (h 73 1 + 1)) _
    refine wp_ret rfl ?_
    refine kk _ _ _ (fun ms2 Q2 kk2 => ?_)
    refine wp_run 2 (pc' := 2) (ls' := [.ref 74, .int x1, am_du, am_du, am_du, am_du]) (st' := [.int x1, .ref 74]) rfl ?_
    refine wp_callV (o := 74) (as := [.int x1]) (rest := []) (els := [.ref 74, .int x1]) rfl rfl rfl rfl rfl rfl rfl rfl (by omega) ?_
    refine wp_run 1 (pc' := 1) (ls' := [.ref 74, .int x1]) (st' := [.int x1]) rfl ?_
    refine wp_callS (as := [.int x1]) (rest := []) (els := [.int x1]) rfl rfl rfl rfl rfl rfl rfl rfl (by omega) ?_
    refine sp_m_isSheet (by omega) (fun k hk e => absurd e (hnx1 k hk)) (fun _ => ?_)
    show am_wp L xs _ _ _ _ 4 [.ref 74, .int x1] [.int 0] (am_S b) (am_u h 73 1 (h 73 1 + 1)) _
    refine wp_if_f rfl (show ¬ (¬ (0 : Int32) = 0) from by decide) ?_
    refine wp_run 2 (pc' := 27) (ls' := [.ref 74, .int x1]) (st' := [.int (-1000000001)]) rfl ?_
    refine wp_ret rfl ?_
    show am_wp L xs _ _ _ _ 5 [.ref 74, .int x1, am_du, am_du, am_du, am_du] [.int (-1000000001)] (am_S b) (am_u h 73 1 (h 73 1 + 1)) _
    refine wp_run 2 (pc' := 7) (ls' := [.ref 74, .int x1, .int (-1000000001), am_du, am_du, am_du]) (st' := [.int (-1000000001)]) rfl ?_
    refine wp_if_f rfl (show ¬ (((-1000000001) : Int32) = 0) from by decide) ?_
    refine wp_run 2 (pc' := 12) (ls' := [.ref 74, .int x1, .int (-1000000001), am_du, am_du, am_du]) (st' := [.int (-1000000001), .ref 74]) rfl ?_
    refine wp_callV (o := 74) (as := [.int (-1000000001)]) (rest := []) (els := [.ref 74, .int (-1000000001)]) rfl rfl rfl rfl rfl rfl rfl rfl (by omega) ?_
    refine sp_error1 ?_
    show am_wp L xs _ _ _ _ 15 [.ref 74, .int x1, .int (-1000000001), am_du, am_du, am_du] [.int (-1000000001)] (am_S b) (am_u (am_u h 73 1 (h 73 1 + 1)) 77 1 ((am_u h 73 1 (h 73 1 + 1)) 77 1 + 1)) _
    refine wp_ret rfl ?_
    exact kk2 _ _ (re_err1 hR)
