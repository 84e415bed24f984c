/-! calls tied: night, nights, loose -/
def re_scr : List Nat := [1, 2, 3, 4, 5, 6, 7, 8, 9, 10, 11, 12, 13, 14, 15, 16, 17, 18, 19, 20, 21, 22, 23, 45, 46, 47, 48, 49, 50, 51, 52, 53, 54, 55, 56, 57, 58, 59, 60, 61, 64, 75, 81, 82, 83, 84, 85, 86, 87, 88, 89, 90]
theorem re_keep {N : Nat} {h Y : am_HI} (hR : am_Rel N h) (q : ∀ a, re_scr.elem a = false → Y a = h a) (Hn : ∃ n c t tp wt s0 s1 p0 p1, re_H Y n c t tp wt s0 s1 p0 p1) : am_Rel (N + 1) Y := by
  obtain ⟨-, hI, hE, hS0, hS1, hS2, hS3, hT⟩ := hR
  refine ⟨Hn, ?_, ?_, ?_, ?_, ?_, ?_, ?_⟩
  · unfold re_K
    rw [q 0 rfl, q 74 rfl, q 24 rfl, q 25 rfl, q 26 rfl, q 27 rfl, q 28 rfl, q 29 rfl, q 30 rfl, q 31 rfl, q 32 rfl, q 33 rfl, q 34 rfl, q 35 rfl, q 37 rfl, q 38 rfl, q 39 rfl, q 42 rfl, q 43 rfl, q 44 rfl, q 76 rfl]
    exact re_im_s hI
  · rw [q 73 rfl, q 77 rfl]
    exact hE
  · rw [q 65 rfl, q 66 rfl, q 78 rfl, q 79 rfl, q 80 rfl]
    exact hS0
  · rw [q 67 rfl, q 68 rfl, q 78 rfl, q 79 rfl, q 80 rfl]
    exact hS1
  · rw [q 69 rfl, q 70 rfl, q 78 rfl, q 79 rfl, q 80 rfl]
    exact hS2
  · rw [q 71 rfl, q 72 rfl, q 78 rfl, q 79 rfl, q 80 rfl]
    exact hS3
  · rw [q 62 rfl, q 63 rfl, q 74 rfl, q 91 rfl]
    exact hT
section ReNights
variable {h X Y : am_HI} {n c t tp wt : Nat} {s0 s1 : Int32} {p0 p1 : List Int32}
theorem re_LK (H : re_H h n c t tp wt s0 s1 p0 p1) (t2 : Nat) {j g : Nat} (hj : j < c) (hg : g < n) : ms_LK (h 75) s0 p0 t2 j g = ab_LK h s0 p0 t2 j g := by
  have h1 := H.2.2.2.2.1 g (by have := H.1.2.2; omega)
  have h2 := H.2.2.2.2.2.1 j (by have := H.2.1.2.2; omega)
  unfold ms_LK ab_LK
  rw [h1.1, h1.2.1, h1.2.2.1, h2.1, h2.2.1]
theorem re_MK (H : re_H h n c t tp wt s0 s1 p0 p1) (t2 : Nat) {j g : Nat} (hj : j < c) (hg : g < n) : ms_MK (h 75) s1 p1 t2 j g = ab_MK h s1 p1 t2 j g := by
  have h1 := H.2.2.2.2.1 g (by have := H.1.2.2; omega)
  have h2 := H.2.2.2.2.2.1 j (by have := H.2.1.2.2; omega)
  unfold ms_MK ab_MK
  rw [h1.1, h2.1, h2.2.1, h2.2.2]
theorem re_ms75 (HM : am_ms h n c t s0 s1 p0 p1) (e : X 75 = h 75) : am_ms X n c t s0 s1 p0 p1 := by
  unfold am_ms
  rw [e]
  exact HM
theorem re_rm0 (H : re_H h n c t tp wt s0 s1 p0 p1) (e : X 75 = h 75) : rm_st X X (h 5) t (h 1 13) (h 1 14) := by
  refine ⟨fun _ _ => rfl, ?_⟩
  rw [e, H.2.2.2.1.1, H.2.2.2.1.2]
  exact (md_r_self (fun g hg => (H.2.2.2.2.1 g hg).2.2.2) H.2.2.1.2.1).symm
theorem re_w (H : re_H h n c t tp wt s0 s1 p0 p1) : ab_w c n (h 5) := fun g hg => (H.2.2.2.2.2.2.1 g hg).2.2.2
theorem re_nights {N t2 : Nat} {e : Nat → Int32} {gl z : Int32} (hR : am_Rel N h) (H : re_H h n c t tp wt s0 s1 p0 p1) (hX : cl_st h X e t2 gl z) (hY : rm_st X Y e t2 gl z) (hw : ab_w c n e) (ht : t2 ≤ 9999) : am_Rel (N + 1) Y := by
  have q : ∀ a, [1, 5, 17, 18, 22, 23, 47, 48, 75, 83, 84].elem a = false → Y a = h a := fun a ha => (hY.1 a (am_sub ha rfl)).trans (hX.1 a (am_sub ha rfl))
  refine re_keep hR (fun a ha => q a (am_sub ha rfl)) ⟨n, c, t2, tp, wt, s0, s1, p0, p1, ?_⟩
  have e1 : Y 1 = upd (upd (upd (h 1) 12 (nI t2)) 13 gl) 14 z := (hY.1 1 rfl).trans hX.2.2
  have e5 : Y 5 = e := (hY.1 5 rfl).trans hX.2.1
  have e75 : Y 75 = md_r (h 75) e t2 gl z := by rw [hY.2, hX.1 75 rfl]
  have off : ∀ k, ¬ (7 ≤ k ∧ k < 35 ∧ (k - 7) % 4 = 3) → k ≠ 0 → k ≠ 4 → k ≠ 1 → md_r (h 75) e t2 gl z k = h 75 k := fun k a b c d => md_r_off a b c d
  unfold re_H
  rw [e1, e5, e75, q 2 rfl, q 3 rfl, q 4 rfl, q 6 rfl, q 7 rfl, q 8 rfl, q 9 rfl, q 10 rfl, q 11 rfl, q 12 rfl, q 14 rfl, q 15 rfl, q 16 rfl, q 19 rfl, q 20 rfl, q 21 rfl]
  have hn7 := H.1.2.2
  refine ⟨⟨H.1.1, (off 2 (by omega) (by omega) (by omega) (by omega)).trans H.1.2.1, hn7⟩, ⟨H.2.1.1, (off 3 (by omega) (by omega) (by omega) (by omega)).trans H.2.1.2.1, H.2.1.2.2⟩, ⟨rfl, rfl, ht⟩, ⟨rfl, rfl⟩, ?_, re_g6 H.2.2.2.2.2.1 (fun i h1 h2 => off i (by omega) (by omega) (by omega) (by omega)), ?_, H.2.2.2.2.2.2.2.1, ?_, ?_,
    re_law_m H.2.2.2.2.2.2.2.2.2.2.1 (fun i h1 h2 => off i (by omega) (by omega) (by omega) (by omega)), re_law_m H.2.2.2.2.2.2.2.2.2.2.2 (fun i h1 h2 => off i (by omega) (by omega) (by omega) (by omega))⟩
  · intro g hg
    obtain ⟨h1, h2, h3, -⟩ := H.2.2.2.2.1 g hg
    exact ⟨h1.trans (off _ (by omega) (by omega) (by omega) (by omega)).symm, h2.trans (off _ (by omega) (by omega) (by omega) (by omega)).symm, h3.trans (off _ (by omega) (by omega) (by omega) (by omega)).symm, (md_r_at hg).symm⟩
  · intro g hg
    obtain ⟨h1, h2, h3, -⟩ := H.2.2.2.2.2.2.1 g hg
    exact ⟨h1, h2, h3, hw g hg⟩
  · have h9 := H.2.2.2.2.2.2.2.2.1
    exact ⟨h9.1, (off 5 (by omega) (by omega) (by omega) (by omega)).trans h9.2.1, h9.2.2.1, re_g9 h9.2.2.1 h9.2.2.2 (fun i h1 h2 => off i (by omega) (by omega) (by omega) (by omega))⟩
  · have h9 := H.2.2.2.2.2.2.2.2.2.1
    exact ⟨h9.1, (off 6 (by omega) (by omega) (by omega) (by omega)).trans h9.2.1, h9.2.2.1, re_g10 h9.2.2.1 h9.2.2.2 (fun i h1 h2 => off i (by omega) (by omega) (by omega) (by omega))⟩
end ReNights
theorem op_night {L : Nat} {xs : Nat → Int32} {d ms b N : Nat} {h : am_HI} {Q : am_Q}  (hd : 30 ≤ d) (hR : am_Rel N h) (hN : N < 100000)
    (kk : ∀ v b1 h1, (∀ ms2 Q2, (∀ b2 h2, am_Rel (N + 1) h2 → Q2 (some (.int v)) (am_S b2) h2) → am_wp L xs d 0 ms2 176 0 [.ref 74] [] (am_S b1) h1 Q2) → Q (some (.int v)) (am_S b1) h1) :
    am_wp L xs d 0 ms 68 0 [.ref 0] [] (am_S b) h Q := by
  obtain ⟨⟨n, c, t, tp, wt, s0, s1, p0, p1, H⟩, hI, hE, hS0, hS1, hS2, hS3, hT⟩ := id hR
  have hn := H.1.1
  have hm2 := H.1.2.1
  have hn7 := H.1.2.2
  have hc := H.2.1.1
  have hm3 := H.2.1.2.1
  have hc7 := H.2.1.2.2
  have ht := H.2.2.1.1
  have hm0 := H.2.2.1.2.1
  have ht9 := H.2.2.1.2.2
  have HS := re_hs H
  have HM := re_ms H
  refine wp_run 1 (pc' := 1) (ls' := [.ref 0]) (st' := [.ref 0]) rfl ?_
  refine wp_getr 1 rfl rfl rfl ?_
  refine wp_geti (a := 12) (nI t) ht rfl rfl rfl ?_
  refine wp_run 1 (pc' := 10) (ls' := [.ref 0]) (st' := [.int 9999, .int (nI t)]) rfl ?_
  refine wp_icmp rfl (fun (cq10 : (nI t) < 9999) => ?_) (fun (cq10 : ¬ ((nI t) < 9999)) => ?_)
  · skip
    have cq10n : t < 9999 := (nI_ltI (a := t) (b := 9999) (by omega) (by omega)).mp cq10
    refine wp_run 1 (pc' := 20) (ls' := [.ref 0]) (st' := [.ref 0]) rfl ?_
    refine wp_getr 1 rfl rfl rfl ?_
    refine wp_callV (o := 1) (as := []) (rest := []) (els := [.ref 1, am_du, am_du]) rfl rfl rfl rfl rfl rfl rfl rfl (by omega) ?_
    refine sp_endNight HS ht9 (re_w H) (cl_0 ht) (by omega) (fun X2 hX2 => ?_)
    show am_wp L xs _ _ _ _ 26 [.ref 0] [.int (ab_sum (ab_mkn (ab_MK h s1 p1 t) (h 5)) n)] (am_S b) X2 _
    refine wp_ret rfl ?_
    refine kk _ _ _ (fun ms2 Q2 kk2 => ?_)
    refine wp_run 1 (pc' := 1) (ls' := [.ref 74]) (st' := [.ref 74]) rfl ?_
    refine wp_getr 75 rfl rfl rfl ?_
    refine wp_run 1 (pc' := 5) (ls' := [.ref 74]) (st' := [.int 0, .ref 75]) rfl ?_
    refine wp_ald (i := 0) (nI t) (show X2 75 0 = nI t from by rw [hX2.1 75 rfl]; exact hm0) rfl rfl rfl (by decide) rfl ?_
    refine wp_run 1 (pc' := 9) (ls' := [.ref 74]) (st' := [.int 9999, .int (nI t)]) rfl ?_
    refine wp_icmp_t rfl (show ¬ (nI t) = 9999 from mt (nI_eq (a := t) (b := 9999) (by omega) (by omega)).mp (by omega)) ?_
    refine wp_run 1 (pc' := 22) (ls' := [.ref 74]) (st' := [.ref 74]) rfl ?_
    refine wp_callV (o := 74) (as := []) (rest := []) (els := [.ref 74, am_du, am_du]) rfl rfl rfl rfl rfl rfl rfl rfl (by omega) ?_
    refine sp_goes (h := X2) (re_ms75 HM (hX2.1 75 rfl)) ht9 (re_w H) (MK := ab_MK h s1 p1) (fun t2 j g hj hg => by rw [hX2.1 75 rfl]; exact re_MK H t2 hj hg) (re_rm0 H (hX2.1 75 rfl)) (by omega) (fun Y2 hY2 => ?_)
    show am_wp L xs _ _ _ _ 25 [.ref 74] [.int (ab_sum (ab_mkn (ab_MK h s1 p1 t) (h 5)) n)] (am_S b) Y2 _
    refine wp_ret rfl ?_
    exact kk2 _ _ (re_nights hR H hX2 hY2 ab_un_w (by omega))
  · skip
    have cq10n : ¬ (t < 9999) := fun q => cq10 ((nI_ltI (a := t) (b := 9999) (by omega) (by omega)).mpr q)
    refine wp_run 2 (pc' := 15) (ls' := [.ref 0]) (st' := [.int 3, .ref 0]) rfl ?_
    refine wp_callV (o := 0) (as := [.int 3]) (rest := []) (els := [.ref 0, .int 3]) rfl rfl rfl rfl rfl rfl rfl rfl (by omega) ?_
    refine sp_refuse3 (by omega) ?_
    show am_wp L xs _ _ _ _ 18 [.ref 0] [.int (-1000000003)] (am_S b) (am_u h 73 3 (h 73 3 + 1)) _
    refine wp_ret rfl ?_
    refine kk _ _ _ (fun ms2 Q2 kk2 => ?_)
    refine wp_run 1 (pc' := 1) (ls' := [.ref 74]) (st' := [.ref 74]) rfl ?_
    refine wp_getr 75 rfl rfl rfl ?_
    refine wp_run 1 (pc' := 5) (ls' := [.ref 74]) (st' := [.int 0, .ref 75]) rfl ?_
    refine wp_ald (i := 0) (nI t) hm0 rfl rfl rfl (by decide) rfl ?_
    refine wp_run 1 (pc' := 9) (ls' := [.ref 74]) (st' := [.int 9999, .int (nI t)]) rfl ?_
    refine wp_icmp_f rfl (show ¬ (¬ (nI t) = 9999) from (fun q => q ((nI_eq (a := t) (b := 9999) (by omega) (by omega)).mpr (by omega)))) ?_
    refine wp_run 2 (pc' := 15) (ls' := [.ref 74]) (st' := [.int (-1000000003), .ref 74]) rfl ?_
    refine wp_callV (o := 74) (as := [.int (-1000000003)]) (rest := []) (els := [.ref 74, .int (-1000000003)]) rfl rfl rfl rfl rfl rfl rfl rfl (by omega) ?_
    refine sp_error3 ?_
    show am_wp L xs _ _ _ _ 18 [.ref 74] [.int (-1000000003)] (am_S b) (am_u (am_u h 73 3 (h 73 3 + 1)) 77 3 ((am_u h 73 3 (h 73 3 + 1)) 77 3 + 1)) _
    refine wp_run 1 (pc' := 25) (ls' := [.ref 74]) (st' := [.int (-1000000003)]) rfl ?_
    refine wp_ret rfl ?_
    exact kk2 _ _ (re_err3 hR)
theorem sp_x_btw {L : Nat} {xs : Nat → Int32} {d ms : Nat} {h : am_HI} {sh : am_SH} {Q : am_Q} {v v1 : Int32} {m : Nat} (hm : Nat.blt m 2147483648 = true) (e : v1 = nI m) (h1m : Nat.blt 0 m = true) (kt : ∀ k, 1 ≤ k → k ≤ m → v = nI k → Q (some (.int 1)) sh h) (kf : (∀ k, 1 ≤ k → k ≤ m → v ≠ nI k) → Q (some (.int 0)) sh h) : am_wp L xs d 0 ms 11 0 [.int v, .int 1, .int v1] [] sh h Q := by
  have hm := Nat.le_of_ble_eq_true hm
  have h1m := Nat.le_of_ble_eq_true h1m
  subst e
  refine sp_x_within (fun q => ?_) (fun q => kf (fun k h1 h2 e => q ((pu_btw (a := 1) (m := m) h1m (by omega)).mpr ⟨k, h1, h2, e⟩)))
  obtain ⟨k, h1, h2, e⟩ := (pu_btw (a := 1) (m := m) h1m (by omega)).mp q
  exact kt k h1 h2 e
theorem sp_m_btw {L : Nat} {xs : Nat → Int32} {d ms : Nat} {h : am_HI} {sh : am_SH} {Q : am_Q} {v v1 : Int32} {m : Nat} (hm : Nat.blt m 2147483648 = true) (e : v1 = nI m) (h1m : Nat.blt 0 m = true) (kt : ∀ k, 1 ≤ k → k ≤ m → v = nI k → Q (some (.int 1)) sh h) (kf : (∀ k, 1 ≤ k → k ≤ m → v ≠ nI k) → Q (some (.int 0)) sh h) : am_wp L xs d 0 ms 131 0 [.int v, .int 1, .int v1] [] sh h Q := by
  have hm := Nat.le_of_ble_eq_true hm
  have h1m := Nat.le_of_ble_eq_true h1m
  subst e
  refine sp_m_in (fun q => ?_) (fun q => kf (fun k h1 h2 e => q ((pu_btw (a := 1) (m := m) h1m (by omega)).mpr ⟨k, h1, h2, e⟩)))
  obtain ⟨k, h1, h2, e⟩ := (pu_btw (a := 1) (m := m) h1m (by omega)).mp q
  exact kt k h1 h2 e
def cl_S (h X : am_HI) (s : ab_S) : Prop := cl_st h X s.1 s.2.1 s.2.2.1 s.2.2.2.1
def rm_S (h X : am_HI) (s : ab_S) : Prop := rm_st h X s.1 s.2.1 s.2.2.1 s.2.2.2.1
section AbEn
variable {h X : am_HI} {MK : Nat → Nat → Nat → Int32} {c n t : Nat} {e : Nat → Int32} {gl z a : Int32}
theorem ab_en_w : ab_w c n (ab_en MK n (e, t, gl, z, a)).1 := ab_un_w
theorem ab_en_t : (ab_en MK n (e, t, gl, z, a)).2.1 = t + 1 := rfl
theorem ab_en_a : (ab_en MK n (e, t, gl, z, a)).2.2.2.2 = a + ab_sum (ab_mkn (MK t) e) n := by
  unfold ab_en
  exact rfl
theorem cl_S_mk (h1 : cl_st h X e t gl z) : cl_S h X (e, t, gl, z, a) := h1
theorem rm_S_mk (h1 : rm_st h X e t gl z) : rm_S h X (e, t, gl, z, a) := h1
theorem cl_S_en (h1 : cl_st h X (ab_un e n) (t + 1) (pu_held (gl + ab_sum (ab_mkn (MK t) e) n) (-99999) 99999) z) : cl_S h X (ab_en MK n (e, t, gl, z, a)) := by
  unfold cl_S ab_en
  exact h1
theorem rm_S_en (h1 : rm_st h X (ab_un e n) (t + 1) (pu_held (gl + ab_sum (ab_mkn (MK t) e) n) (-99999) 99999) z) : rm_S h X (ab_en MK n (e, t, gl, z, a)) := by
  unfold rm_S ab_en
  exact h1
end AbEn
theorem ab_n1_e {LK MK : Nat → Nat → Nat → Int32} {c n : Nat} {s : ab_S} (h : ¬ n = 0) : ab_n1 LK MK c n s = ab_en MK n (ab_all (LK s.2.1) c n (ab_fst n (s.2.2.2.1 * 1103515245 + 12345)) s.1 n, s.2.1, s.2.2.1, s.2.2.2.1 * 1103515245 + 12345, s.2.2.2.2) := if_neg h
theorem ab_n1_z {LK MK : Nat → Nat → Nat → Int32} {c n : Nat} {s : ab_S} (h : n = 0) : ab_n1 LK MK c n s = ab_en MK n (s.1, s.2.1, s.2.2.1, s.2.2.2.1, s.2.2.2.2) := if_pos h
theorem lp_nights {L : Nat} {xs : Nat → Int32} {d ms b : Nat} {h : am_HI} {Q : am_Q} {n c t0 k : Nat} {s0 s1 : Int32} {p0 p1 : List Int32} (HS : am_hs h n c t0 s0 s1 p0 p1) (hk : k ≤ 30) (hd : 9 ≤ d) :
    ∀ (m i : Nat) (X : am_HI) (s : ab_S), i + m = k → ab_w c n s.1 → s.2.1 + m ≤ 9999 → cl_S h X s → (kk : ∀ X2, cl_S h X2 (ab_it (ab_n0 (ab_LK h s0 p0) (ab_MK h s1 p1) c n) m s) → Q (some (.int (ab_it (ab_n0 (ab_LK h s0 p0) (ab_MK h s1 p1) c n) m s).2.2.2.2)) (am_S b) X2) → am_wp L xs d 0 ms 71 41 [.ref 0, .int (nI k), .int s.2.2.2.2, .int (nI i)] [] (am_S b) X Q := by
  have hn7 := HS.2.2.2.1
  have hc7 := HS.2.2.2.2.1
  intro m
  induction m with
  | zero =>
    intro i X s hi hw ht hX kk
    refine wp_run 2 (pc' := 43) (ls' := [.ref 0, .int (nI k), .int s.2.2.2.2, .int (nI i)]) (st' := [.int (nI k), .int (nI i)]) rfl ?_
    refine wp_icmp_t rfl (show (nI k) ≤ (nI i) from (nI_leI (a := k) (b := i) (by omega) (by omega)).mpr (by omega)) ?_
    refine wp_run 1 (pc' := 68) (ls' := [.ref 0, .int (nI k), .int s.2.2.2.2, .int (nI i)]) (st' := [.int s.2.2.2.2]) rfl ?_
    refine wp_ret rfl ?_
    exact kk X hX
  | succ m ih =>
    intro i X s hi hw ht hX kk
    have HX := cl_hs HS hX hw (by omega)
    refine wp_run 2 (pc' := 43) (ls' := [.ref 0, .int (nI k), .int s.2.2.2.2, .int (nI i)]) (st' := [.int (nI k), .int (nI i)]) rfl ?_
    refine wp_icmp_f rfl (show ¬ ((nI k) ≤ (nI i)) from mt (nI_leI (a := k) (b := i) (by omega) (by omega)).mp (by omega)) ?_
    refine wp_run 2 (pc' := 48) (ls' := [.ref 0, .int (nI k), .int s.2.2.2.2, .int (nI i)]) (st' := [.int 0, .ref 0]) rfl ?_
    refine wp_callV (o := 0) (as := [.int 0]) (rest := []) (els := [.ref 0, .int 0, am_du, am_du]) rfl rfl rfl rfl rfl rfl rfl rfl (by omega) ?_
    refine sp_allLeave HS (t := s.2.1) (by omega) (f := 0) (by omega) hw hX (by omega) (fun X2 hX2 => ?_)
    show am_wp L xs _ _ _ _ 51 [.ref 0, .int (nI k), .int s.2.2.2.2, .int (nI i)] [] (am_S b) X2 _
    refine wp_run 2 (pc' := 53) (ls' := [.ref 0, .int (nI k), .int s.2.2.2.2, .int (nI i)]) (st' := [.ref 0, .int s.2.2.2.2]) rfl ?_
    refine wp_getr 1 rfl rfl rfl ?_
    refine wp_callV (o := 1) (as := []) (rest := [.int s.2.2.2.2]) (els := [.ref 1, am_du, am_du]) rfl rfl rfl rfl rfl rfl rfl rfl (by omega) ?_
    refine sp_endNight HS (t := s.2.1) (by omega) (ab_all_w hc7 hw n) hX2 (by omega) (fun X3 hX3 => ?_)
    show am_wp L xs _ _ _ _ 59 [.ref 0, .int (nI k), .int s.2.2.2.2, .int (nI i)] [.int (ab_sum (ab_mkn (ab_MK h s1 p1 s.2.1) (ab_all (ab_LK h s0 p0 s.2.1) c n 0 s.1 n)) n), .int s.2.2.2.2] (am_S b) X3 _
    refine wp_run 4 (pc' := 41) (ls' := [.ref 0, .int (nI k), .int (s.2.2.2.2 + (ab_sum (ab_mkn (ab_MK h s1 p1 s.2.1) (ab_all (ab_LK h s0 p0 s.2.1) c n 0 s.1 n)) n)), .int ((nI i) + 1)]) (st' := []) rfl ?_
    rw [show (((nI i) + 1) : Int32) = (nI (i + 1)) from nI_add i 1]
    have ef : (ab_n0 (ab_LK h s0 p0) (ab_MK h s1 p1) c n) s = ab_en (ab_MK h s1 p1) n ((ab_all (ab_LK h s0 p0 s.2.1) c n 0 s.1 n), s.2.1, s.2.2.1, s.2.2.2.1, s.2.2.2.2) := rfl
    have q := ih (i + 1) X3 ((ab_n0 (ab_LK h s0 p0) (ab_MK h s1 p1) c n) s) (by omega) (by rw [ef]; exact ab_en_w) (by rw [ef, ab_en_t]; omega) (by rw [ef]; exact cl_S_en hX3) kk
    rw [ef, ab_en_a] at q
    exact q
theorem lp_loose {L : Nat} {xs : Nat → Int32} {d ms b : Nat} {h : am_HI} {Q : am_Q} {n c t0 k : Nat} {s0 s1 : Int32} {p0 p1 : List Int32} (HS : am_hs h n c t0 s0 s1 p0 p1) (hk : k ≤ 30) (hd : 9 ≤ d) :
    ∀ (m i : Nat) (X : am_HI) (s : ab_S), i + m = k → ab_w c n s.1 → s.2.1 + m ≤ 9999 → cl_S h X s → (kk : ∀ X2, cl_S h X2 (ab_it (ab_n1 (ab_LK h s0 p0) (ab_MK h s1 p1) c n) m s) → Q (some (.int (ab_it (ab_n1 (ab_LK h s0 p0) (ab_MK h s1 p1) c n) m s).2.2.2.2)) (am_S b) X2) → am_wp L xs d 0 ms 73 41 [.ref 0, .int (nI k), .int s.2.2.2.2, .int (nI i)] [] (am_S b) X Q := by
  have hn7 := HS.2.2.2.1
  have hc7 := HS.2.2.2.2.1
  intro m
  induction m with
  | zero =>
    intro i X s hi hw ht hX kk
    refine wp_run 2 (pc' := 43) (ls' := [.ref 0, .int (nI k), .int s.2.2.2.2, .int (nI i)]) (st' := [.int (nI k), .int (nI i)]) rfl ?_
    refine wp_icmp_t rfl (show (nI k) ≤ (nI i) from (nI_leI (a := k) (b := i) (by omega) (by omega)).mpr (by omega)) ?_
    refine wp_run 1 (pc' := 74) (ls' := [.ref 0, .int (nI k), .int s.2.2.2.2, .int (nI i)]) (st' := [.int s.2.2.2.2]) rfl ?_
    refine wp_ret rfl ?_
    exact kk X hX
  | succ m ih =>
    intro i X s hi hw ht hX kk
    have HX := cl_hs HS hX hw (by omega)
    rcases Nat.eq_zero_or_pos n with h0 | h0
    · skip
      refine wp_run 2 (pc' := 43) (ls' := [.ref 0, .int (nI k), .int s.2.2.2.2, .int (nI i)]) (st' := [.int (nI k), .int (nI i)]) rfl ?_
      refine wp_icmp_f rfl (show ¬ ((nI k) ≤ (nI i)) from mt (nI_leI (a := k) (b := i) (by omega) (by omega)).mp (by omega)) ?_
      refine wp_run 2 (pc' := 48) (ls' := [.ref 0, .int (nI k), .int s.2.2.2.2, .int (nI i)]) (st' := [.ref 0, .ref 0]) rfl ?_
      refine wp_getr 1 rfl rfl rfl ?_
      refine wp_callV (o := 1) (as := []) (rest := [.ref 0]) (els := [.ref 1]) rfl rfl rfl rfl rfl rfl rfl rfl (by omega) ?_
      refine sp_drawnGuest0 (HX.1.trans (by rw [h0])) ?_
      show am_wp L xs _ _ _ _ 54 [.ref 0, .int (nI k), .int s.2.2.2.2, .int (nI i)] [.int 0, .ref 0] (am_S b) X _
      refine wp_callV (o := 0) (as := [.int 0]) (rest := []) (els := [.ref 0, .int 0, am_du, am_du]) rfl rfl rfl rfl rfl rfl rfl rfl (by omega) ?_
      refine sp_allLeave HS (t := s.2.1) (by omega) (f := 0) (by omega) hw hX (by omega) (fun X2 hX2 => ?_)
      show am_wp L xs _ _ _ _ 57 [.ref 0, .int (nI k), .int s.2.2.2.2, .int (nI i)] [] (am_S b) X2 _
      refine wp_run 2 (pc' := 59) (ls' := [.ref 0, .int (nI k), .int s.2.2.2.2, .int (nI i)]) (st' := [.ref 0, .int s.2.2.2.2]) rfl ?_
      refine wp_getr 1 rfl rfl rfl ?_
      refine wp_callV (o := 1) (as := []) (rest := [.int s.2.2.2.2]) (els := [.ref 1, am_du, am_du]) rfl rfl rfl rfl rfl rfl rfl rfl (by omega) ?_
      refine sp_endNight HS (t := s.2.1) (by omega) (ab_all_w hc7 hw n) hX2 (by omega) (fun X3 hX3 => ?_)
      show am_wp L xs _ _ _ _ 65 [.ref 0, .int (nI k), .int s.2.2.2.2, .int (nI i)] [.int (ab_sum (ab_mkn (ab_MK h s1 p1 s.2.1) (ab_all (ab_LK h s0 p0 s.2.1) c n 0 s.1 n)) n), .int s.2.2.2.2] (am_S b) X3 _
      refine wp_run 4 (pc' := 41) (ls' := [.ref 0, .int (nI k), .int (s.2.2.2.2 + (ab_sum (ab_mkn (ab_MK h s1 p1 s.2.1) (ab_all (ab_LK h s0 p0 s.2.1) c n 0 s.1 n)) n)), .int ((nI i) + 1)]) (st' := []) rfl ?_
      rw [show (((nI i) + 1) : Int32) = (nI (i + 1)) from nI_add i 1]
      have ef : (ab_n1 (ab_LK h s0 p0) (ab_MK h s1 p1) c n) s = ab_en (ab_MK h s1 p1) n ((ab_all (ab_LK h s0 p0 s.2.1) c n 0 s.1 n), s.2.1, s.2.2.1, s.2.2.2.1, s.2.2.2.2) := (ab_n1_z h0).trans (by rw [show (ab_all (ab_LK h s0 p0 s.2.1) c n 0 s.1 n) = s.1 from by rw [h0]; rfl])
      have q := ih (i + 1) X3 ((ab_n1 (ab_LK h s0 p0) (ab_MK h s1 p1) c n) s) (by omega) (by rw [ef]; exact ab_en_w) (by rw [ef, ab_en_t]; omega) (by rw [ef]; exact cl_S_en hX3) kk
      rw [ef, ab_en_a] at q
      exact q
    · skip
      refine wp_run 2 (pc' := 43) (ls' := [.ref 0, .int (nI k), .int s.2.2.2.2, .int (nI i)]) (st' := [.int (nI k), .int (nI i)]) rfl ?_
      refine wp_icmp_f rfl (show ¬ ((nI k) ≤ (nI i)) from mt (nI_leI (a := k) (b := i) (by omega) (by omega)).mp (by omega)) ?_
      refine wp_run 2 (pc' := 48) (ls' := [.ref 0, .int (nI k), .int s.2.2.2.2, .int (nI i)]) (st' := [.ref 0, .ref 0]) rfl ?_
      refine wp_getr 1 rfl rfl rfl ?_
      refine wp_callV (o := 1) (as := []) (rest := [.ref 0]) (els := [.ref 1]) rfl rfl rfl rfl rfl rfl rfl rfl (by omega) ?_
      refine sp_drawnGuest (n := n) HX.1 hn7 h0 ?_
      rw [show X 1 14 = s.2.2.2.1 from by rw [hX.2.2]; rfl]
      have hf := ab_draw (z := s.2.2.2.1 * 1103515245 + 12345) h0 hn7
      rw [hf.1]
      show am_wp L xs _ _ _ _ 54 [.ref 0, .int (nI k), .int s.2.2.2.2, .int (nI i)] [.int (nI (ab_fst n (s.2.2.2.1 * 1103515245 + 12345))), .ref 0] (am_S b) (am_u X 1 14 (s.2.2.2.1 * 1103515245 + 12345)) _
      refine wp_callV (o := 0) (as := [.int (nI (ab_fst n (s.2.2.2.1 * 1103515245 + 12345)))]) (rest := []) (els := [.ref 0, .int (nI (ab_fst n (s.2.2.2.1 * 1103515245 + 12345))), am_du, am_du]) rfl rfl rfl rfl rfl rfl rfl rfl (by omega) ?_
      refine sp_allLeave HS (t := s.2.1) (by omega) (f := ab_fst n (s.2.2.2.1 * 1103515245 + 12345)) (by omega) hw (cl_z hX) (by omega) (fun X2 hX2 => ?_)
      show am_wp L xs _ _ _ _ 57 [.ref 0, .int (nI k), .int s.2.2.2.2, .int (nI i)] [] (am_S b) X2 _
      refine wp_run 2 (pc' := 59) (ls' := [.ref 0, .int (nI k), .int s.2.2.2.2, .int (nI i)]) (st' := [.ref 0, .int s.2.2.2.2]) rfl ?_
      refine wp_getr 1 rfl rfl rfl ?_
      refine wp_callV (o := 1) (as := []) (rest := [.int s.2.2.2.2]) (els := [.ref 1, am_du, am_du]) rfl rfl rfl rfl rfl rfl rfl rfl (by omega) ?_
      refine sp_endNight HS (t := s.2.1) (by omega) (ab_all_w hc7 hw n) hX2 (by omega) (fun X3 hX3 => ?_)
      show am_wp L xs _ _ _ _ 65 [.ref 0, .int (nI k), .int s.2.2.2.2, .int (nI i)] [.int (ab_sum (ab_mkn (ab_MK h s1 p1 s.2.1) (ab_all (ab_LK h s0 p0 s.2.1) c n (ab_fst n (s.2.2.2.1 * 1103515245 + 12345)) s.1 n)) n), .int s.2.2.2.2] (am_S b) X3 _
      refine wp_run 4 (pc' := 41) (ls' := [.ref 0, .int (nI k), .int (s.2.2.2.2 + (ab_sum (ab_mkn (ab_MK h s1 p1 s.2.1) (ab_all (ab_LK h s0 p0 s.2.1) c n (ab_fst n (s.2.2.2.1 * 1103515245 + 12345)) s.1 n)) n)), .int ((nI i) + 1)]) (st' := []) rfl ?_
      rw [show (((nI i) + 1) : Int32) = (nI (i + 1)) from nI_add i 1]
      have ef : (ab_n1 (ab_LK h s0 p0) (ab_MK h s1 p1) c n) s = ab_en (ab_MK h s1 p1) n ((ab_all (ab_LK h s0 p0 s.2.1) c n (ab_fst n (s.2.2.2.1 * 1103515245 + 12345)) s.1 n), s.2.1, s.2.2.1, s.2.2.2.1 * 1103515245 + 12345, s.2.2.2.2) := ab_n1_e (by omega)
      have q := ih (i + 1) X3 ((ab_n1 (ab_LK h s0 p0) (ab_MK h s1 p1) c n) s) (by omega) (by rw [ef]; exact ab_en_w) (by rw [ef, ab_en_t]; omega) (by rw [ef]; exact cl_S_en hX3) kk
      rw [ef, ab_en_a] at q
      exact q
theorem lp_m_nights {L : Nat} {xs : Nat → Int32} {d ms b : Nat} {h : am_HI} {Q : am_Q} {n c t0 k : Nat} {s0 s1 : Int32} {p0 p1 : List Int32} {LK MK : Nat → Nat → Nat → Int32} (HM : am_ms h n c t0 s0 s1 p0 p1) (hk : k ≤ 30) (hLK : ∀ t j g, j < c → g < n → ms_LK (h 75) s0 p0 t j g = LK t j g) (hMK : ∀ t j g, j < c → g < n → ms_MK (h 75) s1 p1 t j g = MK t j g) (hd : 9 ≤ d) :
    ∀ (m i : Nat) (X : am_HI) (s : ab_S), i + m = k → ab_w c n s.1 → s.2.1 + m ≤ 9999 → rm_S h X s → (kk : ∀ X2, rm_S h X2 (ab_it (ab_n0 LK MK c n) m s) → Q (some (.int (ab_it (ab_n0 LK MK c n) m s).2.2.2.2)) (am_S b) X2) → am_wp L xs d 0 ms 178 42 [.ref 74, .int (nI k), .int s.2.2.2.2, .int (nI i)] [] (am_S b) X Q := by
  have hn7 := HM.2.2.2.1
  have hc7 := HM.2.2.2.2.1
  intro m
  induction m with
  | zero =>
    intro i X s hi hw ht hX kk
    refine wp_run 2 (pc' := 44) (ls' := [.ref 74, .int (nI k), .int s.2.2.2.2, .int (nI i)]) (st' := [.int (nI k), .int (nI i)]) rfl ?_
    refine wp_icmp_t rfl (show (nI k) ≤ (nI i) from (nI_leI (a := k) (b := i) (by omega) (by omega)).mpr (by omega)) ?_
    refine wp_run 1 (pc' := 66) (ls' := [.ref 74, .int (nI k), .int s.2.2.2.2, .int (nI i)]) (st' := [.int s.2.2.2.2]) rfl ?_
    refine wp_ret rfl ?_
    exact kk X hX
  | succ m ih =>
    intro i X s hi hw ht hX kk
    have HX := rm_ms HM hX hw (by omega)
    refine wp_run 2 (pc' := 44) (ls' := [.ref 74, .int (nI k), .int s.2.2.2.2, .int (nI i)]) (st' := [.int (nI k), .int (nI i)]) rfl ?_
    refine wp_icmp_f rfl (show ¬ ((nI k) ≤ (nI i)) from mt (nI_leI (a := k) (b := i) (by omega) (by omega)).mp (by omega)) ?_
    refine wp_run 2 (pc' := 49) (ls' := [.ref 74, .int (nI k), .int s.2.2.2.2, .int (nI i)]) (st' := [.int 0, .ref 74]) rfl ?_
    refine wp_callV (o := 74) (as := [.int 0]) (rest := []) (els := [.ref 74, .int 0, am_du, am_du, am_du]) rfl rfl rfl rfl rfl rfl rfl rfl (by omega) ?_
    refine sp_m_allLeave HM (t := s.2.1) (by omega) hw (f := 0) (by omega) hLK hX (by omega) (fun X2 hX2 => ?_)
    show am_wp L xs _ _ _ _ 52 [.ref 74, .int (nI k), .int s.2.2.2.2, .int (nI i)] [] (am_S b) X2 _
    refine wp_run 2 (pc' := 54) (ls' := [.ref 74, .int (nI k), .int s.2.2.2.2, .int (nI i)]) (st' := [.ref 74, .int s.2.2.2.2]) rfl ?_
    refine wp_callV (o := 74) (as := []) (rest := [.int s.2.2.2.2]) (els := [.ref 74, am_du, am_du]) rfl rfl rfl rfl rfl rfl rfl rfl (by omega) ?_
    refine sp_goes HM (t := s.2.1) (by omega) (ab_all_w hc7 hw n) hMK hX2 (by omega) (fun X3 hX3 => ?_)
    show am_wp L xs _ _ _ _ 57 [.ref 74, .int (nI k), .int s.2.2.2.2, .int (nI i)] [.int (ab_sum (ab_mkn (MK s.2.1) (ab_all (LK s.2.1) c n 0 s.1 n)) n), .int s.2.2.2.2] (am_S b) X3 _
    refine wp_run 4 (pc' := 42) (ls' := [.ref 74, .int (nI k), .int (s.2.2.2.2 + (ab_sum (ab_mkn (MK s.2.1) (ab_all (LK s.2.1) c n 0 s.1 n)) n)), .int ((nI i) + 1)]) (st' := []) rfl ?_
    rw [show (((nI i) + 1) : Int32) = (nI (i + 1)) from nI_add i 1]
    have ef : (ab_n0 LK MK c n) s = ab_en MK n ((ab_all (LK s.2.1) c n 0 s.1 n), s.2.1, s.2.2.1, s.2.2.2.1, s.2.2.2.2) := rfl
    have q := ih (i + 1) X3 ((ab_n0 LK MK c n) s) (by omega) (by rw [ef]; exact ab_en_w) (by rw [ef, ab_en_t]; omega) (by rw [ef]; exact rm_S_en hX3) kk
    rw [ef, ab_en_a] at q
    exact q
theorem lp_m_loose {L : Nat} {xs : Nat → Int32} {d ms b : Nat} {h : am_HI} {Q : am_Q} {n c t0 k : Nat} {s0 s1 : Int32} {p0 p1 : List Int32} {LK MK : Nat → Nat → Nat → Int32} (HM : am_ms h n c t0 s0 s1 p0 p1) (hk : k ≤ 30) (hLK : ∀ t j g, j < c → g < n → ms_LK (h 75) s0 p0 t j g = LK t j g) (hMK : ∀ t j g, j < c → g < n → ms_MK (h 75) s1 p1 t j g = MK t j g) (hd : 9 ≤ d) :
    ∀ (m i : Nat) (X : am_HI) (s : ab_S), i + m = k → ab_w c n s.1 → s.2.1 + m ≤ 9999 → rm_S h X s → (kk : ∀ X2, rm_S h X2 (ab_it (ab_n1 LK MK c n) m s) → Q (some (.int (ab_it (ab_n1 LK MK c n) m s).2.2.2.2)) (am_S b) X2) → am_wp L xs d 0 ms 180 42 [.ref 74, .int (nI k), .int s.2.2.2.2, .int (nI i)] [] (am_S b) X Q := by
  have hn7 := HM.2.2.2.1
  have hc7 := HM.2.2.2.2.1
  intro m
  induction m with
  | zero =>
    intro i X s hi hw ht hX kk
    refine wp_run 2 (pc' := 44) (ls' := [.ref 74, .int (nI k), .int s.2.2.2.2, .int (nI i)]) (st' := [.int (nI k), .int (nI i)]) rfl ?_
    refine wp_icmp_t rfl (show (nI k) ≤ (nI i) from (nI_leI (a := k) (b := i) (by omega) (by omega)).mpr (by omega)) ?_
    refine wp_run 1 (pc' := 85) (ls' := [.ref 74, .int (nI k), .int s.2.2.2.2, .int (nI i)]) (st' := [.int s.2.2.2.2]) rfl ?_
    refine wp_ret rfl ?_
    exact kk X hX
  | succ m ih =>
    intro i X s hi hw ht hX kk
    have HX := rm_ms HM hX hw (by omega)
    rcases Nat.eq_zero_or_pos n with h0 | h0
    · skip
      refine wp_run 2 (pc' := 44) (ls' := [.ref 74, .int (nI k), .int s.2.2.2.2, .int (nI i)]) (st' := [.int (nI k), .int (nI i)]) rfl ?_
      refine wp_icmp_f rfl (show ¬ ((nI k) ≤ (nI i)) from mt (nI_leI (a := k) (b := i) (by omega) (by omega)).mp (by omega)) ?_
      refine wp_run 1 (pc' := 48) (ls' := [.ref 74, .int (nI k), .int s.2.2.2.2, .int (nI i)]) (st' := [.ref 74]) rfl ?_
      refine wp_getr 75 rfl rfl rfl ?_
      refine wp_run 1 (pc' := 52) (ls' := [.ref 74, .int (nI k), .int s.2.2.2.2, .int (nI i)]) (st' := [.int 2, .ref 75]) rfl ?_
      refine wp_ald (i := 2) (nI n) (show X 75 2 = nI n from HX.1) rfl rfl rfl (by decide) rfl ?_
      refine wp_if_t rfl (show (nI n) ≤ 0 from (nI_leI (a := n) (b := 0) (by omega) (by omega)).mpr (by omega)) ?_
      refine wp_run 2 (pc' := 73) (ls' := [.ref 74, .int (nI k), .int s.2.2.2.2, .int (nI i)]) (st' := [.ref 74, .int s.2.2.2.2]) rfl ?_
      refine wp_callV (o := 74) (as := []) (rest := [.int s.2.2.2.2]) (els := [.ref 74, am_du, am_du]) rfl rfl rfl rfl rfl rfl rfl rfl (by omega) ?_
      refine sp_goes HM (t := s.2.1) (by omega) hw hMK hX (by omega) (fun X3 hX3 => ?_)
      show am_wp L xs _ _ _ _ 76 [.ref 74, .int (nI k), .int s.2.2.2.2, .int (nI i)] [.int (ab_sum (ab_mkn (MK s.2.1) s.1) n), .int s.2.2.2.2] (am_S b) X3 _
      refine wp_run 4 (pc' := 42) (ls' := [.ref 74, .int (nI k), .int (s.2.2.2.2 + (ab_sum (ab_mkn (MK s.2.1) s.1) n)), .int ((nI i) + 1)]) (st' := []) rfl ?_
      rw [show (((nI i) + 1) : Int32) = (nI (i + 1)) from nI_add i 1]
      have ef : (ab_n1 LK MK c n) s = ab_en MK n (s.1, s.2.1, s.2.2.1, s.2.2.2.1, s.2.2.2.2) := ab_n1_z h0
      have q := ih (i + 1) X3 ((ab_n1 LK MK c n) s) (by omega) (by rw [ef]; exact ab_en_w) (by rw [ef, ab_en_t]; omega) (by rw [ef]; exact rm_S_en hX3) kk
      rw [ef, ab_en_a] at q
      exact q
    · skip
      refine wp_run 2 (pc' := 44) (ls' := [.ref 74, .int (nI k), .int s.2.2.2.2, .int (nI i)]) (st' := [.int (nI k), .int (nI i)]) rfl ?_
      refine wp_icmp_f rfl (show ¬ ((nI k) ≤ (nI i)) from mt (nI_leI (a := k) (b := i) (by omega) (by omega)).mp (by omega)) ?_
      refine wp_run 1 (pc' := 48) (ls' := [.ref 74, .int (nI k), .int s.2.2.2.2, .int (nI i)]) (st' := [.ref 74]) rfl ?_
      refine wp_getr 75 rfl rfl rfl ?_
      refine wp_run 1 (pc' := 52) (ls' := [.ref 74, .int (nI k), .int s.2.2.2.2, .int (nI i)]) (st' := [.int 2, .ref 75]) rfl ?_
      refine wp_ald (i := 2) (nI n) (show X 75 2 = nI n from HX.1) rfl rfl rfl (by decide) rfl ?_
      refine wp_if_f rfl (show ¬ ((nI n) ≤ 0) from mt (nI_leI (a := n) (b := 0) (by omega) (by omega)).mp (by omega)) ?_
      refine wp_run 2 (pc' := 58) (ls' := [.ref 74, .int (nI k), .int s.2.2.2.2, .int (nI i)]) (st' := [.ref 74, .ref 74]) rfl ?_
      refine wp_callV (o := 74) (as := []) (rest := [.ref 74]) (els := [.ref 74]) rfl rfl rfl rfl rfl rfl rfl rfl (by omega) ?_
      refine wp_run 1 (pc' := 1) (ls' := [.ref 74]) (st' := [.ref 74]) rfl ?_
      refine wp_getr 75 rfl rfl rfl ?_
      refine wp_run 2 (pc' := 6) (ls' := [.ref 74]) (st' := [.ref 74, .int 1, .ref 75]) rfl ?_
      refine wp_getr 75 rfl rfl rfl ?_
      refine wp_run 1 (pc' := 10) (ls' := [.ref 74]) (st' := [.int 1, .ref 75, .int 1, .ref 75]) rfl ?_
      refine wp_ald (i := 1) s.2.2.2.1 (show X 75 1 = s.2.2.2.1 from by rw [hX.2]; rfl) rfl rfl rfl (by decide) rfl ?_
      refine wp_run 4 (pc' := 18) (ls' := [.ref 74]) (st' := [.int ((s.2.2.2.1 * 1103515245) + 12345), .int 1, .ref 75]) rfl ?_
      refine wp_ast rfl rfl rfl (by decide) rfl ?_
      refine wp_run 1 (pc' := 20) (ls' := [.ref 74]) (st' := [.ref 74]) rfl ?_
      refine wp_getr 75 rfl rfl rfl ?_
      refine wp_run 1 (pc' := 24) (ls' := [.ref 74]) (st' := [.int 1, .ref 75]) rfl ?_
      refine wp_ald (i := 1) ((s.2.2.2.1 * 1103515245) + 12345) (am_u_at _ _ _ _) rfl rfl rfl (by decide) rfl ?_
      refine wp_run 2 (pc' := 28) (ls' := [.ref 74]) (st' := [.int (am_ushr ((s.2.2.2.1 * 1103515245) + 12345) 8)]) rfl ?_
      refine wp_ret rfl ?_
      show am_wp L xs _ _ _ _ 61 [.ref 74, .int (nI k), .int s.2.2.2.2, .int (nI i)] [.int (am_ushr ((s.2.2.2.1 * 1103515245) + 12345) 8), .ref 74] (am_S b) (am_u X 75 1 ((s.2.2.2.1 * 1103515245) + 12345)) _
      refine wp_run 1 (pc' := 62) (ls' := [.ref 74, .int (nI k), .int s.2.2.2.2, .int (nI i)]) (st' := [.ref 74, .int (am_ushr ((s.2.2.2.1 * 1103515245) + 12345) 8), .ref 74]) rfl ?_
      refine wp_getr 75 rfl rfl rfl ?_
      refine wp_run 1 (pc' := 66) (ls' := [.ref 74, .int (nI k), .int s.2.2.2.2, .int (nI i)]) (st' := [.int 2, .ref 75, .int (am_ushr ((s.2.2.2.1 * 1103515245) + 12345) 8), .ref 74]) rfl ?_
      refine wp_ald (i := 2) (nI n) (show X 75 2 = nI n from HX.1) rfl rfl rfl (by decide) rfl ?_
      refine wp_irem rfl (nI_ne0 h0 (by omega)) ?_
      have hf := ab_draw (z := s.2.2.2.1 * 1103515245 + 12345) h0 hn7
      rw [show ((am_rem (am_ushr ((s.2.2.2.1 * 1103515245) + 12345) 8) (nI n)) : Int32) = nI (ab_fst n (s.2.2.2.1 * 1103515245 + 12345)) from hf.1]
      refine wp_callV (o := 74) (as := [.int (nI (ab_fst n (s.2.2.2.1 * 1103515245 + 12345)))]) (rest := []) (els := [.ref 74, .int (nI (ab_fst n (s.2.2.2.1 * 1103515245 + 12345))), am_du, am_du, am_du]) rfl rfl rfl rfl rfl rfl rfl rfl (by omega) ?_
      refine sp_m_allLeave HM (t := s.2.1) (by omega) hw (f := ab_fst n (s.2.2.2.1 * 1103515245 + 12345)) (by omega) hLK (rm_z hX) (by omega) (fun X2 hX2 => ?_)
      show am_wp L xs _ _ _ _ 71 [.ref 74, .int (nI k), .int s.2.2.2.2, .int (nI i)] [] (am_S b) X2 _
      refine wp_run 2 (pc' := 73) (ls' := [.ref 74, .int (nI k), .int s.2.2.2.2, .int (nI i)]) (st' := [.ref 74, .int s.2.2.2.2]) rfl ?_
      refine wp_callV (o := 74) (as := []) (rest := [.int s.2.2.2.2]) (els := [.ref 74, am_du, am_du]) rfl rfl rfl rfl rfl rfl rfl rfl (by omega) ?_
      refine sp_goes HM (t := s.2.1) (by omega) (ab_all_w hc7 hw n) hMK hX2 (by omega) (fun X3 hX3 => ?_)
      show am_wp L xs _ _ _ _ 76 [.ref 74, .int (nI k), .int s.2.2.2.2, .int (nI i)] [.int (ab_sum (ab_mkn (MK s.2.1) (ab_all (LK s.2.1) c n (ab_fst n (s.2.2.2.1 * 1103515245 + 12345)) s.1 n)) n), .int s.2.2.2.2] (am_S b) X3 _
      refine wp_run 4 (pc' := 42) (ls' := [.ref 74, .int (nI k), .int (s.2.2.2.2 + (ab_sum (ab_mkn (MK s.2.1) (ab_all (LK s.2.1) c n (ab_fst n (s.2.2.2.1 * 1103515245 + 12345)) s.1 n)) n)), .int ((nI i) + 1)]) (st' := []) rfl ?_
      rw [show (((nI i) + 1) : Int32) = (nI (i + 1)) from nI_add i 1]
      have ef : (ab_n1 LK MK c n) s = ab_en MK n ((ab_all (LK s.2.1) c n (ab_fst n (s.2.2.2.1 * 1103515245 + 12345)) s.1 n), s.2.1, s.2.2.1, s.2.2.2.1 * 1103515245 + 12345, s.2.2.2.2) := ab_n1_e (by omega)
      have q := ih (i + 1) X3 ((ab_n1 LK MK c n) s) (by omega) (by rw [ef]; exact ab_en_w) (by rw [ef, ab_en_t]; omega) (by rw [ef]; exact rm_S_en hX3) kk
      rw [ef, ab_en_a] at q
      exact q
theorem ab_n_inv {LK MK : Nat → Nat → Nat → Int32} {c n : Nat} (f : ab_S → ab_S) (hf : ∀ s, ab_w c n (f s).1 ∧ (f s).2.1 = s.2.1 + 1) : ∀ (m : Nat) (s : ab_S), ab_w c n s.1 → ab_w c n (ab_it f m s).1 ∧ (ab_it f m s).2.1 = s.2.1 + m
  | 0, s, h => ⟨h, rfl⟩
  | m + 1, s, h => by
    obtain ⟨h1, h2⟩ := ab_n_inv (LK := LK) (MK := MK) f hf m (f s) (hf s).1
    refine ⟨h1, ?_⟩
    show (ab_it f m (f s)).2.1 = _
    rw [h2, (hf s).2]
    omega
theorem ab_n0_w (LK MK : Nat → Nat → Nat → Int32) (c n : Nat) (s : ab_S) : ab_w c n (ab_n0 LK MK c n s).1 ∧ (ab_n0 LK MK c n s).2.1 = s.2.1 + 1 := ⟨ab_en_w, ab_en_t⟩
theorem ab_n1_w (LK MK : Nat → Nat → Nat → Int32) (c n : Nat) (s : ab_S) : ab_w c n (ab_n1 LK MK c n s).1 ∧ (ab_n1 LK MK c n s).2.1 = s.2.1 + 1 := by
  by_cases h0 : n = 0
  · rw [ab_n1_z h0]
    exact ⟨ab_en_w, ab_en_t⟩
  · rw [ab_n1_e h0]
    exact ⟨ab_en_w, ab_en_t⟩
theorem op_nights {L : Nat} {xs : Nat → Int32} {d ms b N : Nat} {h : am_HI} {Q : am_Q} {x1 : Int32} (hd : 30 ≤ d) (hR : am_Rel N h) (hN : N < 100000)
    (kk : ∀ v b1 h1, (∀ ms2 Q2, (∀ b2 h2, am_Rel (N + 1) h2 → Q2 (some (.int v)) (am_S b2) h2) → am_wp L xs d 0 ms2 178 0 [.ref 74, .int x1, am_du, am_du] [] (am_S b1) h1 Q2) → Q (some (.int v)) (am_S b1) h1) :
    am_wp L xs d 0 ms 71 0 [.ref 0, .int x1, am_du, am_du] [] (am_S b) h Q := by
  obtain ⟨⟨n, c, t, tp, wt, s0, s1, p0, p1, H⟩, hI, hE, hS0, hS1, hS2, hS3, hT⟩ := id hR
  have hn := H.1.1
  have hm2 := H.1.2.1
  have hn7 := H.1.2.2
  have hc := H.2.1.1
  have hm3 := H.2.1.2.1
  have hc7 := H.2.1.2.2
  have ht := H.2.2.1.1
  have hm0 := H.2.2.1.2.1
  have ht9 := H.2.2.1.2.2
  have HS := re_hs H
  have HM := re_ms H
  refine wp_run 3 (pc' := 4) (ls' := [.ref 0, .int x1, am_du, am_du]) (st' := [.int 30, .int 1, .int x1]) rfl ?_
  refine wp_callS (as := [.int x1, .int 1, .int 30]) (rest := []) (els := [.int x1, .int 1, .int 30]) rfl rfl rfl rfl rfl rfl rfl rfl (by omega) ?_
  refine sp_x_btw (m := 30) rfl rfl rfl ?_ ?_
  · skip
    intro kx1 hk1x1 hkx1 ex1
    subst ex1
    show am_wp L xs _ _ _ _ 7 [.ref 0, .int (nI kx1), am_du, am_du] [.int 1] (am_S b) h _
    refine wp_if_t rfl (show ¬ (1 : Int32) = 0 from by decide) ?_
    refine wp_run 1 (pc' := 17) (ls' := [.ref 0, .int (nI kx1), am_du, am_du]) (st' := [.ref 0]) rfl ?_
    refine wp_getr 1 rfl rfl rfl ?_
    refine wp_geti (a := 12) (nI t) ht rfl rfl rfl ?_
    refine wp_run 3 (pc' := 28) (ls' := [.ref 0, .int (nI kx1), am_du, am_du]) (st' := [.int 9999, .int ((nI t) + (nI kx1))]) rfl ?_
    rw [show (((nI t) + (nI kx1)) : Int32) = (nI (t + kx1)) from nI_add t kx1]
    refine wp_icmp rfl (fun (cq28 : (nI (t + kx1)) ≤ 9999) => ?_) (fun (cq28 : ¬ ((nI (t + kx1)) ≤ 9999)) => ?_)
    · skip
      have cq28n : (t + kx1) ≤ 9999 := (nI_leI (a := (t + kx1)) (b := 9999) (by omega) (by omega)).mp cq28
      refine wp_run 4 (pc' := 41) (ls' := [.ref 0, .int (nI kx1), .int 0, .int 0]) (st' := []) rfl ?_
      refine lp_nights (k := kx1) HS (by omega) (by omega) kx1 0 h (h 5, t, h 1 13, h 1 14, (0 : Int32)) (by omega) (re_w H) (show t + kx1 ≤ 9999 by omega) (cl_S_mk (cl_0 ht)) (fun X2 hX2 => ?_)
      refine kk _ _ _ (fun ms2 Q2 kk2 => ?_)
      refine wp_run 3 (pc' := 4) (ls' := [.ref 74, .int (nI kx1), am_du, am_du]) (st' := [.int 30, .int 1, .int (nI kx1)]) rfl ?_
      refine wp_callS (as := [.int (nI kx1), .int 1, .int 30]) (rest := []) (els := [.int (nI kx1), .int 1, .int 30]) rfl rfl rfl rfl rfl rfl rfl rfl (by omega) ?_
      refine sp_m_btw (m := 30) rfl rfl rfl (fun _ _ _ _ => ?_) (fun q => absurd rfl (q kx1 (by omega) (by omega)))
      show am_wp L xs _ _ _ _ 7 [.ref 74, .int (nI kx1), am_du, am_du] [.int 1] (am_S b) X2 _
      refine wp_if_t rfl (show ¬ (1 : Int32) = 0 from by decide) ?_
      refine wp_run 1 (pc' := 18) (ls' := [.ref 74, .int (nI kx1), am_du, am_du]) (st' := [.ref 74]) rfl ?_
      refine wp_getr 75 rfl rfl rfl ?_
      refine wp_run 1 (pc' := 22) (ls' := [.ref 74, .int (nI kx1), am_du, am_du]) (st' := [.int 0, .ref 75]) rfl ?_
      refine wp_ald (i := 0) (nI t) (show X2 75 0 = nI t from by rw [hX2.1 75 rfl]; exact hm0) rfl rfl rfl (by decide) rfl ?_
      refine wp_run 3 (pc' := 28) (ls' := [.ref 74, .int (nI kx1), am_du, am_du]) (st' := [.int 9999, .int ((nI t) + (nI kx1))]) rfl ?_
      rw [show (((nI t) + (nI kx1)) : Int32) = (nI (t + kx1)) from nI_add t kx1]
      refine wp_icmp_t rfl (show (nI (t + kx1)) ≤ 9999 from (nI_leI (a := (t + kx1)) (b := 9999) (by omega) (by omega)).mpr (by omega)) ?_
      refine wp_run 4 (pc' := 42) (ls' := [.ref 74, .int (nI kx1), .int 0, .int 0]) (st' := []) rfl ?_
      refine lp_m_nights (h := X2) (k := kx1) (LK := ab_LK h s0 p0) (MK := ab_MK h s1 p1) (re_ms75 HM (hX2.1 75 rfl)) (by omega) (fun t2 j g hj hg => by rw [hX2.1 75 rfl]; exact re_LK H t2 hj hg) (fun t2 j g hj hg => by rw [hX2.1 75 rfl]; exact re_MK H t2 hj hg) (by omega) kx1 0 X2 (h 5, t, h 1 13, h 1 14, (0 : Int32)) (by omega) (re_w H) (show t + kx1 ≤ 9999 by omega) (rm_S_mk (re_rm0 H (hX2.1 75 rfl))) (fun Y2 hY2 => ?_)
      have hv := ab_n_inv (LK := ab_LK h s0 p0) (MK := ab_MK h s1 p1) (ab_n0 (ab_LK h s0 p0) (ab_MK h s1 p1) c n) (ab_n0_w _ _ c n) kx1 (h 5, t, h 1 13, h 1 14, (0 : Int32)) (re_w H)
      exact kk2 _ _ (re_nights hR H hX2 hY2 hv.1 (by rw [hv.2]; show t + kx1 ≤ 9999; omega))
    · skip
      have cq28n : ¬ ((t + kx1) ≤ 9999) := fun q => cq28 ((nI_leI (a := (t + kx1)) (b := 9999) (by omega) (by omega)).mpr q)
      refine wp_run 2 (pc' := 33) (ls' := [.ref 0, .int (nI kx1), am_du, am_du]) (st' := [.int 3, .ref 0]) rfl ?_
      refine wp_callV (o := 0) (as := [.int 3]) (rest := []) (els := [.ref 0, .int 3]) rfl rfl rfl rfl rfl rfl rfl rfl (by omega) ?_
      refine sp_refuse3 (by omega) ?_
      show am_wp L xs _ _ _ _ 36 [.ref 0, .int (nI kx1), am_du, am_du] [.int (-1000000003)] (am_S b) (am_u h 73 3 (h 73 3 + 1)) _
      refine wp_ret rfl ?_
      refine kk _ _ _ (fun ms2 Q2 kk2 => ?_)
      refine wp_run 3 (pc' := 4) (ls' := [.ref 74, .int (nI kx1), am_du, am_du]) (st' := [.int 30, .int 1, .int (nI kx1)]) rfl ?_
      refine wp_callS (as := [.int (nI kx1), .int 1, .int 30]) (rest := []) (els := [.int (nI kx1), .int 1, .int 30]) rfl rfl rfl rfl rfl rfl rfl rfl (by omega) ?_
      refine sp_m_btw (m := 30) rfl rfl rfl (fun _ _ _ _ => ?_) (fun q => absurd rfl (q kx1 (by omega) (by omega)))
      show am_wp L xs _ _ _ _ 7 [.ref 74, .int (nI kx1), am_du, am_du] [.int 1] (am_S b) (am_u h 73 3 (h 73 3 + 1)) _
      refine wp_if_t rfl (show ¬ (1 : Int32) = 0 from by decide) ?_
      refine wp_run 1 (pc' := 18) (ls' := [.ref 74, .int (nI kx1), am_du, am_du]) (st' := [.ref 74]) rfl ?_
      refine wp_getr 75 rfl rfl rfl ?_
      refine wp_run 1 (pc' := 22) (ls' := [.ref 74, .int (nI kx1), am_du, am_du]) (st' := [.int 0, .ref 75]) rfl ?_
      refine wp_ald (i := 0) (nI t) hm0 rfl rfl rfl (by decide) rfl ?_
      refine wp_run 3 (pc' := 28) (ls' := [.ref 74, .int (nI kx1), am_du, am_du]) (st' := [.int 9999, .int ((nI t) + (nI kx1))]) rfl ?_
      rw [show (((nI t) + (nI kx1)) : Int32) = (nI (t + kx1)) from nI_add t kx1]
      refine wp_icmp_f rfl (show ¬ ((nI (t + kx1)) ≤ 9999) from mt (nI_leI (a := (t + kx1)) (b := 9999) (by omega) (by omega)).mp (by omega)) ?_
      refine wp_run 2 (pc' := 34) (ls' := [.ref 74, .int (nI kx1), am_du, am_du]) (st' := [.int (-1000000003), .ref 74]) rfl ?_
      refine wp_callV (o := 74) (as := [.int (-1000000003)]) (rest := []) (els := [.ref 74, .int (-1000000003)]) rfl rfl rfl rfl rfl rfl rfl rfl (by omega) ?_
      refine sp_error3 ?_
      show am_wp L xs _ _ _ _ 37 [.ref 74, .int (nI kx1), am_du, am_du] [.int (-1000000003)] (am_S b) (am_u (am_u h 73 3 (h 73 3 + 1)) 77 3 ((am_u h 73 3 (h 73 3 + 1)) 77 3 + 1)) _
      refine wp_ret rfl ?_
      exact kk2 _ _ (re_err3 hR)
  · skip
    intro hn1
    show am_wp L xs _ _ _ _ 7 [.ref 0, .int x1, am_du, am_du] [.int 0] (am_S b) h _
    refine wp_if_f rfl (show ¬ (¬ (0 : Int32) = 0) from by decide) ?_
    refine wp_run 2 (pc' := 12) (ls' := [.ref 0, .int x1, am_du, am_du]) (st' := [.int 1, .ref 0]) rfl ?_
    refine wp_callV (o := 0) (as := [.int 1]) (rest := []) (els := [.ref 0, .int 1]) rfl rfl rfl rfl rfl rfl rfl rfl (by omega) ?_
    refine sp_refuse1 (by omega) ?_
    show am_wp L xs _ _ _ _ 15 [.ref 0, .int x1, am_du, am_du] [.int (-1000000001)] (am_S b) (am_u h 73 1 (h 73 1 + 1)) _
    refine wp_ret rfl ?_
    refine kk _ _ _ (fun ms2 Q2 kk2 => ?_)
    refine wp_run 3 (pc' := 4) (ls' := [.ref 74, .int x1, am_du, am_du]) (st' := [.int 30, .int 1, .int x1]) rfl ?_
    refine wp_callS (as := [.int x1, .int 1, .int 30]) (rest := []) (els := [.int x1, .int 1, .int 30]) rfl rfl rfl rfl rfl rfl rfl rfl (by omega) ?_
    refine sp_m_btw (m := 30) rfl rfl rfl (fun k h1 h2 e => absurd e (hn1 k h1 h2)) (fun _ => ?_)
    show am_wp L xs _ _ _ _ 7 [.ref 74, .int x1, am_du, am_du] [.int 0] (am_S b) (am_u h 73 1 (h 73 1 + 1)) _
    refine wp_if_f rfl (show ¬ (¬ (0 : Int32) = 0) from by decide) ?_
    refine wp_run 2 (pc' := 13) (ls' := [.ref 74, .int x1, am_du, am_du]) (st' := [.int (-1000000001), .ref 74]) rfl ?_
    refine wp_callV (o := 74) (as := [.int (-1000000001)]) (rest := []) (els := [.ref 74, .int (-1000000001)]) rfl rfl rfl rfl rfl rfl rfl rfl (by omega) ?_
    refine sp_error1 ?_
    show am_wp L xs _ _ _ _ 16 [.ref 74, .int x1, am_du, am_du] [.int (-1000000001)] (am_S b) (am_u (am_u h 73 1 (h 73 1 + 1)) 77 1 ((am_u h 73 1 (h 73 1 + 1)) 77 1 + 1)) _
    refine wp_ret rfl ?_
    exact kk2 _ _ (re_err1 hR)
theorem op_loose {L : Nat} {xs : Nat → Int32} {d ms b N : Nat} {h : am_HI} {Q : am_Q} {x1 : Int32} (hd : 30 ≤ d) (hR : am_Rel N h) (hN : N < 100000)
    (kk : ∀ v b1 h1, (∀ ms2 Q2, (∀ b2 h2, am_Rel (N + 1) h2 → Q2 (some (.int v)) (am_S b2) h2) → am_wp L xs d 0 ms2 180 0 [.ref 74, .int x1, am_du, am_du] [] (am_S b1) h1 Q2) → Q (some (.int v)) (am_S b1) h1) :
    am_wp L xs d 0 ms 73 0 [.ref 0, .int x1, am_du, am_du] [] (am_S b) h Q := by
  obtain ⟨⟨n, c, t, tp, wt, s0, s1, p0, p1, H⟩, hI, hE, hS0, hS1, hS2, hS3, hT⟩ := id hR
  have hn := H.1.1
  have hm2 := H.1.2.1
  have hn7 := H.1.2.2
  have hc := H.2.1.1
  have hm3 := H.2.1.2.1
  have hc7 := H.2.1.2.2
  have ht := H.2.2.1.1
  have hm0 := H.2.2.1.2.1
  have ht9 := H.2.2.1.2.2
  have HS := re_hs H
  have HM := re_ms H
  refine wp_run 3 (pc' := 4) (ls' := [.ref 0, .int x1, am_du, am_du]) (st' := [.int 30, .int 1, .int x1]) rfl ?_
  refine wp_callS (as := [.int x1, .int 1, .int 30]) (rest := []) (els := [.int x1, .int 1, .int 30]) rfl rfl rfl rfl rfl rfl rfl rfl (by omega) ?_
  refine sp_x_btw (m := 30) rfl rfl rfl ?_ ?_
  · skip
    intro kx1 hk1x1 hkx1 ex1
    subst ex1
    show am_wp L xs _ _ _ _ 7 [.ref 0, .int (nI kx1), am_du, am_du] [.int 1] (am_S b) h _
    refine wp_if_t rfl (show ¬ (1 : Int32) = 0 from by decide) ?_
    refine wp_run 1 (pc' := 17) (ls' := [.ref 0, .int (nI kx1), am_du, am_du]) (st' := [.ref 0]) rfl ?_
    refine wp_getr 1 rfl rfl rfl ?_
    refine wp_geti (a := 12) (nI t) ht rfl rfl rfl ?_
    refine wp_run 3 (pc' := 28) (ls' := [.ref 0, .int (nI kx1), am_du, am_du]) (st' := [.int 9999, .int ((nI t) + (nI kx1))]) rfl ?_
    rw [show (((nI t) + (nI kx1)) : Int32) = (nI (t + kx1)) from nI_add t kx1]
    refine wp_icmp rfl (fun (cq28 : (nI (t + kx1)) ≤ 9999) => ?_) (fun (cq28 : ¬ ((nI (t + kx1)) ≤ 9999)) => ?_)
    · skip
      have cq28n : (t + kx1) ≤ 9999 := (nI_leI (a := (t + kx1)) (b := 9999) (by omega) (by omega)).mp cq28
      refine wp_run 4 (pc' := 41) (ls' := [.ref 0, .int (nI kx1), .int 0, .int 0]) (st' := []) rfl ?_
      refine lp_loose (k := kx1) HS (by omega) (by omega) kx1 0 h (h 5, t, h 1 13, h 1 14, (0 : Int32)) (by omega) (re_w H) (show t + kx1 ≤ 9999 by omega) (cl_S_mk (cl_0 ht)) (fun X2 hX2 => ?_)
      refine kk _ _ _ (fun ms2 Q2 kk2 => ?_)
      refine wp_run 3 (pc' := 4) (ls' := [.ref 74, .int (nI kx1), am_du, am_du]) (st' := [.int 30, .int 1, .int (nI kx1)]) rfl ?_
      refine wp_callS (as := [.int (nI kx1), .int 1, .int 30]) (rest := []) (els := [.int (nI kx1), .int 1, .int 30]) rfl rfl rfl rfl rfl rfl rfl rfl (by omega) ?_
      refine sp_m_btw (m := 30) rfl rfl rfl (fun _ _ _ _ => ?_) (fun q => absurd rfl (q kx1 (by omega) (by omega)))
      show am_wp L xs _ _ _ _ 7 [.ref 74, .int (nI kx1), am_du, am_du] [.int 1] (am_S b) X2 _
      refine wp_if_t rfl (show ¬ (1 : Int32) = 0 from by decide) ?_
      refine wp_run 1 (pc' := 18) (ls' := [.ref 74, .int (nI kx1), am_du, am_du]) (st' := [.ref 74]) rfl ?_
      refine wp_getr 75 rfl rfl rfl ?_
      refine wp_run 1 (pc' := 22) (ls' := [.ref 74, .int (nI kx1), am_du, am_du]) (st' := [.int 0, .ref 75]) rfl ?_
      refine wp_ald (i := 0) (nI t) (show X2 75 0 = nI t from by rw [hX2.1 75 rfl]; exact hm0) rfl rfl rfl (by decide) rfl ?_
      refine wp_run 3 (pc' := 28) (ls' := [.ref 74, .int (nI kx1), am_du, am_du]) (st' := [.int 9999, .int ((nI t) + (nI kx1))]) rfl ?_
      rw [show (((nI t) + (nI kx1)) : Int32) = (nI (t + kx1)) from nI_add t kx1]
      refine wp_icmp_t rfl (show (nI (t + kx1)) ≤ 9999 from (nI_leI (a := (t + kx1)) (b := 9999) (by omega) (by omega)).mpr (by omega)) ?_
      refine wp_run 4 (pc' := 42) (ls' := [.ref 74, .int (nI kx1), .int 0, .int 0]) (st' := []) rfl ?_
      refine lp_m_loose (h := X2) (k := kx1) (LK := ab_LK h s0 p0) (MK := ab_MK h s1 p1) (re_ms75 HM (hX2.1 75 rfl)) (by omega) (fun t2 j g hj hg => by rw [hX2.1 75 rfl]; exact re_LK H t2 hj hg) (fun t2 j g hj hg => by rw [hX2.1 75 rfl]; exact re_MK H t2 hj hg) (by omega) kx1 0 X2 (h 5, t, h 1 13, h 1 14, (0 : Int32)) (by omega) (re_w H) (show t + kx1 ≤ 9999 by omega) (rm_S_mk (re_rm0 H (hX2.1 75 rfl))) (fun Y2 hY2 => ?_)
      have hv := ab_n_inv (LK := ab_LK h s0 p0) (MK := ab_MK h s1 p1) (ab_n1 (ab_LK h s0 p0) (ab_MK h s1 p1) c n) (ab_n1_w _ _ c n) kx1 (h 5, t, h 1 13, h 1 14, (0 : Int32)) (re_w H)
      exact kk2 _ _ (re_nights hR H hX2 hY2 hv.1 (by rw [hv.2]; show t + kx1 ≤ 9999; omega))
    · skip
      have cq28n : ¬ ((t + kx1) ≤ 9999) := fun q => cq28 ((nI_leI (a := (t + kx1)) (b := 9999) (by omega) (by omega)).mpr q)
      refine wp_run 2 (pc' := 33) (ls' := [.ref 0, .int (nI kx1), am_du, am_du]) (st' := [.int 3, .ref 0]) rfl ?_
      refine wp_callV (o := 0) (as := [.int 3]) (rest := []) (els := [.ref 0, .int 3]) rfl rfl rfl rfl rfl rfl rfl rfl (by omega) ?_
      refine sp_refuse3 (by omega) ?_
      show am_wp L xs _ _ _ _ 36 [.ref 0, .int (nI kx1), am_du, am_du] [.int (-1000000003)] (am_S b) (am_u h 73 3 (h 73 3 + 1)) _
      refine wp_ret rfl ?_
      refine kk _ _ _ (fun ms2 Q2 kk2 => ?_)
      refine wp_run 3 (pc' := 4) (ls' := [.ref 74, .int (nI kx1), am_du, am_du]) (st' := [.int 30, .int 1, .int (nI kx1)]) rfl ?_
      refine wp_callS (as := [.int (nI kx1), .int 1, .int 30]) (rest := []) (els := [.int (nI kx1), .int 1, .int 30]) rfl rfl rfl rfl rfl rfl rfl rfl (by omega) ?_
      refine sp_m_btw (m := 30) rfl rfl rfl (fun _ _ _ _ => ?_) (fun q => absurd rfl (q kx1 (by omega) (by omega)))
      show am_wp L xs _ _ _ _ 7 [.ref 74, .int (nI kx1), am_du, am_du] [.int 1] (am_S b) (am_u h 73 3 (h 73 3 + 1)) _
      refine wp_if_t rfl (show ¬ (1 : Int32) = 0 from by decide) ?_
      refine wp_run 1 (pc' := 18) (ls' := [.ref 74, .int (nI kx1), am_du, am_du]) (st' := [.ref 74]) rfl ?_
      refine wp_getr 75 rfl rfl rfl ?_
      refine wp_run 1 (pc' := 22) (ls' := [.ref 74, .int (nI kx1), am_du, am_du]) (st' := [.int 0, .ref 75]) rfl ?_
      refine wp_ald (i := 0) (nI t) hm0 rfl rfl rfl (by decide) rfl ?_
      refine wp_run 3 (pc' := 28) (ls' := [.ref 74, .int (nI kx1), am_du, am_du]) (st' := [.int 9999, .int ((nI t) + (nI kx1))]) rfl ?_
      rw [show (((nI t) + (nI kx1)) : Int32) = (nI (t + kx1)) from nI_add t kx1]
      refine wp_icmp_f rfl (show ¬ ((nI (t + kx1)) ≤ 9999) from mt (nI_leI (a := (t + kx1)) (b := 9999) (by omega) (by omega)).mp (by omega)) ?_
      refine wp_run 2 (pc' := 34) (ls' := [.ref 74, .int (nI kx1), am_du, am_du]) (st' := [.int (-1000000003), .ref 74]) rfl ?_
      refine wp_callV (o := 74) (as := [.int (-1000000003)]) (rest := []) (els := [.ref 74, .int (-1000000003)]) rfl rfl rfl rfl rfl rfl rfl rfl (by omega) ?_
      refine sp_error3 ?_
      show am_wp L xs _ _ _ _ 37 [.ref 74, .int (nI kx1), am_du, am_du] [.int (-1000000003)] (am_S b) (am_u (am_u h 73 3 (h 73 3 + 1)) 77 3 ((am_u h 73 3 (h 73 3 + 1)) 77 3 + 1)) _
      refine wp_ret rfl ?_
      exact kk2 _ _ (re_err3 hR)
  · skip
    intro hn1
    show am_wp L xs _ _ _ _ 7 [.ref 0, .int x1, am_du, am_du] [.int 0] (am_S b) h _
    refine wp_if_f rfl (show ¬ (¬ (0 : Int32) = 0) from by decide) ?_
    refine wp_run 2 (pc' := 12) (ls' := [.ref 0, .int x1, am_du, am_du]) (st' := [.int 1, .ref 0]) rfl ?_
    refine wp_callV (o := 0) (as := [.int 1]) (rest := []) (els := [.ref 0, .int 1]) rfl rfl rfl rfl rfl rfl rfl rfl (by omega) ?_
    refine sp_refuse1 (by omega) ?_
    show am_wp L xs _ _ _ _ 15 [.ref 0, .int x1, am_du, am_du] [.int (-1000000001)] (am_S b) (am_u h 73 1 (h 73 1 + 1)) _
    refine wp_ret rfl ?_
    refine kk _ _ _ (fun ms2 Q2 kk2 => ?_)
    refine wp_run 3 (pc' := 4) (ls' := [.ref 74, .int x1, am_du, am_du]) (st' := [.int 30, .int 1, .int x1]) rfl ?_
    refine wp_callS (as := [.int x1, .int 1, .int 30]) (rest := []) (els := [.int x1, .int 1, .int 30]) rfl rfl rfl rfl rfl rfl rfl rfl (by omega) ?_
    refine sp_m_btw (m := 30) rfl rfl rfl (fun k h1 h2 e => absurd e (hn1 k h1 h2)) (fun _ => ?_)
    show am_wp L xs _ _ _ _ 7 [.ref 74, .int x1, am_du, am_du] [.int 0] (am_S b) (am_u h 73 1 (h 73 1 + 1)) _
    refine wp_if_f rfl (show ¬ (¬ (0 : Int32) = 0) from by decide) ?_
    refine wp_run 2 (pc' := 13) (ls' := [.ref 74, .int x1, am_du, am_du]) (st' := [.int (-1000000001), .ref 74]) rfl ?_
    refine wp_callV (o := 74) (as := [.int (-1000000001)]) (rest := []) (els := [.ref 74, .int (-1000000001)]) rfl rfl rfl rfl rfl rfl rfl rfl (by omega) ?_
    refine sp_error1 ?_
    show am_wp L xs _ _ _ _ 16 [.ref 74, .int x1, am_du, am_du] [.int (-1000000001)] (am_S b) (am_u (am_u h 73 1 (h 73 1 + 1)) 77 1 ((am_u h 73 1 (h 73 1 + 1)) 77 1 + 1)) _
    refine wp_ret rfl ?_
    exact kk2 _ _ (re_err1 hR)
