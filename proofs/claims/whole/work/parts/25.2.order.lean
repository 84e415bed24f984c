/-! calls tied: order -/
def od_cn (G : Nat) : Nat → Nat
  | 0 => 0
  | g + 1 => if G.testBit g = true then od_cn G g else od_cn G g + 1
theorem od_cn_0 : ∀ n, n < 8 → od_cn 0 n = n := by decide +kernel
theorem od_cn_s : ∀ n, n < 8 → ∀ G, G < 128 → ∀ g, g < n → (G.testBit g = true ∨ od_cn (pu_set G g) n + 1 = od_cn G n) := by decide +kernel
theorem od_cn_e : ∀ n, n < 8 → ∀ G, G < 128 → (od_cn G n = 0 ∨ ∃ g : Fin 8, g.val < n ∧ G.testBit g.val = false) := by decide +kernel
theorem od_kp_t (sum : Int32) (path : Nat → Int32) (s : od_S) : (od_kp sum path s).1 = true := by
  unfold od_kp
  by_cases h : s.1 = true ∧ sum ≤ s.2.1
  · rw [if_pos h]; exact h.1
  · rw [if_neg h]
theorem od_fold_m {f : Nat → od_S → od_S} (hf : ∀ g s, s.1 = true → (f g s).1 = true) : ∀ i s, s.1 = true → (od_fold f i s).1 = true
  | 0, _, h => h
  | i + 1, s, h => hf i _ (od_fold_m hf i s h)
theorem od_fold_e {f : Nat → od_S → od_S} (hf : ∀ g s, s.1 = true → (f g s).1 = true) {g : Nat} (hg : ∀ s, (f g s).1 = true) : ∀ i s, g < i → (od_fold f i s).1 = true
  | 0, _, h => absurd h (Nat.not_lt_zero _)
  | i + 1, s, h => by
    show (f i (od_fold f i s)).1 = true
    by_cases e : g = i
    · rw [← e]; exact hg _
    · exact hf i _ (od_fold_e hf hg i s (by omega))
theorem od_go_m {LK MK : Nat → Nat → Int32} {c n : Nat} : ∀ (k dp G P : Nat) (sum : Int32) (path : Nat → Int32) (s : od_S), s.1 = true → (od_go LK MK c n k dp G P sum path s).1 = true
  | 0, _, _, _, sum, path, s, _ => od_kp_t sum path s
  | k + 1, dp, G, P, sum, path, s, h => by
    refine od_fold_m (fun g s hs => ?_) n s h
    by_cases e : G.testBit g = true
    · rw [if_pos e]; exact hs
    · rw [if_neg e]; exact od_go_m k _ _ _ _ _ _ hs
theorem od_go_t {LK MK : Nat → Nat → Int32} {c n : Nat} (hn : n ≤ 7) : ∀ (k dp G P : Nat) (sum : Int32) (path : Nat → Int32) (s : od_S), G < 128 → od_cn G n = k → (od_go LK MK c n k dp G P sum path s).1 = true
  | 0, _, _, _, sum, path, s, _, _ => od_kp_t sum path s
  | k + 1, dp, G, P, sum, path, s, hG, hk => by
    rcases od_cn_e n (by omega) G hG with e | ⟨g, hg, hb⟩
    · omega
    · have hs := (od_cn_s n (by omega) G hG g.val hg).resolve_left (by rw [hb]; decide)
      refine od_fold_e (fun g s hs => ?_) (g := g.val) (fun s => ?_) n s hg
      · by_cases e : G.testBit g = true
        · rw [if_pos e]; exact hs
        · rw [if_neg e]; exact od_go_m k _ _ _ _ _ _ hs
      · rw [if_neg (by rw [hb]; decide)]
        exact od_go_t hn k _ _ _ _ _ _ (pu_set_lt G hG g.val (by omega)) (by omega)
def od_s0 : od_S := (false, 0, fun _ => 0)
theorem od_st_0 {h : am_HI} {n : Nat} (v : Nat → Int32) : od_st h (am_u (am_u (am_u h 49 3 0) 49 4 0) 49 5 (nI n)) n od_s0 0 v := by
  refine ⟨fun a ha => ?_, rfl, rfl, rfl, (fun q => by cases q), fun i hi => by omega⟩
  rw [am_u_off _ _ _ (am_nel ha rfl), am_u_off _ _ _ (am_nel ha rfl), am_u_off _ _ _ (am_nel ha rfl)]
theorem rd_st_0 {h : am_HI} {n : Nat} (v : Nat → Int32) : rd_st h (am_u (am_u h 74 23 0) 74 22 0) n od_s0 0 v := by
  refine ⟨fun a ha => ?_, fun i i1 i2 => ?_, rfl, rfl, (fun q => by cases q), fun i hi => by omega⟩
  · rw [am_u_off _ _ _ (am_nel ha rfl), am_u_off _ _ _ (am_nel ha rfl)]
  · show upd (upd (h 74) 23 0) 22 0 i = _
    rw [pk_un i1, pk_un i2]
theorem ms_lk_75 {h X : am_HI} {s : Int32} {p : List Int32} {j g : Nat} (e : X 75 = h 75) : ms_lk X s p j g = ms_lk h s p j g := by
  unfold ms_lk
  rw [e]
theorem ms_mk_75 {h X : am_HI} {s : Int32} {p : List Int32} {j g : Nat} (e : X 75 = h 75) : ms_mk X s p j g = ms_mk h s p j g := by
  unfold ms_mk
  rw [e]
theorem re_keep74 {N : Nat} {h Y : am_HI} (hR : am_Rel N h) (q : ∀ a, (74 :: re_scr).elem a = false → Y a = h a) (q2 : Y 74 2 = h 74 2) (q25 : Y 74 25 = h 74 25) (Hn : ∃ n c t tp wt s0 s1 p0 p1, re_H Y n c t tp wt s0 s1 p0 p1) : am_Rel (N + 1) Y := by
  obtain ⟨-, hI, hE, hS0, hS1, hS2, hS3, hT⟩ := hR
  refine ⟨Hn, ?_, ?_, ?_, ?_, ?_, ?_, ?_⟩
  · unfold re_K
    rw [q 0 rfl, q 24 rfl, q 25 rfl, q 26 rfl, q 27 rfl, q 28 rfl, q 29 rfl, q 30 rfl, q 31 rfl, q 32 rfl, q 33 rfl, q 34 rfl, q 35 rfl, q 37 rfl, q 38 rfl, q 39 rfl, q 42 rfl, q 43 rfl, q 44 rfl, q 76 rfl]
    obtain ⟨⟨im, a1, a2, a3, a4⟩, a5⟩ := re_im_s hI
    exact ⟨⟨im, a1, a2, q2.trans a3, a4⟩, a5⟩
  · rw [q 73 rfl, q 77 rfl]
    exact hE
  · rw [q 65 rfl, q 66 rfl, q 78 rfl, q 79 rfl, q 80 rfl]
    exact hS0
  · rw [q 67 rfl, q 68 rfl, q 78 rfl, q 79 rfl, q 80 rfl]
    exact hS1
  · rw [q 69 rfl, q 70 rfl, q 78 rfl, q 79 rfl, q 80 rfl]
    exact hS2
  · rw [q 71 rfl, q 72 rfl, q 78 rfl, q 79 rfl, q 80 rfl]
    exact hS3
  · rw [q 62 rfl, q 63 rfl, q 91 rfl]
    obtain ⟨l, a1, a2, a3, a4⟩ := hT
    exact ⟨l, a1, a2, q25.trans a3, a4⟩
theorem sp_findOrder {L : Nat} {xs : Nat → Int32} {d ms b : Nat} {h : am_HI} {Q : am_Q} {n c t : Nat} {s0 s1 : Int32} {p0 p1 : List Int32} (HS : am_hs h n c t s0 s1 p0 p1) (hd : 24 ≤ d) (kk : ∀ X2, (∀ a, [17, 18, 22, 23, 47, 48, 49, 51, 52, 54].elem a = false → X2 a = h a) → X2 49 3 = (od_go (fun j g => hs_lk h s0 p0 j g) (fun j g => hs_mk h s1 p1 j g) c n n 0 0 (2 ^ c - 1) 0 (fun _ => 0) od_s0).2.1 → (∀ i, i < n → X2 51 i = (od_go (fun j g => hs_lk h s0 p0 j g) (fun j g => hs_mk h s1 p1 j g) c n n 0 0 (2 ^ c - 1) 0 (fun _ => 0) od_s0).2.2 i) → Q none (am_S b) X2) :
    am_wp L xs d 0 ms 84 0 [.ref 49, .ref 1, .ref 47] [] (am_S b) h Q := by
  have hn7 := HS.2.2.2.1
  have hc7 := HS.2.2.2.2.1
  have hn := HS.1
  have hc := HS.2.1
  have hft : (od_go (fun j g => hs_lk h s0 p0 j g) (fun j g => hs_mk h s1 p1 j g) c n n 0 0 (2 ^ c - 1) 0 (fun _ => 0) od_s0).1 = true := od_go_t hn7 n 0 0 _ _ _ _ (by decide) (od_cn_0 n (by omega))
  refine wp_run 2 (pc' := 2) (ls' := [.ref 49, .ref 1, .ref 47]) (st' := [.ref 1, .ref 49]) rfl ?_
  refine wp_callV (o := 49) (as := [.ref 1]) (rest := []) (els := [.ref 49, .ref 1, am_du, am_du]) rfl rfl rfl rfl rfl rfl rfl rfl (by omega) ?_
  refine sp_learnMakes HS (by omega) (fun gw g54 => ?_)
  show am_wp L xs _ _ _ _ 5 [.ref 49, .ref 1, .ref 47] [] (am_S b) (am_ov h [22, 23, 54] gw) _
  refine wp_run 2 (pc' := 7) (ls' := [.ref 49, .ref 1, .ref 47]) (st' := [.ref 1, .ref 47]) rfl ?_
  refine wp_callV (o := 47) (as := [.ref 1]) (rest := []) (els := [.ref 47, .ref 1, am_du]) rfl rfl rfl rfl rfl rfl rfl rfl (by omega) ?_
  refine sp_learnAll (h := am_ov h [22, 23, 54] gw) (n := n) (c := c) (t := t) (s0 := s0) (s1 := s1) (p0 := p0) (p1 := p1) HS (by omega) (fun gx f47 f48 => ?_)
  show am_wp L xs _ _ _ _ 10 [.ref 49, .ref 1, .ref 47] [] (am_S b) (am_ov (am_ov h [22, 23, 54] gw) [17, 18, 47, 48] gx) _
  refine wp_run 2 (pc' := 12) (ls' := [.ref 49, .ref 1, .ref 47]) (st' := [.int 0, .ref 49]) rfl ?_
  refine wp_puti rfl rfl ?_
  refine wp_run 2 (pc' := 17) (ls' := [.ref 49, .ref 1, .ref 47]) (st' := [.int 0, .ref 49]) rfl ?_
  refine wp_putz rfl (Or.inl rfl) rfl ?_
  refine wp_run 2 (pc' := 22) (ls' := [.ref 49, .ref 1, .ref 47]) (st' := [.ref 1, .ref 49]) rfl ?_
  refine wp_geti (a := 10) (nI n) hn rfl rfl rfl ?_
  refine wp_puti rfl rfl ?_
  refine wp_run 5 (pc' := 33) (ls' := [.ref 49, .ref 1, .ref 47]) (st' := [.ref 1, .int 0, .int 0, .ref 47, .ref 49]) rfl ?_
  refine wp_callV (o := 1) (as := []) (rest := [.int 0, .int 0, .ref 47, .ref 49]) (els := [.ref 1]) rfl rfl rfl rfl rfl rfl rfl rfl (by omega) ?_
  refine sp_allCoats (h := (am_u (am_u (am_u (am_ov (am_ov h [22, 23, 54] gw) [17, 18, 47, 48] gx) 49 3 0) 49 4 0) 49 5 (nI n))) hc hc7 ?_
  show am_wp L xs _ _ _ _ 36 [.ref 49, .ref 1, .ref 47] [.int (nI (2 ^ c - 1)), .int 0, .int 0, .ref 47, .ref 49] (am_S b) (am_u (am_u (am_u (am_ov (am_ov h [22, 23, 54] gw) [17, 18, 47, 48] gx) 49 3 0) 49 4 0) 49 5 (nI n)) _
  refine wp_run 1 (pc' := 37) (ls' := [.ref 49, .ref 1, .ref 47]) (st' := [.int 0, .int (nI (2 ^ c - 1)), .int 0, .int 0, .ref 47, .ref 49]) rfl ?_
  refine wp_callV (o := 49) (as := [.ref 47, .int 0, .int 0, .int (nI (2 ^ c - 1)), .int 0]) (rest := []) (els := [.ref 49, .ref 47, .int 0, .int 0, .int (nI (2 ^ c - 1)), .int 0, am_du]) rfl rfl rfl rfl rfl rfl rfl rfl (by omega) ?_
  refine sp_goOn L xs (h := (am_ov (am_ov h [22, 23, 54] gw) [17, 18, 47, 48] gx)) (n := n) (c := c) (LK := (fun j g => hs_lk h s0 p0 j g)) (MK := (fun j g => hs_mk h s1 p1 j g)) hn7 hc7 f47 (fun g hg j hj => f48 g hg j hj) (fun g hg j hj => g54 g hg j hj) (fun j g => hs_lk_0 h s0 p0 j g) n _ _ _ 0 0 (2 ^ c - 1) 0 (fun _ => 0) od_s0 _ _ (by omega) (by omega) (by decide) (pu_all_lt c (by omega)) (od_st_0 _) (fun X2 hX2 => ?_)
  show am_wp L xs _ _ _ _ 40 [.ref 49, .ref 1, .ref 47] [] (am_S b) X2 _
  refine wp_retv rfl ?_
  refine kk X2 (fun a ha => ?_) hX2.2.2.2.1 (fun i hi => hX2.2.2.2.2.1 hft i hi)
  rw [hX2.1 a (am_sub ha rfl), am_ov_off (am_sub ha rfl), am_ov_off (am_sub ha rfl)]
theorem op_order {L : Nat} {xs : Nat → Int32} {d ms b N : Nat} {h : am_HI} {Q : am_Q} {x1 : Int32} (hd : 30 ≤ d) (hR : am_Rel N h) (hN : N < 100000)
    (kk : ∀ v b1 h1, (∀ ms2 Q2, (∀ b2 h2, am_Rel (N + 1) h2 → Q2 (some (.int v)) (am_S b2) h2) → am_wp L xs d 0 ms2 187 0 [.ref 74, .int x1] [] (am_S b1) h1 Q2) → Q (some (.int v)) (am_S b1) h1) :
    am_wp L xs d 0 ms 83 0 [.ref 0, .int x1] [] (am_S b) h Q := by
  obtain ⟨⟨n, c, t, tp, wt, s0, s1, p0, p1, H⟩, hI, hE, hS0, hS1, hS2, hS3, hT⟩ := id hR
  have hn := H.1.1
  have hm2 := H.1.2.1
  have hn7 := H.1.2.2
  have hc := H.2.1.1
  have hm3 := H.2.1.2.1
  have hc7 := H.2.1.2.2
  have ht := H.2.2.1.1
  have hm0 := H.2.2.1.2.1
  have ht9 := H.2.2.1.2.2
  have HS := re_hs H
  have HM := re_ms H
  refine wp_run 3 (pc' := 4) (ls' := [.ref 0, .int x1]) (st' := [.int 6, .int (-1), .int x1]) rfl ?_
  refine wp_callS (as := [.int x1, .int (-1), .int 6]) (rest := []) (els := [.int x1, .int (-1), .int 6]) rfl rfl rfl rfl rfl rfl rfl rfl (by omega) ?_
  refine sp_x_withinm (m := 7) (by omega) (by decide) ?_ ?_ ?_
  · skip
    intro ex1
    subst ex1
    show am_wp L xs _ _ _ _ 7 [.ref 0, .int (-1)] [.int 1] (am_S b) h _
    refine wp_if_t rfl (show ¬ (1 : Int32) = 0 from by decide) ?_
    refine wp_run 1 (pc' := 17) (ls' := [.ref 0, .int (-1)]) (st' := [.ref 0]) rfl ?_
    refine wp_getr 1 rfl rfl rfl ?_
    refine wp_geti (a := 10) (nI n) hn rfl rfl rfl ?_
    refine wp_run 1 (pc' := 25) (ls' := [.ref 0, .int (-1)]) (st' := [.int 6, .int (nI n)]) rfl ?_
    refine wp_icmp rfl (fun (cqn6 : (nI n) ≤ 6) => ?_) (fun (cqn6 : ¬ ((nI n) ≤ 6)) => ?_)
    · skip
      have cqn6n : n ≤ 6 := (nI_leI (a := n) (b := 6) (by omega) (by omega)).mp cqn6
      refine wp_run 2 (pc' := 36) (ls' := [.ref 0, .int (-1)]) (st' := [.ref 0, .int (-1)]) rfl ?_
      refine wp_getr 1 rfl rfl rfl ?_
      refine wp_geti (a := 10) (nI n) hn rfl rfl rfl ?_
      refine wp_icmp_t rfl (show ((-1) : Int32) < (nI n) from Int32.lt_of_lt_of_le (show (-1 : Int32) < 0 from by decide) (pu_0 (by omega))) ?_
      refine wp_run 1 (pc' := 52) (ls' := [.ref 0, .int (-1)]) (st' := [.ref 0]) rfl ?_
      refine wp_getr 49 rfl rfl rfl ?_
      refine wp_run 1 (pc' := 56) (ls' := [.ref 0, .int (-1)]) (st' := [.ref 0, .ref 49]) rfl ?_
      refine wp_getr 1 rfl rfl rfl ?_
      refine wp_run 1 (pc' := 60) (ls' := [.ref 0, .int (-1)]) (st' := [.ref 0, .ref 1, .ref 49]) rfl ?_
      refine wp_getr 47 rfl rfl rfl ?_
      refine wp_callV (o := 49) (as := [.ref 1, .ref 47]) (rest := []) (els := [.ref 49, .ref 1, .ref 47]) rfl rfl rfl rfl rfl rfl rfl rfl (by omega) ?_
      refine sp_findOrder HS (by omega) (fun X2 hX2 g3 g51 => ?_)
      show am_wp L xs _ _ _ _ 66 [.ref 0, .int (-1)] [] (am_S b) X2 _
      refine wp_run 1 (pc' := 67) (ls' := [.ref 0, .int (-1)]) (st' := [.int (-1)]) rfl ?_
      refine wp_if_f rfl (show ¬ (0 ≤ ((-1) : Int32)) from by decide) ?_
      refine wp_run 1 (pc' := 71) (ls' := [.ref 0, .int (-1)]) (st' := [.ref 0]) rfl ?_
      refine wp_getr 49 rfl rfl rfl ?_
      refine wp_geti (a := 3) ((od_go (fun j g => hs_lk h s0 p0 j g) (fun j g => hs_mk h s1 p1 j g) c n n 0 0 (2 ^ c - 1) 0 (fun _ => 0) od_s0).2.1) g3 rfl rfl rfl ?_
      refine wp_run 1 (pc' := 89) (ls' := [.ref 0, .int (-1)]) (st' := [.int ((od_go (fun j g => hs_lk h s0 p0 j g) (fun j g => hs_mk h s1 p1 j g) c n n 0 0 (2 ^ c - 1) 0 (fun _ => 0) od_s0).2.1)]) rfl ?_
      refine wp_ret rfl ?_
      refine kk _ _ _ (fun ms2 Q2 kk2 => ?_)
      refine wp_run 3 (pc' := 4) (ls' := [.ref 74, .int (-1)]) (st' := [.int 6, .int (-1), .int (-1)]) rfl ?_
      refine wp_callS (as := [.int (-1), .int (-1), .int 6]) (rest := []) (els := [.int (-1), .int (-1), .int 6]) rfl rfl rfl rfl rfl rfl rfl rfl (by omega) ?_
      refine sp_m_inm (m := 7) (by omega) (by decide) (fun _ => ?_) (fun k hk e => absurd e.symm (pu_ne1 (by omega))) (fun q _ => absurd rfl q)
      show am_wp L xs _ _ _ _ 7 [.ref 74, .int (-1)] [.int 1] (am_S b) X2 _
      refine wp_if_t rfl (show ¬ (1 : Int32) = 0 from by decide) ?_
      refine wp_run 1 (pc' := 18) (ls' := [.ref 74, .int (-1)]) (st' := [.ref 74]) rfl ?_
      refine wp_getr 75 rfl rfl rfl ?_
      refine wp_run 1 (pc' := 22) (ls' := [.ref 74, .int (-1)]) (st' := [.int 2, .ref 75]) rfl ?_
      refine wp_ald (i := 2) (nI n) (show X2 75 2 = nI n from by rw [hX2 75 rfl]; exact hm2) rfl rfl rfl (by decide) rfl ?_
      refine wp_run 1 (pc' := 25) (ls' := [.ref 74, .int (-1)]) (st' := [.int 7, .int (nI n)]) rfl ?_
      refine wp_icmp_t rfl (show ¬ (nI n) = 7 from mt (nI_eq (a := n) (b := 7) (by omega) (by omega)).mp (by omega)) ?_
      refine wp_run 2 (pc' := 37) (ls' := [.ref 74, .int (-1)]) (st' := [.ref 74, .int (-1)]) rfl ?_
      refine wp_getr 75 rfl rfl rfl ?_
      refine wp_run 1 (pc' := 41) (ls' := [.ref 74, .int (-1)]) (st' := [.int 2, .ref 75, .int (-1)]) rfl ?_
      refine wp_ald (i := 2) (nI n) (show X2 75 2 = nI n from by rw [hX2 75 rfl]; exact hm2) rfl rfl rfl (by decide) rfl ?_
      refine wp_icmp_t rfl (show ((-1) : Int32) < (nI n) from Int32.lt_of_lt_of_le (show (-1 : Int32) < 0 from by decide) (pu_0 (by omega))) ?_
      refine wp_run 1 (pc' := 53) (ls' := [.ref 74, .int (-1)]) (st' := [.ref 74]) rfl ?_
      refine wp_callV (o := 74) (as := []) (rest := []) (els := [.ref 74, am_du, am_du]) rfl rfl rfl rfl rfl rfl rfl rfl (by omega) ?_
      refine sp_findWorths (h := X2) (n := n) (c := c) (t := t) (s0 := s0) (s1 := s1) (p0 := p0) (p1 := p1) (re_ms75 HM (hX2 75 rfl)) (by omega) (fun gz2 f86 f87 => ?_)
      show am_wp L xs _ _ _ _ 56 [.ref 74, .int (-1)] [] (am_S b) (am_ov X2 [83, 84, 86, 87] gz2) _
      refine wp_run 2 (pc' := 58) (ls' := [.ref 74, .int (-1)]) (st' := [.int 0, .ref 74]) rfl ?_
      refine wp_putz rfl (Or.inl rfl) rfl ?_
      refine wp_run 2 (pc' := 63) (ls' := [.ref 74, .int (-1)]) (st' := [.int 0, .ref 74]) rfl ?_
      refine wp_puti rfl rfl ?_
      refine wp_run 5 (pc' := 71) (ls' := [.ref 74, .int (-1)]) (st' := [.int 0, .int 0, .int 0, .int 0, .ref 74]) rfl ?_
      refine wp_callV (o := 74) (as := [.int 0, .int 0, .int 0, .int 0]) (rest := []) (els := [.ref 74, .int 0, .int 0, .int 0, .int 0, am_du, am_du]) rfl rfl rfl rfl rfl rfl rfl rfl (by omega) ?_
      refine sp_orders L xs (h := (am_ov X2 [83, 84, 86, 87] gz2)) (n := n) (c := c) (LK := (fun j g => hs_lk h s0 p0 j g)) (MK := (fun j g => hs_mk h s1 p1 j g)) hn7 hc7 (show X2 75 2 = nI n from by rw [hX2 75 rfl]; exact hm2) (show X2 75 3 = nI c from by rw [hX2 75 rfl]; exact hm3) (fun g hg j hj => (f87 g hg j hj).trans ((ms_lk_75 (hX2 75 rfl)).trans (re_lk H hj hg))) (fun g hg j hj => (f86 g hg j hj).trans ((ms_mk_75 (hX2 75 rfl)).trans (re_mk H hj hg))) n _ _ _ 0 0 (2 ^ c - 1) 0 0 (fun _ => 0) od_s0 _ _ (by omega) (by omega) (by decide) (pu_all_lt c (by omega)) (by decide) (fun j hj => (pu_all_bit c (by omega) j (by omega)).trans (by simp [hj])) (rd_st_0 _) (fun Y2 hY2 => ?_)
      have hft : (od_go (fun j g => hs_lk h s0 p0 j g) (fun j g => hs_mk h s1 p1 j g) c n n 0 0 (2 ^ c - 1) 0 (fun _ => 0) od_s0).1 = true := od_go_t hn7 n 0 0 _ _ _ _ (by decide) (od_cn_0 n (by omega))
      show am_wp L xs _ _ _ _ 74 [.ref 74, .int (-1)] [] (am_S b) Y2 _
      refine wp_run 1 (pc' := 75) (ls' := [.ref 74, .int (-1)]) (st' := [.int (-1)]) rfl ?_
      refine wp_if_f rfl (show ¬ (0 ≤ ((-1) : Int32)) from by decide) ?_
      refine wp_run 1 (pc' := 79) (ls' := [.ref 74, .int (-1)]) (st' := [.ref 74]) rfl ?_
      refine wp_geti (a := 22) ((od_go (fun j g => hs_lk h s0 p0 j g) (fun j g => hs_mk h s1 p1 j g) c n n 0 0 (2 ^ c - 1) 0 (fun _ => 0) od_s0).2.1) hY2.2.2.2.1 rfl rfl rfl ?_
      refine wp_run 1 (pc' := 91) (ls' := [.ref 74, .int (-1)]) (st' := [.int ((od_go (fun j g => hs_lk h s0 p0 j g) (fun j g => hs_mk h s1 p1 j g) c n n 0 0 (2 ^ c - 1) 0 (fun _ => 0) od_s0).2.1)]) rfl ?_
      refine wp_ret rfl ?_
      have hq : ∀ a, [17, 18, 22, 23, 47, 48, 49, 51, 52, 54, 74, 83, 84, 86, 87, 89, 90].elem a = false → Y2 a = h a := fun a ha => by
        rw [hY2.1 a (am_sub ha rfl), am_ov_off (am_sub ha rfl), hX2 a (am_sub ha rfl)]
      have hH : re_H Y2 n c t tp wt s0 s1 p0 p1 := by
        unfold re_H
        rw [hq 1 rfl, hq 2 rfl, hq 3 rfl, hq 4 rfl, hq 5 rfl, hq 6 rfl, hq 7 rfl, hq 8 rfl, hq 9 rfl, hq 10 rfl, hq 11 rfl, hq 12 rfl, hq 14 rfl, hq 15 rfl, hq 16 rfl, hq 19 rfl, hq 20 rfl, hq 21 rfl, hq 75 rfl]
        exact H
      have e2 : Y2 74 2 = h 74 2 := (hY2.2.1 2 (by decide) (by decide)).trans (show X2 74 2 = h 74 2 from by rw [hX2 74 rfl])
      have e25 : Y2 74 25 = h 74 25 := (hY2.2.1 25 (by decide) (by decide)).trans (show X2 74 25 = h 74 25 from by rw [hX2 74 rfl])
      exact kk2 _ _ (re_keep74 hR (fun a ha => hq a (am_sub ha rfl)) e2 e25 ⟨n, c, t, tp, wt, s0, s1, p0, p1, hH⟩)
    · skip
      have cqn6n : ¬ (n ≤ 6) := fun q => cqn6 ((nI_leI (a := n) (b := 6) (by omega) (by omega)).mpr q)
      refine wp_run 2 (pc' := 30) (ls' := [.ref 0, .int (-1)]) (st' := [.int 3, .ref 0]) rfl ?_
      refine wp_callV (o := 0) (as := [.int 3]) (rest := []) (els := [.ref 0, .int 3]) rfl rfl rfl rfl rfl rfl rfl rfl (by omega) ?_
      refine sp_refuse3 (by omega) ?_
      show am_wp L xs _ _ _ _ 33 [.ref 0, .int (-1)] [.int (-1000000003)] (am_S b) (am_u h 73 3 (h 73 3 + 1)) _
      refine wp_ret rfl ?_
      refine kk _ _ _ (fun ms2 Q2 kk2 => ?_)
      refine wp_run 3 (pc' := 4) (ls' := [.ref 74, .int (-1)]) (st' := [.int 6, .int (-1), .int (-1)]) rfl ?_
      refine wp_callS (as := [.int (-1), .int (-1), .int 6]) (rest := []) (els := [.int (-1), .int (-1), .int 6]) rfl rfl rfl rfl rfl rfl rfl rfl (by omega) ?_
      refine sp_m_inm (m := 7) (by omega) (by decide) (fun _ => ?_) (fun k hk e => absurd e.symm (pu_ne1 (by omega))) (fun q _ => absurd rfl q)
      show am_wp L xs _ _ _ _ 7 [.ref 74, .int (-1)] [.int 1] (am_S b) (am_u h 73 3 (h 73 3 + 1)) _
      refine wp_if_t rfl (show ¬ (1 : Int32) = 0 from by decide) ?_
      refine wp_run 1 (pc' := 18) (ls' := [.ref 74, .int (-1)]) (st' := [.ref 74]) rfl ?_
      refine wp_getr 75 rfl rfl rfl ?_
      refine wp_run 1 (pc' := 22) (ls' := [.ref 74, .int (-1)]) (st' := [.int 2, .ref 75]) rfl ?_
      refine wp_ald (i := 2) (nI n) hm2 rfl rfl rfl (by decide) rfl ?_
      refine wp_run 1 (pc' := 25) (ls' := [.ref 74, .int (-1)]) (st' := [.int 7, .int (nI n)]) rfl ?_
      refine wp_icmp_f rfl (show ¬ (¬ (nI n) = 7) from (fun q => q ((nI_eq (a := n) (b := 7) (by omega) (by omega)).mpr (by omega)))) ?_
      refine wp_run 2 (pc' := 31) (ls' := [.ref 74, .int (-1)]) (st' := [.int (-1000000003), .ref 74]) rfl ?_
      refine wp_callV (o := 74) (as := [.int (-1000000003)]) (rest := []) (els := [.ref 74, .int (-1000000003)]) rfl rfl rfl rfl rfl rfl rfl rfl (by omega) ?_
      refine sp_error3 ?_
      show am_wp L xs _ _ _ _ 34 [.ref 74, .int (-1)] [.int (-1000000003)] (am_S b) (am_u (am_u h 73 3 (h 73 3 + 1)) 77 3 ((am_u h 73 3 (h 73 3 + 1)) 77 3 + 1)) _
      refine wp_ret rfl ?_
      exact kk2 _ _ (re_err3 hR)
  · skip
    intro kx1 hkx1 ex1
    subst ex1
    show am_wp L xs _ _ _ _ 7 [.ref 0, .int (nI kx1)] [.int 1] (am_S b) h _
    refine wp_if_t rfl (show ¬ (1 : Int32) = 0 from by decide) ?_
    refine wp_run 1 (pc' := 17) (ls' := [.ref 0, .int (nI kx1)]) (st' := [.ref 0]) rfl ?_
    refine wp_getr 1 rfl rfl rfl ?_
    refine wp_geti (a := 10) (nI n) hn rfl rfl rfl ?_
    refine wp_run 1 (pc' := 25) (ls' := [.ref 0, .int (nI kx1)]) (st' := [.int 6, .int (nI n)]) rfl ?_
    refine wp_icmp rfl (fun (cqn6 : (nI n) ≤ 6) => ?_) (fun (cqn6 : ¬ ((nI n) ≤ 6)) => ?_)
    · skip
      have cqn6n : n ≤ 6 := (nI_leI (a := n) (b := 6) (by omega) (by omega)).mp cqn6
      refine wp_run 2 (pc' := 36) (ls' := [.ref 0, .int (nI kx1)]) (st' := [.ref 0, .int (nI kx1)]) rfl ?_
      refine wp_getr 1 rfl rfl rfl ?_
      refine wp_geti (a := 10) (nI n) hn rfl rfl rfl ?_
      refine wp_icmp rfl (fun (cqlt : (nI kx1) < (nI n)) => ?_) (fun (cqlt : ¬ ((nI kx1) < (nI n))) => ?_)
      · skip
        have cqltn : kx1 < n := (nI_ltI (a := kx1) (b := n) (by omega) (by omega)).mp cqlt
        refine wp_run 1 (pc' := 52) (ls' := [.ref 0, .int (nI kx1)]) (st' := [.ref 0]) rfl ?_
        refine wp_getr 49 rfl rfl rfl ?_
        refine wp_run 1 (pc' := 56) (ls' := [.ref 0, .int (nI kx1)]) (st' := [.ref 0, .ref 49]) rfl ?_
        refine wp_getr 1 rfl rfl rfl ?_
        refine wp_run 1 (pc' := 60) (ls' := [.ref 0, .int (nI kx1)]) (st' := [.ref 0, .ref 1, .ref 49]) rfl ?_
        refine wp_getr 47 rfl rfl rfl ?_
        refine wp_callV (o := 49) (as := [.ref 1, .ref 47]) (rest := []) (els := [.ref 49, .ref 1, .ref 47]) rfl rfl rfl rfl rfl rfl rfl rfl (by omega) ?_
        refine sp_findOrder HS (by omega) (fun X2 hX2 g3 g51 => ?_)
        show am_wp L xs _ _ _ _ 66 [.ref 0, .int (nI kx1)] [] (am_S b) X2 _
        refine wp_run 1 (pc' := 67) (ls' := [.ref 0, .int (nI kx1)]) (st' := [.int (nI kx1)]) rfl ?_
        refine wp_if_t rfl (show 0 ≤ (nI kx1) from (nI_leI (a := 0) (b := kx1) (by omega) (by omega)).mpr (by omega)) ?_
        refine wp_run 1 (pc' := 81) (ls' := [.ref 0, .int (nI kx1)]) (st' := [.ref 0]) rfl ?_
        refine wp_getr 49 rfl rfl rfl ?_
        refine wp_getr 51 rfl rfl rfl ?_
        refine wp_run 1 (pc' := 88) (ls' := [.ref 0, .int (nI kx1)]) (st' := [.int (nI kx1), .ref 51]) rfl ?_
        refine wp_ald (i := kx1) ((od_go (fun j g => hs_lk h s0 p0 j g) (fun j g => hs_mk h s1 p1 j g) c n n 0 0 (2 ^ c - 1) 0 (fun _ => 0) od_s0).2.2 kx1) (g51 kx1 (by omega)) rfl rfl rfl (by omega) rfl ?_
        refine wp_ret rfl ?_
        refine kk _ _ _ (fun ms2 Q2 kk2 => ?_)
        refine wp_run 3 (pc' := 4) (ls' := [.ref 74, .int (nI kx1)]) (st' := [.int 6, .int (-1), .int (nI kx1)]) rfl ?_
        refine wp_callS (as := [.int (nI kx1), .int (-1), .int 6]) (rest := []) (els := [.int (nI kx1), .int (-1), .int 6]) rfl rfl rfl rfl rfl rfl rfl rfl (by omega) ?_
        refine sp_m_inm (m := 7) (by omega) (by decide) (fun q => absurd q (pu_ne1 (by omega))) (fun _ _ _ => ?_) (fun _ q => absurd rfl (q kx1 (by omega)))
        show am_wp L xs _ _ _ _ 7 [.ref 74, .int (nI kx1)] [.int 1] (am_S b) X2 _
        refine wp_if_t rfl (show ¬ (1 : Int32) = 0 from by decide) ?_
        refine wp_run 1 (pc' := 18) (ls' := [.ref 74, .int (nI kx1)]) (st' := [.ref 74]) rfl ?_
        refine wp_getr 75 rfl rfl rfl ?_
        refine wp_run 1 (pc' := 22) (ls' := [.ref 74, .int (nI kx1)]) (st' := [.int 2, .ref 75]) rfl ?_
        refine wp_ald (i := 2) (nI n) (show X2 75 2 = nI n from by rw [hX2 75 rfl]; exact hm2) rfl rfl rfl (by decide) rfl ?_
        refine wp_run 1 (pc' := 25) (ls' := [.ref 74, .int (nI kx1)]) (st' := [.int 7, .int (nI n)]) rfl ?_
        refine wp_icmp_t rfl (show ¬ (nI n) = 7 from mt (nI_eq (a := n) (b := 7) (by omega) (by omega)).mp (by omega)) ?_
        refine wp_run 2 (pc' := 37) (ls' := [.ref 74, .int (nI kx1)]) (st' := [.ref 74, .int (nI kx1)]) rfl ?_
        refine wp_getr 75 rfl rfl rfl ?_
        refine wp_run 1 (pc' := 41) (ls' := [.ref 74, .int (nI kx1)]) (st' := [.int 2, .ref 75, .int (nI kx1)]) rfl ?_
        refine wp_ald (i := 2) (nI n) (show X2 75 2 = nI n from by rw [hX2 75 rfl]; exact hm2) rfl rfl rfl (by decide) rfl ?_
        refine wp_icmp_t rfl (show (nI kx1) < (nI n) from (nI_ltI (a := kx1) (b := n) (by omega) (by omega)).mpr (by omega)) ?_
        refine wp_run 1 (pc' := 53) (ls' := [.ref 74, .int (nI kx1)]) (st' := [.ref 74]) rfl ?_
        refine wp_callV (o := 74) (as := []) (rest := []) (els := [.ref 74, am_du, am_du]) rfl rfl rfl rfl rfl rfl rfl rfl (by omega) ?_
        refine sp_findWorths (h := X2) (n := n) (c := c) (t := t) (s0 := s0) (s1 := s1) (p0 := p0) (p1 := p1) (re_ms75 HM (hX2 75 rfl)) (by omega) (fun gz2 f86 f87 => ?_)
        show am_wp L xs _ _ _ _ 56 [.ref 74, .int (nI kx1)] [] (am_S b) (am_ov X2 [83, 84, 86, 87] gz2) _
        refine wp_run 2 (pc' := 58) (ls' := [.ref 74, .int (nI kx1)]) (st' := [.int 0, .ref 74]) rfl ?_
        refine wp_putz rfl (Or.inl rfl) rfl ?_
        refine wp_run 2 (pc' := 63) (ls' := [.ref 74, .int (nI kx1)]) (st' := [.int 0, .ref 74]) rfl ?_
        refine wp_puti rfl rfl ?_
        refine wp_run 5 (pc' := 71) (ls' := [.ref 74, .int (nI kx1)]) (st' := [.int 0, .int 0, .int 0, .int 0, .ref 74]) rfl ?_
        refine wp_callV (o := 74) (as := [.int 0, .int 0, .int 0, .int 0]) (rest := []) (els := [.ref 74, .int 0, .int 0, .int 0, .int 0, am_du, am_du]) rfl rfl rfl rfl rfl rfl rfl rfl (by omega) ?_
        refine sp_orders L xs (h := (am_ov X2 [83, 84, 86, 87] gz2)) (n := n) (c := c) (LK := (fun j g => hs_lk h s0 p0 j g)) (MK := (fun j g => hs_mk h s1 p1 j g)) hn7 hc7 (show X2 75 2 = nI n from by rw [hX2 75 rfl]; exact hm2) (show X2 75 3 = nI c from by rw [hX2 75 rfl]; exact hm3) (fun g hg j hj => (f87 g hg j hj).trans ((ms_lk_75 (hX2 75 rfl)).trans (re_lk H hj hg))) (fun g hg j hj => (f86 g hg j hj).trans ((ms_mk_75 (hX2 75 rfl)).trans (re_mk H hj hg))) n _ _ _ 0 0 (2 ^ c - 1) 0 0 (fun _ => 0) od_s0 _ _ (by omega) (by omega) (by decide) (pu_all_lt c (by omega)) (by decide) (fun j hj => (pu_all_bit c (by omega) j (by omega)).trans (by simp [hj])) (rd_st_0 _) (fun Y2 hY2 => ?_)
        have hft : (od_go (fun j g => hs_lk h s0 p0 j g) (fun j g => hs_mk h s1 p1 j g) c n n 0 0 (2 ^ c - 1) 0 (fun _ => 0) od_s0).1 = true := od_go_t hn7 n 0 0 _ _ _ _ (by decide) (od_cn_0 n (by omega))
        show am_wp L xs _ _ _ _ 74 [.ref 74, .int (nI kx1)] [] (am_S b) Y2 _
        refine wp_run 1 (pc' := 75) (ls' := [.ref 74, .int (nI kx1)]) (st' := [.int (nI kx1)]) rfl ?_
        refine wp_if_t rfl (show 0 ≤ (nI kx1) from (nI_leI (a := 0) (b := kx1) (by omega) (by omega)).mpr (by omega)) ?_
        refine wp_run 1 (pc' := 86) (ls' := [.ref 74, .int (nI kx1)]) (st' := [.ref 74]) rfl ?_
        refine wp_getr 90 rfl rfl rfl ?_
        refine wp_run 1 (pc' := 90) (ls' := [.ref 74, .int (nI kx1)]) (st' := [.int (nI kx1), .ref 90]) rfl ?_
        refine wp_ald (i := kx1) ((od_go (fun j g => hs_lk h s0 p0 j g) (fun j g => hs_mk h s1 p1 j g) c n n 0 0 (2 ^ c - 1) 0 (fun _ => 0) od_s0).2.2 kx1) (hY2.2.2.2.2.1 hft kx1 (by omega)) rfl rfl rfl (by omega) rfl ?_
        refine wp_ret rfl ?_
        have hq : ∀ a, [17, 18, 22, 23, 47, 48, 49, 51, 52, 54, 74, 83, 84, 86, 87, 89, 90].elem a = false → Y2 a = h a := fun a ha => by
          rw [hY2.1 a (am_sub ha rfl), am_ov_off (am_sub ha rfl), hX2 a (am_sub ha rfl)]
        have hH : re_H Y2 n c t tp wt s0 s1 p0 p1 := by
          unfold re_H
          rw [hq 1 rfl, hq 2 rfl, hq 3 rfl, hq 4 rfl, hq 5 rfl, hq 6 rfl, hq 7 rfl, hq 8 rfl, hq 9 rfl, hq 10 rfl, hq 11 rfl, hq 12 rfl, hq 14 rfl, hq 15 rfl, hq 16 rfl, hq 19 rfl, hq 20 rfl, hq 21 rfl, hq 75 rfl]
          exact H
        have e2 : Y2 74 2 = h 74 2 := (hY2.2.1 2 (by decide) (by decide)).trans (show X2 74 2 = h 74 2 from by rw [hX2 74 rfl])
        have e25 : Y2 74 25 = h 74 25 := (hY2.2.1 25 (by decide) (by decide)).trans (show X2 74 25 = h 74 25 from by rw [hX2 74 rfl])
        exact kk2 _ _ (re_keep74 hR (fun a ha => hq a (am_sub ha rfl)) e2 e25 ⟨n, c, t, tp, wt, s0, s1, p0, p1, hH⟩)
      · skip
        have cqltn : ¬ (kx1 < n) := fun q => cqlt ((nI_ltI (a := kx1) (b := n) (by omega) (by omega)).mpr q)
        refine wp_run 2 (pc' := 47) (ls' := [.ref 0, .int (nI kx1)]) (st' := [.int 2, .ref 0]) rfl ?_
        refine wp_callV (o := 0) (as := [.int 2]) (rest := []) (els := [.ref 0, .int 2]) rfl rfl rfl rfl rfl rfl rfl rfl (by omega) ?_
        refine sp_refuse2 (by omega) ?_
        show am_wp L xs _ _ _ _ 50 [.ref 0, .int (nI kx1)] [.int (-1000000002)] (am_S b) (am_u h 73 2 (h 73 2 + 1)) _
        refine wp_ret rfl ?_
        refine kk _ _ _ (fun ms2 Q2 kk2 => ?_)
        refine wp_run 3 (pc' := 4) (ls' := [.ref 74, .int (nI kx1)]) (st' := [.int 6, .int (-1), .int (nI kx1)]) rfl ?_
        refine wp_callS (as := [.int (nI kx1), .int (-1), .int 6]) (rest := []) (els := [.int (nI kx1), .int (-1), .int 6]) rfl rfl rfl rfl rfl rfl rfl rfl (by omega) ?_
        refine sp_m_inm (m := 7) (by omega) (by decide) (fun q => absurd q (pu_ne1 (by omega))) (fun _ _ _ => ?_) (fun _ q => absurd rfl (q kx1 (by omega)))
        show am_wp L xs _ _ _ _ 7 [.ref 74, .int (nI kx1)] [.int 1] (am_S b) (am_u h 73 2 (h 73 2 + 1)) _
        refine wp_if_t rfl (show ¬ (1 : Int32) = 0 from by decide) ?_
        refine wp_run 1 (pc' := 18) (ls' := [.ref 74, .int (nI kx1)]) (st' := [.ref 74]) rfl ?_
        refine wp_getr 75 rfl rfl rfl ?_
        refine wp_run 1 (pc' := 22) (ls' := [.ref 74, .int (nI kx1)]) (st' := [.int 2, .ref 75]) rfl ?_
        refine wp_ald (i := 2) (nI n) hm2 rfl rfl rfl (by decide) rfl ?_
        refine wp_run 1 (pc' := 25) (ls' := [.ref 74, .int (nI kx1)]) (st' := [.int 7, .int (nI n)]) rfl ?_
        refine wp_icmp_t rfl (show ¬ (nI n) = 7 from mt (nI_eq (a := n) (b := 7) (by omega) (by omega)).mp (by omega)) ?_
        refine wp_run 2 (pc' := 37) (ls' := [.ref 74, .int (nI kx1)]) (st' := [.ref 74, .int (nI kx1)]) rfl ?_
        refine wp_getr 75 rfl rfl rfl ?_
        refine wp_run 1 (pc' := 41) (ls' := [.ref 74, .int (nI kx1)]) (st' := [.int 2, .ref 75, .int (nI kx1)]) rfl ?_
        refine wp_ald (i := 2) (nI n) hm2 rfl rfl rfl (by decide) rfl ?_
        refine wp_icmp_f rfl (show ¬ ((nI kx1) < (nI n)) from mt (nI_ltI (a := kx1) (b := n) (by omega) (by omega)).mp (by omega)) ?_
        refine wp_run 2 (pc' := 48) (ls' := [.ref 74, .int (nI kx1)]) (st' := [.int (-1000000002), .ref 74]) rfl ?_
        refine wp_callV (o := 74) (as := [.int (-1000000002)]) (rest := []) (els := [.ref 74, .int (-1000000002)]) rfl rfl rfl rfl rfl rfl rfl rfl (by omega) ?_
        refine sp_error2 ?_
        show am_wp L xs _ _ _ _ 51 [.ref 74, .int (nI kx1)] [.int (-1000000002)] (am_S b) (am_u (am_u h 73 2 (h 73 2 + 1)) 77 2 ((am_u h 73 2 (h 73 2 + 1)) 77 2 + 1)) _
        refine wp_ret rfl ?_
        exact kk2 _ _ (re_err2 hR)
    · skip
      have cqn6n : ¬ (n ≤ 6) := fun q => cqn6 ((nI_leI (a := n) (b := 6) (by omega) (by omega)).mpr q)
      refine wp_run 2 (pc' := 30) (ls' := [.ref 0, .int (nI kx1)]) (st' := [.int 3, .ref 0]) rfl ?_
      refine wp_callV (o := 0) (as := [.int 3]) (rest := []) (els := [.ref 0, .int 3]) rfl rfl rfl rfl rfl rfl rfl rfl (by omega) ?_
      refine sp_refuse3 (by omega) ?_
      show am_wp L xs _ _ _ _ 33 [.ref 0, .int (nI kx1)] [.int (-1000000003)] (am_S b) (am_u h 73 3 (h 73 3 + 1)) _
      refine wp_ret rfl ?_
      refine kk _ _ _ (fun ms2 Q2 kk2 => ?_)
      refine wp_run 3 (pc' := 4) (ls' := [.ref 74, .int (nI kx1)]) (st' := [.int 6, .int (-1), .int (nI kx1)]) rfl ?_
      refine wp_callS (as := [.int (nI kx1), .int (-1), .int 6]) (rest := []) (els := [.int (nI kx1), .int (-1), .int 6]) rfl rfl rfl rfl rfl rfl rfl rfl (by omega) ?_
      refine sp_m_inm (m := 7) (by omega) (by decide) (fun q => absurd q (pu_ne1 (by omega))) (fun _ _ _ => ?_) (fun _ q => absurd rfl (q kx1 (by omega)))
      show am_wp L xs _ _ _ _ 7 [.ref 74, .int (nI kx1)] [.int 1] (am_S b) (am_u h 73 3 (h 73 3 + 1)) _
      refine wp_if_t rfl (show ¬ (1 : Int32) = 0 from by decide) ?_
      refine wp_run 1 (pc' := 18) (ls' := [.ref 74, .int (nI kx1)]) (st' := [.ref 74]) rfl ?_
      refine wp_getr 75 rfl rfl rfl ?_
      refine wp_run 1 (pc' := 22) (ls' := [.ref 74, .int (nI kx1)]) (st' := [.int 2, .ref 75]) rfl ?_
      refine wp_ald (i := 2) (nI n) hm2 rfl rfl rfl (by decide) rfl ?_
      refine wp_run 1 (pc' := 25) (ls' := [.ref 74, .int (nI kx1)]) (st' := [.int 7, .int (nI n)]) rfl ?_
      refine wp_icmp_f rfl (show ¬ (¬ (nI n) = 7) from (fun q => q ((nI_eq (a := n) (b := 7) (by omega) (by omega)).mpr (by omega)))) ?_
      refine wp_run 2 (pc' := 31) (ls' := [.ref 74, .int (nI kx1)]) (st' := [.int (-1000000003), .ref 74]) rfl ?_
      refine wp_callV (o := 74) (as := [.int (-1000000003)]) (rest := []) (els := [.ref 74, .int (-1000000003)]) rfl rfl rfl rfl rfl rfl rfl rfl (by omega) ?_
      refine sp_error3 ?_
      show am_wp L xs _ _ _ _ 34 [.ref 74, .int (nI kx1)] [.int (-1000000003)] (am_S b) (am_u (am_u h 73 3 (h 73 3 + 1)) 77 3 ((am_u h 73 3 (h 73 3 + 1)) 77 3 + 1)) _
      refine wp_ret rfl ?_
      exact kk2 _ _ (re_err3 hR)
  · skip
    intro hm1 hm2x
    have hmx := And.intro hm1 hm2x
    show am_wp L xs _ _ _ _ 7 [.ref 0, .int x1] [.int 0] (am_S b) h _
    refine wp_if_f rfl (show ¬ (¬ (0 : Int32) = 0) from by decide) ?_
    refine wp_run 2 (pc' := 12) (ls' := [.ref 0, .int x1]) (st' := [.int 1, .ref 0]) rfl ?_
    refine wp_callV (o := 0) (as := [.int 1]) (rest := []) (els := [.ref 0, .int 1]) rfl rfl rfl rfl rfl rfl rfl rfl (by omega) ?_
    refine sp_refuse1 (by omega) ?_
    show am_wp L xs _ _ _ _ 15 [.ref 0, .int x1] [.int (-1000000001)] (am_S b) (am_u h 73 1 (h 73 1 + 1)) _
    refine wp_ret rfl ?_
    refine kk _ _ _ (fun ms2 Q2 kk2 => ?_)
    refine wp_run 3 (pc' := 4) (ls' := [.ref 74, .int x1]) (st' := [.int 6, .int (-1), .int x1]) rfl ?_
    refine wp_callS (as := [.int x1, .int (-1), .int 6]) (rest := []) (els := [.int x1, .int (-1), .int 6]) rfl rfl rfl rfl rfl rfl rfl rfl (by omega) ?_
    refine sp_m_inm (m := 7) (by omega) (by decide) (fun q => absurd q hmx.1) (fun k hk e => absurd e (hmx.2 k hk)) (fun _ _ => ?_)
    show am_wp L xs _ _ _ _ 7 [.ref 74, .int x1] [.int 0] (am_S b) (am_u h 73 1 (h 73 1 + 1)) _
    refine wp_if_f rfl (show ¬ (¬ (0 : Int32) = 0) from by decide) ?_
    refine wp_run 2 (pc' := 13) (ls' := [.ref 74, .int x1]) (st' := [.int (-1000000001), .ref 74]) rfl ?_
    refine wp_callV (o := 74) (as := [.int (-1000000001)]) (rest := []) (els := [.ref 74, .int (-1000000001)]) rfl rfl rfl rfl rfl rfl rfl rfl (by omega) ?_
    refine sp_error1 ?_
    show am_wp L xs _ _ _ _ 16 [.ref 74, .int x1] [.int (-1000000001)] (am_S b) (am_u (am_u h 73 1 (h 73 1 + 1)) 77 1 ((am_u h 73 1 (h 73 1 + 1)) 77 1 + 1)) _
    refine wp_ret rfl ?_
    exact kk2 _ _ (re_err1 hR)
