/-! leaving in a round, nights: the reference's side -/
theorem ab_bits {c n : Nat} {e f : Nat → Int32} (hc : c ≤ 7) (hw : ab_w c n e) (he : ∀ g, g < n → f g = e g) {k : Nat} (hk : k < c) : (hs_peg e c n).testBit k = !((ms_worn f n).testBit k) := by
  have hwf : ∀ g, g < n → f g = -1 ∨ ∃ j, j < c ∧ f g = nI j := fun g hg => by rw [he g hg]; exact hw g hg
  have h1 := hs_peg_bit (f := e) hc k (by omega) n hw
  have h2 := ms_worn_bit (f := f) hc k (by omega) n hwf
  cases q3 : (ms_worn f n).testBit k
  · refine h1.mpr ⟨hk, fun g hg q => ?_⟩
    rw [h2.mpr ⟨g, hg, (he g hg).trans q⟩] at q3
    cases q3
  · obtain ⟨g, hg, q⟩ := h2.mp q3
    rw [Bool.not_true, ← Bool.not_eq_true]
    intro q2
    exact (h1.mp q2).2 g hg ((he g hg).symm.trans q)
/-- the reference's row, with others wearing -/
def md_w (m e : Nat → Int32) : Nat → Int32 := fun k => if 7 ≤ k ∧ k < 35 ∧ (k - 7) % 4 = 3 then e ((k - 7) / 4) else m k
def md_r (m e : Nat → Int32) (t : Nat) (gl z : Int32) : Nat → Int32 := upd (upd (upd (md_w m e) 0 (nI t)) 4 gl) 1 z
theorem md_w_at {m e : Nat → Int32} {g : Nat} (hg : g < 7) : md_w m e (7 + 4 * g + 3) = e g := by
  unfold md_w
  rw [if_pos ⟨by omega, by omega, by omega⟩, show (7 + 4 * g + 3 - 7) / 4 = g by omega]
theorem md_w_off {m e : Nat → Int32} {k : Nat} (h : ¬ (7 ≤ k ∧ k < 35 ∧ (k - 7) % 4 = 3)) : md_w m e k = m k := if_neg h
theorem md_r_at {m e : Nat → Int32} {t : Nat} {gl z : Int32} {g : Nat} (hg : g < 7) : md_r m e t gl z (7 + 4 * g + 3) = e g := by
  unfold md_r
  rw [pk_un (by omega), pk_un (by omega), pk_un (by omega), md_w_at hg]
theorem md_r_off {m e : Nat → Int32} {t : Nat} {gl z : Int32} {k : Nat} (h : ¬ (7 ≤ k ∧ k < 35 ∧ (k - 7) % 4 = 3)) (h0 : k ≠ 0) (h4 : k ≠ 4) (h1 : k ≠ 1) : md_r m e t gl z k = m k := by
  unfold md_r
  rw [pk_un h1, pk_un h4, pk_un h0, md_w_off h]
theorem md_w_u {m e : Nat → Int32} {g : Nat} {v : Int32} (hg : g < 7) : upd (md_w m e) (7 + 4 * g + 3) v = md_w m (upd e g v) := by
  funext k
  unfold upd
  by_cases e1 : k = 7 + 4 * g + 3
  · rw [if_pos e1, e1, md_w_at hg, if_pos rfl]
  · rw [if_neg e1]
    unfold md_w
    by_cases e2 : 7 ≤ k ∧ k < 35 ∧ (k - 7) % 4 = 3
    · rw [if_pos e2, if_pos e2]
      exact (if_neg (by omega)).symm
    · rw [if_neg e2, if_neg e2]
theorem md_r_u {m e : Nat → Int32} {t : Nat} {gl z : Int32} {g : Nat} {v : Int32} (hg : g < 7) : upd (md_r m e t gl z) (7 + 4 * g + 3) v = md_r m (upd e g v) t gl z := by
  unfold md_r
  rw [← md_w_u hg, ab_uw _ (show (1 : Nat) ≠ 7 + 4 * g + 3 by omega), ab_uw _ (show (4 : Nat) ≠ 7 + 4 * g + 3 by omega), ab_uw _ (show (0 : Nat) ≠ 7 + 4 * g + 3 by omega)]
theorem md_w_self {m e : Nat → Int32} (h : ∀ g, g < 7 → e g = m (7 + 4 * g + 3)) : md_w m e = m := by
  funext k
  unfold md_w
  by_cases e2 : 7 ≤ k ∧ k < 35 ∧ (k - 7) % 4 = 3
  · rw [if_pos e2, h _ (by omega)]
    congr 1
    omega
  · rw [if_neg e2]
theorem md_r_self {m e : Nat → Int32} {t : Nat} (h : ∀ g, g < 7 → e g = m (7 + 4 * g + 3)) (h0 : m 0 = nI t) : md_r m e t (m 4) (m 1) = m := by
  unfold md_r
  rw [md_w_self h, ← h0, ab_us rfl, ab_us rfl, ab_us rfl]
def ms_LK (m : Nat → Int32) (s : Int32) (p : List Int32) (t j g : Nat) : Int32 := pu_gv s p (pu_suits (m (35 + 3 * j)) (m (35 + 3 * j + 1)) (m (7 + 4 * g)) (m (7 + 4 * g + 1)) (m (7 + 4 * g + 2)) (nI t)) (m (7 + 4 * g + 2)) (am_rem (nI t) 7) 0 99
def ms_MK (m : Nat → Int32) (s : Int32) (p : List Int32) (t j g : Nat) : Int32 := pu_gv s p (pu_makes (m (35 + 3 * j)) (m (35 + 3 * j + 1)) (m (7 + 4 * g)) (nI t)) (m (7 + 4 * g)) (if m (35 + 3 * j + 2) = nI g then 1 else 0) (-99) 99
/-- the reference's row, some nights on -/
def rm_st (h X : am_HI) (e : Nat → Int32) (t : Nat) (gl z : Int32) : Prop := (∀ a, [75, 83, 84].elem a = false → X a = h a) ∧ X 75 = md_r (h 75) e t gl z
theorem re_ml_m {m m2 : Nat → Int32} {at_ : Nat} {s : Int32} {p : List Int32} (h : re_ml m at_ s p) (ha : 56 ≤ at_) (hm : ∀ k, 56 ≤ k → m2 k = m k) : re_ml m2 at_ s p := by
  obtain ⟨h1, h2, h3⟩ := h
  refine ⟨?_, h2, h3⟩
  rcases h1 with ⟨a, b⟩ | ⟨a, b, c, q⟩
  · exact Or.inl ⟨a, (hm _ ha).trans b⟩
  · refine Or.inr ⟨a, (hm _ ha).trans b, c, fun i hi => ?_⟩
    rw [hm _ (by omega), hm _ (by omega)]
    exact q i hi
section RmSt
variable {h X : am_HI} {n c t0 t : Nat} {s0 s1 : Int32} {p0 p1 : List Int32} {e : Nat → Int32} {gl z : Int32}
theorem rm_ms (HM : am_ms h n c t0 s0 s1 p0 p1) (hX : rm_st h X e t gl z) (hw : ab_w c n e) (ht : t ≤ 9999) : am_ms X n c t s0 s1 p0 p1 := by
  obtain ⟨o1, o2, -, o4, o5, -, l0, l1, -⟩ := HM
  have off : ∀ k, 56 ≤ k → X 75 k = h 75 k := fun k hk => by rw [hX.2]; exact md_r_off (by omega) (by omega) (by omega) (by omega)
  refine ⟨by rw [hX.2, md_r_off (by omega) (by omega) (by omega) (by omega)]; exact o1, by rw [hX.2, md_r_off (by omega) (by omega) (by omega) (by omega)]; exact o2, by rw [hX.2]; rfl, o4, o5, ht, re_ml_m l0 (by omega) off, re_ml_m l1 (by omega) off, fun g hg => ?_⟩
  rw [hX.2, md_r_at (by omega)]
  exact hw g hg
theorem rm_at (hX : rm_st h X e t gl z) {g : Nat} (hg : g < 7) : X 75 (7 + 4 * g + 3) = e g := by rw [hX.2, md_r_at hg]
theorem rm_lk (hX : rm_st h X e t gl z) {j g : Nat} (hj : j < 7) (hg : g < 7) : ms_lk X s0 p0 j g = ms_LK (h 75) s0 p0 t j g := by
  unfold ms_lk ms_LK
  rw [hX.2, md_r_off (k := 35 + 3 * j) (by omega) (by omega) (by omega) (by omega), md_r_off (k := 35 + 3 * j + 1) (by omega) (by omega) (by omega) (by omega), md_r_off (k := 7 + 4 * g) (by omega) (by omega) (by omega) (by omega), md_r_off (k := 7 + 4 * g + 1) (by omega) (by omega) (by omega) (by omega), md_r_off (k := 7 + 4 * g + 2) (by omega) (by omega) (by omega) (by omega)]
  rfl
theorem rm_mk (hX : rm_st h X e t gl z) {j g : Nat} (hj : j < 7) (hg : g < 7) : ms_mk X s1 p1 j g = ms_MK (h 75) s1 p1 t j g := by
  unfold ms_mk ms_MK
  rw [hX.2, md_r_off (k := 35 + 3 * j) (by omega) (by omega) (by omega) (by omega), md_r_off (k := 35 + 3 * j + 1) (by omega) (by omega) (by omega) (by omega), md_r_off (k := 7 + 4 * g) (by omega) (by omega) (by omega) (by omega), md_r_off (k := 35 + 3 * j + 2) (by omega) (by omega) (by omega) (by omega)]
  rfl
theorem rm_mkn {MK : Nat → Nat → Nat → Int32} (hX : rm_st h X e t gl z) (hn7 : n ≤ 7) (hc7 : c ≤ 7) (hw : ab_w c n e) (hMK : ∀ t j g, j < c → g < n → ms_MK (h 75) s1 p1 t j g = MK t j g) {g : Nat} (hg : g < n) : ms_mkn X s1 p1 g = ab_mkn (MK t) e g := by
  unfold ms_mkn ab_mkn
  rw [rm_at hX (by omega)]
  rcases hw g hg with e5 | ⟨j, hj, ej⟩
  · rw [if_pos e5, if_pos e5]
  · rw [ej, if_neg (pu_ne1 (by omega)), if_neg (pu_ne1 (by omega)), nI_clamp (by omega), rm_mk hX (by omega) (by omega)]
    exact hMK t j g hj hg
theorem rm_off {g : am_HI} (hX : rm_st h X e t gl z) : rm_st h (am_ov X [83, 84] g) e t gl z :=
  ⟨fun a ha => (am_ov_off (am_sub ha rfl)).trans (hX.1 a ha), (am_ov_off rfl).trans hX.2⟩
theorem rm_lv {g : Nat} {v : Int32} (hX : rm_st h X e t gl z) (hg : g < 7) : rm_st h (am_u X 75 (7 + 4 * g + 3) v) (upd e g v) t gl z := by
  refine ⟨fun a ha => (am_u_off _ _ _ (am_nel ha rfl)).trans (hX.1 a ha), ?_⟩
  show upd (X 75) (7 + 4 * g + 3) v = _
  rw [hX.2, md_r_u hg]
theorem rm_end {gl2 : Int32} (hX : rm_st h X e t gl z) : rm_st h (am_u (am_u X 75 4 gl2) 75 0 (nI (t + 1))) e (t + 1) gl2 z := by
  refine ⟨fun a ha => ?_, ?_⟩
  · rw [am_u_off _ _ _ (am_nel ha rfl), am_u_off _ _ _ (am_nel ha rfl)]
    exact hX.1 a ha
  · show upd (upd (X 75) 4 gl2) 0 (nI (t + 1)) = _
    rw [hX.2]
    unfold md_r
    rw [ab_uw _ (show (1 : Nat) ≠ 4 by decide), ab_ut, ab_uw _ (show (1 : Nat) ≠ 0 by decide), ab_uw _ (show (4 : Nat) ≠ 0 by decide), ab_ut]
theorem rm_z {z2 : Int32} (hX : rm_st h X e t gl z) : rm_st h (am_u X 75 1 z2) e t gl z2 := by
  refine ⟨fun a ha => (am_u_off _ _ _ (am_nel ha rfl)).trans (hX.1 a ha), ?_⟩
  show upd (X 75) 1 z2 = _
  rw [hX.2]
  unfold md_r
  rw [ab_ut]
end RmSt
theorem lp_m_allLeave {L : Nat} {xs : Nat → Int32} {d ms b : Nat} {h : am_HI} {Q : am_Q} {n c t0 t : Nat} {s0 s1 : Int32} {p0 p1 : List Int32} {e : Nat → Int32} {gl z : Int32} (HM : am_ms h n c t0 s0 s1 p0 p1) (ht : t ≤ 9999) (hw : ab_w c n e) {f : Nat} (hf : f < 8) {LK : Nat → Nat → Nat → Int32} (hLK : ∀ t j g, j < c → g < n → ms_LK (h 75) s0 p0 t j g = LK t j g) (hd : 6 ≤ d) (kk : ∀ X2, rm_st h X2 (ab_all (LK t) c n f e n) t gl z → Q none (am_S b) X2) :
    ∀ (m i : Nat) (X : am_HI) (u4 : Value) (hX : rm_st h X (ab_all (LK t) c n f e i) t gl z), i + m = n → am_wp L xs d 0 ms 179 9 [.ref 74, .int (nI f), .int (nI n), .int (nI i), u4] [] (am_S b) X Q := by
  have hn7 := HM.2.2.2.1
  have hc7 := HM.2.2.2.2.1
  intro m
  induction m with
  | zero =>
    intro i X u4 hX hi
    have HX := rm_ms HM hX (ab_all_w hc7 hw i) ht
    refine wp_run 2 (pc' := 11) (ls' := [.ref 74, .int (nI f), .int (nI n), .int (nI i), u4]) (st' := [.int (nI n), .int (nI i)]) rfl ?_
    refine wp_icmp_t rfl (show (nI n) ≤ (nI i) from (nI_leI (a := n) (b := i) (by omega) (by omega)).mpr (by omega)) ?_
    refine wp_retv rfl ?_
    have e9 : i = n := by omega
    rw [e9] at hX
    exact kk X hX
  | succ m ih =>
    intro i X u4 hX hi
    have HX := rm_ms HM hX (ab_all_w hc7 hw i) ht
    refine wp_run 2 (pc' := 11) (ls' := [.ref 74, .int (nI f), .int (nI n), .int (nI i), u4]) (st' := [.int (nI n), .int (nI i)]) rfl ?_
    refine wp_icmp_f rfl (show ¬ ((nI n) ≤ (nI i)) from mt (nI_leI (a := n) (b := i) (by omega) (by omega)).mp (by omega)) ?_
    refine wp_run 4 (pc' := 18) (ls' := [.ref 74, .int (nI f), .int (nI n), .int (nI i), u4]) (st' := [.int (nI n), .int ((nI f) + (nI i))]) rfl ?_
    rw [show (((nI f) + (nI i)) : Int32) = (nI (f + i)) from nI_add f i]
    refine wp_irem rfl (nI_ne0 (by omega) (by omega)) ?_
    obtain ⟨g, hg, hge⟩ : ∃ g, g < n ∧ g = (f + i) % n := ⟨_, Nat.mod_lt _ (by omega), rfl⟩
    rw [show ((am_rem (nI (f + i)) (nI n)) : Int32) = nI g from (pk_rem (by omega) (by omega) (by omega)).trans (by rw [hge])]
    refine wp_run 1 (pc' := 21) (ls' := [.ref 74, .int (nI f), .int (nI n), .int (nI i), .int (nI g)]) (st' := []) rfl ?_
    rcases (show X 75 (7 + 4 * g + 3) = -1 ∨ ∃ j, j < c ∧ X 75 (7 + 4 * g + 3) = nI j from HX.2.2.2.2.2.2.2.2 g hg) with e5 | ⟨j, hj, ej⟩
    · skip
      refine wp_run 5 (pc' := 28) (ls' := [.ref 74, .int (nI f), .int (nI n), .int (nI i), .int (nI g)]) (st' := [.int 3, .int (nI g), .ref 74, .int (nI g), .ref 74]) rfl ?_
      refine wp_callV (o := 74) (as := [.int (nI g), .int 3]) (rest := [.int (nI g), .ref 74]) (els := [.ref 74, .int (nI g), .int 3]) rfl rfl rfl rfl rfl rfl rfl rfl (by omega) ?_
      refine sp_about (w := 3) (-1) e5 (by omega) (by omega) ?_
      show am_wp L xs _ _ _ _ 31 [.ref 74, .int (nI f), .int (nI n), .int (nI i), .int (nI g)] [.int (-1), .int (nI g), .ref 74] (am_S b) X _
      refine wp_if_f rfl (show ¬ (0 ≤ ((-1) : Int32)) from by decide) ?_
      refine wp_run 3 (pc' := 38) (ls' := [.ref 74, .int (nI f), .int (nI n), .int (nI i), .int (nI g)]) (st' := [.ref 74, .int (nI g), .ref 74, .int (nI g), .ref 74]) rfl ?_
      refine wp_callV (o := 74) (as := []) (rest := [.int (nI g), .ref 74, .int (nI g), .ref 74]) (els := [.ref 74, am_du, am_du]) rfl rfl rfl rfl rfl rfl rfl rfl (by omega) ?_
      refine sp_worn (h := X) (n := n) (c := c) HX.1 hn7 hc7 HX.2.2.2.2.2.2.2.2 (by omega) ?_
      show am_wp L xs _ _ _ _ 41 [.ref 74, .int (nI f), .int (nI n), .int (nI i), .int (nI g)] [.int (nI (ms_worn (fun g => X 75 (7 + 4 * g + 3)) n)), .int (nI g), .ref 74, .int (nI g), .ref 74] (am_S b) X _
      refine wp_callV (o := 74) (as := [.int (nI g), .int (nI (ms_worn (fun g => X 75 (7 + 4 * g + 3)) n))]) (rest := [.int (nI g), .ref 74]) (els := [.ref 74, .int (nI g), .int (nI (ms_worn (fun g => X 75 (7 + 4 * g + 3)) n)), am_du, am_du, am_du, am_du]) rfl rfl rfl rfl rfl rfl rfl rfl (by omega) ?_
      refine sp_getsOf (h := X) HX (P := (ms_worn (fun g => X 75 (7 + 4 * g + 3)) n)) (g := g) (ms_worn_lt hc7 n HX.2.2.2.2.2.2.2.2) hg (by omega) (fun v2 gz2 hp2 => ?_)
      show am_wp L xs _ _ _ _ 44 [.ref 74, .int (nI f), .int (nI n), .int (nI i), .int (nI g)] [.int v2, .int (nI g), .ref 74] (am_S b) (am_ov X [83, 84] gz2) _
      refine wp_run 1 (pc' := 54) (ls' := [.ref 74, .int (nI f), .int (nI n), .int (nI i), .int (nI g)]) (st' := [.int v2, .int (nI g), .ref 74]) rfl ?_
      refine wp_callV (o := 74) (as := [.int (nI g), .int v2]) (rest := []) (els := [.ref 74, .int (nI g), .int v2]) rfl rfl rfl rfl rfl rfl rfl rfl (by omega) ?_
      refine sp_puts (g := g) (by omega) ?_
      show am_wp L xs _ _ _ _ 57 [.ref 74, .int (nI f), .int (nI n), .int (nI i), .int (nI g)] [] (am_S b) (am_u (am_ov X [83, 84] gz2) 75 (7 + 4 * g + 3) v2) _
      refine wp_run 2 (pc' := 9) (ls' := [.ref 74, .int (nI f), .int (nI n), .int ((nI i) + 1), .int (nI g)]) (st' := []) rfl ?_
      rw [show (((nI i) + 1) : Int32) = (nI (i + 1)) from nI_add i 1]
      refine ih (i + 1) _ _ ?_ (by omega)
      have eg := (rm_at hX (by omega)).symm.trans e5
      have ev : pu_pk (fun j => (hs_peg (ab_all (LK t) c n f e i) c n).testBit j) (fun j => LK t j g) c = v2 := pu_pk_of hc7 hp2 (fun k hk => ab_bits hc7 (ab_all_w hc7 hw i) (fun g hg => rm_at hX (by omega)) hk) (fun k hk => ((rm_lk hX (by omega) (by omega)).trans (hLK t k g hk hg)).symm)
      rw [show (ab_all (LK t) c n f e (i + 1)) = upd (ab_all (LK t) c n f e i) g v2 from by rw [← ev]; show ab_lv _ _ _ _ _ = _; rw [← hge]; exact if_pos eg]
      exact rm_lv (rm_off hX) (by omega)
    · skip
      refine wp_run 5 (pc' := 28) (ls' := [.ref 74, .int (nI f), .int (nI n), .int (nI i), .int (nI g)]) (st' := [.int 3, .int (nI g), .ref 74, .int (nI g), .ref 74]) rfl ?_
      refine wp_callV (o := 74) (as := [.int (nI g), .int 3]) (rest := [.int (nI g), .ref 74]) (els := [.ref 74, .int (nI g), .int 3]) rfl rfl rfl rfl rfl rfl rfl rfl (by omega) ?_
      refine sp_about (w := 3) (nI j) ej (by omega) (by omega) ?_
      show am_wp L xs _ _ _ _ 31 [.ref 74, .int (nI f), .int (nI n), .int (nI i), .int (nI g)] [.int (nI j), .int (nI g), .ref 74] (am_S b) X _
      refine wp_if_t rfl (show 0 ≤ (nI j) from (nI_leI (a := 0) (b := j) (by omega) (by omega)).mpr (by omega)) ?_
      refine wp_run 3 (pc' := 51) (ls' := [.ref 74, .int (nI f), .int (nI n), .int (nI i), .int (nI g)]) (st' := [.int 3, .int (nI g), .ref 74, .int (nI g), .ref 74]) rfl ?_
      refine wp_callV (o := 74) (as := [.int (nI g), .int 3]) (rest := [.int (nI g), .ref 74]) (els := [.ref 74, .int (nI g), .int 3]) rfl rfl rfl rfl rfl rfl rfl rfl (by omega) ?_
      refine sp_about (w := 3) (nI j) ej (by omega) (by omega) ?_
      show am_wp L xs _ _ _ _ 54 [.ref 74, .int (nI f), .int (nI n), .int (nI i), .int (nI g)] [.int (nI j), .int (nI g), .ref 74] (am_S b) X _
      refine wp_callV (o := 74) (as := [.int (nI g), .int (nI j)]) (rest := []) (els := [.ref 74, .int (nI g), .int (nI j)]) rfl rfl rfl rfl rfl rfl rfl rfl (by omega) ?_
      refine sp_puts (g := g) (by omega) ?_
      show am_wp L xs _ _ _ _ 57 [.ref 74, .int (nI f), .int (nI n), .int (nI i), .int (nI g)] [] (am_S b) (am_u X 75 (7 + 4 * g + 3) (nI j)) _
      refine wp_run 2 (pc' := 9) (ls' := [.ref 74, .int (nI f), .int (nI n), .int ((nI i) + 1), .int (nI g)]) (st' := []) rfl ?_
      rw [show (((nI i) + 1) : Int32) = (nI (i + 1)) from nI_add i 1]
      refine ih (i + 1) _ _ ?_ (by omega)
      have eg := (rm_at hX (by omega)).symm.trans ej
      rw [show (ab_all (LK t) c n f e (i + 1)) = (ab_all (LK t) c n f e i) from if_neg (by rw [← hge, eg]; exact pu_ne1 (by omega))]
      have q := rm_lv (g := g) (v := nI j) hX (by omega)
      rw [ab_us (f := (ab_all (LK t) c n f e i)) eg] at q
      exact q
theorem sp_m_allLeave {L : Nat} {xs : Nat → Int32} {d ms b : Nat} {h : am_HI} {Q : am_Q} {n c t0 t : Nat} {s0 s1 : Int32} {p0 p1 : List Int32} {e : Nat → Int32} {gl z : Int32} (HM : am_ms h n c t0 s0 s1 p0 p1) (ht : t ≤ 9999) (hw : ab_w c n e) {f : Nat} (hf : f < 8) {LK : Nat → Nat → Nat → Int32} (hLK : ∀ t j g, j < c → g < n → ms_LK (h 75) s0 p0 t j g = LK t j g) {X : am_HI} (hX : rm_st h X e t gl z) (hd : 6 ≤ d) (kk : ∀ X2, rm_st h X2 (ab_all (LK t) c n f e n) t gl z → Q none (am_S b) X2) :
    am_wp L xs d 0 ms 179 0 [.ref 74, .int (nI f), am_du, am_du, am_du] [] (am_S b) X Q := by
  have hn7 := HM.2.2.2.1
  have hc7 := HM.2.2.2.2.1
  have HX := rm_ms HM hX hw ht
  refine wp_run 1 (pc' := 1) (ls' := [.ref 74, .int (nI f), am_du, am_du, am_du]) (st' := [.ref 74]) rfl ?_
  refine wp_getr 75 rfl rfl rfl ?_
  refine wp_run 1 (pc' := 5) (ls' := [.ref 74, .int (nI f), am_du, am_du, am_du]) (st' := [.int 2, .ref 75]) rfl ?_
  refine wp_ald (i := 2) (nI n) (show X 75 2 = nI n from HX.1) rfl rfl rfl (by decide) rfl ?_
  refine wp_run 3 (pc' := 9) (ls' := [.ref 74, .int (nI f), .int (nI n), .int 0, am_du]) (st' := []) rfl ?_
  exact lp_m_allLeave HM ht hw hf hLK hd kk n 0 X _ hX (by omega)
theorem lp_goes2 {L : Nat} {xs : Nat → Int32} {d ms b : Nat} {h : am_HI} {Q : am_Q} {n c t0 t : Nat} {s0 s1 : Int32} {p0 p1 : List Int32} {e : Nat → Int32} {gl z : Int32} (HM : am_ms h n c t0 s0 s1 p0 p1) (ht : t ≤ 9999) (hw : ab_w c n e) {MK : Nat → Nat → Nat → Int32} (hd : 6 ≤ d) (kk : ∀ X2, rm_st h X2 (ab_un e n) (t + 1) (pu_held (gl + (ab_sum (ab_mkn (MK t) e) n)) (-99999) 99999) z → Q (some (.int (ab_sum (ab_mkn (MK t) e) n))) (am_S b) X2) :
    ∀ (m i : Nat) (X : am_HI) (hX : rm_st h X (ab_un e i) t gl z), i + m = n → am_wp L xs d 0 ms 177 30 [.ref 74, .int (ab_sum (ab_mkn (MK t) e) n), .int (nI i)] [] (am_S b) X Q := by
  have hn7 := HM.2.2.2.1
  have hc7 := HM.2.2.2.2.1
  have hwi : ∀ i, ab_w c n (ab_un e i) := fun i g hg => by
    unfold ab_un
    split
    · exact Or.inl rfl
    · exact hw g hg
  intro m
  induction m with
  | zero =>
    intro i X hX hi
    have HX := rm_ms HM hX (hwi i) ht
    refine wp_run 2 (pc' := 32) (ls' := [.ref 74, .int (ab_sum (ab_mkn (MK t) e) n), .int (nI i)]) (st' := [.ref 74, .int (nI i)]) rfl ?_
    refine wp_getr 75 rfl rfl rfl ?_
    refine wp_run 1 (pc' := 36) (ls' := [.ref 74, .int (ab_sum (ab_mkn (MK t) e) n), .int (nI i)]) (st' := [.int 2, .ref 75, .int (nI i)]) rfl ?_
    refine wp_ald (i := 2) (nI n) (show X 75 2 = nI n from HX.1) rfl rfl rfl (by decide) rfl ?_
    refine wp_icmp_t rfl (show (nI n) ≤ (nI i) from (nI_leI (a := n) (b := i) (by omega) (by omega)).mpr (by omega)) ?_
    refine wp_run 1 (pc' := 53) (ls' := [.ref 74, .int (ab_sum (ab_mkn (MK t) e) n), .int (nI i)]) (st' := [.ref 74]) rfl ?_
    refine wp_getr 75 rfl rfl rfl ?_
    refine wp_run 2 (pc' := 58) (ls' := [.ref 74, .int (ab_sum (ab_mkn (MK t) e) n), .int (nI i)]) (st' := [.ref 74, .int 4, .ref 75]) rfl ?_
    refine wp_getr 75 rfl rfl rfl ?_
    refine wp_run 1 (pc' := 62) (ls' := [.ref 74, .int (ab_sum (ab_mkn (MK t) e) n), .int (nI i)]) (st' := [.int 4, .ref 75, .int 4, .ref 75]) rfl ?_
    refine wp_ald (i := 4) gl (show X 75 4 = gl from by rw [hX.2]; rfl) rfl rfl rfl (by decide) rfl ?_
    refine wp_run 4 (pc' := 69) (ls' := [.ref 74, .int (ab_sum (ab_mkn (MK t) e) n), .int (nI i)]) (st' := [.int 99999, .int (-99999), .int (gl + (ab_sum (ab_mkn (MK t) e) n)), .int 4, .ref 75]) rfl ?_
    refine wp_callS (as := [.int (gl + (ab_sum (ab_mkn (MK t) e) n)), .int (-99999), .int 99999]) (rest := [.int 4, .ref 75]) (els := [.int (gl + (ab_sum (ab_mkn (MK t) e) n)), .int (-99999), .int 99999]) rfl rfl rfl rfl rfl rfl rfl rfl (by omega) ?_
    refine sp_m_held ?_
    show am_wp L xs _ _ _ _ 72 [.ref 74, .int (ab_sum (ab_mkn (MK t) e) n), .int (nI i)] [.int (pu_held (gl + (ab_sum (ab_mkn (MK t) e) n)) (-99999) 99999), .int 4, .ref 75] (am_S b) X _
    refine wp_ast rfl rfl rfl (by decide) rfl ?_
    refine wp_run 1 (pc' := 74) (ls' := [.ref 74, .int (ab_sum (ab_mkn (MK t) e) n), .int (nI i)]) (st' := [.ref 74]) rfl ?_
    refine wp_getr 75 rfl rfl rfl ?_
    refine wp_run 2 (pc' := 79) (ls' := [.ref 74, .int (ab_sum (ab_mkn (MK t) e) n), .int (nI i)]) (st' := [.int 0, .ref 75, .int 0, .ref 75]) rfl ?_
    refine wp_ald (i := 0) (nI t) HX.2.2.1 rfl rfl rfl (by decide) rfl ?_
    refine wp_run 2 (pc' := 82) (ls' := [.ref 74, .int (ab_sum (ab_mkn (MK t) e) n), .int (nI i)]) (st' := [.int ((nI t) + 1), .int 0, .ref 75]) rfl ?_
    rw [show (((nI t) + 1) : Int32) = (nI (t + 1)) from nI_add t 1]
    refine wp_ast rfl rfl rfl (by decide) rfl ?_
    refine wp_run 1 (pc' := 84) (ls' := [.ref 74, .int (ab_sum (ab_mkn (MK t) e) n), .int (nI i)]) (st' := [.int (ab_sum (ab_mkn (MK t) e) n)]) rfl ?_
    refine wp_ret rfl ?_
    have e9 : i = n := by omega
    rw [e9] at hX
    exact kk _ (rm_end hX)
  | succ m ih =>
    intro i X hX hi
    have HX := rm_ms HM hX (hwi i) ht
    refine wp_run 2 (pc' := 32) (ls' := [.ref 74, .int (ab_sum (ab_mkn (MK t) e) n), .int (nI i)]) (st' := [.ref 74, .int (nI i)]) rfl ?_
    refine wp_getr 75 rfl rfl rfl ?_
    refine wp_run 1 (pc' := 36) (ls' := [.ref 74, .int (ab_sum (ab_mkn (MK t) e) n), .int (nI i)]) (st' := [.int 2, .ref 75, .int (nI i)]) rfl ?_
    refine wp_ald (i := 2) (nI n) (show X 75 2 = nI n from HX.1) rfl rfl rfl (by decide) rfl ?_
    refine wp_icmp_f rfl (show ¬ ((nI n) ≤ (nI i)) from mt (nI_leI (a := n) (b := i) (by omega) (by omega)).mp (by omega)) ?_
    refine wp_run 3 (pc' := 43) (ls' := [.ref 74, .int (ab_sum (ab_mkn (MK t) e) n), .int (nI i)]) (st' := [.int (-1), .int (nI i), .ref 74]) rfl ?_
    refine wp_callV (o := 74) (as := [.int (nI i), .int (-1)]) (rest := []) (els := [.ref 74, .int (nI i), .int (-1)]) rfl rfl rfl rfl rfl rfl rfl rfl (by omega) ?_
    refine sp_puts (g := i) (by omega) ?_
    show am_wp L xs _ _ _ _ 46 [.ref 74, .int (ab_sum (ab_mkn (MK t) e) n), .int (nI i)] [] (am_S b) (am_u X 75 (7 + 4 * i + 3) (-1)) _
    refine wp_run 2 (pc' := 30) (ls' := [.ref 74, .int (ab_sum (ab_mkn (MK t) e) n), .int ((nI i) + 1)]) (st' := []) rfl ?_
    rw [show (((nI i) + 1) : Int32) = (nI (i + 1)) from nI_add i 1]
    refine ih (i + 1) _ ?_ (by omega)
    rw [← ab_un_s]
    exact rm_lv hX (by omega)
theorem lp_goes1 {L : Nat} {xs : Nat → Int32} {d ms b : Nat} {h : am_HI} {Q : am_Q} {n c t0 t : Nat} {s0 s1 : Int32} {p0 p1 : List Int32} {e : Nat → Int32} {gl z : Int32} (HM : am_ms h n c t0 s0 s1 p0 p1) (ht : t ≤ 9999) (hw : ab_w c n e) {MK : Nat → Nat → Nat → Int32} (hMK : ∀ t j g, j < c → g < n → ms_MK (h 75) s1 p1 t j g = MK t j g) (hd : 6 ≤ d) (kk : ∀ X2, rm_st h X2 (ab_un e n) (t + 1) (pu_held (gl + (ab_sum (ab_mkn (MK t) e) n)) (-99999) 99999) z → Q (some (.int (ab_sum (ab_mkn (MK t) e) n))) (am_S b) X2) :
    ∀ (m i : Nat) (X : am_HI) (hX : rm_st h X e t gl z), i + m = n → am_wp L xs d 0 ms 177 4 [.ref 74, .int (ab_sum (ab_mkn (MK t) e) i), .int (nI i)] [] (am_S b) X Q := by
  have hn7 := HM.2.2.2.1
  have hc7 := HM.2.2.2.2.1
  intro m
  induction m with
  | zero =>
    intro i X hX hi
    have HX := rm_ms HM hX hw ht
    have e9 : i = n := by omega
    rw [e9]
    refine wp_run 2 (pc' := 6) (ls' := [.ref 74, .int (ab_sum (ab_mkn (MK t) e) n), .int (nI n)]) (st' := [.ref 74, .int (nI n)]) rfl ?_
    refine wp_getr 75 rfl rfl rfl ?_
    refine wp_run 1 (pc' := 10) (ls' := [.ref 74, .int (ab_sum (ab_mkn (MK t) e) n), .int (nI n)]) (st' := [.int 2, .ref 75, .int (nI n)]) rfl ?_
    refine wp_ald (i := 2) (nI n) (show X 75 2 = nI n from HX.1) rfl rfl rfl (by decide) rfl ?_
    refine wp_icmp_t rfl (show (nI n) ≤ (nI n) from (nI_leI (a := n) (b := n) (by omega) (by omega)).mpr (by omega)) ?_
    refine wp_run 2 (pc' := 30) (ls' := [.ref 74, .int (ab_sum (ab_mkn (MK t) e) n), .int 0]) (st' := []) rfl ?_
    exact lp_goes2 HM ht hw hd kk n 0 X (by rw [show ab_un e 0 = e from funext fun j => if_neg (by omega)]; exact hX) (by omega)
  | succ m ih =>
    intro i X hX hi
    have HX := rm_ms HM hX hw ht
    refine wp_run 2 (pc' := 6) (ls' := [.ref 74, .int (ab_sum (ab_mkn (MK t) e) i), .int (nI i)]) (st' := [.ref 74, .int (nI i)]) rfl ?_
    refine wp_getr 75 rfl rfl rfl ?_
    refine wp_run 1 (pc' := 10) (ls' := [.ref 74, .int (ab_sum (ab_mkn (MK t) e) i), .int (nI i)]) (st' := [.int 2, .ref 75, .int (nI i)]) rfl ?_
    refine wp_ald (i := 2) (nI n) (show X 75 2 = nI n from HX.1) rfl rfl rfl (by decide) rfl ?_
    refine wp_icmp_f rfl (show ¬ ((nI n) ≤ (nI i)) from mt (nI_leI (a := n) (b := i) (by omega) (by omega)).mp (by omega)) ?_
    refine wp_run 3 (pc' := 17) (ls' := [.ref 74, .int (ab_sum (ab_mkn (MK t) e) i), .int (nI i)]) (st' := [.int (nI i), .ref 74, .int (ab_sum (ab_mkn (MK t) e) i)]) rfl ?_
    refine wp_callV (o := 74) (as := [.int (nI i)]) (rest := [.int (ab_sum (ab_mkn (MK t) e) i)]) (els := [.ref 74, .int (nI i), am_du]) rfl rfl rfl rfl rfl rfl rfl rfl (by omega) ?_
    refine sp_doneNow (h := X) HX (g := i) (by omega) (by omega) (fun gz2 => ?_)
    rw [rm_mkn hX hn7 hc7 hw hMK (show i < n by omega)]
    show am_wp L xs _ _ _ _ 20 [.ref 74, .int (ab_sum (ab_mkn (MK t) e) i), .int (nI i)] [.int (ab_mkn (MK t) e i), .int (ab_sum (ab_mkn (MK t) e) i)] (am_S b) (am_ov X [83, 84] gz2) _
    refine wp_run 4 (pc' := 4) (ls' := [.ref 74, .int ((ab_sum (ab_mkn (MK t) e) i) + (ab_mkn (MK t) e i)), .int ((nI i) + 1)]) (st' := []) rfl ?_
    rw [show (((nI i) + 1) : Int32) = (nI (i + 1)) from nI_add i 1]
    exact ih (i + 1) _ (rm_off hX) (by omega)
theorem sp_goes {L : Nat} {xs : Nat → Int32} {d ms b : Nat} {h : am_HI} {Q : am_Q} {n c t0 t : Nat} {s0 s1 : Int32} {p0 p1 : List Int32} {e : Nat → Int32} {gl z : Int32} (HM : am_ms h n c t0 s0 s1 p0 p1) (ht : t ≤ 9999) (hw : ab_w c n e) {MK : Nat → Nat → Nat → Int32} (hMK : ∀ t j g, j < c → g < n → ms_MK (h 75) s1 p1 t j g = MK t j g) {X : am_HI} (hX : rm_st h X e t gl z) (hd : 6 ≤ d) (kk : ∀ X2, rm_st h X2 (ab_un e n) (t + 1) (pu_held (gl + (ab_sum (ab_mkn (MK t) e) n)) (-99999) 99999) z → Q (some (.int (ab_sum (ab_mkn (MK t) e) n))) (am_S b) X2) :
    am_wp L xs d 0 ms 177 0 [.ref 74, am_du, am_du] [] (am_S b) X Q := by
  refine wp_run 4 (pc' := 4) (ls' := [.ref 74, .int 0, .int 0]) (st' := []) rfl ?_
  exact lp_goes1 HM ht hw hMK hd kk n 0 X hX (by omega)
