/-! leaving in a round, nights: what both come to, and the class's side -/
/-- the one that is picked, computed -/
def pu_pk (hg : Nat → Bool) (lk : Nat → Int32) : Nat → Int32
  | 0 => -1
  | n + 1 => if hg n = true ∧ (pu_pk hg lk n = -1 ∨ lk (pu_pk hg lk n).toNatClampNeg < lk n) then nI n else pu_pk hg lk n
theorem pu_pk_ok (hg : Nat → Bool) (lk : Nat → Int32) : ∀ n, n ≤ 7 → pu_pick hg lk n (pu_pk hg lk n)
  | 0, _ => Or.inl ⟨rfl, fun c hc => by omega⟩
  | n + 1, h7 => by
    have ih := pu_pk_ok hg lk n (by omega)
    unfold pu_pk
    by_cases hn : hg n = true
    · rcases ih with ⟨e1, h1⟩ | ⟨j, hj, e1, h1, h2⟩
      · rw [if_pos ⟨hn, Or.inl e1⟩]
        refine Or.inr ⟨n, by omega, rfl, hn, fun c hc hgc => ?_⟩
        rcases Nat.lt_succ_iff_lt_or_eq.mp hc with q | q
        · rw [h1 c q] at hgc
          cases hgc
        · rw [q]
          exact ⟨Int32.le_refl _, fun _ => Nat.le_refl _⟩
      · by_cases hl : lk j < lk n
        · rw [if_pos ⟨hn, Or.inr (by rw [e1, nI_clamp (by omega)]; exact hl)⟩]
          refine Or.inr ⟨n, by omega, rfl, hn, fun c hc hgc => ?_⟩
          rcases Nat.lt_succ_iff_lt_or_eq.mp hc with q | q
          · have a := Int32.lt_of_le_of_lt (h2 c q hgc).1 hl
            exact ⟨Int32.le_of_lt a, fun e => by rw [e] at a; exact (Int32.lt_irrefl a).elim⟩
          · rw [q]
            exact ⟨Int32.le_refl _, fun _ => Nat.le_refl _⟩
        · rw [if_neg (fun q => q.2.elim (fun q => by rw [e1] at q; exact pu_ne1 (by omega) q) (fun q => by rw [e1, nI_clamp (by omega)] at q; exact hl q))]
          refine Or.inr ⟨j, by omega, e1, h1, fun c hc hgc => ?_⟩
          rcases Nat.lt_succ_iff_lt_or_eq.mp hc with q | q
          · exact h2 c q hgc
          · rw [q]
            exact ⟨Int32.not_lt.mp hl, fun _ => by omega⟩
    · rw [if_neg (fun q => hn q.1)]
      rcases ih with ⟨e1, h1⟩ | ⟨j, hj, e1, h1, h2⟩
      · refine Or.inl ⟨e1, fun c hc => ?_⟩
        rcases Nat.lt_succ_iff_lt_or_eq.mp hc with q | q
        · exact h1 c q
        · rw [q]; exact Bool.not_eq_true _ ▸ hn
      · refine Or.inr ⟨j, by omega, e1, h1, fun c hc hgc => ?_⟩
        rcases Nat.lt_succ_iff_lt_or_eq.mp hc with q | q
        · exact h2 c q hgc
        · rw [q] at hgc
          exact absurd hgc hn
theorem pu_pk_of {hg hg' : Nat → Bool} {lk lk' : Nat → Int32} {n : Nat} {v : Int32} (h7 : n ≤ 7) (h : pu_pick hg' lk' n v) (e1 : ∀ c, c < n → hg c = hg' c) (e2 : ∀ c, c < n → lk c = lk' c) : pu_pk hg lk n = v :=
  pu_pick_uniq (pu_pk_ok hg lk n h7) h e1 (fun c hc _ => e2 c hc)
/-- who wears what: well said -/
def ab_w (c n : Nat) (e : Nat → Int32) : Prop := ∀ g, g < n → e g = -1 ∨ ∃ j, j < c ∧ e g = nI j
def ab_lv (LK : Nat → Nat → Int32) (c n : Nat) (e : Nat → Int32) (g : Nat) : Nat → Int32 := if e g = -1 then upd e g (pu_pk (fun j => (hs_peg e c n).testBit j) (fun j => LK j g) c) else e
def ab_all (LK : Nat → Nat → Int32) (c n f : Nat) (e : Nat → Int32) : Nat → Nat → Int32
  | 0 => e
  | k + 1 => ab_lv LK c n (ab_all LK c n f e k) ((f + k) % n)
theorem ab_lv_w {LK : Nat → Nat → Int32} {c n : Nat} {e : Nat → Int32} (hc : c ≤ 7) (h : ab_w c n e) (g : Nat) : ab_w c n (ab_lv LK c n e g) := by
  unfold ab_lv
  split
  · intro q hq
    unfold upd
    split
    · exact pu_pick_or (pu_pk_ok _ _ c hc)
    · exact h q hq
  · exact h
theorem ab_all_w {LK : Nat → Nat → Int32} {c n f : Nat} {e : Nat → Int32} (hc : c ≤ 7) (h : ab_w c n e) : ∀ k, ab_w c n (ab_all LK c n f e k)
  | 0 => h
  | k + 1 => ab_lv_w hc (ab_all_w hc h k) _
theorem ab_us {f : Nat → Int32} {i : Nat} {x : Int32} (h : f i = x) : upd f i x = f := by
  funext j
  unfold upd
  by_cases e : j = i
  · rw [if_pos e, e, h]
  · rw [if_neg e]
theorem ab_ut (f : Nat → Int32) (i : Nat) (x y : Int32) : upd (upd f i x) i y = upd f i y := by
  funext j
  show (if j = i then y else if j = i then x else f j) = if j = i then y else f j
  by_cases e : j = i
  · rw [if_pos e, if_pos e]
  · rw [if_neg e, if_neg e, if_neg e]
theorem ab_uw (f : Nat → Int32) {i j : Nat} (h : i ≠ j) (x y : Int32) : upd (upd f i x) j y = upd (upd f j y) i x := by
  funext k
  show (if k = j then y else if k = i then x else f k) = if k = i then x else if k = j then y else f k
  by_cases e : k = j
  · rw [if_pos e, if_neg (by omega), if_pos e]
  · rw [if_neg e, if_neg e]
def ab_sum (f : Nat → Int32) : Nat → Int32
  | 0 => 0
  | k + 1 => ab_sum f k + f k
def ab_mkn (MK : Nat → Nat → Int32) (e : Nat → Int32) (g : Nat) : Int32 := if e g = -1 then 0 else MK (e g).toNatClampNeg g
def ab_un (e : Nat → Int32) (n : Nat) : Nat → Int32 := fun j => if j < n then -1 else e j
theorem ab_un_w {c n : Nat} {e : Nat → Int32} : ab_w c n (ab_un e n) := fun g hg => Or.inl (if_pos hg)
theorem ab_un_s (e : Nat → Int32) (i : Nat) : upd (ab_un e i) i (-1) = ab_un e (i + 1) := by
  funext j
  show (if j = i then -1 else if j < i then -1 else e j) = if j < i + 1 then -1 else e j
  by_cases e1 : j = i
  · rw [if_pos e1, if_pos (by omega)]
  · rw [if_neg e1]
    by_cases e2 : j < i
    · rw [if_pos e2, if_pos (by omega)]
    · rw [if_neg e2, if_neg (by omega)]
/-- nights: who wears what, night, gladness, z, what was done so far -/
abbrev ab_S : Type := (Nat → Int32) × Nat × Int32 × Int32 × Int32
def ab_en (MK : Nat → Nat → Nat → Int32) (n : Nat) (s : ab_S) : ab_S :=
  (ab_un s.1 n, s.2.1 + 1, pu_held (s.2.2.1 + ab_sum (ab_mkn (MK s.2.1) s.1) n) (-99999) 99999, s.2.2.2.1, s.2.2.2.2 + ab_sum (ab_mkn (MK s.2.1) s.1) n)
def ab_fst (n : Nat) (z : Int32) : Nat := (am_ushr z 8).toNatClampNeg % n
/-- a night, all leaving by numbers -/
def ab_n0 (LK MK : Nat → Nat → Nat → Int32) (c n : Nat) (s : ab_S) : ab_S := ab_en MK n (ab_all (LK s.2.1) c n 0 s.1 n, s.2)
/-- a night by draws -/
def ab_n1 (LK MK : Nat → Nat → Nat → Int32) (c n : Nat) (s : ab_S) : ab_S := if n = 0 then ab_en MK n s else
  ab_en MK n (ab_all (LK s.2.1) c n (ab_fst n (s.2.2.2.1 * 1103515245 + 12345)) s.1 n, s.2.1, s.2.2.1, s.2.2.2.1 * 1103515245 + 12345, s.2.2.2.2)
def ab_it (f : ab_S → ab_S) : Nat → ab_S → ab_S
  | 0, s => s
  | m + 1, s => ab_it f m (f s)
theorem ab_ushr (z : Int32) : ∃ k, k < 2 ^ 31 ∧ am_ushr z 8 = nI k := by
  obtain ⟨k, hk, e⟩ := nI_of (x := am_ushr z 8) (by
    have h1 := pk_ushr z 8 8 (by decide)
    have h2 : (am_ushr z 8).toBitVec.toNat < 2 ^ 24 := by
      unfold am_ushr
      rw [h1]
      have := z.toBitVec.isLt
      omega
    rw [Int32.not_lt, Int32.le_iff_toInt_le]
    show (0 : Int32).toInt ≤ (am_ushr z 8).toBitVec.toInt
    rw [BitVec.toInt_eq_toNat_of_lt (by omega)]
    have e0 : (0 : Int32).toInt = 0 := by decide
    rw [e0]
    omega)
  exact ⟨k, hk, e⟩
theorem ab_draw {z : Int32} {n : Nat} (h0 : 0 < n) (h7 : n ≤ 7) : am_rem (am_ushr z 8) (nI n) = nI (ab_fst n z) ∧ ab_fst n z < n := by
  obtain ⟨k, hk, e⟩ := ab_ushr z
  unfold ab_fst
  rw [e, nI_clamp hk]
  exact ⟨pk_rem hk h0 (by omega), Nat.mod_lt _ h0⟩
def ab_LK (h : am_HI) (s : Int32) (p : List Int32) (t j g : Nat) : Int32 := pu_gv s p (pu_suits (h 6 j) (h 7 j) (h 2 g) (h 3 g) (h 4 g) (nI t)) (h 4 g) (am_rem (nI t) 7) 0 99
def ab_MK (h : am_HI) (s : Int32) (p : List Int32) (t j g : Nat) : Int32 := pu_gv s p (pu_makes (h 6 j) (h 7 j) (h 2 g) (nI t)) (h 2 g) (if h 8 j = nI g then 1 else 0) (-99) 99
/-- the class's house, some nights on -/
def cl_st (h X : am_HI) (e : Nat → Int32) (t : Nat) (gl z : Int32) : Prop :=
  (∀ a, [1, 5, 17, 18, 22, 23, 47, 48].elem a = false → X a = h a) ∧ X 5 = e ∧ X 1 = upd (upd (upd (h 1) 12 (nI t)) 13 gl) 14 z
theorem cl_0 {h : am_HI} {t : Nat} (ht : h 1 12 = nI t) : cl_st h h (h 5) t (h 1 13) (h 1 14) := by
  refine ⟨fun _ _ => rfl, rfl, ?_⟩
  rw [← ht, ab_us rfl, ab_us rfl, ab_us rfl]
section ClSt
variable {h X : am_HI} {n c t0 t : Nat} {s0 s1 : Int32} {p0 p1 : List Int32} {e : Nat → Int32} {gl z : Int32}
theorem cl_hs (HS : am_hs h n c t0 s0 s1 p0 p1) (hX : cl_st h X e t gl z) (hw : ab_w c n e) (ht : t ≤ 9999) : am_hs X n c t s0 s1 p0 p1 := by
  obtain ⟨o1, o2, -, o4, o5, -, l0, l1, a3, a7, -⟩ := HS
  refine ⟨by rw [hX.2.2]; exact o1, by rw [hX.2.2]; exact o2, by rw [hX.2.2]; rfl, o4, o5, ht, ?_, ?_, ?_, ?_, ?_⟩
  · obtain ⟨b1, b2, b3, b4, b5, b6, b7⟩ := l0
    exact ⟨(congrFun (hX.1 15 rfl) 1).trans b1, fun j hj => (congrFun (hX.1 16 rfl) j).trans (b2 j hj), b3, (congrFun (hX.1 14 rfl) 0).trans b4, (congrFun (hX.1 14 rfl) 1).trans b5, (congrFun (hX.1 14 rfl) 4).trans b6, b7⟩
  · obtain ⟨b1, b2, b3, b4, b5, b6, b7⟩ := l1
    exact ⟨(congrFun (hX.1 20 rfl) 1).trans b1, fun j hj => (congrFun (hX.1 21 rfl) j).trans (b2 j hj), b3, (congrFun (hX.1 19 rfl) 0).trans b4, (congrFun (hX.1 19 rfl) 1).trans b5, (congrFun (hX.1 19 rfl) 4).trans b6, b7⟩
  · intro g hg
    rw [hX.1 3 rfl]
    exact a3 g hg
  · intro j hj
    rw [hX.1 7 rfl]
    exact a7 j hj
  · intro g hg
    rw [hX.2.1]
    exact hw g hg
theorem cl_12 (hX : cl_st h X e t gl z) : X 1 12 = nI t := by rw [hX.2.2]; rfl
theorem cl_lk (hX : cl_st h X e t gl z) (j g : Nat) : hs_lk X s0 p0 j g = ab_LK h s0 p0 t j g := by
  unfold hs_lk ab_LK
  rw [hX.1 6 rfl, hX.1 7 rfl, hX.1 2 rfl, hX.1 3 rfl, hX.1 4 rfl, cl_12 hX]
theorem cl_mk (hX : cl_st h X e t gl z) (j g : Nat) : hs_mk X s1 p1 j g = ab_MK h s1 p1 t j g := by
  unfold hs_mk ab_MK
  rw [hX.1 6 rfl, hX.1 7 rfl, hX.1 2 rfl, hX.1 8 rfl, cl_12 hX]
theorem cl_mkn (hX : cl_st h X e t gl z) (g : Nat) : hs_mkn X s1 p1 g = ab_mkn (ab_MK h s1 p1 t) e g := by
  unfold hs_mkn ab_mkn
  rw [hX.2.1, cl_mk hX]
theorem cl_off {l : List Nat} {g : am_HI} (hX : cl_st h X e t gl z) (hl : (l.all fun x => [17, 18, 22, 23, 47, 48].elem x) = true) : cl_st h (am_ov X l g) e t gl z := by
  have q : ∀ a, [17, 18, 22, 23, 47, 48].elem a = false → am_ov X l g a = X a := fun a ha => am_ov_off (am_sub ha hl)
  refine ⟨fun a ha => (q a (am_sub ha rfl)).trans (hX.1 a ha), (q 5 rfl).trans hX.2.1, (q 1 rfl).trans hX.2.2⟩
theorem cl_lv {g : Nat} {v : Int32} (hX : cl_st h X e t gl z) : cl_st h (am_u X 5 g v) (upd e g v) t gl z := by
  refine ⟨fun a ha => (am_u_off _ _ _ (am_nel ha rfl)).trans (hX.1 a ha), ?_, (am_u_off _ _ _ (by decide)).trans hX.2.2⟩
  rw [← hX.2.1]
  rfl
theorem cl_end {gl2 : Int32} (hX : cl_st h X e t gl z) : cl_st h (am_u (hs_un (am_u X 1 13 gl2) n) 1 12 (nI (t + 1))) (ab_un e n) (t + 1) gl2 z := by
  refine ⟨fun a ha => ?_, ?_, ?_⟩
  · rw [am_u_off _ _ _ (am_nel ha rfl), show hs_un (am_u X 1 13 gl2) n a = am_u X 1 13 gl2 a from if_neg (am_nel ha rfl), am_u_off _ _ _ (am_nel ha rfl)]
    exact hX.1 a ha
  · rw [← hX.2.1]
    rfl
  · show upd (upd (X 1) 13 gl2) 12 (nI (t + 1)) = _
    rw [hX.2.2]
    funext j
    unfold upd
    by_cases e1 : j = 14
    · subst e1; rfl
    · by_cases e2 : j = 13
      · subst e2; rfl
      · by_cases e3 : j = 12
        · subst e3; rfl
        · simp only [if_neg e1, if_neg e2, if_neg e3]
theorem cl_z {z2 : Int32} (hX : cl_st h X e t gl z) : cl_st h (am_u X 1 14 z2) e t gl z2 := by
  refine ⟨fun a ha => (am_u_off _ _ _ (am_nel ha rfl)).trans (hX.1 a ha), (am_u_off _ _ _ (by decide)).trans hX.2.1, ?_⟩
  show upd (X 1) 14 z2 = _
  rw [hX.2.2, ab_ut]
end ClSt
theorem lp_allLeave {L : Nat} {xs : Nat → Int32} {d ms b : Nat} {h : am_HI} {Q : am_Q} {n c t0 t : Nat} {s0 s1 : Int32} {p0 p1 : List Int32} {e : Nat → Int32} {gl z : Int32} (HS : am_hs h n c t0 s0 s1 p0 p1) (ht : t ≤ 9999) {f : Nat} (hf : f < 8) (hw : ab_w c n e) (hd : 6 ≤ d) (kk : ∀ X2, cl_st h X2 (ab_all (ab_LK h s0 p0 t) c n f e n) t gl z → Q none (am_S b) X2) :
    ∀ (m i : Nat) (X : am_HI) (u3 : Value) (hX : cl_st h X (ab_all (ab_LK h s0 p0 t) c n f e i) t gl z), i + m = n → am_wp L xs d 0 ms 72 2 [.ref 0, .int (nI f), .int (nI i), u3] [] (am_S b) X Q := by
  have hn7 := HS.2.2.2.1
  have hc7 := HS.2.2.2.2.1
  intro m
  induction m with
  | zero =>
    intro i X u3 hX hi
    have HX := cl_hs HS hX (ab_all_w hc7 hw i) ht
    refine wp_run 2 (pc' := 4) (ls' := [.ref 0, .int (nI f), .int (nI i), u3]) (st' := [.ref 0, .int (nI i)]) rfl ?_
    refine wp_getr 1 rfl rfl rfl ?_
    refine wp_geti (a := 10) (nI n) (show X 1 10 = nI n from HX.1) rfl rfl rfl ?_
    refine wp_icmp_t rfl (show (nI n) ≤ (nI i) from (nI_leI (a := n) (b := i) (by omega) (by omega)).mpr (by omega)) ?_
    refine wp_retv rfl ?_
    have e9 : i = n := by omega
    rw [e9] at hX
    exact kk X hX
  | succ m ih =>
    intro i X u3 hX hi
    have HX := cl_hs HS hX (ab_all_w hc7 hw i) ht
    refine wp_run 2 (pc' := 4) (ls' := [.ref 0, .int (nI f), .int (nI i), u3]) (st' := [.ref 0, .int (nI i)]) rfl ?_
    refine wp_getr 1 rfl rfl rfl ?_
    refine wp_geti (a := 10) (nI n) (show X 1 10 = nI n from HX.1) rfl rfl rfl ?_
    refine wp_icmp_f rfl (show ¬ ((nI n) ≤ (nI i)) from mt (nI_leI (a := n) (b := i) (by omega) (by omega)).mp (by omega)) ?_
    refine wp_run 4 (pc' := 17) (ls' := [.ref 0, .int (nI f), .int (nI i), u3]) (st' := [.ref 0, .int ((nI f) + (nI i))]) rfl ?_
    rw [show (((nI f) + (nI i)) : Int32) = (nI (f + i)) from nI_add f i]
    refine wp_getr 1 rfl rfl rfl ?_
    refine wp_geti (a := 10) (nI n) (show X 1 10 = nI n from HX.1) rfl rfl rfl ?_
    refine wp_irem rfl (nI_ne0 (by omega) (by omega)) ?_
    obtain ⟨g, hg, hge⟩ : ∃ g, g < n ∧ g = (f + i) % n := ⟨_, Nat.mod_lt _ (by omega), rfl⟩
    rw [show ((am_rem (nI (f + i)) (nI n)) : Int32) = nI g from (pk_rem (by omega) (by omega) (by omega)).trans (by rw [hge])]
    refine wp_run 2 (pc' := 26) (ls' := [.ref 0, .int (nI f), .int (nI i), .int (nI g)]) (st' := [.ref 0]) rfl ?_
    refine wp_getr 1 rfl rfl rfl ?_
    refine wp_getr 5 rfl rfl rfl ?_
    refine wp_run 1 (pc' := 33) (ls' := [.ref 0, .int (nI f), .int (nI i), .int (nI g)]) (st' := [.int (nI g), .ref 5]) rfl ?_
    refine wp_ald (i := g) (X 5 g) rfl rfl rfl rfl (by omega) rfl ?_
    refine wp_run 1 (pc' := 35) (ls' := [.ref 0, .int (nI f), .int (nI i), .int (nI g)]) (st' := [.int (-1), .int (X 5 g)]) rfl ?_
    refine wp_icmp rfl (fun (cq35 : ¬ (X 5 g) = (-1)) => ?_) (fun (cq35 : ¬ (¬ (X 5 g) = (-1))) => ?_)
    · skip
      refine wp_run 2 (pc' := 2) (ls' := [.ref 0, .int (nI f), .int ((nI i) + 1), .int (nI g)]) (st' := []) rfl ?_
      rw [show (((nI i) + 1) : Int32) = (nI (i + 1)) from nI_add i 1]
      exact ih (i + 1) X _ (by rw [show ab_all (ab_LK h s0 p0 t) c n f e (i + 1) = ab_all (ab_LK h s0 p0 t) c n f e i from if_neg (by rw [← hX.2.1, ← hge]; exact cq35)]; exact hX) (by omega)
    · skip
      replace cq35 := Decidable.not_not.mp cq35
      refine wp_run 2 (pc' := 40) (ls' := [.ref 0, .int (nI f), .int (nI i), .int (nI g)]) (st' := [.int (nI g), .ref 0]) rfl ?_
      refine wp_callV (o := 0) (as := [.int (nI g)]) (rest := []) (els := [.ref 0, .int (nI g), am_du]) rfl rfl rfl rfl rfl rfl rfl rfl (by omega) ?_
      refine sp_letLeave (h := X) HX (g := g) hg (by omega) (fun v1 gz hp1 => ?_)
      show am_wp L xs _ _ _ _ 43 [.ref 0, .int (nI f), .int (nI i), .int (nI g)] [.int v1] (am_S b) (am_u (am_ov X [17, 18, 47, 48] gz) 5 g v1) _
      refine wp_run 3 (pc' := 2) (ls' := [.ref 0, .int (nI f), .int ((nI i) + 1), .int (nI g)]) (st' := []) rfl ?_
      rw [show (((nI i) + 1) : Int32) = (nI (i + 1)) from nI_add i 1]
      refine ih (i + 1) _ _ ?_ (by omega)
      have ev : pu_pk (fun j => (hs_peg (ab_all (ab_LK h s0 p0 t) c n f e i) c n).testBit j) (fun j => (ab_LK h s0 p0 t) j g) c = v1 := pu_pk_of hc7 hp1 (fun k hk => by rw [hX.2.1]) (fun k hk => (cl_lk hX k g).symm)
      rw [show ab_all (ab_LK h s0 p0 t) c n f e (i + 1) = upd (ab_all (ab_LK h s0 p0 t) c n f e i) g v1 from by rw [← ev]; show ab_lv _ _ _ _ _ = _; rw [← hge]; exact if_pos (by rw [← hX.2.1]; exact cq35)]
      exact cl_lv (cl_off hX rfl)
theorem sp_allLeave {L : Nat} {xs : Nat → Int32} {d ms b : Nat} {h : am_HI} {Q : am_Q} {n c t0 t : Nat} {s0 s1 : Int32} {p0 p1 : List Int32} {e : Nat → Int32} {gl z : Int32} (HS : am_hs h n c t0 s0 s1 p0 p1) (ht : t ≤ 9999) {f : Nat} (hf : f < 8) (hw : ab_w c n e) {X : am_HI} (hX : cl_st h X e t gl z) (hd : 6 ≤ d) (kk : ∀ X2, cl_st h X2 (ab_all (ab_LK h s0 p0 t) c n f e n) t gl z → Q none (am_S b) X2) :
    am_wp L xs d 0 ms 72 0 [.ref 0, .int (nI f), am_du, am_du] [] (am_S b) X Q := by
  refine wp_run 2 (pc' := 2) (ls' := [.ref 0, .int (nI f), .int 0, am_du]) (st' := []) rfl ?_
  exact lp_allLeave HS ht hf hw hd kk n 0 X _ hX (by omega)
theorem lp_endNight {L : Nat} {xs : Nat → Int32} {d ms b : Nat} {h : am_HI} {Q : am_Q} {n c t0 t : Nat} {s0 s1 : Int32} {p0 p1 : List Int32} {e : Nat → Int32} {gl z : Int32} (HS : am_hs h n c t0 s0 s1 p0 p1) (ht : t ≤ 9999) (hw : ab_w c n e) (hd : 6 ≤ d) (kk : ∀ X2, cl_st h X2 (ab_un e n) (t + 1) (pu_held (gl + (ab_sum (ab_mkn (ab_MK h s1 p1 t) e) n)) (-99999) 99999) z → Q (some (.int (ab_sum (ab_mkn (ab_MK h s1 p1 t) e) n))) (am_S b) X2) :
    ∀ (m i : Nat) (X : am_HI) (hX : cl_st h X e t gl z), i + m = n → am_wp L xs d 0 ms 69 4 [.ref 1, .int (ab_sum (ab_mkn (ab_MK h s1 p1 t) e) i), .int (nI i)] [] (am_S b) X Q := by
  have hn7 := HS.2.2.2.1
  have hc7 := HS.2.2.2.2.1
  intro m
  induction m with
  | zero =>
    intro i X hX hi
    have HX := cl_hs HS hX hw ht
    have e9 : i = n := by omega
    rw [e9]
    refine wp_run 2 (pc' := 6) (ls' := [.ref 1, .int (ab_sum (ab_mkn (ab_MK h s1 p1 t) e) n), .int (nI n)]) (st' := [.ref 1, .int (nI n)]) rfl ?_
    refine wp_geti (a := 10) (nI n) (show X 1 10 = nI n from HX.1) rfl rfl rfl ?_
    refine wp_icmp_t rfl (show (nI n) ≤ (nI n) from (nI_leI (a := n) (b := n) (by omega) (by omega)).mpr (by omega)) ?_
    refine wp_run 2 (pc' := 28) (ls' := [.ref 1, .int (ab_sum (ab_mkn (ab_MK h s1 p1 t) e) n), .int (nI n)]) (st' := [.ref 1, .ref 1]) rfl ?_
    refine wp_geti (a := 13) gl (show X 1 13 = gl from by rw [hX.2.2]; rfl) rfl rfl rfl ?_
    refine wp_run 4 (pc' := 37) (ls' := [.ref 1, .int (ab_sum (ab_mkn (ab_MK h s1 p1 t) e) n), .int (nI n)]) (st' := [.int 99999, .int (-99999), .int (gl + (ab_sum (ab_mkn (ab_MK h s1 p1 t) e) n)), .ref 1]) rfl ?_
    refine wp_callS (as := [.int (gl + (ab_sum (ab_mkn (ab_MK h s1 p1 t) e) n)), .int (-99999), .int 99999]) (rest := [.ref 1]) (els := [.int (gl + (ab_sum (ab_mkn (ab_MK h s1 p1 t) e) n)), .int (-99999), .int 99999]) rfl rfl rfl rfl rfl rfl rfl rfl (by omega) ?_
    refine sp_x_held (by decide) (by omega) ?_
    show am_wp L xs _ _ _ _ 40 [.ref 1, .int (ab_sum (ab_mkn (ab_MK h s1 p1 t) e) n), .int (nI n)] [.int (pu_held (gl + (ab_sum (ab_mkn (ab_MK h s1 p1 t) e) n)) (-99999) 99999), .ref 1] (am_S b) X _
    refine wp_puti rfl rfl ?_
    refine wp_run 1 (pc' := 44) (ls' := [.ref 1, .int (ab_sum (ab_mkn (ab_MK h s1 p1 t) e) n), .int (nI n)]) (st' := [.ref 1]) rfl ?_
    refine wp_callV (o := 1) (as := []) (rest := []) (els := [.ref 1, am_du]) rfl rfl rfl rfl rfl rfl rfl rfl (by omega) ?_
    refine sp_undress (h := (am_u X 1 13 (pu_held (gl + (ab_sum (ab_mkn (ab_MK h s1 p1 t) e) n)) (-99999) 99999))) (n := n) HX.1 hn7 ?_
    show am_wp L xs _ _ _ _ 47 [.ref 1, .int (ab_sum (ab_mkn (ab_MK h s1 p1 t) e) n), .int (nI n)] [] (am_S b) (hs_un (am_u X 1 13 (pu_held (gl + (ab_sum (ab_mkn (ab_MK h s1 p1 t) e) n)) (-99999) 99999)) n) _
    refine wp_run 2 (pc' := 49) (ls' := [.ref 1, .int (ab_sum (ab_mkn (ab_MK h s1 p1 t) e) n), .int (nI n)]) (st' := [.ref 1, .ref 1]) rfl ?_
    refine wp_geti (a := 12) (nI t) (show X 1 12 = nI t from cl_12 hX) rfl rfl rfl ?_
    refine wp_run 2 (pc' := 54) (ls' := [.ref 1, .int (ab_sum (ab_mkn (ab_MK h s1 p1 t) e) n), .int (nI n)]) (st' := [.int ((nI t) + 1), .ref 1]) rfl ?_
    rw [show (((nI t) + 1) : Int32) = (nI (t + 1)) from nI_add t 1]
    refine wp_puti rfl rfl ?_
    refine wp_run 1 (pc' := 58) (ls' := [.ref 1, .int (ab_sum (ab_mkn (ab_MK h s1 p1 t) e) n), .int (nI n)]) (st' := [.int (ab_sum (ab_mkn (ab_MK h s1 p1 t) e) n)]) rfl ?_
    refine wp_ret rfl ?_
    exact kk _ (cl_end hX)
  | succ m ih =>
    intro i X hX hi
    have HX := cl_hs HS hX hw ht
    refine wp_run 2 (pc' := 6) (ls' := [.ref 1, .int (ab_sum (ab_mkn (ab_MK h s1 p1 t) e) i), .int (nI i)]) (st' := [.ref 1, .int (nI i)]) rfl ?_
    refine wp_geti (a := 10) (nI n) (show X 1 10 = nI n from HX.1) rfl rfl rfl ?_
    refine wp_icmp_f rfl (show ¬ ((nI n) ≤ (nI i)) from mt (nI_leI (a := n) (b := i) (by omega) (by omega)).mp (by omega)) ?_
    refine wp_run 3 (pc' := 15) (ls' := [.ref 1, .int (ab_sum (ab_mkn (ab_MK h s1 p1 t) e) i), .int (nI i)]) (st' := [.int (nI i), .ref 1, .int (ab_sum (ab_mkn (ab_MK h s1 p1 t) e) i)]) rfl ?_
    refine wp_callV (o := 1) (as := [.int (nI i)]) (rest := [.int (ab_sum (ab_mkn (ab_MK h s1 p1 t) e) i)]) (els := [.ref 1, .int (nI i)]) rfl rfl rfl rfl rfl rfl rfl rfl (by omega) ?_
    refine sp_makingNow (h := X) HX (g := i) (by omega) (by omega) (fun gz1 => ?_)
    rw [cl_mkn hX i]
    show am_wp L xs _ _ _ _ 18 [.ref 1, .int (ab_sum (ab_mkn (ab_MK h s1 p1 t) e) i), .int (nI i)] [.int (ab_mkn (ab_MK h s1 p1 t) e i), .int (ab_sum (ab_mkn (ab_MK h s1 p1 t) e) i)] (am_S b) (am_ov X [22, 23] gz1) _
    refine wp_run 4 (pc' := 4) (ls' := [.ref 1, .int ((ab_sum (ab_mkn (ab_MK h s1 p1 t) e) i) + (ab_mkn (ab_MK h s1 p1 t) e i)), .int ((nI i) + 1)]) (st' := []) rfl ?_
    rw [show (((nI i) + 1) : Int32) = (nI (i + 1)) from nI_add i 1]
    exact ih (i + 1) _ (cl_off hX rfl) (by omega)
theorem sp_endNight {L : Nat} {xs : Nat → Int32} {d ms b : Nat} {h : am_HI} {Q : am_Q} {n c t0 t : Nat} {s0 s1 : Int32} {p0 p1 : List Int32} {e : Nat → Int32} {gl z : Int32} (HS : am_hs h n c t0 s0 s1 p0 p1) (ht : t ≤ 9999) (hw : ab_w c n e) {X : am_HI} (hX : cl_st h X e t gl z) (hd : 6 ≤ d) (kk : ∀ X2, cl_st h X2 (ab_un e n) (t + 1) (pu_held (gl + (ab_sum (ab_mkn (ab_MK h s1 p1 t) e) n)) (-99999) 99999) z → Q (some (.int (ab_sum (ab_mkn (ab_MK h s1 p1 t) e) n))) (am_S b) X2) :
    am_wp L xs d 0 ms 69 0 [.ref 1, am_du, am_du] [] (am_S b) X Q := by
  refine wp_run 4 (pc' := 4) (ls' := [.ref 1, .int 0, .int 0]) (st' := []) rfl ?_
  exact lp_endNight HS ht hw hd kk n 0 X hX (by omega)
