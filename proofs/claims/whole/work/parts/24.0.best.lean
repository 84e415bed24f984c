/-! the best giving: what both come to, and the class's side -/
def bs_f (W V : Nat → Int32) (set : Nat) : Nat → Int32
  | 0 => V set
  | j + 1 => if set.testBit j = true then bs_f W V set j else am_imax (bs_f W V set j) (W j + V (pu_set set j))
/-- the most that the last k guests can come to, when a set is given away -/
def bs_V (MK : Nat → Nat → Int32) (c n : Nat) : Nat → Nat → Int32
  | 0 => fun _ => 0
  | k + 1 => fun set => bs_f (fun j => MK j (n - (k + 1))) (bs_V MK c n k) set c
theorem bs_f_t {W V : Nat → Int32} {set j : Nat} (h : set.testBit j = true) : bs_f W V set (j + 1) = bs_f W V set j := if_pos h
theorem bs_f_f {W V : Nat → Int32} {set j : Nat} (h : set.testBit j = false) : bs_f W V set (j + 1) = am_imax (bs_f W V set j) (W j + V (pu_set set j)) := if_neg (by rw [h]; decide)
theorem bs_f_c {W V W2 V2 : Nat → Int32} {set : Nat} : ∀ {c : Nat}, (∀ j, j < c → W j = W2 j) → V set = V2 set → (∀ j, j < c → V (pu_set set j) = V2 (pu_set set j)) → bs_f W V set c = bs_f W2 V2 set c
  | 0, _, h, _ => h
  | c + 1, h1, h2, h3 => by
    have ih := bs_f_c (c := c) (fun j hj => h1 j (by omega)) h2 (fun j hj => h3 j (by omega))
    unfold bs_f
    rw [ih, h1 c (by omega), h3 c (by omega)]
theorem bs_set_lt : ∀ c, c < 8 → ∀ S, S < 2 ^ c → ∀ j, j < c → pu_set S j < 2 ^ c := by decide +kernel
theorem bs_pow : ∀ c, c < 8 → (1 <<< (nI c &&& 31)) = nI (2 ^ c) ∧ 2 ^ c ≤ 128 ∧ 0 < 2 ^ c := by decide +kernel
/-- the least of those that will do; -1: none -/
def bs_lc (P : Nat → Bool) : Nat → Int32
  | 0 => -1
  | j + 1 => if bs_lc P j = -1 ∧ P j = true then nI j else bs_lc P j
theorem bs_lc_ok (P : Nat → Bool) : ∀ c, c ≤ 7 → (bs_lc P c = -1 ∧ ∀ j, j < c → P j = false) ∨ ∃ j, j < c ∧ bs_lc P c = nI j ∧ P j = true ∧ ∀ k, k < j → P k = false
  | 0, _ => Or.inl ⟨rfl, fun j hj => by omega⟩
  | c + 1, h7 => by
    unfold bs_lc
    rcases bs_lc_ok P c (by omega) with ⟨e, h⟩ | ⟨j, hj, e, h1, h2⟩
    · by_cases hp : P c = true
      · rw [if_pos ⟨e, hp⟩]
        exact Or.inr ⟨c, by omega, rfl, hp, h⟩
      · rw [if_neg (fun q => hp q.2)]
        refine Or.inl ⟨e, fun j hj => ?_⟩
        rcases Nat.lt_succ_iff_lt_or_eq.mp hj with q | q
        · exact h j q
        · rw [q]; exact Bool.not_eq_true _ ▸ hp
    · rw [if_neg (fun q => by rw [e] at q; exact pu_ne1 (by omega) q.1)]
      exact Or.inr ⟨j, by omega, e, h1, h2⟩
theorem bs_lc_0 {P : Nat → Bool} {c : Nat} (h7 : c ≤ 7) (h : ∀ j, j < c → P j = false) : bs_lc P c = -1 := by
  rcases bs_lc_ok P c h7 with ⟨e, -⟩ | ⟨j, hj, -, h1, -⟩
  · exact e
  · rw [h j hj] at h1
    cases h1
theorem bs_lc_1 {P : Nat → Bool} {c j : Nat} (h7 : c ≤ 7) (hj : j < c) (hp : P j = true) (h : ∀ k, k < j → P k = false) : bs_lc P c = nI j := by
  rcases bs_lc_ok P c h7 with ⟨-, h0⟩ | ⟨i, hi, e, h1, h2⟩
  · rw [h0 j hj] at hp
    cases hp
  · rcases Nat.lt_trichotomy i j with q | q | q
    · rw [h i q] at h1
      cases h1
    · rw [e, q]
    · rw [h2 j q] at hp
      cases hp
theorem bs_lc_or {P : Nat → Bool} {c : Nat} (h7 : c ≤ 7) : bs_lc P c = -1 ∨ ∃ j, j < c ∧ bs_lc P c = nI j := by
  rcases bs_lc_ok P c h7 with ⟨e, -⟩ | ⟨j, hj, e, -⟩
  · exact Or.inl e
  · exact Or.inr ⟨j, hj, e⟩
/-- the coat j will do for the guest g, when A is given away -/
def bs_p (MK : Nat → Nat → Int32) (c n g A j : Nat) : Bool := !A.testBit j && decide (MK j g + bs_V MK c n (n - (g + 1)) (pu_set A j) = bs_V MK c n (n - g) A)
def bs_A (MK : Nat → Nat → Int32) (c n : Nat) : Nat → Nat
  | 0 => 0
  | g + 1 => if bs_lc (bs_p MK c n g (bs_A MK c n g)) c = -1 then bs_A MK c n g else pu_set (bs_A MK c n g) (bs_lc (bs_p MK c n g (bs_A MK c n g)) c).toNatClampNeg
def bs_gv (MK : Nat → Nat → Int32) (c n g : Nat) : Int32 := bs_lc (bs_p MK c n g (bs_A MK c n g)) c
theorem bs_A_0 {MK : Nat → Nat → Int32} {c n g : Nat} (h : bs_gv MK c n g = -1) : bs_A MK c n (g + 1) = bs_A MK c n g := if_pos h
theorem bs_A_1 {MK : Nat → Nat → Int32} {c n g j : Nat} (h : bs_gv MK c n g = nI j) (hj : j < 7) : bs_A MK c n (g + 1) = pu_set (bs_A MK c n g) j := by
  have h' : bs_lc (bs_p MK c n g (bs_A MK c n g)) c = nI j := h
  have q : bs_A MK c n (g + 1) = _ := if_neg (by rw [h']; exact pu_ne1 (by omega))
  rw [q, h', nI_clamp (by omega)]
theorem bs_A_lt {MK : Nat → Nat → Int32} {c n : Nat} (hc : c ≤ 7) : ∀ g, bs_A MK c n g < 2 ^ c
  | 0 => (bs_pow c (by omega)).2.2
  | g + 1 => by
    have ih := bs_A_lt (MK := MK) (n := n) hc g
    rcases bs_lc_or (P := bs_p MK c n g (bs_A MK c n g)) hc with e | ⟨j, hj, e⟩
    · rw [bs_A_0 e]; exact ih
    · rw [bs_A_1 e (by omega)]; exact bs_set_lt c (by omega) _ ih j hj
theorem bs_p_t {MK : Nat → Nat → Int32} {c n g A j : Nat} (h1 : A.testBit j = false) (h2 : MK j g + bs_V MK c n (n - (g + 1)) (pu_set A j) = bs_V MK c n (n - g) A) : bs_p MK c n g A j = true := by
  unfold bs_p
  rw [h1, decide_eq_true h2]
  rfl
theorem bs_p_b {MK : Nat → Nat → Int32} {c n g A j : Nat} (h1 : A.testBit j = true) : bs_p MK c n g A j = false := by
  unfold bs_p
  rw [h1]
  rfl
theorem bs_p_f {MK : Nat → Nat → Int32} {c n g A j : Nat} (h2 : ¬ MK j g + bs_V MK c n (n - (g + 1)) (pu_set A j) = bs_V MK c n (n - g) A) : bs_p MK c n g A j = false := by
  unfold bs_p
  rw [decide_eq_false h2, Bool.and_false]
theorem bs_bit {P j : Nat} (hP : P < 128) (hj : j < 7) : (nI P &&& (1 <<< (nI j &&& 31)) = 0) ↔ P.testBit j = false := by
  rw [pu_bit2_i P hP j hj]
  cases P.testBit j
  · exact ⟨fun _ => rfl, fun _ => rfl⟩
  · have : ∀ j, j < 7 → ¬ (nI (2 ^ j) = 0) := by decide
    exact ⟨fun q => absurd q (this j hj), fun q => by cases q⟩
theorem lp_lm2 {L : Nat} {xs : Nat → Int32} {d ms b : Nat} {h : am_HI} {Q : am_Q} {n c t : Nat} {s0 s1 : Int32} {p0 p1 : List Int32} (HS : am_hs h n c t s0 s1 p0 p1) {i : Nat} (hg : i < n) (hd : 5 ≤ d) (kk : ∀ gz, (∀ g, g < i + 1 → ∀ j, j < c → gz 54 (g * 7 + j) = hs_mk h s1 p1 j g) → am_wp L xs d 0 ms 78 43 [.ref 49, .ref 1, .int (nI i), .int (nI c)] [] (am_S b) (am_ov h [22, 23, 54] gz) Q) :
    ∀ (m k : Nat) (gz : am_HI) (e54 : ∀ g, g < i → ∀ j, j < c → gz 54 (g * 7 + j) = hs_mk h s1 p1 j g) (f54 : ∀ j, j < k → gz 54 (i * 7 + j) = hs_mk h s1 p1 j i), k + m = c → am_wp L xs d 0 ms 78 12 [.ref 49, .ref 1, .int (nI i), .int (nI k)] [] (am_S b) (am_ov h [22, 23, 54] gz) Q := by
  have hn7 := HS.2.2.2.1
  have hc7 := HS.2.2.2.2.1
  have hn := HS.1
  have hc := HS.2.1
  intro m
  induction m with
  | zero =>
    intro k gz e54 f54 hi
    have e9 : k = c := by omega
    rw [e9] at f54 ⊢
    refine wp_run 2 (pc' := 14) (ls' := [.ref 49, .ref 1, .int (nI i), .int (nI c)]) (st' := [.ref 1, .int (nI c)]) rfl ?_
    refine wp_geti (a := 11) (nI c) hc rfl rfl rfl ?_
    refine wp_icmp_t rfl (show (nI c) ≤ (nI c) from (nI_leI (a := c) (b := c) (by omega) (by omega)).mpr (by omega)) ?_
    refine kk gz (fun g hg2 j hj => ?_)
    by_cases eg : g = i
    · rw [eg]; exact f54 j hj
    · exact e54 g (by omega) j hj
  | succ m ih =>
    intro k gz e54 f54 hi
    refine wp_run 2 (pc' := 14) (ls' := [.ref 49, .ref 1, .int (nI i), .int (nI k)]) (st' := [.ref 1, .int (nI k)]) rfl ?_
    refine wp_geti (a := 11) (nI c) hc rfl rfl rfl ?_
    refine wp_icmp_f rfl (show ¬ ((nI c) ≤ (nI k)) from mt (nI_leI (a := c) (b := k) (by omega) (by omega)).mp (by omega)) ?_
    refine wp_run 1 (pc' := 21) (ls' := [.ref 49, .ref 1, .int (nI i), .int (nI k)]) (st' := [.ref 49]) rfl ?_
    refine wp_getr 54 rfl rfl rfl ?_
    refine wp_run 8 (pc' := 33) (ls' := [.ref 49, .ref 1, .int (nI i), .int (nI k)]) (st' := [.int (nI i), .int (nI k), .ref 1, .int (((nI i) * 7) + (nI k)), .ref 54]) rfl ?_
    rw [show (((nI i) * 7) : Int32) = (nI (i * 7)) from pk_mul i 7]
    rw [show (((nI (i * 7)) + (nI k)) : Int32) = (nI ((i * 7) + k)) from nI_add (i * 7) k]
    refine wp_callV (o := 1) (as := [.int (nI k), .int (nI i)]) (rest := [.int (nI ((i * 7) + k)), .ref 54]) (els := [.ref 1, .int (nI k), .int (nI i)]) rfl rfl rfl rfl rfl rfl rfl rfl (by omega) ?_
    refine sp_making (h := am_ov h [22, 23, 54] gz) HS (j := k) (g := i) (by omega) hg (by omega) (fun gy => ?_)
    show am_wp L xs _ _ _ _ 36 [.ref 49, .ref 1, .int (nI i), .int (nI k)] [.int (hs_mk h s1 p1 k i), .int (nI ((i * 7) + k)), .ref 54] (am_S b) (am_ov (am_ov h [22, 23, 54] gz) [22, 23] gy) _
    refine wp_ast rfl rfl rfl (by omega) rfl ?_
    refine wp_run 2 (pc' := 12) (ls' := [.ref 49, .ref 1, .int (nI i), .int ((nI k) + 1)]) (st' := []) rfl ?_
    rw [show (((nI k) + 1) : Int32) = (nI (k + 1)) from nI_add k 1]
    refine am_gen (fun X hX => ?_)
    have eX : X = am_ov h [22, 23, 54] X := am_ov_of (fun a ha => by rw [hX]; rw [am_u_off _ _ _ (am_nel ha rfl), am_ov_off (am_sub ha rfl), am_ov_off (am_sub ha rfl)])
    rw [eX]
    refine ih (k + 1) X ?_ ?_ (by omega)
    · intro g hg2 j hj
      rw [hX]
      show upd (gz 54) (i * 7 + k) _ (g * 7 + j) = _
      rw [pk_un (by omega)]
      exact e54 g hg2 j hj
    · intro j hj
      rw [hX]
      show upd (gz 54) (i * 7 + k) _ (i * 7 + j) = _
      by_cases ej : j = k
      · rw [ej, pk_us]
      · rw [pk_un (by omega)]; exact f54 j (by omega)
theorem lp_lm1 {L : Nat} {xs : Nat → Int32} {d ms b : Nat} {h : am_HI} {Q : am_Q} {n c t : Nat} {s0 s1 : Int32} {p0 p1 : List Int32} (HS : am_hs h n c t s0 s1 p0 p1) (hd : 5 ≤ d) (kk : ∀ gz, (∀ g, g < n → ∀ j, j < c → gz 54 (g * 7 + j) = hs_mk h s1 p1 j g) → Q none (am_S b) (am_ov h [22, 23, 54] gz)) :
    ∀ (m i : Nat) (u3 : Value) (gz : am_HI) (e54 : ∀ g, g < i → ∀ j, j < c → gz 54 (g * 7 + j) = hs_mk h s1 p1 j g), i + m = n → am_wp L xs d 0 ms 78 2 [.ref 49, .ref 1, .int (nI i), u3] [] (am_S b) (am_ov h [22, 23, 54] gz) Q := by
  have hn7 := HS.2.2.2.1
  have hc7 := HS.2.2.2.2.1
  have hn := HS.1
  have hc := HS.2.1
  intro m
  induction m with
  | zero =>
    intro i u3 gz e54 hi
    have e9 : i = n := by omega
    rw [e9] at e54
    refine wp_run 2 (pc' := 4) (ls' := [.ref 49, .ref 1, .int (nI i), u3]) (st' := [.ref 1, .int (nI i)]) rfl ?_
    refine wp_geti (a := 10) (nI n) hn rfl rfl rfl ?_
    refine wp_icmp_t rfl (show (nI n) ≤ (nI i) from (nI_leI (a := n) (b := i) (by omega) (by omega)).mpr (by omega)) ?_
    refine wp_retv rfl ?_
    exact kk gz e54
  | succ m ih =>
    intro i u3 gz e54 hi
    refine wp_run 2 (pc' := 4) (ls' := [.ref 49, .ref 1, .int (nI i), u3]) (st' := [.ref 1, .int (nI i)]) rfl ?_
    refine wp_geti (a := 10) (nI n) hn rfl rfl rfl ?_
    refine wp_icmp_f rfl (show ¬ ((nI n) ≤ (nI i)) from mt (nI_leI (a := n) (b := i) (by omega) (by omega)).mp (by omega)) ?_
    refine wp_run 2 (pc' := 12) (ls' := [.ref 49, .ref 1, .int (nI i), .int 0]) (st' := []) rfl ?_
    refine lp_lm2 HS (i := i) (by omega) hd (fun gy g54 => ?_) c 0 gz e54 (fun j hj => by omega) (by omega)
    refine wp_run 2 (pc' := 2) (ls' := [.ref 49, .ref 1, .int ((nI i) + 1), .int (nI c)]) (st' := []) rfl ?_
    rw [show (((nI i) + 1) : Int32) = (nI (i + 1)) from nI_add i 1]
    exact ih (i + 1) _ gy g54 (by omega)
theorem sp_learnMakes {L : Nat} {xs : Nat → Int32} {d ms b : Nat} {h : am_HI} {Q : am_Q} {n c t : Nat} {s0 s1 : Int32} {p0 p1 : List Int32} (HS : am_hs h n c t s0 s1 p0 p1) (hd : 5 ≤ d) (kk : ∀ gz, (∀ g, g < n → ∀ j, j < c → gz 54 (g * 7 + j) = hs_mk h s1 p1 j g) → Q none (am_S b) (am_ov h [22, 23, 54] gz)) :
    am_wp L xs d 0 ms 78 0 [.ref 49, .ref 1, am_du, am_du] [] (am_S b) h Q := by
  refine wp_run 2 (pc' := 2) (ls' := [.ref 49, .ref 1, .int 0, am_du]) (st' := []) rfl ?_
  have hp := lp_lm1 (L := L) (xs := xs) (ms := ms) (b := b) HS hd kk n 0 am_du h (fun g hg => by omega) (by omega)
  rw [← am_ov_self] at hp
  exact hp
theorem sp_sumWith {L : Nat} {xs : Nat → Int32} {d ms b : Nat} {h : am_HI} {Q : am_Q} {g j S : Nat} {w v : Int32} (hg : g < 7) (hj : j < 7) (hS : S < 128) (hW : h 54 (g * 7 + j) = w) (hV : h 55 ((g + 1) * 128 + pu_set S j) = v) (kk : Q (some (.int (w + v))) (am_S b) h) :
    am_wp L xs d 0 ms 80 0 [.ref 49, .int (nI g), .int (nI j), .int (nI S)] [] (am_S b) h Q := by
  refine wp_run 1 (pc' := 1) (ls' := [.ref 49, .int (nI g), .int (nI j), .int (nI S)]) (st' := [.ref 49]) rfl ?_
  refine wp_getr 54 rfl rfl rfl ?_
  refine wp_run 5 (pc' := 10) (ls' := [.ref 49, .int (nI g), .int (nI j), .int (nI S)]) (st' := [.int (((nI g) * 7) + (nI j)), .ref 54]) rfl ?_
  rw [show (((nI g) * 7) : Int32) = (nI (g * 7)) from pk_mul g 7]
  rw [show (((nI (g * 7)) + (nI j)) : Int32) = (nI ((g * 7) + j)) from nI_add (g * 7) j]
  refine wp_ald (i := ((g * 7) + j)) w hW rfl rfl rfl (by omega) rfl ?_
  refine wp_run 1 (pc' := 12) (ls' := [.ref 49, .int (nI g), .int (nI j), .int (nI S)]) (st' := [.ref 49, .int w]) rfl ?_
  refine wp_getr 55 rfl rfl rfl ?_
  refine wp_run 10 (pc' := 27) (ls' := [.ref 49, .int (nI g), .int (nI j), .int (nI S)]) (st' := [.int ((nI S) ||| (1 <<< ((nI j) &&& 31))), .int (((nI g) + 1) * 128), .ref 55, .int w]) rfl ?_
  rw [show (((nI g) + 1) : Int32) = (nI (g + 1)) from nI_add g 1]
  rw [show (((nI (g + 1)) * 128) : Int32) = (nI ((g + 1) * 128)) from pk_mul (g + 1) 128]
  have hps := pu_set_lt S hS j hj
  rw [show (((nI S) ||| (1 <<< ((nI j) &&& 31))) : Int32) = nI (pu_set S j) from pu_set_i S hS j hj]
  refine wp_run 1 (pc' := 28) (ls' := [.ref 49, .int (nI g), .int (nI j), .int (nI S)]) (st' := [.int ((nI ((g + 1) * 128)) + (nI (pu_set S j))), .ref 55, .int w]) rfl ?_
  rw [show (((nI ((g + 1) * 128)) + (nI (pu_set S j))) : Int32) = (nI (((g + 1) * 128) + (pu_set S j))) from nI_add ((g + 1) * 128) (pu_set S j)]
  refine wp_ald (i := (((g + 1) * 128) + (pu_set S j))) v hV rfl rfl rfl (by omega) rfl ?_
  refine wp_run 1 (pc' := 30) (ls' := [.ref 49, .int (nI g), .int (nI j), .int (nI S)]) (st' := [.int (w + v)]) rfl ?_
  refine wp_ret rfl ?_
  exact kk
theorem lp_mostFrom {L : Nat} {xs : Nat → Int32} {d ms b : Nat} {h : am_HI} {Q : am_Q} {g c S : Nat} {W V : Nat → Int32} (hg : g < 7) (hc7 : c ≤ 7) (hS : S < 2 ^ c) (hW : ∀ j, j < c → h 54 (g * 7 + j) = W j) (hV : ∀ S, S < 2 ^ c → h 55 ((g + 1) * 128 + S) = V S) (hd : 1 ≤ d) (kk : Q (some (.int (bs_f W V S c))) (am_S b) h) :
    ∀ (m i : Nat), i + m = c → am_wp L xs d 0 ms 79 19 [.ref 49, .int (nI g), .int (nI S), .int (nI c), .int (bs_f W V S i), .int (nI i)] [] (am_S b) h Q := by
  have hpw := bs_pow c (by omega)
  have hS8 : S < 128 := by omega
  intro m
  induction m with
  | zero =>
    intro i hi
    refine wp_run 2 (pc' := 22) (ls' := [.ref 49, .int (nI g), .int (nI S), .int (nI c), .int (bs_f W V S i), .int (nI i)]) (st' := [.int (nI c), .int (nI i)]) rfl ?_
    refine wp_icmp_t rfl (show (nI c) ≤ (nI i) from (nI_leI (a := c) (b := i) (by omega) (by omega)).mpr (by omega)) ?_
    refine wp_run 1 (pc' := 57) (ls' := [.ref 49, .int (nI g), .int (nI S), .int (nI c), .int (bs_f W V S i), .int (nI i)]) (st' := [.int (bs_f W V S i)]) rfl ?_
    refine wp_ret rfl ?_
    have e9 : i = c := by omega
    rw [e9]
    exact kk
  | succ m ih =>
    intro i hi
    refine wp_run 2 (pc' := 22) (ls' := [.ref 49, .int (nI g), .int (nI S), .int (nI c), .int (bs_f W V S i), .int (nI i)]) (st' := [.int (nI c), .int (nI i)]) rfl ?_
    refine wp_icmp_f rfl (show ¬ ((nI c) ≤ (nI i)) from mt (nI_leI (a := c) (b := i) (by omega) (by omega)).mp (by omega)) ?_
    refine wp_run 5 (pc' := 31) (ls' := [.ref 49, .int (nI g), .int (nI S), .int (nI c), .int (bs_f W V S i), .int (nI i)]) (st' := [.int ((nI S) &&& (1 <<< ((nI i) &&& 31)))]) rfl ?_
    refine wp_if rfl (fun (cq31 : ¬ ((nI S) &&& (1 <<< ((nI i) &&& 31))) = 0) => ?_) (fun (cq31 : ¬ (¬ ((nI S) &&& (1 <<< ((nI i) &&& 31))) = 0)) => ?_)
    · skip
      have hbit : S.testBit i = true := by
        cases q : S.testBit i
        · exact absurd ((bs_bit hS8 (by omega)).mpr q) cq31
        · rfl
      refine wp_run 2 (pc' := 19) (ls' := [.ref 49, .int (nI g), .int (nI S), .int (nI c), .int (bs_f W V S i), .int ((nI i) + 1)]) (st' := []) rfl ?_
      rw [show (((nI i) + 1) : Int32) = (nI (i + 1)) from nI_add i 1]
      rw [← bs_f_t hbit]
      exact ih (i + 1) (by omega)
    · skip
      replace cq31 := Decidable.not_not.mp cq31
      have hbit : S.testBit i = false := (bs_bit hS8 (by omega)).mp cq31
      refine wp_run 5 (pc' := 41) (ls' := [.ref 49, .int (nI g), .int (nI S), .int (nI c), .int (bs_f W V S i), .int (nI i)]) (st' := [.int (nI S), .int (nI i), .int (nI g), .ref 49, .int (bs_f W V S i)]) rfl ?_
      refine wp_callV (o := 49) (as := [.int (nI g), .int (nI i), .int (nI S)]) (rest := [.int (bs_f W V S i)]) (els := [.ref 49, .int (nI g), .int (nI i), .int (nI S)]) rfl rfl rfl rfl rfl rfl rfl rfl (by omega) ?_
      refine sp_sumWith (S := S) hg (by omega) hS8 (hW i (by omega)) (hV _ (bs_set_lt c (by omega) S hS i (by omega))) ?_
      show am_wp L xs _ _ _ _ 44 [.ref 49, .int (nI g), .int (nI S), .int (nI c), .int (bs_f W V S i), .int (nI i)] [.int (W i + V (pu_set S i)), .int (bs_f W V S i)] (am_S b) h _
      refine wp_max rfl rfl (by omega) ?_
      refine wp_run 3 (pc' := 19) (ls' := [.ref 49, .int (nI g), .int (nI S), .int (nI c), .int (am_imax (bs_f W V S i) (W i + V (pu_set S i))), .int ((nI i) + 1)]) (st' := []) rfl ?_
      rw [show (((nI i) + 1) : Int32) = (nI (i + 1)) from nI_add i 1]
      rw [← bs_f_f hbit]
      exact ih (i + 1) (by omega)
theorem sp_mostFrom {L : Nat} {xs : Nat → Int32} {d ms b : Nat} {h : am_HI} {Q : am_Q} {g c S : Nat} {W V : Nat → Int32} (hg : g < 7) (hc7 : c ≤ 7) (hS : S < 2 ^ c) (hW : ∀ j, j < c → h 54 (g * 7 + j) = W j) (hV : ∀ S, S < 2 ^ c → h 55 ((g + 1) * 128 + S) = V S) (hd : 1 ≤ d) (kk : Q (some (.int (bs_f W V S c))) (am_S b) h) :
    am_wp L xs d 0 ms 79 0 [.ref 49, .int (nI g), .int (nI S), .int (nI c), am_du, am_du] [] (am_S b) h Q := by
  have hpw := bs_pow c (by omega)
  refine wp_run 1 (pc' := 1) (ls' := [.ref 49, .int (nI g), .int (nI S), .int (nI c), am_du, am_du]) (st' := [.ref 49]) rfl ?_
  refine wp_getr 55 rfl rfl rfl ?_
  refine wp_run 7 (pc' := 13) (ls' := [.ref 49, .int (nI g), .int (nI S), .int (nI c), am_du, am_du]) (st' := [.int ((((nI g) + 1) * 128) + (nI S)), .ref 55]) rfl ?_
  rw [show (((nI g) + 1) : Int32) = (nI (g + 1)) from nI_add g 1]
  rw [show (((nI (g + 1)) * 128) : Int32) = (nI ((g + 1) * 128)) from pk_mul (g + 1) 128]
  rw [show (((nI ((g + 1) * 128)) + (nI S)) : Int32) = (nI (((g + 1) * 128) + S)) from nI_add ((g + 1) * 128) S]
  refine wp_ald (i := (((g + 1) * 128) + S)) (V S) (hV S hS) rfl rfl rfl (by omega) rfl ?_
  refine wp_run 3 (pc' := 19) (ls' := [.ref 49, .int (nI g), .int (nI S), .int (nI c), .int (V S), .int 0]) (st' := []) rfl ?_
  exact lp_mostFrom hg hc7 hS hW hV hd kk c 0 (by omega)
theorem lp_least {L : Nat} {xs : Nat → Int32} {d ms b : Nat} {h : am_HI} {Q : am_Q} {n g c A : Nat} {MK : Nat → Nat → Int32} (hg : g < n) (hn7 : n ≤ 7) (hc7 : c ≤ 7) (hA : A < 2 ^ c) (hW : ∀ j, j < c → h 54 (g * 7 + j) = MK j g) (hV : ∀ S, S < 2 ^ c → h 55 ((g + 1) * 128 + S) = bs_V MK c n (n - (g + 1)) S) (hT : h 55 (g * 128 + A) = bs_V MK c n (n - g) A) (hd : 1 ≤ d) (kk : Q (some (.int (bs_lc (bs_p MK c n g A) c))) (am_S b) h) :
    ∀ (m i : Nat) (hx : ∀ k, k < i → bs_p MK c n g A k = false), i + m = c → am_wp L xs d 0 ms 81 3 [.ref 49, .int (nI g), .int (nI A), .int (nI c), .int (nI i)] [] (am_S b) h Q := by
  have hpw := bs_pow c (by omega)
  have hA8 : A < 128 := by omega
  intro m
  induction m with
  | zero =>
    intro i hx hi
    refine wp_run 2 (pc' := 6) (ls' := [.ref 49, .int (nI g), .int (nI A), .int (nI c), .int (nI i)]) (st' := [.int (nI c), .int (nI i)]) rfl ?_
    refine wp_icmp_t rfl (show (nI c) ≤ (nI i) from (nI_leI (a := c) (b := i) (by omega) (by omega)).mpr (by omega)) ?_
    refine wp_run 1 (pc' := 51) (ls' := [.ref 49, .int (nI g), .int (nI A), .int (nI c), .int (nI i)]) (st' := [.int (-1)]) rfl ?_
    refine wp_ret rfl ?_
    rw [bs_lc_0 hc7 (fun j hj => hx j (by omega))] at kk
    exact kk
  | succ m ih =>
    intro i hx hi
    refine wp_run 2 (pc' := 6) (ls' := [.ref 49, .int (nI g), .int (nI A), .int (nI c), .int (nI i)]) (st' := [.int (nI c), .int (nI i)]) rfl ?_
    refine wp_icmp_f rfl (show ¬ ((nI c) ≤ (nI i)) from mt (nI_leI (a := c) (b := i) (by omega) (by omega)).mp (by omega)) ?_
    refine wp_run 5 (pc' := 15) (ls' := [.ref 49, .int (nI g), .int (nI A), .int (nI c), .int (nI i)]) (st' := [.int ((nI A) &&& (1 <<< ((nI i) &&& 31)))]) rfl ?_
    refine wp_if rfl (fun (cq15 : ¬ ((nI A) &&& (1 <<< ((nI i) &&& 31))) = 0) => ?_) (fun (cq15 : ¬ (¬ ((nI A) &&& (1 <<< ((nI i) &&& 31))) = 0)) => ?_)
    · skip
      have hbit : A.testBit i = true := by
        cases q : A.testBit i
        · exact absurd ((bs_bit hA8 (by omega)).mpr q) cq15
        · rfl
      refine wp_run 2 (pc' := 3) (ls' := [.ref 49, .int (nI g), .int (nI A), .int (nI c), .int ((nI i) + 1)]) (st' := []) rfl ?_
      rw [show (((nI i) + 1) : Int32) = (nI (i + 1)) from nI_add i 1]
      exact ih (i + 1) (fun k hk => by rcases Nat.lt_succ_iff_lt_or_eq.mp hk with q | q; exact hx k q; rw [q]; exact bs_p_b hbit) (by omega)
    · skip
      replace cq15 := Decidable.not_not.mp cq15
      have hbit : A.testBit i = false := (bs_bit hA8 (by omega)).mp cq15
      refine wp_run 4 (pc' := 23) (ls' := [.ref 49, .int (nI g), .int (nI A), .int (nI c), .int (nI i)]) (st' := [.int (nI A), .int (nI i), .int (nI g), .ref 49]) rfl ?_
      refine wp_callV (o := 49) (as := [.int (nI g), .int (nI i), .int (nI A)]) (rest := []) (els := [.ref 49, .int (nI g), .int (nI i), .int (nI A)]) rfl rfl rfl rfl rfl rfl rfl rfl (by omega) ?_
      refine sp_sumWith (S := A) (by omega) (by omega) hA8 (hW i (by omega)) (hV _ (bs_set_lt c (by omega) A hA i (by omega))) ?_
      show am_wp L xs _ _ _ _ 26 [.ref 49, .int (nI g), .int (nI A), .int (nI c), .int (nI i)] [.int (MK i g + bs_V MK c n (n - (g + 1)) (pu_set A i))] (am_S b) h _
      refine wp_run 1 (pc' := 27) (ls' := [.ref 49, .int (nI g), .int (nI A), .int (nI c), .int (nI i)]) (st' := [.ref 49, .int (MK i g + bs_V MK c n (n - (g + 1)) (pu_set A i))]) rfl ?_
      refine wp_getr 55 rfl rfl rfl ?_
      refine wp_run 5 (pc' := 37) (ls' := [.ref 49, .int (nI g), .int (nI A), .int (nI c), .int (nI i)]) (st' := [.int (((nI g) * 128) + (nI A)), .ref 55, .int (MK i g + bs_V MK c n (n - (g + 1)) (pu_set A i))]) rfl ?_
      rw [show (((nI g) * 128) : Int32) = (nI (g * 128)) from pk_mul g 128]
      rw [show (((nI (g * 128)) + (nI A)) : Int32) = (nI ((g * 128) + A)) from nI_add (g * 128) A]
      refine wp_ald (i := ((g * 128) + A)) (bs_V MK c n (n - g) A) hT rfl rfl rfl (by omega) rfl ?_
      refine wp_icmp rfl (fun (cq38 : ¬ (MK i g + bs_V MK c n (n - (g + 1)) (pu_set A i)) = (bs_V MK c n (n - g) A)) => ?_) (fun (cq38 : ¬ (¬ (MK i g + bs_V MK c n (n - (g + 1)) (pu_set A i)) = (bs_V MK c n (n - g) A))) => ?_)
      · skip
        refine wp_run 2 (pc' := 3) (ls' := [.ref 49, .int (nI g), .int (nI A), .int (nI c), .int ((nI i) + 1)]) (st' := []) rfl ?_
        rw [show (((nI i) + 1) : Int32) = (nI (i + 1)) from nI_add i 1]
        exact ih (i + 1) (fun k hk => by rcases Nat.lt_succ_iff_lt_or_eq.mp hk with q | q; exact hx k q; rw [q]; exact bs_p_f cq38) (by omega)
      · skip
        replace cq38 := Decidable.not_not.mp cq38
        refine wp_run 1 (pc' := 43) (ls' := [.ref 49, .int (nI g), .int (nI A), .int (nI c), .int (nI i)]) (st' := [.int (nI i)]) rfl ?_
        refine wp_ret rfl ?_
        rw [bs_lc_1 hc7 (show i < c by omega) (bs_p_t hbit cq38) hx] at kk
        exact kk
theorem sp_least {L : Nat} {xs : Nat → Int32} {d ms b : Nat} {h : am_HI} {Q : am_Q} {n g c A : Nat} {MK : Nat → Nat → Int32} (hg : g < n) (hn7 : n ≤ 7) (hc7 : c ≤ 7) (hA : A < 2 ^ c) (hW : ∀ j, j < c → h 54 (g * 7 + j) = MK j g) (hV : ∀ S, S < 2 ^ c → h 55 ((g + 1) * 128 + S) = bs_V MK c n (n - (g + 1)) S) (hT : h 55 (g * 128 + A) = bs_V MK c n (n - g) A) (hd : 1 ≤ d) (kk : Q (some (.int (bs_lc (bs_p MK c n g A) c))) (am_S b) h) :
    am_wp L xs d 0 ms 81 0 [.ref 49, .int (nI g), .int (nI A), .int (nI c), am_du] [] (am_S b) h Q := by
  refine wp_run 2 (pc' := 3) (ls' := [.ref 49, .int (nI g), .int (nI A), .int (nI c), .int 0]) (st' := []) rfl ?_
  exact lp_least hg hn7 hc7 hA hW hV hT hd kk c 0 (fun k hk => by omega) (by omega)
