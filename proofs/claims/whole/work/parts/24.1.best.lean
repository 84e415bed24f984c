/-! the best giving: the class's giveBest -/
theorem bs_V_s {MK : Nat → Nat → Int32} {c n g : Nat} (hg : g < n) (S : Nat) : bs_V MK c n (n - g) S = bs_f (fun j => MK j g) (bs_V MK c n (n - (g + 1))) S c := by
  have e : n - g = (n - (g + 1)) + 1 := by omega
  rw [e]
  show bs_f (fun j => MK j (n - (n - (g + 1) + 1))) _ S c = _
  rw [show n - (n - (g + 1) + 1) = g by omega]
def bs_T (MK : Nat → Nat → Int32) (c n k : Nat) (f : Nat → Int32) : Prop := ∀ q, k ≤ q → q ≤ n → ∀ S, S < 2 ^ c → f (q * 128 + S) = bs_V MK c n (n - q) S
theorem lp_gb1 {L : Nat} {xs : Nat → Int32} {d ms b : Nat} {h : am_HI} {Q : am_Q} {n c t : Nat} {s0 s1 : Int32} {p0 p1 : List Int32} (HS : am_hs h n c t s0 s1 p0 p1) (hd : 9 ≤ d) (kk : ∀ gz u4, (∀ g, g < n → ∀ j, j < c → gz 54 (g * 7 + j) = hs_mk h s1 p1 j g) → (∀ S, S < 2 ^ c → gz 55 (n * 128 + S) = 0) → am_wp L xs d 0 ms 77 41 [.ref 49, .ref 1, .int (nI (2 ^ c)), .int (nI (2 ^ c)), u4] [] (am_S b) (am_ov h [22, 23, 49, 50, 54, 55] gz) Q) :
    ∀ (m i : Nat) (gz : am_HI) (u4 : Value) (e54 : ∀ g, g < n → ∀ j, j < c → gz 54 (g * 7 + j) = hs_mk h s1 p1 j g) (f55 : ∀ S, S < i → gz 55 (n * 128 + S) = 0), i + m = 2 ^ c → am_wp L xs d 0 ms 77 14 [.ref 49, .ref 1, .int (nI (2 ^ c)), .int (nI i), u4] [] (am_S b) (am_ov h [22, 23, 49, 50, 54, 55] gz) Q := by
  have hn7 := HS.2.2.2.1
  have hc7 := HS.2.2.2.2.1
  have hn := HS.1
  have hc := HS.2.1
  have hpw := bs_pow c (by omega)
  intro m
  induction m with
  | zero =>
    intro i gz u4 e54 f55 hi
    have e9 : i = 2 ^ c := by omega
    rw [e9] at f55 ⊢
    refine wp_run 2 (pc' := 16) (ls' := [.ref 49, .ref 1, .int (nI (2 ^ c)), .int (nI (2 ^ c)), u4]) (st' := [.int (nI (2 ^ c)), .int (nI (2 ^ c))]) rfl ?_
    refine wp_icmp_t rfl (show (nI (2 ^ c)) ≤ (nI (2 ^ c)) from (nI_leI (a := (2 ^ c)) (b := (2 ^ c)) (by omega) (by omega)).mpr (by omega)) ?_
    exact kk gz u4 e54 f55
  | succ m ih =>
    intro i gz u4 e54 f55 hi
    refine wp_run 2 (pc' := 16) (ls' := [.ref 49, .ref 1, .int (nI (2 ^ c)), .int (nI i), u4]) (st' := [.int (nI (2 ^ c)), .int (nI i)]) rfl ?_
    refine wp_icmp_f rfl (show ¬ ((nI (2 ^ c)) ≤ (nI i)) from mt (nI_leI (a := (2 ^ c)) (b := i) (by omega) (by omega)).mp (by omega)) ?_
    refine wp_run 1 (pc' := 20) (ls' := [.ref 49, .ref 1, .int (nI (2 ^ c)), .int (nI i), u4]) (st' := [.ref 49]) rfl ?_
    refine wp_getr 55 rfl rfl rfl ?_
    refine wp_run 1 (pc' := 24) (ls' := [.ref 49, .ref 1, .int (nI (2 ^ c)), .int (nI i), u4]) (st' := [.ref 1, .ref 55]) rfl ?_
    refine wp_geti (a := 10) (nI n) hn rfl rfl rfl ?_
    refine wp_run 5 (pc' := 34) (ls' := [.ref 49, .ref 1, .int (nI (2 ^ c)), .int (nI i), u4]) (st' := [.int 0, .int (((nI n) * 128) + (nI i)), .ref 55]) rfl ?_
    rw [show (((nI n) * 128) : Int32) = (nI (n * 128)) from pk_mul n 128]
    rw [show (((nI (n * 128)) + (nI i)) : Int32) = (nI ((n * 128) + i)) from nI_add (n * 128) i]
    refine wp_ast rfl rfl rfl (by omega) rfl ?_
    refine wp_run 2 (pc' := 14) (ls' := [.ref 49, .ref 1, .int (nI (2 ^ c)), .int ((nI i) + 1), u4]) (st' := []) rfl ?_
    rw [show (((nI i) + 1) : Int32) = (nI (i + 1)) from nI_add i 1]
    refine am_gen (fun X hX => ?_)
    have eX : X = am_ov h [22, 23, 49, 50, 54, 55] X := am_ov_of (fun a ha => by rw [hX]; rw [am_u_off _ _ _ (am_nel ha rfl), am_ov_off (am_sub ha rfl)])
    rw [eX]
    refine ih (i + 1) X _ (by rw [hX]; exact e54) ?_ (by omega)
    intro S hS
    rw [hX]
    show upd (gz 55) (n * 128 + i) 0 (n * 128 + S) = 0
    by_cases ej : S = i
    · rw [ej, pk_us]
    · rw [pk_un (by omega)]; exact f55 S (by omega)
theorem lp_gb2 {L : Nat} {xs : Nat → Int32} {d ms b : Nat} {h : am_HI} {Q : am_Q} {n c t : Nat} {s0 s1 : Int32} {p0 p1 : List Int32} (HS : am_hs h n c t s0 s1 p0 p1) (hd : 9 ≤ d) {g : Nat} (hg : g < n) (kk : ∀ gz, (∀ g, g < n → ∀ j, j < c → gz 54 (g * 7 + j) = hs_mk h s1 p1 j g) → bs_T (fun j g => hs_mk h s1 p1 j g) c n g (gz 55) → am_wp L xs d 0 ms 77 91 [.ref 49, .ref 1, .int (nI (2 ^ c)), .int (nI g), .int (nI (2 ^ c))] [] (am_S b) (am_ov h [22, 23, 49, 50, 54, 55] gz) Q) :
    ∀ (m i : Nat) (gz : am_HI) (e54 : ∀ g, g < n → ∀ j, j < c → gz 54 (g * 7 + j) = hs_mk h s1 p1 j g) (e55 : bs_T (fun j g => hs_mk h s1 p1 j g) c n (g + 1) (gz 55)) (f55 : ∀ S, S < i → gz 55 (g * 128 + S) = bs_V (fun j g => hs_mk h s1 p1 j g) c n (n - g) S), i + m = 2 ^ c → am_wp L xs d 0 ms 77 55 [.ref 49, .ref 1, .int (nI (2 ^ c)), .int (nI g), .int (nI i)] [] (am_S b) (am_ov h [22, 23, 49, 50, 54, 55] gz) Q := by
  have hn7 := HS.2.2.2.1
  have hc7 := HS.2.2.2.2.1
  have hn := HS.1
  have hc := HS.2.1
  have hpw := bs_pow c (by omega)
  intro m
  induction m with
  | zero =>
    intro i gz e54 e55 f55 hi
    have e9 : i = 2 ^ c := by omega
    rw [e9] at f55 ⊢
    refine wp_run 2 (pc' := 58) (ls' := [.ref 49, .ref 1, .int (nI (2 ^ c)), .int (nI g), .int (nI (2 ^ c))]) (st' := [.int (nI (2 ^ c)), .int (nI (2 ^ c))]) rfl ?_
    refine wp_icmp_t rfl (show (nI (2 ^ c)) ≤ (nI (2 ^ c)) from (nI_leI (a := (2 ^ c)) (b := (2 ^ c)) (by omega) (by omega)).mpr (by omega)) ?_
    refine kk gz e54 (fun q q1 q2 S hS => ?_)
    by_cases eq : q = g
    · rw [eq]; exact f55 S hS
    · exact e55 q (by omega) q2 S hS
  | succ m ih =>
    intro i gz e54 e55 f55 hi
    refine wp_run 2 (pc' := 58) (ls' := [.ref 49, .ref 1, .int (nI (2 ^ c)), .int (nI g), .int (nI i)]) (st' := [.int (nI (2 ^ c)), .int (nI i)]) rfl ?_
    refine wp_icmp_f rfl (show ¬ ((nI (2 ^ c)) ≤ (nI i)) from mt (nI_leI (a := (2 ^ c)) (b := i) (by omega) (by omega)).mp (by omega)) ?_
    refine wp_run 1 (pc' := 62) (ls' := [.ref 49, .ref 1, .int (nI (2 ^ c)), .int (nI g), .int (nI i)]) (st' := [.ref 49]) rfl ?_
    refine wp_getr 55 rfl rfl rfl ?_
    refine wp_run 9 (pc' := 78) (ls' := [.ref 49, .ref 1, .int (nI (2 ^ c)), .int (nI g), .int (nI i)]) (st' := [.ref 1, .int (nI i), .int (nI g), .ref 49, .int (((nI g) * 128) + (nI i)), .ref 55]) rfl ?_
    rw [show (((nI g) * 128) : Int32) = (nI (g * 128)) from pk_mul g 128]
    rw [show (((nI (g * 128)) + (nI i)) : Int32) = (nI ((g * 128) + i)) from nI_add (g * 128) i]
    refine wp_geti (a := 11) (nI c) hc rfl rfl rfl ?_
    refine wp_callV (o := 49) (as := [.int (nI g), .int (nI i), .int (nI c)]) (rest := [.int (nI ((g * 128) + i)), .ref 55]) (els := [.ref 49, .int (nI g), .int (nI i), .int (nI c), am_du, am_du]) rfl rfl rfl rfl rfl rfl rfl rfl (by omega) ?_
    refine sp_mostFrom (h := am_ov h [22, 23, 49, 50, 54, 55] gz) (g := g) (c := c) (S := i) (W := fun j => hs_mk h s1 p1 j g) (V := bs_V (fun j g => hs_mk h s1 p1 j g) c n (n - (g + 1))) (by omega) hc7 (by omega) (fun j hj => e54 g hg j hj) (fun S hS => e55 (g + 1) (Nat.le_refl _) (by omega) S hS) (by omega) ?_
    rw [← bs_V_s (MK := (fun j g => hs_mk h s1 p1 j g)) hg i]
    show am_wp L xs _ _ _ _ 84 [.ref 49, .ref 1, .int (nI (2 ^ c)), .int (nI g), .int (nI i)] [.int (bs_V (fun j g => hs_mk h s1 p1 j g) c n (n - g) i), .int (nI ((g * 128) + i)), .ref 55] (am_S b) (am_ov h [22, 23, 49, 50, 54, 55] gz) _
    refine wp_ast rfl rfl rfl (by omega) rfl ?_
    refine wp_run 2 (pc' := 55) (ls' := [.ref 49, .ref 1, .int (nI (2 ^ c)), .int (nI g), .int ((nI i) + 1)]) (st' := []) rfl ?_
    rw [show (((nI i) + 1) : Int32) = (nI (i + 1)) from nI_add i 1]
    refine am_gen (fun X hX => ?_)
    have eX : X = am_ov h [22, 23, 49, 50, 54, 55] X := am_ov_of (fun a ha => by rw [hX]; rw [am_u_off _ _ _ (am_nel ha rfl), am_ov_off (am_sub ha rfl)])
    rw [eX]
    refine ih (i + 1) X (by rw [hX]; exact e54) ?_ ?_ (by omega)
    · intro q q1 q2 S hS
      rw [hX]
      show upd (gz 55) (g * 128 + i) _ (q * 128 + S) = _
      rw [pk_un (by omega)]
      exact e55 q q1 q2 S hS
    · intro S hS
      rw [hX]
      show upd (gz 55) (g * 128 + i) _ (g * 128 + S) = _
      by_cases ej : S = i
      · rw [ej, pk_us]
      · rw [pk_un (by omega)]; exact f55 S (by omega)
theorem lp_gb3 {L : Nat} {xs : Nat → Int32} {d ms b : Nat} {h : am_HI} {Q : am_Q} {n c t : Nat} {s0 s1 : Int32} {p0 p1 : List Int32} (HS : am_hs h n c t s0 s1 p0 p1) (hd : 9 ≤ d) (kk : ∀ gz u4, (∀ g, g < n → ∀ j, j < c → gz 54 (g * 7 + j) = hs_mk h s1 p1 j g) → bs_T (fun j g => hs_mk h s1 p1 j g) c n 0 (gz 55) → am_wp L xs d 0 ms 77 97 [.ref 49, .ref 1, .int (nI (2 ^ c)), .int (-1), u4] [] (am_S b) (am_ov h [22, 23, 49, 50, 54, 55] gz) Q) :
    ∀ (k : Nat) (gz : am_HI) (u4 : Value) (e54 : ∀ g, g < n → ∀ j, j < c → gz 54 (g * 7 + j) = hs_mk h s1 p1 j g) (e55 : bs_T (fun j g => hs_mk h s1 p1 j g) c n k (gz 55)), k ≤ n → am_wp L xs d 0 ms 77 48 [.ref 49, .ref 1, .int (nI (2 ^ c)), .int (nI k - 1), u4] [] (am_S b) (am_ov h [22, 23, 49, 50, 54, 55] gz) Q := by
  have hn7 := HS.2.2.2.1
  have hc7 := HS.2.2.2.2.1
  have hn := HS.1
  have hc := HS.2.1
  have hpw := bs_pow c (by omega)
  intro k
  induction k with
  | zero =>
    intro gz u4 e54 e55 hk
    rw [show (nI 0 - 1 : Int32) = -1 from by decide]
    refine wp_run 1 (pc' := 49) (ls' := [.ref 49, .ref 1, .int (nI (2 ^ c)), .int (-1), u4]) (st' := [.int (-1)]) rfl ?_
    refine wp_if_t rfl (show ((-1) : Int32) < 0 from by decide) ?_
    exact kk gz u4 e54 e55
  | succ k ih =>
    intro gz u4 e54 e55 hk
    rw [nI_pred k]
    refine wp_run 1 (pc' := 49) (ls' := [.ref 49, .ref 1, .int (nI (2 ^ c)), .int (nI k), u4]) (st' := [.int (nI k)]) rfl ?_
    refine wp_if_f rfl (show ¬ ((nI k) < 0) from mt (nI_ltI (a := k) (b := 0) (by omega) (by omega)).mp (by omega)) ?_
    refine wp_run 2 (pc' := 55) (ls' := [.ref 49, .ref 1, .int (nI (2 ^ c)), .int (nI k), .int 0]) (st' := []) rfl ?_
    refine lp_gb2 HS hd (g := k) (by omega) (fun gy g54 g55 => ?_) (2 ^ c) 0 gz e54 e55 (fun S hS => by omega) (by omega)
    refine wp_run 2 (pc' := 48) (ls' := [.ref 49, .ref 1, .int (nI (2 ^ c)), .int ((nI k) + (-1)), .int (nI (2 ^ c))]) (st' := []) rfl ?_
    rw [show (((nI k) + (-1)) : Int32) = nI k - 1 from (Int32.sub_eq_add_neg (nI k) 1).symm]
    exact ih gy _ g54 g55 (by omega)
theorem lp_gb4 {L : Nat} {xs : Nat → Int32} {d ms b : Nat} {h : am_HI} {Q : am_Q} {n c t : Nat} {s0 s1 : Int32} {p0 p1 : List Int32} (HS : am_hs h n c t s0 s1 p0 p1) (hd : 9 ≤ d) (kk : ∀ gz, gz 49 1 = bs_V (fun j g => hs_mk h s1 p1 j g) c n n 0 → (∀ g, g < n → gz 50 g = bs_gv (fun j g => hs_mk h s1 p1 j g) c n g) → Q none (am_S b) (am_ov h [22, 23, 49, 50, 54, 55] gz)) :
    ∀ (m i : Nat) (gz : am_HI) (e54 : ∀ g, g < n → ∀ j, j < c → gz 54 (g * 7 + j) = hs_mk h s1 p1 j g) (e55 : bs_T (fun j g => hs_mk h s1 p1 j g) c n 0 (gz 55)) (e49 : gz 49 1 = bs_V (fun j g => hs_mk h s1 p1 j g) c n n 0) (f50 : ∀ g, g < i → gz 50 g = bs_gv (fun j g => hs_mk h s1 p1 j g) c n g), i + m = n → am_wp L xs d 0 ms 77 112 [.ref 49, .ref 1, .int (nI (2 ^ c)), .int (nI (bs_A (fun j g => hs_mk h s1 p1 j g) c n i)), .int (nI i)] [] (am_S b) (am_ov h [22, 23, 49, 50, 54, 55] gz) Q := by
  have hn7 := HS.2.2.2.1
  have hc7 := HS.2.2.2.2.1
  have hn := HS.1
  have hc := HS.2.1
  have hpw := bs_pow c (by omega)
  intro m
  induction m with
  | zero =>
    intro i gz e54 e55 e49 f50 hi
    refine wp_run 2 (pc' := 115) (ls' := [.ref 49, .ref 1, .int (nI (2 ^ c)), .int (nI (bs_A (fun j g => hs_mk h s1 p1 j g) c n i)), .int (nI i)]) (st' := [.ref 1, .int (nI i)]) rfl ?_
    refine wp_geti (a := 10) (nI n) hn rfl rfl rfl ?_
    refine wp_icmp_t rfl (show (nI n) ≤ (nI i) from (nI_leI (a := n) (b := i) (by omega) (by omega)).mpr (by omega)) ?_
    refine wp_retv rfl ?_
    have e9 : i = n := by omega
    rw [e9] at f50
    exact kk gz e49 f50
  | succ m ih =>
    intro i gz e54 e55 e49 f50 hi
    refine wp_run 2 (pc' := 115) (ls' := [.ref 49, .ref 1, .int (nI (2 ^ c)), .int (nI (bs_A (fun j g => hs_mk h s1 p1 j g) c n i)), .int (nI i)]) (st' := [.ref 1, .int (nI i)]) rfl ?_
    refine wp_geti (a := 10) (nI n) hn rfl rfl rfl ?_
    refine wp_icmp_f rfl (show ¬ ((nI n) ≤ (nI i)) from mt (nI_leI (a := n) (b := i) (by omega) (by omega)).mp (by omega)) ?_
    refine wp_run 1 (pc' := 122) (ls' := [.ref 49, .ref 1, .int (nI (2 ^ c)), .int (nI (bs_A (fun j g => hs_mk h s1 p1 j g) c n i)), .int (nI i)]) (st' := [.ref 49]) rfl ?_
    refine wp_getr 50 rfl rfl rfl ?_
    refine wp_run 5 (pc' := 132) (ls' := [.ref 49, .ref 1, .int (nI (2 ^ c)), .int (nI (bs_A (fun j g => hs_mk h s1 p1 j g) c n i)), .int (nI i)]) (st' := [.ref 1, .int (nI (bs_A (fun j g => hs_mk h s1 p1 j g) c n i)), .int (nI i), .ref 49, .int (nI i), .ref 50]) rfl ?_
    refine wp_geti (a := 11) (nI c) hc rfl rfl rfl ?_
    refine wp_callV (o := 49) (as := [.int (nI i), .int (nI (bs_A (fun j g => hs_mk h s1 p1 j g) c n i)), .int (nI c)]) (rest := [.int (nI i), .ref 50]) (els := [.ref 49, .int (nI i), .int (nI (bs_A (fun j g => hs_mk h s1 p1 j g) c n i)), .int (nI c), am_du]) rfl rfl rfl rfl rfl rfl rfl rfl (by omega) ?_
    refine sp_least (h := am_ov h [22, 23, 49, 50, 54, 55] gz) (n := n) (g := i) (c := c) (A := (bs_A (fun j g => hs_mk h s1 p1 j g) c n i)) (MK := (fun j g => hs_mk h s1 p1 j g)) (by omega) hn7 hc7 (bs_A_lt hc7 i) (fun j hj => e54 i (by omega) j hj) (fun S hS => e55 (i + 1) (by omega) (by omega) S hS) (e55 i (by omega) (by omega) _ (bs_A_lt hc7 i)) (by omega) ?_
    have hA := bs_A_lt (MK := (fun j g => hs_mk h s1 p1 j g)) (n := n) hc7 i
    show am_wp L xs _ _ _ _ 138 [.ref 49, .ref 1, .int (nI (2 ^ c)), .int (nI (bs_A (fun j g => hs_mk h s1 p1 j g) c n i)), .int (nI i)] [.int (bs_gv (fun j g => hs_mk h s1 p1 j g) c n i), .int (nI i), .ref 50] (am_S b) (am_ov h [22, 23, 49, 50, 54, 55] gz) _
    rcases (show (bs_gv (fun j g => hs_mk h s1 p1 j g) c n i) = -1 ∨ ∃ j, j < c ∧ (bs_gv (fun j g => hs_mk h s1 p1 j g) c n i) = nI j from bs_lc_or hc7) with e5 | ⟨j, hj, e5⟩
    · skip
      rw [e5]
      refine wp_ast rfl rfl rfl (by omega) rfl ?_
      refine wp_run 2 (pc' := 141) (ls' := [.ref 49, .ref 1, .int (nI (2 ^ c)), .int (nI (bs_A (fun j g => hs_mk h s1 p1 j g) c n i)), .int (nI i)]) (st' := [.ref 49, .int (nI (bs_A (fun j g => hs_mk h s1 p1 j g) c n i))]) rfl ?_
      refine wp_getr 50 rfl rfl rfl ?_
      refine wp_run 1 (pc' := 146) (ls' := [.ref 49, .ref 1, .int (nI (2 ^ c)), .int (nI (bs_A (fun j g => hs_mk h s1 p1 j g) c n i)), .int (nI i)]) (st' := [.int (nI i), .ref 50, .int (nI (bs_A (fun j g => hs_mk h s1 p1 j g) c n i))]) rfl ?_
      refine wp_ald (i := i) (-1) (am_u_at _ _ _ _) rfl rfl rfl (by omega) rfl ?_
      refine wp_callS (as := [.int (-1)]) (rest := [.int (nI (bs_A (fun j g => hs_mk h s1 p1 j g) c n i))]) (els := [.int (-1)]) rfl rfl rfl rfl rfl rfl rfl rfl (by omega) ?_
      refine wp_run 1 (pc' := 1) (ls' := [.int (-1)]) (st' := [.int (-1)]) rfl ?_
      refine wp_if_f rfl (show ¬ (0 ≤ ((-1) : Int32)) from by decide) ?_
      refine wp_run 2 (pc' := 11) (ls' := [.int (-1)]) (st' := [.int 0]) rfl ?_
      refine wp_ret rfl ?_
      show am_wp L xs _ _ _ _ 150 [.ref 49, .ref 1, .int (nI (2 ^ c)), .int (nI (bs_A (fun j g => hs_mk h s1 p1 j g) c n i)), .int (nI i)] [.int 0, .int (nI (bs_A (fun j g => hs_mk h s1 p1 j g) c n i))] (am_S b) (am_u (am_ov h [22, 23, 49, 50, 54, 55] gz) 50 i (-1)) _
      refine wp_run 4 (pc' := 112) (ls' := [.ref 49, .ref 1, .int (nI (2 ^ c)), .int ((nI (bs_A (fun j g => hs_mk h s1 p1 j g) c n i)) ||| 0), .int ((nI i) + 1)]) (st' := []) rfl ?_
      rw [show (((nI i) + 1) : Int32) = (nI (i + 1)) from nI_add i 1]
      rw [show (((nI (bs_A (fun j g => hs_mk h s1 p1 j g) c n i)) ||| 0) : Int32) = nI (bs_A (fun j g => hs_mk h s1 p1 j g) c n (i + 1)) from Int32.or_zero.trans (by rw [bs_A_0 e5])]
      refine am_gen (fun X hX => ?_)
      have eX : X = am_ov h [22, 23, 49, 50, 54, 55] X := am_ov_of (fun a ha => by rw [hX]; rw [am_u_off _ _ _ (am_nel ha rfl), am_ov_off (am_sub ha rfl)])
      rw [eX]
      refine ih (i + 1) X (by rw [hX]; exact e54) (by rw [hX]; exact e55) (by rw [hX]; exact e49) ?_ (by omega)
      intro g hg
      rw [hX]
      show upd (gz 50) i _ g = _
      by_cases ej : g = i
      · rw [ej, pk_us, e5]
      · rw [pk_un ej]; exact f50 g (by omega)
    · skip
      rw [e5]
      refine wp_ast rfl rfl rfl (by omega) rfl ?_
      refine wp_run 2 (pc' := 141) (ls' := [.ref 49, .ref 1, .int (nI (2 ^ c)), .int (nI (bs_A (fun j g => hs_mk h s1 p1 j g) c n i)), .int (nI i)]) (st' := [.ref 49, .int (nI (bs_A (fun j g => hs_mk h s1 p1 j g) c n i))]) rfl ?_
      refine wp_getr 50 rfl rfl rfl ?_
      refine wp_run 1 (pc' := 146) (ls' := [.ref 49, .ref 1, .int (nI (2 ^ c)), .int (nI (bs_A (fun j g => hs_mk h s1 p1 j g) c n i)), .int (nI i)]) (st' := [.int (nI i), .ref 50, .int (nI (bs_A (fun j g => hs_mk h s1 p1 j g) c n i))]) rfl ?_
      refine wp_ald (i := i) (nI j) (am_u_at _ _ _ _) rfl rfl rfl (by omega) rfl ?_
      refine wp_callS (as := [.int (nI j)]) (rest := [.int (nI (bs_A (fun j g => hs_mk h s1 p1 j g) c n i))]) (els := [.int (nI j)]) rfl rfl rfl rfl rfl rfl rfl rfl (by omega) ?_
      refine wp_run 1 (pc' := 1) (ls' := [.int (nI j)]) (st' := [.int (nI j)]) rfl ?_
      refine wp_if_t rfl (show 0 ≤ (nI j) from (nI_leI (a := 0) (b := j) (by omega) (by omega)).mpr (by omega)) ?_
      refine wp_run 3 (pc' := 11) (ls' := [.int (nI j)]) (st' := [.int (1 <<< ((nI j) &&& 31))]) rfl ?_
      refine wp_ret rfl ?_
      show am_wp L xs _ _ _ _ 150 [.ref 49, .ref 1, .int (nI (2 ^ c)), .int (nI (bs_A (fun j g => hs_mk h s1 p1 j g) c n i)), .int (nI i)] [.int (1 <<< ((nI j) &&& 31)), .int (nI (bs_A (fun j g => hs_mk h s1 p1 j g) c n i))] (am_S b) (am_u (am_ov h [22, 23, 49, 50, 54, 55] gz) 50 i (nI j)) _
      refine wp_run 4 (pc' := 112) (ls' := [.ref 49, .ref 1, .int (nI (2 ^ c)), .int ((nI (bs_A (fun j g => hs_mk h s1 p1 j g) c n i)) ||| (1 <<< ((nI j) &&& 31))), .int ((nI i) + 1)]) (st' := []) rfl ?_
      rw [show (((nI i) + 1) : Int32) = (nI (i + 1)) from nI_add i 1]
      rw [show (((nI (bs_A (fun j g => hs_mk h s1 p1 j g) c n i)) ||| (1 <<< ((nI j) &&& 31))) : Int32) = nI (bs_A (fun j g => hs_mk h s1 p1 j g) c n (i + 1)) from (pu_set_i _ (by omega) j (by omega)).trans (by rw [bs_A_1 e5 (by omega)])]
      refine am_gen (fun X hX => ?_)
      have eX : X = am_ov h [22, 23, 49, 50, 54, 55] X := am_ov_of (fun a ha => by rw [hX]; rw [am_u_off _ _ _ (am_nel ha rfl), am_ov_off (am_sub ha rfl)])
      rw [eX]
      refine ih (i + 1) X (by rw [hX]; exact e54) (by rw [hX]; exact e55) (by rw [hX]; exact e49) ?_ (by omega)
      intro g hg
      rw [hX]
      show upd (gz 50) i _ g = _
      by_cases ej : g = i
      · rw [ej, pk_us, e5]
      · rw [pk_un ej]; exact f50 g (by omega)
theorem sp_giveBest {L : Nat} {xs : Nat → Int32} {d ms b : Nat} {h : am_HI} {Q : am_Q} {n c t : Nat} {s0 s1 : Int32} {p0 p1 : List Int32} (HS : am_hs h n c t s0 s1 p0 p1) (hd : 9 ≤ d) (kk : ∀ gz, gz 49 1 = bs_V (fun j g => hs_mk h s1 p1 j g) c n n 0 → (∀ g, g < n → gz 50 g = bs_gv (fun j g => hs_mk h s1 p1 j g) c n g) → Q none (am_S b) (am_ov h [22, 23, 49, 50, 54, 55] gz)) :
    am_wp L xs d 0 ms 77 0 [.ref 49, .ref 1, am_du, am_du, am_du] [] (am_S b) h Q := by
  have hn7 := HS.2.2.2.1
  have hc7 := HS.2.2.2.2.1
  have hn := HS.1
  have hc := HS.2.1
  have hpw := bs_pow c (by omega)
  refine wp_run 2 (pc' := 2) (ls' := [.ref 49, .ref 1, am_du, am_du, am_du]) (st' := [.ref 1, .ref 49]) rfl ?_
  refine wp_callV (o := 49) (as := [.ref 1]) (rest := []) (els := [.ref 49, .ref 1, am_du, am_du]) rfl rfl rfl rfl rfl rfl rfl rfl (by omega) ?_
  refine sp_learnMakes HS (by omega) (fun gw g54 => ?_)
  show am_wp L xs _ _ _ _ 5 [.ref 49, .ref 1, am_du, am_du, am_du] [] (am_S b) (am_ov h [22, 23, 54] gw) _
  refine wp_run 2 (pc' := 7) (ls' := [.ref 49, .ref 1, am_du, am_du, am_du]) (st' := [.ref 1, .int 1]) rfl ?_
  refine wp_geti (a := 11) (nI c) hc rfl rfl rfl ?_
  refine wp_run 1 (pc' := 11) (ls' := [.ref 49, .ref 1, am_du, am_du, am_du]) (st' := [.int (1 <<< ((nI c) &&& 31))]) rfl ?_
  rw [show ((1 <<< ((nI c) &&& 31)) : Int32) = nI (2 ^ c) from hpw.1]
  refine wp_run 3 (pc' := 14) (ls' := [.ref 49, .ref 1, .int (nI (2 ^ c)), .int 0, am_du]) (st' := []) rfl ?_
  refine am_gen (fun X hX => ?_)
  have eX : X = am_ov h [22, 23, 49, 50, 54, 55] X := am_ov_of (fun a ha => by rw [hX]; rw [am_ov_off (am_sub ha rfl)])
  rw [eX]
  refine lp_gb1 HS hd (fun gz u4 g54z g55z => ?_) (2 ^ c) 0 X _ (by rw [hX]; exact g54) (fun S hS => by omega) (by omega)
  refine wp_run 1 (pc' := 42) (ls' := [.ref 49, .ref 1, .int (nI (2 ^ c)), .int (nI (2 ^ c)), u4]) (st' := [.ref 1]) rfl ?_
  refine wp_geti (a := 10) (nI n) hn rfl rfl rfl ?_
  refine wp_run 3 (pc' := 48) (ls' := [.ref 49, .ref 1, .int (nI (2 ^ c)), .int ((nI n) - 1), u4]) (st' := []) rfl ?_
  refine lp_gb3 HS hd (fun gy u5 g54y g55y => ?_) n gz _ g54z (fun q q1 q2 S hS => ?_) (Nat.le_refl _)
  · skip
    refine wp_run 2 (pc' := 99) (ls' := [.ref 49, .ref 1, .int (nI (2 ^ c)), .int (-1), u5]) (st' := [.ref 49, .ref 49]) rfl ?_
    refine wp_getr 55 rfl rfl rfl ?_
    refine wp_run 1 (pc' := 103) (ls' := [.ref 49, .ref 1, .int (nI (2 ^ c)), .int (-1), u5]) (st' := [.int 0, .ref 55, .ref 49]) rfl ?_
    refine wp_ald (i := 0) (bs_V (fun j g => hs_mk h s1 p1 j g) c n n 0) (show gy 55 0 = bs_V (fun j g => hs_mk h s1 p1 j g) c n n 0 from g55y 0 (Nat.le_refl _) (Nat.zero_le _) 0 hpw.2.2) rfl rfl rfl (by decide) rfl ?_
    refine wp_puti rfl rfl ?_
    refine wp_run 4 (pc' := 112) (ls' := [.ref 49, .ref 1, .int (nI (2 ^ c)), .int 0, .int 0]) (st' := []) rfl ?_
    refine am_gen (fun X hX => ?_)
    have eX : X = am_ov h [22, 23, 49, 50, 54, 55] X := am_ov_of (fun a ha => by rw [hX]; rw [am_u_off _ _ _ (am_nel ha rfl), am_ov_off (am_sub ha rfl)])
    rw [eX]
    exact lp_gb4 HS hd kk n 0 X (by rw [hX]; exact g54y) (by rw [hX]; exact g55y) (by rw [hX]; rfl) (fun g hg => by omega) (by omega)
  · have e9 : q = n := by omega
    rw [e9, Nat.sub_self]
    exact g55z S hS
