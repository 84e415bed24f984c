/-! the boy learns; the house: undress, draw, add -/
theorem lp_learn {L : Nat} {xs : Nat → Int32} {d ms b : Nat} {h : am_HI} {Q : am_Q} {n c t : Nat} {s0 s1 : Int32} {p0 p1 : List Int32} (H : am_hs h n c t s0 s1 p0 p1) {g : Nat} (hg : g < n) (hd : 4 ≤ d) (kk : ∀ gz, gz 47 1 = nI c → (∀ j, j < c → gz 48 (g * 7 + j) = hs_lk h s0 p0 j g) → (∀ k, (k < g * 7 ∨ g * 7 + c ≤ k) → gz 48 k = h 48 k) → Q none (am_S b) (am_ov h [17, 18, 47, 48] gz)) :
    ∀ (m i : Nat) (gz : am_HI) (e47 : gz 47 1 = nI c) (e48 : ∀ j, j < i → gz 48 (g * 7 + j) = hs_lk h s0 p0 j g) (e49 : ∀ k, (k < g * 7 ∨ g * 7 + i ≤ k) → gz 48 k = h 48 k), i + m = c → am_wp L xs d 0 ms 45 10 [.ref 47, .ref 1, .int (nI g), .int (nI i)] [] (am_S b) (am_ov h [17, 18, 47, 48] gz) Q := by
  have hn7 := H.2.2.2.1
  have hc7 := H.2.2.2.2.1
  intro m
  induction m with
  | zero =>
    intro i gz e47 e48 e49 hi
    refine wp_run 2 (pc' := 12) (ls' := [.ref 47, .ref 1, .int (nI g), .int (nI i)]) (st' := [.ref 47, .int (nI i)]) rfl ?_
    refine wp_geti (a := 1) (nI c) e47 rfl rfl rfl ?_
    refine wp_icmp_t rfl (show (nI c) ≤ (nI i) from (nI_leI (a := c) (b := i) (by omega) (by omega)).mpr (by omega)) ?_
    refine wp_retv rfl ?_
    have e : i = c := by omega
    subst e
    exact kk gz e47 e48 e49
  | succ m ih =>
    intro i gz e47 e48 e49 hi
    refine wp_run 2 (pc' := 12) (ls' := [.ref 47, .ref 1, .int (nI g), .int (nI i)]) (st' := [.ref 47, .int (nI i)]) rfl ?_
    refine wp_geti (a := 1) (nI c) e47 rfl rfl rfl ?_
    refine wp_icmp_f rfl (show ¬ ((nI c) ≤ (nI i)) from mt (nI_leI (a := c) (b := i) (by omega) (by omega)).mp (by omega)) ?_
    refine wp_run 1 (pc' := 19) (ls' := [.ref 47, .ref 1, .int (nI g), .int (nI i)]) (st' := [.ref 47]) rfl ?_
    refine wp_getr 48 rfl rfl rfl ?_
    refine wp_run 8 (pc' := 31) (ls' := [.ref 47, .ref 1, .int (nI g), .int (nI i)]) (st' := [.int (nI g), .int (nI i), .ref 1, .int (((nI g) * 7) + (nI i)), .ref 48]) rfl ?_
    rw [show ((nI g) * 7) = (nI (g * 7)) from pk_mul g 7]
    rw [show ((nI (g * 7)) + (nI i)) = (nI ((g * 7) + i)) from nI_add (g * 7) i]
    refine wp_callV (o := 1) (as := [.int (nI i), .int (nI g)]) (rest := [.int (nI ((g * 7) + i)), .ref 48]) (els := [.ref 1, .int (nI i), .int (nI g)]) rfl rfl rfl rfl rfl rfl rfl rfl (by omega) ?_
    refine sp_liking (h := (am_ov h [17, 18, 47, 48] gz)) H (j := i) (g := g) (by omega) hg (by omega) (fun gy => ?_)
    show am_wp L xs _ _ _ _ 34 [.ref 47, .ref 1, .int (nI g), .int (nI i)] [.int (hs_lk h s0 p0 i g), .int (nI ((g * 7) + i)), .ref 48] (am_S b) (am_ov (am_ov h [17, 18, 47, 48] gz) [17, 18] gy) _
    refine wp_ast rfl rfl rfl (by omega) rfl ?_
    refine wp_run 2 (pc' := 10) (ls' := [.ref 47, .ref 1, .int (nI g), .int ((nI i) + 1)]) (st' := []) rfl ?_
    rw [show ((nI i) + 1) = (nI (i + 1)) from nI_add i 1]
    refine am_gen (fun X hX => ?_)
    have eX : X = am_ov h [17, 18, 47, 48] X := am_ov_of (fun a ha => by rw [hX]; rw [am_u_off _ _ _ (am_nel ha rfl), am_ov_off (am_sub ha rfl), am_ov_off (am_sub ha rfl)])
    rw [eX]
    refine ih (i + 1) X ?_ ?_ ?_ (by omega)
    · rw [hX]; exact e47
    · intro j hj
      rw [hX]
      show upd (gz 48) (g * 7 + i) _ (g * 7 + j) = _
      unfold upd
      by_cases ej : j = i
      · rw [if_pos (by omega), ej]
      · rw [if_neg (by omega)]; exact e48 j (by omega)
    · intro k hk
      rw [hX]
      show upd (gz 48) (g * 7 + i) _ k = _
      unfold upd
      rw [if_neg (by omega)]
      exact e49 k (by omega)
theorem sp_learn {L : Nat} {xs : Nat → Int32} {d ms b : Nat} {h : am_HI} {Q : am_Q} {n c t : Nat} {s0 s1 : Int32} {p0 p1 : List Int32} (H : am_hs h n c t s0 s1 p0 p1) {g : Nat} (hg : g < n) (hd : 4 ≤ d) (kk : ∀ gz, gz 47 1 = nI c → (∀ j, j < c → gz 48 (g * 7 + j) = hs_lk h s0 p0 j g) → (∀ k, (k < g * 7 ∨ g * 7 + c ≤ k) → gz 48 k = h 48 k) → Q none (am_S b) (am_ov h [17, 18, 47, 48] gz)) :
    am_wp L xs d 0 ms 45 0 [.ref 47, .ref 1, .int (nI g), am_du] [] (am_S b) h Q := by
  refine wp_run 2 (pc' := 2) (ls' := [.ref 47, .ref 1, .int (nI g), am_du]) (st' := [.ref 1, .ref 47]) rfl ?_
  refine wp_geti (a := 11) (nI c) H.2.1 rfl rfl rfl ?_
  refine wp_puti rfl rfl ?_
  refine wp_run 2 (pc' := 10) (ls' := [.ref 47, .ref 1, .int (nI g), .int 0]) (st' := []) rfl ?_
  refine am_gen (fun X hX => ?_)
  have eX : X = am_ov h [17, 18, 47, 48] X := am_ov_of (fun a ha => by rw [hX]; rw [am_u_off _ _ _ (am_nel ha rfl)])
  rw [eX]
  exact lp_learn H hg hd kk c 0 X (by rw [hX]; exact am_u_at _ _ _ _) (fun j hj => by omega) (fun k _ => by rw [hX]; rfl) (by omega)
theorem lp_learnAll {L : Nat} {xs : Nat → Int32} {d ms b : Nat} {h : am_HI} {Q : am_Q} {n c t : Nat} {s0 s1 : Int32} {p0 p1 : List Int32} (H : am_hs h n c t s0 s1 p0 p1) (hd : 5 ≤ d) (kk : ∀ gz, (0 < n → gz 47 1 = nI c) → (∀ g, g < n → ∀ j, j < c → gz 48 (g * 7 + j) = hs_lk h s0 p0 j g) → Q none (am_S b) (am_ov h [17, 18, 47, 48] gz)) :
    ∀ (m i : Nat) (gz : am_HI) (e47 : 0 < i → gz 47 1 = nI c) (e48 : ∀ g, g < i → ∀ j, j < c → gz 48 (g * 7 + j) = hs_lk h s0 p0 j g), i + m = n → am_wp L xs d 0 ms 85 2 [.ref 47, .ref 1, .int (nI i)] [] (am_S b) (am_ov h [17, 18, 47, 48] gz) Q := by
  have hn7 := H.2.2.2.1
  have hc7 := H.2.2.2.2.1
  intro m
  induction m with
  | zero =>
    intro i gz e47 e48 hi
    refine wp_run 2 (pc' := 4) (ls' := [.ref 47, .ref 1, .int (nI i)]) (st' := [.ref 1, .int (nI i)]) rfl ?_
    refine wp_geti (a := 10) (nI n) H.1 rfl rfl rfl ?_
    refine wp_icmp_t rfl (show (nI n) ≤ (nI i) from (nI_leI (a := n) (b := i) (by omega) (by omega)).mpr (by omega)) ?_
    refine wp_retv rfl ?_
    have e : i = n := by omega
    subst e
    exact kk gz e47 e48
  | succ m ih =>
    intro i gz e47 e48 hi
    refine wp_run 2 (pc' := 4) (ls' := [.ref 47, .ref 1, .int (nI i)]) (st' := [.ref 1, .int (nI i)]) rfl ?_
    refine wp_geti (a := 10) (nI n) H.1 rfl rfl rfl ?_
    refine wp_icmp_f rfl (show ¬ ((nI n) ≤ (nI i)) from mt (nI_leI (a := n) (b := i) (by omega) (by omega)).mp (by omega)) ?_
    refine wp_run 3 (pc' := 13) (ls' := [.ref 47, .ref 1, .int (nI i)]) (st' := [.int (nI i), .ref 1, .ref 47]) rfl ?_
    refine wp_callV (o := 47) (as := [.ref 1, .int (nI i)]) (rest := []) (els := [.ref 47, .ref 1, .int (nI i), am_du]) rfl rfl rfl rfl rfl rfl rfl rfl (by omega) ?_
    refine sp_learn (h := (am_ov h [17, 18, 47, 48] gz)) H (g := i) (by omega) (by omega) (fun gy f47 f48 f49 => ?_)
    show am_wp L xs _ _ _ _ 16 [.ref 47, .ref 1, .int (nI i)] [] (am_S b) (am_ov (am_ov h [17, 18, 47, 48] gz) [17, 18, 47, 48] gy) _
    refine wp_run 2 (pc' := 2) (ls' := [.ref 47, .ref 1, .int ((nI i) + 1)]) (st' := []) rfl ?_
    rw [show ((nI i) + 1) = (nI (i + 1)) from nI_add i 1]
    rw [am_ov_ov _ _ _ _ _ (fun _ q => q)]
    refine ih (i + 1) gy (fun _ => f47) ?_ (by omega)
    intro g hg j hj
    by_cases eg : g = i
    · rw [eg]; exact f48 j hj
    · rw [f49 (g * 7 + j) (by omega)]; exact e48 g (by omega) j hj
theorem sp_learnAll {L : Nat} {xs : Nat → Int32} {d ms b : Nat} {h : am_HI} {Q : am_Q} {n c t : Nat} {s0 s1 : Int32} {p0 p1 : List Int32} (H : am_hs h n c t s0 s1 p0 p1) (hd : 5 ≤ d) (kk : ∀ gz, (0 < n → gz 47 1 = nI c) → (∀ g, g < n → ∀ j, j < c → gz 48 (g * 7 + j) = hs_lk h s0 p0 j g) → Q none (am_S b) (am_ov h [17, 18, 47, 48] gz)) :
    am_wp L xs d 0 ms 85 0 [.ref 47, .ref 1, am_du] [] (am_S b) h Q := by
  refine wp_run 2 (pc' := 2) (ls' := [.ref 47, .ref 1, .int 0]) (st' := []) rfl ?_
  have hp := lp_learnAll (L := L) (xs := xs) (ms := ms) (b := b) H hd kk n 0 h (fun q => by omega) (fun g hg => by omega) (by omega)
  rw [← am_ov_self] at hp
  exact hp
def hs_un (h : am_HI) (i : Nat) : am_HI := am_ur h 5 (fun j => if j < i then -1 else h 5 j)
theorem hs_un_0 (h : am_HI) : h = hs_un h 0 := by
  funext a j
  unfold hs_un am_ur
  by_cases e : a = 5
  · subst e
    simp
  · rw [if_neg e]
theorem hs_un_s (h : am_HI) (i : Nat) : am_u (hs_un h i) 5 i (-1) = hs_un h (i + 1) := by
  funext a j
  unfold hs_un am_ur am_u
  by_cases e : a = 5
  · subst e
    simp only [if_pos, upd]
    by_cases e1 : j = i
    · rw [if_pos e1, if_pos (by omega)]
    · rw [if_neg e1]
      by_cases e2 : j < i
      · rw [if_pos e2, if_pos (by omega)]
      · rw [if_neg e2, if_neg (by omega)]
  · simp only [if_neg e]
theorem lp_undress {L : Nat} {xs : Nat → Int32} {d ms b : Nat} {h : am_HI} {Q : am_Q} {n : Nat} (hn : h 1 10 = nI n) (hn7 : n ≤ 7) (kk : Q none (am_S b) (hs_un h n)) :
    ∀ (m i : Nat), i + m = n → am_wp L xs d 0 ms 70 2 [.ref 1, .int (nI i)] [] (am_S b) (hs_un h i) Q := by
  intro m
  induction m with
  | zero =>
    intro i hi
    refine wp_run 2 (pc' := 4) (ls' := [.ref 1, .int (nI i)]) (st' := [.ref 1, .int (nI i)]) rfl ?_
    refine wp_geti (a := 10) (nI n) hn rfl rfl rfl ?_
    refine wp_icmp_t rfl (show (nI n) ≤ (nI i) from (nI_leI (a := n) (b := i) (by omega) (by omega)).mpr (by omega)) ?_
    refine wp_retv rfl ?_
    have e : i = n := by omega
    rw [e]
    exact kk
  | succ m ih =>
    intro i hi
    refine wp_run 2 (pc' := 4) (ls' := [.ref 1, .int (nI i)]) (st' := [.ref 1, .int (nI i)]) rfl ?_
    refine wp_geti (a := 10) (nI n) hn rfl rfl rfl ?_
    refine wp_icmp_f rfl (show ¬ ((nI n) ≤ (nI i)) from mt (nI_leI (a := n) (b := i) (by omega) (by omega)).mp (by omega)) ?_
    refine wp_run 1 (pc' := 11) (ls' := [.ref 1, .int (nI i)]) (st' := [.ref 1]) rfl ?_
    refine wp_getr 5 rfl rfl rfl ?_
    refine wp_run 2 (pc' := 16) (ls' := [.ref 1, .int (nI i)]) (st' := [.int (-1), .int (nI i), .ref 5]) rfl ?_
    refine wp_ast rfl rfl rfl (by omega) rfl ?_
    refine wp_run 2 (pc' := 2) (ls' := [.ref 1, .int ((nI i) + 1)]) (st' := []) rfl ?_
    rw [show ((nI i) + 1) = (nI (i + 1)) from nI_add i 1]
    rw [hs_un_s]
    exact ih (i + 1) (by omega)
theorem sp_undress {L : Nat} {xs : Nat → Int32} {d ms b : Nat} {h : am_HI} {Q : am_Q} {n : Nat} (hn : h 1 10 = nI n) (hn7 : n ≤ 7) (kk : Q none (am_S b) (hs_un h n)) :
    am_wp L xs d 0 ms 70 0 [.ref 1, am_du] [] (am_S b) h Q := by
  refine wp_run 2 (pc' := 2) (ls' := [.ref 1, .int 0]) (st' := []) rfl ?_
  have hp := lp_undress (L := L) (xs := xs) (d := d) (ms := ms) (b := b) hn hn7 kk n 0 (by omega)
  rw [← hs_un_0] at hp
  exact hp
theorem sp_drawnGuest0 {L : Nat} {xs : Nat → Int32} {d ms b : Nat} {h : am_HI} {Q : am_Q} (hn : h 1 10 = nI 0) (kk : Q (some (.int 0)) (am_S b) h) : am_wp L xs d 0 ms 74 0 [.ref 1] [] (am_S b) h Q := by
  refine wp_run 1 (pc' := 1) (ls' := [.ref 1]) (st' := [.ref 1]) rfl ?_
  refine wp_geti (a := 10) 0 hn rfl rfl rfl ?_
  refine wp_if_f rfl (show ¬ (0 < (0 : Int32)) from by decide) ?_
  refine wp_run 1 (pc' := 8) (ls' := [.ref 1]) (st' := [.int 0]) rfl ?_
  refine wp_ret rfl ?_
  exact kk
theorem sp_drawnGuest {L : Nat} {xs : Nat → Int32} {d ms b : Nat} {h : am_HI} {Q : am_Q} {n : Nat} (hn : h 1 10 = nI n) (hn7 : n ≤ 7) (hp : 0 < n) (kk : Q (some (.int (am_rem (am_ushr (((h 1 14) * 1103515245) + 12345) 8) (nI n)))) (am_S b) (am_u h 1 14 (((h 1 14) * 1103515245) + 12345))) :
    am_wp L xs d 0 ms 74 0 [.ref 1] [] (am_S b) h Q := by
  refine wp_run 1 (pc' := 1) (ls' := [.ref 1]) (st' := [.ref 1]) rfl ?_
  refine wp_geti (a := 10) (nI n) hn rfl rfl rfl ?_
  refine wp_if_t rfl (show 0 < (nI n) from (nI_ltI (a := 0) (b := n) (by omega) (by omega)).mpr (by omega)) ?_
  refine wp_run 2 (pc' := 11) (ls' := [.ref 1]) (st' := [.ref 1, .ref 1]) rfl ?_
  refine wp_geti (a := 14) (h 1 14) rfl rfl rfl rfl ?_
  refine wp_run 4 (pc' := 21) (ls' := [.ref 1]) (st' := [.int (((h 1 14) * 1103515245) + 12345), .ref 1]) rfl ?_
  refine wp_puti rfl rfl ?_
  refine wp_run 1 (pc' := 25) (ls' := [.ref 1]) (st' := [.ref 1]) rfl ?_
  refine wp_geti (a := 14) (((h 1 14) * 1103515245) + 12345) (am_u_at _ _ _ _) rfl rfl rfl ?_
  refine wp_run 3 (pc' := 32) (ls' := [.ref 1]) (st' := [.ref 1, .int (am_ushr (((h 1 14) * 1103515245) + 12345) 8)]) rfl ?_
  refine wp_geti (a := 10) (nI n) hn rfl rfl rfl ?_
  refine wp_irem rfl (nI_ne0 hp (by omega)) ?_
  refine wp_ret rfl ?_
  exact kk
theorem sp_addGuest {L : Nat} {xs : Nat → Int32} {d ms b : Nat} {h : am_HI} {Q : am_Q} {n : Nat} {w s m : Int32} (hn : h 1 10 = nI n) (hn7 : n < 7) (kk : Q (some (.int (nI n))) (am_S b) (am_u (am_u (am_u (am_u (am_u h 2 n w) 3 n s) 4 n m) 5 n (-1)) 1 10 (nI (n + 1)))) :
    am_wp L xs d 0 ms 13 0 [.ref 1, .int w, .int s, .int m, am_du] [] (am_S b) h Q := by
  refine wp_run 1 (pc' := 1) (ls' := [.ref 1, .int w, .int s, .int m, am_du]) (st' := [.ref 1]) rfl ?_
  refine wp_geti (a := 10) (nI n) hn rfl rfl rfl ?_
  refine wp_run 2 (pc' := 7) (ls' := [.ref 1, .int w, .int s, .int m, .int (nI n)]) (st' := [.ref 1]) rfl ?_
  refine wp_getr 2 rfl rfl rfl ?_
  refine wp_run 2 (pc' := 13) (ls' := [.ref 1, .int w, .int s, .int m, .int (nI n)]) (st' := [.int w, .int (nI n), .ref 2]) rfl ?_
  refine wp_ast rfl rfl rfl (by omega) rfl ?_
  refine wp_run 1 (pc' := 15) (ls' := [.ref 1, .int w, .int s, .int m, .int (nI n)]) (st' := [.ref 1]) rfl ?_
  refine wp_getr 3 rfl rfl rfl ?_
  refine wp_run 2 (pc' := 21) (ls' := [.ref 1, .int w, .int s, .int m, .int (nI n)]) (st' := [.int s, .int (nI n), .ref 3]) rfl ?_
  refine wp_ast rfl rfl rfl (by omega) rfl ?_
  refine wp_run 1 (pc' := 23) (ls' := [.ref 1, .int w, .int s, .int m, .int (nI n)]) (st' := [.ref 1]) rfl ?_
  refine wp_getr 4 rfl rfl rfl ?_
  refine wp_run 2 (pc' := 29) (ls' := [.ref 1, .int w, .int s, .int m, .int (nI n)]) (st' := [.int m, .int (nI n), .ref 4]) rfl ?_
  refine wp_ast rfl rfl rfl (by omega) rfl ?_
  refine wp_run 1 (pc' := 31) (ls' := [.ref 1, .int w, .int s, .int m, .int (nI n)]) (st' := [.ref 1]) rfl ?_
  refine wp_getr 5 rfl rfl rfl ?_
  refine wp_run 2 (pc' := 37) (ls' := [.ref 1, .int w, .int s, .int m, .int (nI n)]) (st' := [.int (-1), .int (nI n), .ref 5]) rfl ?_
  refine wp_ast rfl rfl rfl (by omega) rfl ?_
  refine wp_run 2 (pc' := 40) (ls' := [.ref 1, .int w, .int s, .int m, .int (nI n)]) (st' := [.ref 1, .ref 1]) rfl ?_
  refine wp_geti (a := 10) (nI n) hn rfl rfl rfl ?_
  refine wp_run 2 (pc' := 45) (ls' := [.ref 1, .int w, .int s, .int m, .int (nI n)]) (st' := [.int ((nI n) + 1), .ref 1]) rfl ?_
  rw [show ((nI n) + 1) = (nI (n + 1)) from nI_add n 1]
  refine wp_puti rfl rfl ?_
  refine wp_run 1 (pc' := 50) (ls' := [.ref 1, .int w, .int s, .int m, .int (nI n)]) (st' := [.int (nI n)]) rfl ?_
  refine wp_ret rfl ?_
  exact kk
theorem sp_addCoat {L : Nat} {xs : Nat → Int32} {d ms b : Nat} {h : am_HI} {Q : am_Q} {c : Nat} {k m o : Int32} (hc : h 1 11 = nI c) (hc7 : c < 7) (kk : Q (some (.int (nI c))) (am_S b) (am_u (am_u (am_u (am_u h 6 c k) 7 c m) 8 c o) 1 11 (nI (c + 1)))) :
    am_wp L xs d 0 ms 29 0 [.ref 1, .int k, .int m, .int o, am_du] [] (am_S b) h Q := by
  refine wp_run 1 (pc' := 1) (ls' := [.ref 1, .int k, .int m, .int o, am_du]) (st' := [.ref 1]) rfl ?_
  refine wp_geti (a := 11) (nI c) hc rfl rfl rfl ?_
  refine wp_run 2 (pc' := 7) (ls' := [.ref 1, .int k, .int m, .int o, .int (nI c)]) (st' := [.ref 1]) rfl ?_
  refine wp_getr 6 rfl rfl rfl ?_
  refine wp_run 2 (pc' := 13) (ls' := [.ref 1, .int k, .int m, .int o, .int (nI c)]) (st' := [.int k, .int (nI c), .ref 6]) rfl ?_
  refine wp_ast rfl rfl rfl (by omega) rfl ?_
  refine wp_run 1 (pc' := 15) (ls' := [.ref 1, .int k, .int m, .int o, .int (nI c)]) (st' := [.ref 1]) rfl ?_
  refine wp_getr 7 rfl rfl rfl ?_
  refine wp_run 2 (pc' := 21) (ls' := [.ref 1, .int k, .int m, .int o, .int (nI c)]) (st' := [.int m, .int (nI c), .ref 7]) rfl ?_
  refine wp_ast rfl rfl rfl (by omega) rfl ?_
  refine wp_run 1 (pc' := 23) (ls' := [.ref 1, .int k, .int m, .int o, .int (nI c)]) (st' := [.ref 1]) rfl ?_
  refine wp_getr 8 rfl rfl rfl ?_
  refine wp_run 2 (pc' := 29) (ls' := [.ref 1, .int k, .int m, .int o, .int (nI c)]) (st' := [.int o, .int (nI c), .ref 8]) rfl ?_
  refine wp_ast rfl rfl rfl (by omega) rfl ?_
  refine wp_run 2 (pc' := 32) (ls' := [.ref 1, .int k, .int m, .int o, .int (nI c)]) (st' := [.ref 1, .ref 1]) rfl ?_
  refine wp_geti (a := 11) (nI c) hc rfl rfl rfl ?_
  refine wp_run 2 (pc' := 37) (ls' := [.ref 1, .int k, .int m, .int o, .int (nI c)]) (st' := [.int ((nI c) + 1), .ref 1]) rfl ?_
  rw [show ((nI c) + 1) = (nI (c + 1)) from nI_add c 1]
  refine wp_puti rfl rfl ?_
  refine wp_run 1 (pc' := 42) (ls' := [.ref 1, .int k, .int m, .int o, .int (nI c)]) (st' := [.int (nI c)]) rfl ?_
  refine wp_ret rfl ?_
  exact kk
