/-! a house is copied -/
theorem am_gen_q {P : am_HI → Prop} {hi : am_HI} (k : ∀ X, X = hi → P X) : P hi := k hi rfl
theorem sp_copyRow {L : Nat} {xs : Nat → Int32} {d ms : Nat} {h : am_HI} {sh : am_SH} {Q : am_Q} {o p : Nat} (hp : sh[p]? = some (20, 7, [])) (ho : sh[o]? = some (20, 7, [])) (hd : 2 ≤ d) (kk : ∀ gz, (∀ j, j < 7 → gz o j = h p j) → Q none sh (am_ov h [o] gz)) :
    am_wp L xs d 0 ms 122 0 [.ref p, .ref o] [] sh h Q := by
  refine wp_run 5 (pc' := 6) (ls' := [.ref p, .ref o]) (st' := [.int 7, .int 0, .ref o, .int 0, .ref p]) rfl ?_
  refine wp_copy (q := p) (o := o) (sp := 0) (dp := 0) (n := 7) rfl hp ho rfl rfl rfl (by omega) (by omega) (by omega) (by omega) rfl (by omega) ?_
  refine wp_retv rfl ?_
  refine am_gen_q (fun X hX => ?_)
  have eX : X = am_ov h [o] X := am_ov_of (fun a ha => by rw [hX]; exact if_neg (am_nel ha (by simp)))
  rw [eX]
  refine kk X (fun j hj => ?_)
  rw [hX]
  unfold am_ur
  rw [if_pos rfl]
  unfold va_cpy
  rw [if_pos (by omega)]
  congr 1
  omega
theorem sp_icopy2 {L : Nat} {xs : Nat → Int32} {d ms : Nat} {h : am_HI} {sh : am_SH} {Q : am_Q} {o p cap cap2 k : Nat} (ho : am_objb sh o 2 = true) (hr : am_rf sh o 0 = o + 1 + 1) (hz : sh[o + 1]? = some (20, cap, [])) (hcap : Nat.blt cap 100000 = true) (go : am_objb sh p 2 = true) (gr : am_rf sh p 0 = p + 1 + 1) (gz : sh[p + 1]? = some (20, cap2, [])) (gcap : Nat.blt cap2 100000 = true) (n1 : p ≠ o) (n2 : p ≠ o + 1) (n3 : p + 1 ≠ o) (gs : h p 1 = nI k) (gk : k ≤ cap) (gk2 : k ≤ cap2) (hd : 1 ≤ d) (kk : ∀ gz, gz o 1 = nI k → (∀ j, j < k → gz (o + 1) j = h (p + 1) j) → Q none sh (am_ov h [o, o + 1] gz)) :
    am_wp L xs d 0 ms 65 0 [.ref o, .ref p, am_du] [] sh h Q := by
  refine sp_icopy ho hr hz hcap go gr gz gcap n1 n2 n3 gs gk gk2 hd ?_
  refine am_gen_q (P := fun X => Q none sh X) (fun X hX => ?_)
  have eX : X = am_ov h [o, o + 1] X := am_ov_of (fun a ha => by rw [hX]; exact am_cp_off h k (am_nel ha (by simp)) (am_nel ha (by simp)))
  show Q none sh X
  rw [eX]
  refine kk X (by rw [hX]; exact am_cp_1 h o p k) (fun j hj => ?_)
  rw [hX]
  unfold am_cp am_u am_ur
  rw [if_neg (by omega), if_pos rfl, if_pos hj]
theorem re_s01 {l c r m : Nat → Int32} {a : Nat} {lo hi s : Int32} {p : List Int32} (h : re_law l c r m a lo hi s p) : s = 0 ∨ s = 1 := by
  rcases h.2 with h | h
  · exact Or.inl h.1
  · exact Or.inr h.1
theorem re_row {n c t tp wt : Nat} {s0 s1 : Int32} {p0 p1 : List Int32} {o w z s e k q u tS tR aS aR l0 c0 r0 l1 c1 r1 m m2 : Nat → Int32} (H : re_house n c t tp wt s0 s1 p0 p1 o w z s e k q u tS tR aS aR l0 c0 r0 l1 c1 r1 m) (f : ∀ i, i < 382 → m2 i = m i) : re_house n c t tp wt s0 s1 p0 p1 o w z s e k q u tS tR aS aR l0 c0 r0 l1 c1 r1 m2 := by
  refine ⟨⟨H.1.1, (f 2 (by omega)).trans H.1.2.1, H.1.2.2⟩, ⟨H.2.1.1, (f 3 (by omega)).trans H.2.1.2.1, H.2.1.2.2⟩, ⟨H.2.2.1.1, (f 0 (by omega)).trans H.2.2.1.2.1, H.2.2.1.2.2⟩, ⟨H.2.2.2.1.1.trans (f 4 (by omega)).symm, H.2.2.2.1.2.trans (f 1 (by omega)).symm⟩, re_g5 H.2.2.2.2.1 (fun i h1 h2 => f i (by omega)), re_g6 H.2.2.2.2.2.1 (fun i h1 h2 => f i (by omega)), H.2.2.2.2.2.2.1, H.2.2.2.2.2.2.2.1, ?_, ?_, re_law_m H.2.2.2.2.2.2.2.2.2.2.1 (fun i h1 h2 => f i (by omega)), re_law_m H.2.2.2.2.2.2.2.2.2.2.2 (fun i h1 h2 => f i (by omega))⟩
  · have h := H.2.2.2.2.2.2.2.2.1
    exact ⟨h.1, (f 5 (by omega)).trans h.2.1, h.2.2.1, re_g9 h.2.2.1 h.2.2.2 (fun i h1 h2 => f i (by omega))⟩
  · have h := H.2.2.2.2.2.2.2.2.2.1
    exact ⟨h.1, (f 6 (by omega)).trans h.2.1, h.2.2.1, re_g10 h.2.2.1 h.2.2.2 (fun i h1 h2 => f i (by omega))⟩
def cp_f (f g : Nat → Int32) (i : Nat) : Nat → Int32 := fun j => if j < i then f j else g j
theorem cp_f_0 (h : am_HI) (o q : Nat) : am_ur h o (cp_f (h q) (h o) 0) = h := by
  funext b j
  unfold am_ur
  by_cases e : b = o
  · rw [if_pos e, e]
    exact if_neg (by omega)
  · rw [if_neg e]
theorem cp_f_s (h : am_HI) (o q i : Nat) : am_u (am_ur h o (cp_f (h q) (h o) i)) o i (h q i) = am_ur h o (cp_f (h q) (h o) (i + 1)) := by
  funext b j
  unfold am_ur am_u
  by_cases e : b = o
  · subst e
    simp only [if_pos, upd]
    unfold cp_f
    by_cases e1 : j = i
    · rw [if_pos e1, if_pos (by omega), e1]
    · rw [if_neg e1]
      by_cases e2 : j < i
      · rw [if_pos e2, if_pos (by omega)]
      · rw [if_neg e2, if_neg (by omega)]
  · simp only [if_neg e]
theorem lp_copyAll {L : Nat} {xs : Nat → Int32} {d ms : Nat} {h : am_HI} {sh : am_SH} {Q : am_Q} {o q : Nat} (hq : sh[q]? = some (20, 382, [])) (ho : sh[o]? = some (20, 382, [])) (hqo : q ≠ o) (kk : Q none sh (am_ur h o (cp_f (h q) (h o) 382))) :
    ∀ (m i : Nat), i + m = 382 → am_wp L xs d 0 ms 218 2 [.ref q, .ref o, .int (nI i)] [] sh (am_ur h o (cp_f (h q) (h o) i)) Q := by
  intro m
  induction m with
  | zero =>
    intro i hi
    refine wp_run 2 (pc' := 6) (ls' := [.ref q, .ref o, .int (nI i)]) (st' := [.int 382, .int (nI i)]) rfl ?_
    refine wp_icmp_t rfl (show 382 ≤ (nI i) from (nI_leI (a := 382) (b := i) (by omega) (by omega)).mpr (by omega)) ?_
    refine wp_retv rfl ?_
    have e9 : i = 382 := by omega
    subst e9
    exact kk
  | succ m ih =>
    intro i hi
    refine wp_run 2 (pc' := 6) (ls' := [.ref q, .ref o, .int (nI i)]) (st' := [.int 382, .int (nI i)]) rfl ?_
    refine wp_icmp_f rfl (show ¬ (382 ≤ (nI i)) from mt (nI_leI (a := 382) (b := i) (by omega) (by omega)).mp (by omega)) ?_
    refine wp_run 4 (pc' := 13) (ls' := [.ref q, .ref o, .int (nI i)]) (st' := [.int (nI i), .ref q, .int (nI i), .ref o]) rfl ?_
    refine wp_ald (i := i) (h q i) (by unfold am_ur; rw [if_neg hqo]) rfl hq rfl (by omega) rfl ?_
    refine wp_ast rfl ho rfl (by omega) rfl ?_
    refine wp_run 2 (pc' := 2) (ls' := [.ref q, .ref o, .int ((nI i) + 1)]) (st' := []) rfl ?_
    rw [show (((nI i) + 1) : Int32) = (nI (i + 1)) from nI_add i 1]
    rw [cp_f_s]
    exact ih (i + 1) (by omega)
theorem sp_copyAll {L : Nat} {xs : Nat → Int32} {d ms : Nat} {h : am_HI} {sh : am_SH} {Q : am_Q} {o q : Nat} (hq : sh[q]? = some (20, 382, [])) (ho : sh[o]? = some (20, 382, [])) (hqo : q ≠ o) (kk : Q none sh (am_ur h o (cp_f (h q) (h o) 382))) :
    am_wp L xs d 0 ms 218 0 [.ref q, .ref o, am_du] [] sh h Q := by
  refine wp_run 2 (pc' := 2) (ls' := [.ref q, .ref o, .int 0]) (st' := []) rfl ?_
  have hp := lp_copyAll (L := L) (xs := xs) (d := d) (ms := ms) hq ho hqo kk 382 0 (by omega)
  rw [cp_f_0] at hp
  exact hp
theorem sp_hcopy24 {L : Nat} {xs : Nat → Int32} {d ms b : Nat} {h : am_HI} {Q : am_Q} {n c t tp wt : Nat} {s0 s1 : Int32} {p0 p1 : List Int32} {m : Nat → Int32} (H : re_house n c t tp wt s0 s1 p0 p1 (h 1) (h 2) (h 3) (h 4) (h 5) (h 6) (h 7) (h 8) (h 9) (h 10) (h 11) (h 12) (h 14) (h 15) (h 16) (h 19) (h 20) (h 21) m) (b0 : h 37 0 = 0) (b1 : h 37 1 = 99) (b2 : h 42 0 = -99) (b3 : h 42 1 = 99) (hd : 6 ≤ d) (kk : ∀ gz, re_house n c t tp wt s0 s1 p0 p1 (gz 24) (gz 25) (gz 26) (gz 27) (gz 28) (gz 29) (gz 30) (gz 31) (gz 32) (gz 33) (gz 34) (gz 35) (gz 37) (gz 38) (gz 39) (gz 42) (gz 43) (gz 44) m → Q none (am_S b) (am_ov h [24, 25, 26, 27, 28, 29, 30, 31, 32, 33, 34, 35, 37, 38, 39, 42, 43, 44] gz)) :
    am_wp L xs d 0 ms 121 0 [.ref 24, .ref 1, am_du] [] (am_S b) h Q := by
  have hn7 := H.1.2.2
  have hc7 := H.2.1.2.2
  have hk0 := H.2.2.2.2.2.2.2.2.1.2.2.1
  have hk1 := H.2.2.2.2.2.2.2.2.2.1.2.2.1
  have hk2 := H.2.2.2.2.2.2.2.2.2.2.1.1.2.2.1
  have hk3 := H.2.2.2.2.2.2.2.2.2.2.2.1.2.2.1
  refine wp_run 1 (pc' := 1) (ls' := [.ref 24, .ref 1, am_du]) (st' := [.ref 1]) rfl ?_
  refine wp_getr 2 rfl rfl rfl ?_
  refine wp_run 1 (pc' := 5) (ls' := [.ref 24, .ref 1, am_du]) (st' := [.ref 24, .ref 2]) rfl ?_
  refine wp_getr 25 rfl rfl rfl ?_
  refine wp_callS (as := [.ref 2, .ref 25]) (rest := []) (els := [.ref 2, .ref 25]) rfl rfl rfl rfl rfl rfl rfl rfl (by omega) ?_
  refine sp_copyRow (h := h) (p := 2) (o := 25) rfl rfl (by omega) (fun ga1 fa1 => ?_)
  show am_wp L xs _ _ _ _ 11 [.ref 24, .ref 1, am_du] [] (am_S b) (am_ov h [25] ga1) _
  refine wp_run 1 (pc' := 12) (ls' := [.ref 24, .ref 1, am_du]) (st' := [.ref 1]) rfl ?_
  refine wp_getr 3 rfl rfl rfl ?_
  refine wp_run 1 (pc' := 16) (ls' := [.ref 24, .ref 1, am_du]) (st' := [.ref 24, .ref 3]) rfl ?_
  refine wp_getr 26 rfl rfl rfl ?_
  refine wp_callS (as := [.ref 3, .ref 26]) (rest := []) (els := [.ref 3, .ref 26]) rfl rfl rfl rfl rfl rfl rfl rfl (by omega) ?_
  refine sp_copyRow (h := (am_ov h [25] ga1)) (p := 3) (o := 26) rfl rfl (by omega) (fun ga2 fa2 => ?_)
  show am_wp L xs _ _ _ _ 22 [.ref 24, .ref 1, am_du] [] (am_S b) (am_ov (am_ov h [25] ga1) [26] ga2) _
  refine wp_run 1 (pc' := 23) (ls' := [.ref 24, .ref 1, am_du]) (st' := [.ref 1]) rfl ?_
  refine wp_getr 4 rfl rfl rfl ?_
  refine wp_run 1 (pc' := 27) (ls' := [.ref 24, .ref 1, am_du]) (st' := [.ref 24, .ref 4]) rfl ?_
  refine wp_getr 27 rfl rfl rfl ?_
  refine wp_callS (as := [.ref 4, .ref 27]) (rest := []) (els := [.ref 4, .ref 27]) rfl rfl rfl rfl rfl rfl rfl rfl (by omega) ?_
  refine sp_copyRow (h := (am_ov (am_ov h [25] ga1) [26] ga2)) (p := 4) (o := 27) rfl rfl (by omega) (fun ga3 fa3 => ?_)
  show am_wp L xs _ _ _ _ 33 [.ref 24, .ref 1, am_du] [] (am_S b) (am_ov (am_ov (am_ov h [25] ga1) [26] ga2) [27] ga3) _
  refine wp_run 1 (pc' := 34) (ls' := [.ref 24, .ref 1, am_du]) (st' := [.ref 1]) rfl ?_
  refine wp_getr 5 rfl rfl rfl ?_
  refine wp_run 1 (pc' := 38) (ls' := [.ref 24, .ref 1, am_du]) (st' := [.ref 24, .ref 5]) rfl ?_
  refine wp_getr 28 rfl rfl rfl ?_
  refine wp_callS (as := [.ref 5, .ref 28]) (rest := []) (els := [.ref 5, .ref 28]) rfl rfl rfl rfl rfl rfl rfl rfl (by omega) ?_
  refine sp_copyRow (h := (am_ov (am_ov (am_ov h [25] ga1) [26] ga2) [27] ga3)) (p := 5) (o := 28) rfl rfl (by omega) (fun ga4 fa4 => ?_)
  show am_wp L xs _ _ _ _ 44 [.ref 24, .ref 1, am_du] [] (am_S b) (am_ov (am_ov (am_ov (am_ov h [25] ga1) [26] ga2) [27] ga3) [28] ga4) _
  refine wp_run 1 (pc' := 45) (ls' := [.ref 24, .ref 1, am_du]) (st' := [.ref 1]) rfl ?_
  refine wp_getr 6 rfl rfl rfl ?_
  refine wp_run 1 (pc' := 49) (ls' := [.ref 24, .ref 1, am_du]) (st' := [.ref 24, .ref 6]) rfl ?_
  refine wp_getr 29 rfl rfl rfl ?_
  refine wp_callS (as := [.ref 6, .ref 29]) (rest := []) (els := [.ref 6, .ref 29]) rfl rfl rfl rfl rfl rfl rfl rfl (by omega) ?_
  refine sp_copyRow (h := (am_ov (am_ov (am_ov (am_ov h [25] ga1) [26] ga2) [27] ga3) [28] ga4)) (p := 6) (o := 29) rfl rfl (by omega) (fun ga5 fa5 => ?_)
  show am_wp L xs _ _ _ _ 55 [.ref 24, .ref 1, am_du] [] (am_S b) (am_ov (am_ov (am_ov (am_ov (am_ov h [25] ga1) [26] ga2) [27] ga3) [28] ga4) [29] ga5) _
  refine wp_run 1 (pc' := 56) (ls' := [.ref 24, .ref 1, am_du]) (st' := [.ref 1]) rfl ?_
  refine wp_getr 7 rfl rfl rfl ?_
  refine wp_run 1 (pc' := 60) (ls' := [.ref 24, .ref 1, am_du]) (st' := [.ref 24, .ref 7]) rfl ?_
  refine wp_getr 30 rfl rfl rfl ?_
  refine wp_callS (as := [.ref 7, .ref 30]) (rest := []) (els := [.ref 7, .ref 30]) rfl rfl rfl rfl rfl rfl rfl rfl (by omega) ?_
  refine sp_copyRow (h := (am_ov (am_ov (am_ov (am_ov (am_ov h [25] ga1) [26] ga2) [27] ga3) [28] ga4) [29] ga5)) (p := 7) (o := 30) rfl rfl (by omega) (fun ga6 fa6 => ?_)
  show am_wp L xs _ _ _ _ 66 [.ref 24, .ref 1, am_du] [] (am_S b) (am_ov (am_ov (am_ov (am_ov (am_ov (am_ov h [25] ga1) [26] ga2) [27] ga3) [28] ga4) [29] ga5) [30] ga6) _
  refine wp_run 1 (pc' := 67) (ls' := [.ref 24, .ref 1, am_du]) (st' := [.ref 1]) rfl ?_
  refine wp_getr 8 rfl rfl rfl ?_
  refine wp_run 1 (pc' := 71) (ls' := [.ref 24, .ref 1, am_du]) (st' := [.ref 24, .ref 8]) rfl ?_
  refine wp_getr 31 rfl rfl rfl ?_
  refine wp_callS (as := [.ref 8, .ref 31]) (rest := []) (els := [.ref 8, .ref 31]) rfl rfl rfl rfl rfl rfl rfl rfl (by omega) ?_
  refine sp_copyRow (h := (am_ov (am_ov (am_ov (am_ov (am_ov (am_ov h [25] ga1) [26] ga2) [27] ga3) [28] ga4) [29] ga5) [30] ga6)) (p := 8) (o := 31) rfl rfl (by omega) (fun ga7 fa7 => ?_)
  show am_wp L xs _ _ _ _ 77 [.ref 24, .ref 1, am_du] [] (am_S b) (am_ov (am_ov (am_ov (am_ov (am_ov (am_ov (am_ov h [25] ga1) [26] ga2) [27] ga3) [28] ga4) [29] ga5) [30] ga6) [31] ga7) _
  refine wp_run 1 (pc' := 78) (ls' := [.ref 24, .ref 1, am_du]) (st' := [.ref 24]) rfl ?_
  refine wp_getr 32 rfl rfl rfl ?_
  refine wp_run 1 (pc' := 82) (ls' := [.ref 24, .ref 1, am_du]) (st' := [.ref 1, .ref 32]) rfl ?_
  refine wp_getr 9 rfl rfl rfl ?_
  refine wp_callV (o := 32) (as := [.ref 9]) (rest := []) (els := [.ref 32, .ref 9, am_du]) rfl rfl rfl rfl rfl rfl rfl rfl (by omega) ?_
  refine sp_icopy2 (h := (am_ov (am_ov (am_ov (am_ov (am_ov (am_ov (am_ov h [25] ga1) [26] ga2) [27] ga3) [28] ga4) [29] ga5) [30] ga6) [31] ga7)) (o := 32) (p := 9) (cap := 60) (cap2 := 60) (k := tp) rfl rfl rfl rfl rfl rfl rfl rfl (by decide) (by decide) (by decide) H.2.2.2.2.2.2.2.2.1.1 (by omega) (by omega) (by omega) (fun gb1 fb1 fd1 => ?_)
  show am_wp L xs _ _ _ _ 88 [.ref 24, .ref 1, am_du] [] (am_S b) (am_ov (am_ov (am_ov (am_ov (am_ov (am_ov (am_ov (am_ov h [25] ga1) [26] ga2) [27] ga3) [28] ga4) [29] ga5) [30] ga6) [31] ga7) [32, 33] gb1) _
  refine wp_run 1 (pc' := 89) (ls' := [.ref 24, .ref 1, am_du]) (st' := [.ref 24]) rfl ?_
  refine wp_getr 34 rfl rfl rfl ?_
  refine wp_run 1 (pc' := 93) (ls' := [.ref 24, .ref 1, am_du]) (st' := [.ref 1, .ref 34]) rfl ?_
  refine wp_getr 11 rfl rfl rfl ?_
  refine wp_callV (o := 34) (as := [.ref 11]) (rest := []) (els := [.ref 34, .ref 11, am_du]) rfl rfl rfl rfl rfl rfl rfl rfl (by omega) ?_
  refine sp_icopy2 (h := (am_ov (am_ov (am_ov (am_ov (am_ov (am_ov (am_ov (am_ov h [25] ga1) [26] ga2) [27] ga3) [28] ga4) [29] ga5) [30] ga6) [31] ga7) [32, 33] gb1)) (o := 34) (p := 11) (cap := 24) (cap2 := 24) (k := wt) rfl rfl rfl rfl rfl rfl rfl rfl (by decide) (by decide) (by decide) H.2.2.2.2.2.2.2.2.2.1.1 (by omega) (by omega) (by omega) (fun gb2 fb2 fd2 => ?_)
  show am_wp L xs _ _ _ _ 99 [.ref 24, .ref 1, am_du] [] (am_S b) (am_ov (am_ov (am_ov (am_ov (am_ov (am_ov (am_ov (am_ov (am_ov h [25] ga1) [26] ga2) [27] ga3) [28] ga4) [29] ga5) [30] ga6) [31] ga7) [32, 33] gb1) [34, 35] gb2) _
  refine wp_run 4 (pc' := 103) (ls' := [.ref 24, .ref 1, .int 0]) (st' := [.int 2, .int 0]) rfl ?_
  refine wp_icmp_f rfl (show ¬ (2 ≤ (0 : Int32)) from by decide) ?_
  refine wp_run 1 (pc' := 107) (ls' := [.ref 24, .ref 1, .int 0]) (st' := [.ref 24]) rfl ?_
  refine wp_getr 36 rfl rfl rfl ?_
  refine wp_run 1 (pc' := 111) (ls' := [.ref 24, .ref 1, .int 0]) (st' := [.int 0, .ref 36]) rfl ?_
  refine wp_aald (r := 37) rfl rfl (Or.inl rfl) rfl (by decide) rfl rfl ?_
  refine wp_run 1 (pc' := 113) (ls' := [.ref 24, .ref 1, .int 0]) (st' := [.ref 1, .ref 37]) rfl ?_
  refine wp_getr 13 rfl rfl rfl ?_
  refine wp_run 1 (pc' := 117) (ls' := [.ref 24, .ref 1, .int 0]) (st' := [.int 0, .ref 13, .ref 37]) rfl ?_
  refine wp_aald (r := 14) rfl rfl (Or.inl rfl) rfl (by decide) rfl rfl ?_
  refine wp_callV (o := 37) (as := [.ref 14]) (rest := []) (els := [.ref 37, .ref 14]) rfl rfl rfl rfl rfl rfl rfl rfl (by omega) ?_
  refine wp_run 1 (pc' := 1) (ls' := [.ref 37, .ref 14]) (st' := [.ref 37]) rfl ?_
  refine wp_getr 38 rfl rfl rfl ?_
  refine wp_run 1 (pc' := 5) (ls' := [.ref 37, .ref 14]) (st' := [.ref 14, .ref 38]) rfl ?_
  refine wp_getr 15 rfl rfl rfl ?_
  refine wp_callV (o := 38) (as := [.ref 15]) (rest := []) (els := [.ref 38, .ref 15, am_du]) rfl rfl rfl rfl rfl rfl rfl rfl (by omega) ?_
  refine sp_icopy2 (h := (am_ov (am_ov (am_ov (am_ov (am_ov (am_ov (am_ov (am_ov (am_ov h [25] ga1) [26] ga2) [27] ga3) [28] ga4) [29] ga5) [30] ga6) [31] ga7) [32, 33] gb1) [34, 35] gb2)) (o := 38) (p := 15) (cap := 60) (cap2 := 60) (k := p0.length) rfl rfl rfl rfl rfl rfl rfl rfl (by decide) (by decide) (by decide) H.2.2.2.2.2.2.2.2.2.2.1.1.1 (by omega) (by omega) (by omega) (fun gb3 fb3 fd3 => ?_)
  show am_wp L xs _ _ _ _ 11 [.ref 37, .ref 14] [] (am_S b) (am_ov (am_ov (am_ov (am_ov (am_ov (am_ov (am_ov (am_ov (am_ov (am_ov h [25] ga1) [26] ga2) [27] ga3) [28] ga4) [29] ga5) [30] ga6) [31] ga7) [32, 33] gb1) [34, 35] gb2) [38, 39] gb3) _
  refine wp_run 2 (pc' := 13) (ls' := [.ref 37, .ref 14]) (st' := [.ref 14, .ref 37]) rfl ?_
  refine wp_geti (a := 4) s0 H.2.2.2.2.2.2.2.2.2.2.1.1.2.2.2.2.2.1 rfl rfl rfl ?_
  refine wp_putz rfl (re_s01 H.2.2.2.2.2.2.2.2.2.2.1) rfl ?_
  refine wp_retv rfl ?_
  show am_wp L xs _ _ _ _ 121 [.ref 24, .ref 1, .int 0] [] (am_S b) (am_u (am_ov (am_ov (am_ov (am_ov (am_ov (am_ov (am_ov (am_ov (am_ov (am_ov h [25] ga1) [26] ga2) [27] ga3) [28] ga4) [29] ga5) [30] ga6) [31] ga7) [32, 33] gb1) [34, 35] gb2) [38, 39] gb3) 37 4 s0) _
  refine wp_run 4 (pc' := 103) (ls' := [.ref 24, .ref 1, .int (0 + 1)]) (st' := [.int 2, .int (0 + 1)]) rfl ?_
  rw [show ((0 + 1) : Int32) = 1 from by decide]
  refine wp_icmp_f rfl (show ¬ (2 ≤ (1 : Int32)) from by decide) ?_
  refine wp_run 1 (pc' := 107) (ls' := [.ref 24, .ref 1, .int 1]) (st' := [.ref 24]) rfl ?_
  refine wp_getr 36 rfl rfl rfl ?_
  refine wp_run 1 (pc' := 111) (ls' := [.ref 24, .ref 1, .int 1]) (st' := [.int 1, .ref 36]) rfl ?_
  refine wp_aald (r := 42) rfl rfl (Or.inl rfl) rfl (by decide) rfl rfl ?_
  refine wp_run 1 (pc' := 113) (ls' := [.ref 24, .ref 1, .int 1]) (st' := [.ref 1, .ref 42]) rfl ?_
  refine wp_getr 13 rfl rfl rfl ?_
  refine wp_run 1 (pc' := 117) (ls' := [.ref 24, .ref 1, .int 1]) (st' := [.int 1, .ref 13, .ref 42]) rfl ?_
  refine wp_aald (r := 19) rfl rfl (Or.inl rfl) rfl (by decide) rfl rfl ?_
  refine wp_callV (o := 42) (as := [.ref 19]) (rest := []) (els := [.ref 42, .ref 19]) rfl rfl rfl rfl rfl rfl rfl rfl (by omega) ?_
  refine wp_run 1 (pc' := 1) (ls' := [.ref 42, .ref 19]) (st' := [.ref 42]) rfl ?_
  refine wp_getr 43 rfl rfl rfl ?_
  refine wp_run 1 (pc' := 5) (ls' := [.ref 42, .ref 19]) (st' := [.ref 19, .ref 43]) rfl ?_
  refine wp_getr 20 rfl rfl rfl ?_
  refine wp_callV (o := 43) (as := [.ref 20]) (rest := []) (els := [.ref 43, .ref 20, am_du]) rfl rfl rfl rfl rfl rfl rfl rfl (by omega) ?_
  refine sp_icopy2 (h := (am_u (am_ov (am_ov (am_ov (am_ov (am_ov (am_ov (am_ov (am_ov (am_ov (am_ov h [25] ga1) [26] ga2) [27] ga3) [28] ga4) [29] ga5) [30] ga6) [31] ga7) [32, 33] gb1) [34, 35] gb2) [38, 39] gb3) 37 4 s0)) (o := 43) (p := 20) (cap := 60) (cap2 := 60) (k := p1.length) rfl rfl rfl rfl rfl rfl rfl rfl (by decide) (by decide) (by decide) H.2.2.2.2.2.2.2.2.2.2.2.1.1 (by omega) (by omega) (by omega) (fun gb4 fb4 fd4 => ?_)
  show am_wp L xs _ _ _ _ 11 [.ref 42, .ref 19] [] (am_S b) (am_ov (am_u (am_ov (am_ov (am_ov (am_ov (am_ov (am_ov (am_ov (am_ov (am_ov (am_ov h [25] ga1) [26] ga2) [27] ga3) [28] ga4) [29] ga5) [30] ga6) [31] ga7) [32, 33] gb1) [34, 35] gb2) [38, 39] gb3) 37 4 s0) [43, 44] gb4) _
  refine wp_run 2 (pc' := 13) (ls' := [.ref 42, .ref 19]) (st' := [.ref 19, .ref 42]) rfl ?_
  refine wp_geti (a := 4) s1 H.2.2.2.2.2.2.2.2.2.2.2.1.2.2.2.2.2.1 rfl rfl rfl ?_
  refine wp_putz rfl (re_s01 H.2.2.2.2.2.2.2.2.2.2.2) rfl ?_
  refine wp_retv rfl ?_
  show am_wp L xs _ _ _ _ 121 [.ref 24, .ref 1, .int 1] [] (am_S b) (am_u (am_ov (am_u (am_ov (am_ov (am_ov (am_ov (am_ov (am_ov (am_ov (am_ov (am_ov (am_ov h [25] ga1) [26] ga2) [27] ga3) [28] ga4) [29] ga5) [30] ga6) [31] ga7) [32, 33] gb1) [34, 35] gb2) [38, 39] gb3) 37 4 s0) [43, 44] gb4) 42 4 s1) _
  refine wp_run 4 (pc' := 103) (ls' := [.ref 24, .ref 1, .int (1 + 1)]) (st' := [.int 2, .int (1 + 1)]) rfl ?_
  rw [show ((1 + 1) : Int32) = 2 from by decide]
  refine wp_icmp_t rfl (show 2 ≤ (2 : Int32) from by decide) ?_
  refine wp_run 2 (pc' := 129) (ls' := [.ref 24, .ref 1, .int 2]) (st' := [.ref 1, .ref 24]) rfl ?_
  refine wp_geti (a := 10) (nI n) H.1.1 rfl rfl rfl ?_
  refine wp_puti rfl rfl ?_
  refine wp_run 2 (pc' := 137) (ls' := [.ref 24, .ref 1, .int 2]) (st' := [.ref 1, .ref 24]) rfl ?_
  refine wp_geti (a := 11) (nI c) H.2.1.1 rfl rfl rfl ?_
  refine wp_puti rfl rfl ?_
  refine wp_run 2 (pc' := 145) (ls' := [.ref 24, .ref 1, .int 2]) (st' := [.ref 1, .ref 24]) rfl ?_
  refine wp_geti (a := 12) (nI t) H.2.2.1.1 rfl rfl rfl ?_
  refine wp_puti rfl rfl ?_
  refine wp_run 2 (pc' := 153) (ls' := [.ref 24, .ref 1, .int 2]) (st' := [.ref 1, .ref 24]) rfl ?_
  refine wp_geti (a := 13) (h 1 13) rfl rfl rfl rfl ?_
  refine wp_puti rfl rfl ?_
  refine wp_run 2 (pc' := 161) (ls' := [.ref 24, .ref 1, .int 2]) (st' := [.ref 1, .ref 24]) rfl ?_
  refine wp_geti (a := 14) (h 1 14) rfl rfl rfl rfl ?_
  refine wp_puti rfl rfl ?_
  refine wp_retv rfl ?_
  have R9 : re_house n c t tp wt s0 s1 p0 p1 ((am_u (am_u (am_u (am_u (am_u (am_u (am_ov (am_u (am_ov (am_ov (am_ov (am_ov (am_ov (am_ov (am_ov (am_ov (am_ov (am_ov h [25] ga1) [26] ga2) [27] ga3) [28] ga4) [29] ga5) [30] ga6) [31] ga7) [32, 33] gb1) [34, 35] gb2) [38, 39] gb3) 37 4 s0) [43, 44] gb4) 42 4 s1) 24 10 (nI n)) 24 11 (nI c)) 24 12 (nI t)) 24 13 (h 1 13)) 24 14 (h 1 14)) 24) ((am_u (am_u (am_u (am_u (am_u (am_u (am_ov (am_u (am_ov (am_ov (am_ov (am_ov (am_ov (am_ov (am_ov (am_ov (am_ov (am_ov h [25] ga1) [26] ga2) [27] ga3) [28] ga4) [29] ga5) [30] ga6) [31] ga7) [32, 33] gb1) [34, 35] gb2) [38, 39] gb3) 37 4 s0) [43, 44] gb4) 42 4 s1) 24 10 (nI n)) 24 11 (nI c)) 24 12 (nI t)) 24 13 (h 1 13)) 24 14 (h 1 14)) 25) ((am_u (am_u (am_u (am_u (am_u (am_u (am_ov (am_u (am_ov (am_ov (am_ov (am_ov (am_ov (am_ov (am_ov (am_ov (am_ov (am_ov h [25] ga1) [26] ga2) [27] ga3) [28] ga4) [29] ga5) [30] ga6) [31] ga7) [32, 33] gb1) [34, 35] gb2) [38, 39] gb3) 37 4 s0) [43, 44] gb4) 42 4 s1) 24 10 (nI n)) 24 11 (nI c)) 24 12 (nI t)) 24 13 (h 1 13)) 24 14 (h 1 14)) 26) ((am_u (am_u (am_u (am_u (am_u (am_u (am_ov (am_u (am_ov (am_ov (am_ov (am_ov (am_ov (am_ov (am_ov (am_ov (am_ov (am_ov h [25] ga1) [26] ga2) [27] ga3) [28] ga4) [29] ga5) [30] ga6) [31] ga7) [32, 33] gb1) [34, 35] gb2) [38, 39] gb3) 37 4 s0) [43, 44] gb4) 42 4 s1) 24 10 (nI n)) 24 11 (nI c)) 24 12 (nI t)) 24 13 (h 1 13)) 24 14 (h 1 14)) 27) ((am_u (am_u (am_u (am_u (am_u (am_u (am_ov (am_u (am_ov (am_ov (am_ov (am_ov (am_ov (am_ov (am_ov (am_ov (am_ov (am_ov h [25] ga1) [26] ga2) [27] ga3) [28] ga4) [29] ga5) [30] ga6) [31] ga7) [32, 33] gb1) [34, 35] gb2) [38, 39] gb3) 37 4 s0) [43, 44] gb4) 42 4 s1) 24 10 (nI n)) 24 11 (nI c)) 24 12 (nI t)) 24 13 (h 1 13)) 24 14 (h 1 14)) 28) ((am_u (am_u (am_u (am_u (am_u (am_u (am_ov (am_u (am_ov (am_ov (am_ov (am_ov (am_ov (am_ov (am_ov (am_ov (am_ov (am_ov h [25] ga1) [26] ga2) [27] ga3) [28] ga4) [29] ga5) [30] ga6) [31] ga7) [32, 33] gb1) [34, 35] gb2) [38, 39] gb3) 37 4 s0) [43, 44] gb4) 42 4 s1) 24 10 (nI n)) 24 11 (nI c)) 24 12 (nI t)) 24 13 (h 1 13)) 24 14 (h 1 14)) 29) ((am_u (am_u (am_u (am_u (am_u (am_u (am_ov (am_u (am_ov (am_ov (am_ov (am_ov (am_ov (am_ov (am_ov (am_ov (am_ov (am_ov h [25] ga1) [26] ga2) [27] ga3) [28] ga4) [29] ga5) [30] ga6) [31] ga7) [32, 33] gb1) [34, 35] gb2) [38, 39] gb3) 37 4 s0) [43, 44] gb4) 42 4 s1) 24 10 (nI n)) 24 11 (nI c)) 24 12 (nI t)) 24 13 (h 1 13)) 24 14 (h 1 14)) 30) ((am_u (am_u (am_u (am_u (am_u (am_u (am_ov (am_u (am_ov (am_ov (am_ov (am_ov (am_ov (am_ov (am_ov (am_ov (am_ov (am_ov h [25] ga1) [26] ga2) [27] ga3) [28] ga4) [29] ga5) [30] ga6) [31] ga7) [32, 33] gb1) [34, 35] gb2) [38, 39] gb3) 37 4 s0) [43, 44] gb4) 42 4 s1) 24 10 (nI n)) 24 11 (nI c)) 24 12 (nI t)) 24 13 (h 1 13)) 24 14 (h 1 14)) 31) ((am_u (am_u (am_u (am_u (am_u (am_u (am_ov (am_u (am_ov (am_ov (am_ov (am_ov (am_ov (am_ov (am_ov (am_ov (am_ov (am_ov h [25] ga1) [26] ga2) [27] ga3) [28] ga4) [29] ga5) [30] ga6) [31] ga7) [32, 33] gb1) [34, 35] gb2) [38, 39] gb3) 37 4 s0) [43, 44] gb4) 42 4 s1) 24 10 (nI n)) 24 11 (nI c)) 24 12 (nI t)) 24 13 (h 1 13)) 24 14 (h 1 14)) 32) ((am_u (am_u (am_u (am_u (am_u (am_u (am_ov (am_u (am_ov (am_ov (am_ov (am_ov (am_ov (am_ov (am_ov (am_ov (am_ov (am_ov h [25] ga1) [26] ga2) [27] ga3) [28] ga4) [29] ga5) [30] ga6) [31] ga7) [32, 33] gb1) [34, 35] gb2) [38, 39] gb3) 37 4 s0) [43, 44] gb4) 42 4 s1) 24 10 (nI n)) 24 11 (nI c)) 24 12 (nI t)) 24 13 (h 1 13)) 24 14 (h 1 14)) 33) ((am_u (am_u (am_u (am_u (am_u (am_u (am_ov (am_u (am_ov (am_ov (am_ov (am_ov (am_ov (am_ov (am_ov (am_ov (am_ov (am_ov h [25] ga1) [26] ga2) [27] ga3) [28] ga4) [29] ga5) [30] ga6) [31] ga7) [32, 33] gb1) [34, 35] gb2) [38, 39] gb3) 37 4 s0) [43, 44] gb4) 42 4 s1) 24 10 (nI n)) 24 11 (nI c)) 24 12 (nI t)) 24 13 (h 1 13)) 24 14 (h 1 14)) 34) ((am_u (am_u (am_u (am_u (am_u (am_u (am_ov (am_u (am_ov (am_ov (am_ov (am_ov (am_ov (am_ov (am_ov (am_ov (am_ov (am_ov h [25] ga1) [26] ga2) [27] ga3) [28] ga4) [29] ga5) [30] ga6) [31] ga7) [32, 33] gb1) [34, 35] gb2) [38, 39] gb3) 37 4 s0) [43, 44] gb4) 42 4 s1) 24 10 (nI n)) 24 11 (nI c)) 24 12 (nI t)) 24 13 (h 1 13)) 24 14 (h 1 14)) 35) ((am_u (am_u (am_u (am_u (am_u (am_u (am_ov (am_u (am_ov (am_ov (am_ov (am_ov (am_ov (am_ov (am_ov (am_ov (am_ov (am_ov h [25] ga1) [26] ga2) [27] ga3) [28] ga4) [29] ga5) [30] ga6) [31] ga7) [32, 33] gb1) [34, 35] gb2) [38, 39] gb3) 37 4 s0) [43, 44] gb4) 42 4 s1) 24 10 (nI n)) 24 11 (nI c)) 24 12 (nI t)) 24 13 (h 1 13)) 24 14 (h 1 14)) 37) ((am_u (am_u (am_u (am_u (am_u (am_u (am_ov (am_u (am_ov (am_ov (am_ov (am_ov (am_ov (am_ov (am_ov (am_ov (am_ov (am_ov h [25] ga1) [26] ga2) [27] ga3) [28] ga4) [29] ga5) [30] ga6) [31] ga7) [32, 33] gb1) [34, 35] gb2) [38, 39] gb3) 37 4 s0) [43, 44] gb4) 42 4 s1) 24 10 (nI n)) 24 11 (nI c)) 24 12 (nI t)) 24 13 (h 1 13)) 24 14 (h 1 14)) 38) ((am_u (am_u (am_u (am_u (am_u (am_u (am_ov (am_u (am_ov (am_ov (am_ov (am_ov (am_ov (am_ov (am_ov (am_ov (am_ov (am_ov h [25] ga1) [26] ga2) [27] ga3) [28] ga4) [29] ga5) [30] ga6) [31] ga7) [32, 33] gb1) [34, 35] gb2) [38, 39] gb3) 37 4 s0) [43, 44] gb4) 42 4 s1) 24 10 (nI n)) 24 11 (nI c)) 24 12 (nI t)) 24 13 (h 1 13)) 24 14 (h 1 14)) 39) ((am_u (am_u (am_u (am_u (am_u (am_u (am_ov (am_u (am_ov (am_ov (am_ov (am_ov (am_ov (am_ov (am_ov (am_ov (am_ov (am_ov h [25] ga1) [26] ga2) [27] ga3) [28] ga4) [29] ga5) [30] ga6) [31] ga7) [32, 33] gb1) [34, 35] gb2) [38, 39] gb3) 37 4 s0) [43, 44] gb4) 42 4 s1) 24 10 (nI n)) 24 11 (nI c)) 24 12 (nI t)) 24 13 (h 1 13)) 24 14 (h 1 14)) 42) ((am_u (am_u (am_u (am_u (am_u (am_u (am_ov (am_u (am_ov (am_ov (am_ov (am_ov (am_ov (am_ov (am_ov (am_ov (am_ov (am_ov h [25] ga1) [26] ga2) [27] ga3) [28] ga4) [29] ga5) [30] ga6) [31] ga7) [32, 33] gb1) [34, 35] gb2) [38, 39] gb3) 37 4 s0) [43, 44] gb4) 42 4 s1) 24 10 (nI n)) 24 11 (nI c)) 24 12 (nI t)) 24 13 (h 1 13)) 24 14 (h 1 14)) 43) ((am_u (am_u (am_u (am_u (am_u (am_u (am_ov (am_u (am_ov (am_ov (am_ov (am_ov (am_ov (am_ov (am_ov (am_ov (am_ov (am_ov h [25] ga1) [26] ga2) [27] ga3) [28] ga4) [29] ga5) [30] ga6) [31] ga7) [32, 33] gb1) [34, 35] gb2) [38, 39] gb3) 37 4 s0) [43, 44] gb4) 42 4 s1) 24 10 (nI n)) 24 11 (nI c)) 24 12 (nI t)) 24 13 (h 1 13)) 24 14 (h 1 14)) 44) m := by
    refine ⟨?_, ?_, ?_, ?_, ?_, ?_, ?_, ?_, ?_, ?_, ?_, ?_⟩
    · exact ⟨rfl, H.1.2.1, H.1.2.2⟩
    · exact ⟨rfl, H.2.1.2.1, H.2.1.2.2⟩
    · exact ⟨rfl, H.2.2.1.2.1, H.2.2.1.2.2⟩
    · exact ⟨H.2.2.2.1.1, H.2.2.2.1.2⟩
    · exact fun g hg => ⟨(fa1 g hg).trans (H.2.2.2.2.1 g hg).1, (fa2 g hg).trans (H.2.2.2.2.1 g hg).2.1, (fa3 g hg).trans (H.2.2.2.2.1 g hg).2.2.1, (fa4 g hg).trans (H.2.2.2.2.1 g hg).2.2.2⟩
    · exact fun g hg => ⟨(fa5 g hg).trans (H.2.2.2.2.2.1 g hg).1, (fa6 g hg).trans (H.2.2.2.2.2.1 g hg).2.1, (fa7 g hg).trans (H.2.2.2.2.2.1 g hg).2.2⟩
    · exact fun g hg => by obtain ⟨⟨a1, a2, a3⟩, ⟨a4, a5, a6⟩, ⟨a7, a8, a9⟩, q⟩ := H.2.2.2.2.2.2.1 g hg; exact ⟨⟨a1, a2, (fa1 g (by omega)).trans a3⟩, ⟨a4, a5, (fa2 g (by omega)).trans a6⟩, ⟨a7, a8, (fa3 g (by omega)).trans a9⟩, q.elim (fun q => Or.inl ((fa4 g (by omega)).trans q)) (fun ⟨j, hj, q⟩ => Or.inr ⟨j, hj, (fa4 g (by omega)).trans q⟩)⟩
    · exact fun j hj => by obtain ⟨⟨a1, a2, a3⟩, ⟨a4, a5, a6⟩, q⟩ := H.2.2.2.2.2.2.2.1 j hj; exact ⟨⟨a1, a2, (fa5 j (by omega)).trans a3⟩, ⟨a4, a5, (fa6 j (by omega)).trans a6⟩, q.elim (fun q => Or.inl ((fa7 j (by omega)).trans q)) (fun ⟨g, hg, q⟩ => Or.inr ⟨g, hg, (fa7 j (by omega)).trans q⟩)⟩
    · exact ⟨fb1, H.2.2.2.2.2.2.2.2.1.2.1, H.2.2.2.2.2.2.2.2.1.2.2.1, fun i hi => (fd1 i hi).trans (H.2.2.2.2.2.2.2.2.1.2.2.2 i hi)⟩
    · exact ⟨fb2, H.2.2.2.2.2.2.2.2.2.1.2.1, H.2.2.2.2.2.2.2.2.2.1.2.2.1, fun i hi => (fd2 i hi).trans (H.2.2.2.2.2.2.2.2.2.1.2.2.2 i hi)⟩
    · exact ⟨⟨fb3, fun j hj => (fd3 j hj).trans (H.2.2.2.2.2.2.2.2.2.2.1.1.2.1 j hj), H.2.2.2.2.2.2.2.2.2.2.1.1.2.2.1, b0, b1, rfl, H.2.2.2.2.2.2.2.2.2.2.1.1.2.2.2.2.2.2⟩, H.2.2.2.2.2.2.2.2.2.2.1.2⟩
    · exact ⟨⟨fb4, fun j hj => (fd4 j hj).trans (H.2.2.2.2.2.2.2.2.2.2.2.1.2.1 j hj), H.2.2.2.2.2.2.2.2.2.2.2.1.2.2.1, b2, b3, rfl, H.2.2.2.2.2.2.2.2.2.2.2.1.2.2.2.2.2.2⟩, H.2.2.2.2.2.2.2.2.2.2.2.2⟩
  refine am_gen_q (P := fun X => Q none (am_S b) X) (fun X hX => ?_)
  show Q none (am_S b) X
  have eX : X = am_ov h [24, 25, 26, 27, 28, 29, 30, 31, 32, 33, 34, 35, 37, 38, 39, 42, 43, 44] X := am_ov_of (fun a ha => by rw [hX]; rw [am_u_off _ _ _ (am_nel ha rfl), am_u_off _ _ _ (am_nel ha rfl), am_u_off _ _ _ (am_nel ha rfl), am_u_off _ _ _ (am_nel ha rfl), am_u_off _ _ _ (am_nel ha rfl), am_u_off _ _ _ (am_nel ha rfl), am_ov_off (am_sub ha rfl), am_u_off _ _ _ (am_nel ha rfl), am_ov_off (am_sub ha rfl), am_ov_off (am_sub ha rfl), am_ov_off (am_sub ha rfl), am_ov_off (am_sub ha rfl), am_ov_off (am_sub ha rfl), am_ov_off (am_sub ha rfl), am_ov_off (am_sub ha rfl), am_ov_off (am_sub ha rfl), am_ov_off (am_sub ha rfl), am_ov_off (am_sub ha rfl)])
  rw [eX]
  exact kk X (by rw [hX]; exact R9)
theorem sp_hcopy1 {L : Nat} {xs : Nat → Int32} {d ms b : Nat} {h : am_HI} {Q : am_Q} {n c t tp wt : Nat} {s0 s1 : Int32} {p0 p1 : List Int32} {m : Nat → Int32} (H : re_house n c t tp wt s0 s1 p0 p1 (h 24) (h 25) (h 26) (h 27) (h 28) (h 29) (h 30) (h 31) (h 32) (h 33) (h 34) (h 35) (h 37) (h 38) (h 39) (h 42) (h 43) (h 44) m) (b0 : h 14 0 = 0) (b1 : h 14 1 = 99) (b2 : h 19 0 = -99) (b3 : h 19 1 = 99) (hd : 6 ≤ d) (kk : ∀ gz, re_house n c t tp wt s0 s1 p0 p1 (gz 1) (gz 2) (gz 3) (gz 4) (gz 5) (gz 6) (gz 7) (gz 8) (gz 9) (gz 10) (gz 11) (gz 12) (gz 14) (gz 15) (gz 16) (gz 19) (gz 20) (gz 21) m → Q none (am_S b) (am_ov h [1, 2, 3, 4, 5, 6, 7, 8, 9, 10, 11, 12, 14, 15, 16, 19, 20, 21] gz)) :
    am_wp L xs d 0 ms 121 0 [.ref 1, .ref 24, am_du] [] (am_S b) h Q := by
  have hn7 := H.1.2.2
  have hc7 := H.2.1.2.2
  have hk0 := H.2.2.2.2.2.2.2.2.1.2.2.1
  have hk1 := H.2.2.2.2.2.2.2.2.2.1.2.2.1
  have hk2 := H.2.2.2.2.2.2.2.2.2.2.1.1.2.2.1
  have hk3 := H.2.2.2.2.2.2.2.2.2.2.2.1.2.2.1
  refine wp_run 1 (pc' := 1) (ls' := [.ref 1, .ref 24, am_du]) (st' := [.ref 24]) rfl ?_
  refine wp_getr 25 rfl rfl rfl ?_
  refine wp_run 1 (pc' := 5) (ls' := [.ref 1, .ref 24, am_du]) (st' := [.ref 1, .ref 25]) rfl ?_
  refine wp_getr 2 rfl rfl rfl ?_
  refine wp_callS (as := [.ref 25, .ref 2]) (rest := []) (els := [.ref 25, .ref 2]) rfl rfl rfl rfl rfl rfl rfl rfl (by omega) ?_
  refine sp_copyRow (h := h) (p := 25) (o := 2) rfl rfl (by omega) (fun ga1 fa1 => ?_)
  show am_wp L xs _ _ _ _ 11 [.ref 1, .ref 24, am_du] [] (am_S b) (am_ov h [2] ga1) _
  refine wp_run 1 (pc' := 12) (ls' := [.ref 1, .ref 24, am_du]) (st' := [.ref 24]) rfl ?_
  refine wp_getr 26 rfl rfl rfl ?_
  refine wp_run 1 (pc' := 16) (ls' := [.ref 1, .ref 24, am_du]) (st' := [.ref 1, .ref 26]) rfl ?_
  refine wp_getr 3 rfl rfl rfl ?_
  refine wp_callS (as := [.ref 26, .ref 3]) (rest := []) (els := [.ref 26, .ref 3]) rfl rfl rfl rfl rfl rfl rfl rfl (by omega) ?_
  refine sp_copyRow (h := (am_ov h [2] ga1)) (p := 26) (o := 3) rfl rfl (by omega) (fun ga2 fa2 => ?_)
  show am_wp L xs _ _ _ _ 22 [.ref 1, .ref 24, am_du] [] (am_S b) (am_ov (am_ov h [2] ga1) [3] ga2) _
  refine wp_run 1 (pc' := 23) (ls' := [.ref 1, .ref 24, am_du]) (st' := [.ref 24]) rfl ?_
  refine wp_getr 27 rfl rfl rfl ?_
  refine wp_run 1 (pc' := 27) (ls' := [.ref 1, .ref 24, am_du]) (st' := [.ref 1, .ref 27]) rfl ?_
  refine wp_getr 4 rfl rfl rfl ?_
  refine wp_callS (as := [.ref 27, .ref 4]) (rest := []) (els := [.ref 27, .ref 4]) rfl rfl rfl rfl rfl rfl rfl rfl (by omega) ?_
  refine sp_copyRow (h := (am_ov (am_ov h [2] ga1) [3] ga2)) (p := 27) (o := 4) rfl rfl (by omega) (fun ga3 fa3 => ?_)
  show am_wp L xs _ _ _ _ 33 [.ref 1, .ref 24, am_du] [] (am_S b) (am_ov (am_ov (am_ov h [2] ga1) [3] ga2) [4] ga3) _
  refine wp_run 1 (pc' := 34) (ls' := [.ref 1, .ref 24, am_du]) (st' := [.ref 24]) rfl ?_
  refine wp_getr 28 rfl rfl rfl ?_
  refine wp_run 1 (pc' := 38) (ls' := [.ref 1, .ref 24, am_du]) (st' := [.ref 1, .ref 28]) rfl ?_
  refine wp_getr 5 rfl rfl rfl ?_
  refine wp_callS (as := [.ref 28, .ref 5]) (rest := []) (els := [.ref 28, .ref 5]) rfl rfl rfl rfl rfl rfl rfl rfl (by omega) ?_
  refine sp_copyRow (h := (am_ov (am_ov (am_ov h [2] ga1) [3] ga2) [4] ga3)) (p := 28) (o := 5) rfl rfl (by omega) (fun ga4 fa4 => ?_)
  show am_wp L xs _ _ _ _ 44 [.ref 1, .ref 24, am_du] [] (am_S b) (am_ov (am_ov (am_ov (am_ov h [2] ga1) [3] ga2) [4] ga3) [5] ga4) _
  refine wp_run 1 (pc' := 45) (ls' := [.ref 1, .ref 24, am_du]) (st' := [.ref 24]) rfl ?_
  refine wp_getr 29 rfl rfl rfl ?_
  refine wp_run 1 (pc' := 49) (ls' := [.ref 1, .ref 24, am_du]) (st' := [.ref 1, .ref 29]) rfl ?_
  refine wp_getr 6 rfl rfl rfl ?_
  refine wp_callS (as := [.ref 29, .ref 6]) (rest := []) (els := [.ref 29, .ref 6]) rfl rfl rfl rfl rfl rfl rfl rfl (by omega) ?_
  refine sp_copyRow (h := (am_ov (am_ov (am_ov (am_ov h [2] ga1) [3] ga2) [4] ga3) [5] ga4)) (p := 29) (o := 6) rfl rfl (by omega) (fun ga5 fa5 => ?_)
  show am_wp L xs _ _ _ _ 55 [.ref 1, .ref 24, am_du] [] (am_S b) (am_ov (am_ov (am_ov (am_ov (am_ov h [2] ga1) [3] ga2) [4] ga3) [5] ga4) [6] ga5) _
  refine wp_run 1 (pc' := 56) (ls' := [.ref 1, .ref 24, am_du]) (st' := [.ref 24]) rfl ?_
  refine wp_getr 30 rfl rfl rfl ?_
  refine wp_run 1 (pc' := 60) (ls' := [.ref 1, .ref 24, am_du]) (st' := [.ref 1, .ref 30]) rfl ?_
  refine wp_getr 7 rfl rfl rfl ?_
  refine wp_callS (as := [.ref 30, .ref 7]) (rest := []) (els := [.ref 30, .ref 7]) rfl rfl rfl rfl rfl rfl rfl rfl (by omega) ?_
  refine sp_copyRow (h := (am_ov (am_ov (am_ov (am_ov (am_ov h [2] ga1) [3] ga2) [4] ga3) [5] ga4) [6] ga5)) (p := 30) (o := 7) rfl rfl (by omega) (fun ga6 fa6 => ?_)
  show am_wp L xs _ _ _ _ 66 [.ref 1, .ref 24, am_du] [] (am_S b) (am_ov (am_ov (am_ov (am_ov (am_ov (am_ov h [2] ga1) [3] ga2) [4] ga3) [5] ga4) [6] ga5) [7] ga6) _
  refine wp_run 1 (pc' := 67) (ls' := [.ref 1, .ref 24, am_du]) (st' := [.ref 24]) rfl ?_
  refine wp_getr 31 rfl rfl rfl ?_
  refine wp_run 1 (pc' := 71) (ls' := [.ref 1, .ref 24, am_du]) (st' := [.ref 1, .ref 31]) rfl ?_
  refine wp_getr 8 rfl rfl rfl ?_
  refine wp_callS (as := [.ref 31, .ref 8]) (rest := []) (els := [.ref 31, .ref 8]) rfl rfl rfl rfl rfl rfl rfl rfl (by omega) ?_
  refine sp_copyRow (h := (am_ov (am_ov (am_ov (am_ov (am_ov (am_ov h [2] ga1) [3] ga2) [4] ga3) [5] ga4) [6] ga5) [7] ga6)) (p := 31) (o := 8) rfl rfl (by omega) (fun ga7 fa7 => ?_)
  show am_wp L xs _ _ _ _ 77 [.ref 1, .ref 24, am_du] [] (am_S b) (am_ov (am_ov (am_ov (am_ov (am_ov (am_ov (am_ov h [2] ga1) [3] ga2) [4] ga3) [5] ga4) [6] ga5) [7] ga6) [8] ga7) _
  refine wp_run 1 (pc' := 78) (ls' := [.ref 1, .ref 24, am_du]) (st' := [.ref 1]) rfl ?_
  refine wp_getr 9 rfl rfl rfl ?_
  refine wp_run 1 (pc' := 82) (ls' := [.ref 1, .ref 24, am_du]) (st' := [.ref 24, .ref 9]) rfl ?_
  refine wp_getr 32 rfl rfl rfl ?_
  refine wp_callV (o := 9) (as := [.ref 32]) (rest := []) (els := [.ref 9, .ref 32, am_du]) rfl rfl rfl rfl rfl rfl rfl rfl (by omega) ?_
  refine sp_icopy2 (h := (am_ov (am_ov (am_ov (am_ov (am_ov (am_ov (am_ov h [2] ga1) [3] ga2) [4] ga3) [5] ga4) [6] ga5) [7] ga6) [8] ga7)) (o := 9) (p := 32) (cap := 60) (cap2 := 60) (k := tp) rfl rfl rfl rfl rfl rfl rfl rfl (by decide) (by decide) (by decide) H.2.2.2.2.2.2.2.2.1.1 (by omega) (by omega) (by omega) (fun gb1 fb1 fd1 => ?_)
  show am_wp L xs _ _ _ _ 88 [.ref 1, .ref 24, am_du] [] (am_S b) (am_ov (am_ov (am_ov (am_ov (am_ov (am_ov (am_ov (am_ov h [2] ga1) [3] ga2) [4] ga3) [5] ga4) [6] ga5) [7] ga6) [8] ga7) [9, 10] gb1) _
  refine wp_run 1 (pc' := 89) (ls' := [.ref 1, .ref 24, am_du]) (st' := [.ref 1]) rfl ?_
  refine wp_getr 11 rfl rfl rfl ?_
  refine wp_run 1 (pc' := 93) (ls' := [.ref 1, .ref 24, am_du]) (st' := [.ref 24, .ref 11]) rfl ?_
  refine wp_getr 34 rfl rfl rfl ?_
  refine wp_callV (o := 11) (as := [.ref 34]) (rest := []) (els := [.ref 11, .ref 34, am_du]) rfl rfl rfl rfl rfl rfl rfl rfl (by omega) ?_
  refine sp_icopy2 (h := (am_ov (am_ov (am_ov (am_ov (am_ov (am_ov (am_ov (am_ov h [2] ga1) [3] ga2) [4] ga3) [5] ga4) [6] ga5) [7] ga6) [8] ga7) [9, 10] gb1)) (o := 11) (p := 34) (cap := 24) (cap2 := 24) (k := wt) rfl rfl rfl rfl rfl rfl rfl rfl (by decide) (by decide) (by decide) H.2.2.2.2.2.2.2.2.2.1.1 (by omega) (by omega) (by omega) (fun gb2 fb2 fd2 => ?_)
  show am_wp L xs _ _ _ _ 99 [.ref 1, .ref 24, am_du] [] (am_S b) (am_ov (am_ov (am_ov (am_ov (am_ov (am_ov (am_ov (am_ov (am_ov h [2] ga1) [3] ga2) [4] ga3) [5] ga4) [6] ga5) [7] ga6) [8] ga7) [9, 10] gb1) [11, 12] gb2) _
  refine wp_run 4 (pc' := 103) (ls' := [.ref 1, .ref 24, .int 0]) (st' := [.int 2, .int 0]) rfl ?_
  refine wp_icmp_f rfl (show ¬ (2 ≤ (0 : Int32)) from by decide) ?_
  refine wp_run 1 (pc' := 107) (ls' := [.ref 1, .ref 24, .int 0]) (st' := [.ref 1]) rfl ?_
  refine wp_getr 13 rfl rfl rfl ?_
  refine wp_run 1 (pc' := 111) (ls' := [.ref 1, .ref 24, .int 0]) (st' := [.int 0, .ref 13]) rfl ?_
  refine wp_aald (r := 14) rfl rfl (Or.inl rfl) rfl (by decide) rfl rfl ?_
  refine wp_run 1 (pc' := 113) (ls' := [.ref 1, .ref 24, .int 0]) (st' := [.ref 24, .ref 14]) rfl ?_
  refine wp_getr 36 rfl rfl rfl ?_
  refine wp_run 1 (pc' := 117) (ls' := [.ref 1, .ref 24, .int 0]) (st' := [.int 0, .ref 36, .ref 14]) rfl ?_
  refine wp_aald (r := 37) rfl rfl (Or.inl rfl) rfl (by decide) rfl rfl ?_
  refine wp_callV (o := 14) (as := [.ref 37]) (rest := []) (els := [.ref 14, .ref 37]) rfl rfl rfl rfl rfl rfl rfl rfl (by omega) ?_
  refine wp_run 1 (pc' := 1) (ls' := [.ref 14, .ref 37]) (st' := [.ref 14]) rfl ?_
  refine wp_getr 15 rfl rfl rfl ?_
  refine wp_run 1 (pc' := 5) (ls' := [.ref 14, .ref 37]) (st' := [.ref 37, .ref 15]) rfl ?_
  refine wp_getr 38 rfl rfl rfl ?_
  refine wp_callV (o := 15) (as := [.ref 38]) (rest := []) (els := [.ref 15, .ref 38, am_du]) rfl rfl rfl rfl rfl rfl rfl rfl (by omega) ?_
  refine sp_icopy2 (h := (am_ov (am_ov (am_ov (am_ov (am_ov (am_ov (am_ov (am_ov (am_ov h [2] ga1) [3] ga2) [4] ga3) [5] ga4) [6] ga5) [7] ga6) [8] ga7) [9, 10] gb1) [11, 12] gb2)) (o := 15) (p := 38) (cap := 60) (cap2 := 60) (k := p0.length) rfl rfl rfl rfl rfl rfl rfl rfl (by decide) (by decide) (by decide) H.2.2.2.2.2.2.2.2.2.2.1.1.1 (by omega) (by omega) (by omega) (fun gb3 fb3 fd3 => ?_)
  show am_wp L xs _ _ _ _ 11 [.ref 14, .ref 37] [] (am_S b) (am_ov (am_ov (am_ov (am_ov (am_ov (am_ov (am_ov (am_ov (am_ov (am_ov h [2] ga1) [3] ga2) [4] ga3) [5] ga4) [6] ga5) [7] ga6) [8] ga7) [9, 10] gb1) [11, 12] gb2) [15, 16] gb3) _
  refine wp_run 2 (pc' := 13) (ls' := [.ref 14, .ref 37]) (st' := [.ref 37, .ref 14]) rfl ?_
  refine wp_geti (a := 4) s0 H.2.2.2.2.2.2.2.2.2.2.1.1.2.2.2.2.2.1 rfl rfl rfl ?_
  refine wp_putz rfl (re_s01 H.2.2.2.2.2.2.2.2.2.2.1) rfl ?_
  refine wp_retv rfl ?_
  show am_wp L xs _ _ _ _ 121 [.ref 1, .ref 24, .int 0] [] (am_S b) (am_u (am_ov (am_ov (am_ov (am_ov (am_ov (am_ov (am_ov (am_ov (am_ov (am_ov h [2] ga1) [3] ga2) [4] ga3) [5] ga4) [6] ga5) [7] ga6) [8] ga7) [9, 10] gb1) [11, 12] gb2) [15, 16] gb3) 14 4 s0) _
  refine wp_run 4 (pc' := 103) (ls' := [.ref 1, .ref 24, .int (0 + 1)]) (st' := [.int 2, .int (0 + 1)]) rfl ?_
  rw [show ((0 + 1) : Int32) = 1 from by decide]
  refine wp_icmp_f rfl (show ¬ (2 ≤ (1 : Int32)) from by decide) ?_
  refine wp_run 1 (pc' := 107) (ls' := [.ref 1, .ref 24, .int 1]) (st' := [.ref 1]) rfl ?_
  refine wp_getr 13 rfl rfl rfl ?_
  refine wp_run 1 (pc' := 111) (ls' := [.ref 1, .ref 24, .int 1]) (st' := [.int 1, .ref 13]) rfl ?_
  refine wp_aald (r := 19) rfl rfl (Or.inl rfl) rfl (by decide) rfl rfl ?_
  refine wp_run 1 (pc' := 113) (ls' := [.ref 1, .ref 24, .int 1]) (st' := [.ref 24, .ref 19]) rfl ?_
  refine wp_getr 36 rfl rfl rfl ?_
  refine wp_run 1 (pc' := 117) (ls' := [.ref 1, .ref 24, .int 1]) (st' := [.int 1, .ref 36, .ref 19]) rfl ?_
  refine wp_aald (r := 42) rfl rfl (Or.inl rfl) rfl (by decide) rfl rfl ?_
  refine wp_callV (o := 19) (as := [.ref 42]) (rest := []) (els := [.ref 19, .ref 42]) rfl rfl rfl rfl rfl rfl rfl rfl (by omega) ?_
  refine wp_run 1 (pc' := 1) (ls' := [.ref 19, .ref 42]) (st' := [.ref 19]) rfl ?_
  refine wp_getr 20 rfl rfl rfl ?_
  refine wp_run 1 (pc' := 5) (ls' := [.ref 19, .ref 42]) (st' := [.ref 42, .ref 20]) rfl ?_
  refine wp_getr 43 rfl rfl rfl ?_
  refine wp_callV (o := 20) (as := [.ref 43]) (rest := []) (els := [.ref 20, .ref 43, am_du]) rfl rfl rfl rfl rfl rfl rfl rfl (by omega) ?_
  refine sp_icopy2 (h := (am_u (am_ov (am_ov (am_ov (am_ov (am_ov (am_ov (am_ov (am_ov (am_ov (am_ov h [2] ga1) [3] ga2) [4] ga3) [5] ga4) [6] ga5) [7] ga6) [8] ga7) [9, 10] gb1) [11, 12] gb2) [15, 16] gb3) 14 4 s0)) (o := 20) (p := 43) (cap := 60) (cap2 := 60) (k := p1.length) rfl rfl rfl rfl rfl rfl rfl rfl (by decide) (by decide) (by decide) H.2.2.2.2.2.2.2.2.2.2.2.1.1 (by omega) (by omega) (by omega) (fun gb4 fb4 fd4 => ?_)
  show am_wp L xs _ _ _ _ 11 [.ref 19, .ref 42] [] (am_S b) (am_ov (am_u (am_ov (am_ov (am_ov (am_ov (am_ov (am_ov (am_ov (am_ov (am_ov (am_ov h [2] ga1) [3] ga2) [4] ga3) [5] ga4) [6] ga5) [7] ga6) [8] ga7) [9, 10] gb1) [11, 12] gb2) [15, 16] gb3) 14 4 s0) [20, 21] gb4) _
  refine wp_run 2 (pc' := 13) (ls' := [.ref 19, .ref 42]) (st' := [.ref 42, .ref 19]) rfl ?_
  refine wp_geti (a := 4) s1 H.2.2.2.2.2.2.2.2.2.2.2.1.2.2.2.2.2.1 rfl rfl rfl ?_
  refine wp_putz rfl (re_s01 H.2.2.2.2.2.2.2.2.2.2.2) rfl ?_
  refine wp_retv rfl ?_
  show am_wp L xs _ _ _ _ 121 [.ref 1, .ref 24, .int 1] [] (am_S b) (am_u (am_ov (am_u (am_ov (am_ov (am_ov (am_ov (am_ov (am_ov (am_ov (am_ov (am_ov (am_ov h [2] ga1) [3] ga2) [4] ga3) [5] ga4) [6] ga5) [7] ga6) [8] ga7) [9, 10] gb1) [11, 12] gb2) [15, 16] gb3) 14 4 s0) [20, 21] gb4) 19 4 s1) _
  refine wp_run 4 (pc' := 103) (ls' := [.ref 1, .ref 24, .int (1 + 1)]) (st' := [.int 2, .int (1 + 1)]) rfl ?_
  rw [show ((1 + 1) : Int32) = 2 from by decide]
  refine wp_icmp_t rfl (show 2 ≤ (2 : Int32) from by decide) ?_
  refine wp_run 2 (pc' := 129) (ls' := [.ref 1, .ref 24, .int 2]) (st' := [.ref 24, .ref 1]) rfl ?_
  refine wp_geti (a := 10) (nI n) H.1.1 rfl rfl rfl ?_
  refine wp_puti rfl rfl ?_
  refine wp_run 2 (pc' := 137) (ls' := [.ref 1, .ref 24, .int 2]) (st' := [.ref 24, .ref 1]) rfl ?_
  refine wp_geti (a := 11) (nI c) H.2.1.1 rfl rfl rfl ?_
  refine wp_puti rfl rfl ?_
  refine wp_run 2 (pc' := 145) (ls' := [.ref 1, .ref 24, .int 2]) (st' := [.ref 24, .ref 1]) rfl ?_
  refine wp_geti (a := 12) (nI t) H.2.2.1.1 rfl rfl rfl ?_
  refine wp_puti rfl rfl ?_
  refine wp_run 2 (pc' := 153) (ls' := [.ref 1, .ref 24, .int 2]) (st' := [.ref 24, .ref 1]) rfl ?_
  refine wp_geti (a := 13) (h 24 13) rfl rfl rfl rfl ?_
  refine wp_puti rfl rfl ?_
  refine wp_run 2 (pc' := 161) (ls' := [.ref 1, .ref 24, .int 2]) (st' := [.ref 24, .ref 1]) rfl ?_
  refine wp_geti (a := 14) (h 24 14) rfl rfl rfl rfl ?_
  refine wp_puti rfl rfl ?_
  refine wp_retv rfl ?_
  have R9 : re_house n c t tp wt s0 s1 p0 p1 ((am_u (am_u (am_u (am_u (am_u (am_u (am_ov (am_u (am_ov (am_ov (am_ov (am_ov (am_ov (am_ov (am_ov (am_ov (am_ov (am_ov h [2] ga1) [3] ga2) [4] ga3) [5] ga4) [6] ga5) [7] ga6) [8] ga7) [9, 10] gb1) [11, 12] gb2) [15, 16] gb3) 14 4 s0) [20, 21] gb4) 19 4 s1) 1 10 (nI n)) 1 11 (nI c)) 1 12 (nI t)) 1 13 (h 24 13)) 1 14 (h 24 14)) 1) ((am_u (am_u (am_u (am_u (am_u (am_u (am_ov (am_u (am_ov (am_ov (am_ov (am_ov (am_ov (am_ov (am_ov (am_ov (am_ov (am_ov h [2] ga1) [3] ga2) [4] ga3) [5] ga4) [6] ga5) [7] ga6) [8] ga7) [9, 10] gb1) [11, 12] gb2) [15, 16] gb3) 14 4 s0) [20, 21] gb4) 19 4 s1) 1 10 (nI n)) 1 11 (nI c)) 1 12 (nI t)) 1 13 (h 24 13)) 1 14 (h 24 14)) 2) ((am_u (am_u (am_u (am_u (am_u (am_u (am_ov (am_u (am_ov (am_ov (am_ov (am_ov (am_ov (am_ov (am_ov (am_ov (am_ov (am_ov h [2] ga1) [3] ga2) [4] ga3) [5] ga4) [6] ga5) [7] ga6) [8] ga7) [9, 10] gb1) [11, 12] gb2) [15, 16] gb3) 14 4 s0) [20, 21] gb4) 19 4 s1) 1 10 (nI n)) 1 11 (nI c)) 1 12 (nI t)) 1 13 (h 24 13)) 1 14 (h 24 14)) 3) ((am_u (am_u (am_u (am_u (am_u (am_u (am_ov (am_u (am_ov (am_ov (am_ov (am_ov (am_ov (am_ov (am_ov (am_ov (am_ov (am_ov h [2] ga1) [3] ga2) [4] ga3) [5] ga4) [6] ga5) [7] ga6) [8] ga7) [9, 10] gb1) [11, 12] gb2) [15, 16] gb3) 14 4 s0) [20, 21] gb4) 19 4 s1) 1 10 (nI n)) 1 11 (nI c)) 1 12 (nI t)) 1 13 (h 24 13)) 1 14 (h 24 14)) 4) ((am_u (am_u (am_u (am_u (am_u (am_u (am_ov (am_u (am_ov (am_ov (am_ov (am_ov (am_ov (am_ov (am_ov (am_ov (am_ov (am_ov h [2] ga1) [3] ga2) [4] ga3) [5] ga4) [6] ga5) [7] ga6) [8] ga7) [9, 10] gb1) [11, 12] gb2) [15, 16] gb3) 14 4 s0) [20, 21] gb4) 19 4 s1) 1 10 (nI n)) 1 11 (nI c)) 1 12 (nI t)) 1 13 (h 24 13)) 1 14 (h 24 14)) 5) ((am_u (am_u (am_u (am_u (am_u (am_u (am_ov (am_u (am_ov (am_ov (am_ov (am_ov (am_ov (am_ov (am_ov (am_ov (am_ov (am_ov h [2] ga1) [3] ga2) [4] ga3) [5] ga4) [6] ga5) [7] ga6) [8] ga7) [9, 10] gb1) [11, 12] gb2) [15, 16] gb3) 14 4 s0) [20, 21] gb4) 19 4 s1) 1 10 (nI n)) 1 11 (nI c)) 1 12 (nI t)) 1 13 (h 24 13)) 1 14 (h 24 14)) 6) ((am_u (am_u (am_u (am_u (am_u (am_u (am_ov (am_u (am_ov (am_ov (am_ov (am_ov (am_ov (am_ov (am_ov (am_ov (am_ov (am_ov h [2] ga1) [3] ga2) [4] ga3) [5] ga4) [6] ga5) [7] ga6) [8] ga7) [9, 10] gb1) [11, 12] gb2) [15, 16] gb3) 14 4 s0) [20, 21] gb4) 19 4 s1) 1 10 (nI n)) 1 11 (nI c)) 1 12 (nI t)) 1 13 (h 24 13)) 1 14 (h 24 14)) 7) ((am_u (am_u (am_u (am_u (am_u (am_u (am_ov (am_u (am_ov (am_ov (am_ov (am_ov (am_ov (am_ov (am_ov (am_ov (am_ov (am_ov h [2] ga1) [3] ga2) [4] ga3) [5] ga4) [6] ga5) [7] ga6) [8] ga7) [9, 10] gb1) [11, 12] gb2) [15, 16] gb3) 14 4 s0) [20, 21] gb4) 19 4 s1) 1 10 (nI n)) 1 11 (nI c)) 1 12 (nI t)) 1 13 (h 24 13)) 1 14 (h 24 14)) 8) ((am_u (am_u (am_u (am_u (am_u (am_u (am_ov (am_u (am_ov (am_ov (am_ov (am_ov (am_ov (am_ov (am_ov (am_ov (am_ov (am_ov h [2] ga1) [3] ga2) [4] ga3) [5] ga4) [6] ga5) [7] ga6) [8] ga7) [9, 10] gb1) [11, 12] gb2) [15, 16] gb3) 14 4 s0) [20, 21] gb4) 19 4 s1) 1 10 (nI n)) 1 11 (nI c)) 1 12 (nI t)) 1 13 (h 24 13)) 1 14 (h 24 14)) 9) ((am_u (am_u (am_u (am_u (am_u (am_u (am_ov (am_u (am_ov (am_ov (am_ov (am_ov (am_ov (am_ov (am_ov (am_ov (am_ov (am_ov h [2] ga1) [3] ga2) [4] ga3) [5] ga4) [6] ga5) [7] ga6) [8] ga7) [9, 10] gb1) [11, 12] gb2) [15, 16] gb3) 14 4 s0) [20, 21] gb4) 19 4 s1) 1 10 (nI n)) 1 11 (nI c)) 1 12 (nI t)) 1 13 (h 24 13)) 1 14 (h 24 14)) 10) ((am_u (am_u (am_u (am_u (am_u (am_u (am_ov (am_u (am_ov (am_ov (am_ov (am_ov (am_ov (am_ov (am_ov (am_ov (am_ov (am_ov h [2] ga1) [3] ga2) [4] ga3) [5] ga4) [6] ga5) [7] ga6) [8] ga7) [9, 10] gb1) [11, 12] gb2) [15, 16] gb3) 14 4 s0) [20, 21] gb4) 19 4 s1) 1 10 (nI n)) 1 11 (nI c)) 1 12 (nI t)) 1 13 (h 24 13)) 1 14 (h 24 14)) 11) ((am_u (am_u (am_u (am_u (am_u (am_u (am_ov (am_u (am_ov (am_ov (am_ov (am_ov (am_ov (am_ov (am_ov (am_ov (am_ov (am_ov h [2] ga1) [3] ga2) [4] ga3) [5] ga4) [6] ga5) [7] ga6) [8] ga7) [9, 10] gb1) [11, 12] gb2) [15, 16] gb3) 14 4 s0) [20, 21] gb4) 19 4 s1) 1 10 (nI n)) 1 11 (nI c)) 1 12 (nI t)) 1 13 (h 24 13)) 1 14 (h 24 14)) 12) ((am_u (am_u (am_u (am_u (am_u (am_u (am_ov (am_u (am_ov (am_ov (am_ov (am_ov (am_ov (am_ov (am_ov (am_ov (am_ov (am_ov h [2] ga1) [3] ga2) [4] ga3) [5] ga4) [6] ga5) [7] ga6) [8] ga7) [9, 10] gb1) [11, 12] gb2) [15, 16] gb3) 14 4 s0) [20, 21] gb4) 19 4 s1) 1 10 (nI n)) 1 11 (nI c)) 1 12 (nI t)) 1 13 (h 24 13)) 1 14 (h 24 14)) 14) ((am_u (am_u (am_u (am_u (am_u (am_u (am_ov (am_u (am_ov (am_ov (am_ov (am_ov (am_ov (am_ov (am_ov (am_ov (am_ov (am_ov h [2] ga1) [3] ga2) [4] ga3) [5] ga4) [6] ga5) [7] ga6) [8] ga7) [9, 10] gb1) [11, 12] gb2) [15, 16] gb3) 14 4 s0) [20, 21] gb4) 19 4 s1) 1 10 (nI n)) 1 11 (nI c)) 1 12 (nI t)) 1 13 (h 24 13)) 1 14 (h 24 14)) 15) ((am_u (am_u (am_u (am_u (am_u (am_u (am_ov (am_u (am_ov (am_ov (am_ov (am_ov (am_ov (am_ov (am_ov (am_ov (am_ov (am_ov h [2] ga1) [3] ga2) [4] ga3) [5] ga4) [6] ga5) [7] ga6) [8] ga7) [9, 10] gb1) [11, 12] gb2) [15, 16] gb3) 14 4 s0) [20, 21] gb4) 19 4 s1) 1 10 (nI n)) 1 11 (nI c)) 1 12 (nI t)) 1 13 (h 24 13)) 1 14 (h 24 14)) 16) ((am_u (am_u (am_u (am_u (am_u (am_u (am_ov (am_u (am_ov (am_ov (am_ov (am_ov (am_ov (am_ov (am_ov (am_ov (am_ov (am_ov h [2] ga1) [3] ga2) [4] ga3) [5] ga4) [6] ga5) [7] ga6) [8] ga7) [9, 10] gb1) [11, 12] gb2) [15, 16] gb3) 14 4 s0) [20, 21] gb4) 19 4 s1) 1 10 (nI n)) 1 11 (nI c)) 1 12 (nI t)) 1 13 (h 24 13)) 1 14 (h 24 14)) 19) ((am_u (am_u (am_u (am_u (am_u (am_u (am_ov (am_u (am_ov (am_ov (am_ov (am_ov (am_ov (am_ov (am_ov (am_ov (am_ov (am_ov h [2] ga1) [3] ga2) [4] ga3) [5] ga4) [6] ga5) [7] ga6) [8] ga7) [9, 10] gb1) [11, 12] gb2) [15, 16] gb3) 14 4 s0) [20, 21] gb4) 19 4 s1) 1 10 (nI n)) 1 11 (nI c)) 1 12 (nI t)) 1 13 (h 24 13)) 1 14 (h 24 14)) 20) ((am_u (am_u (am_u (am_u (am_u (am_u (am_ov (am_u (am_ov (am_ov (am_ov (am_ov (am_ov (am_ov (am_ov (am_ov (am_ov (am_ov h [2] ga1) [3] ga2) [4] ga3) [5] ga4) [6] ga5) [7] ga6) [8] ga7) [9, 10] gb1) [11, 12] gb2) [15, 16] gb3) 14 4 s0) [20, 21] gb4) 19 4 s1) 1 10 (nI n)) 1 11 (nI c)) 1 12 (nI t)) 1 13 (h 24 13)) 1 14 (h 24 14)) 21) m := by
    refine ⟨?_, ?_, ?_, ?_, ?_, ?_, ?_, ?_, ?_, ?_, ?_, ?_⟩
    · exact ⟨rfl, H.1.2.1, H.1.2.2⟩
    · exact ⟨rfl, H.2.1.2.1, H.2.1.2.2⟩
    · exact ⟨rfl, H.2.2.1.2.1, H.2.2.1.2.2⟩
    · exact ⟨H.2.2.2.1.1, H.2.2.2.1.2⟩
    · exact fun g hg => ⟨(fa1 g hg).trans (H.2.2.2.2.1 g hg).1, (fa2 g hg).trans (H.2.2.2.2.1 g hg).2.1, (fa3 g hg).trans (H.2.2.2.2.1 g hg).2.2.1, (fa4 g hg).trans (H.2.2.2.2.1 g hg).2.2.2⟩
    · exact fun g hg => ⟨(fa5 g hg).trans (H.2.2.2.2.2.1 g hg).1, (fa6 g hg).trans (H.2.2.2.2.2.1 g hg).2.1, (fa7 g hg).trans (H.2.2.2.2.2.1 g hg).2.2⟩
    · exact fun g hg => by obtain ⟨⟨a1, a2, a3⟩, ⟨a4, a5, a6⟩, ⟨a7, a8, a9⟩, q⟩ := H.2.2.2.2.2.2.1 g hg; exact ⟨⟨a1, a2, (fa1 g (by omega)).trans a3⟩, ⟨a4, a5, (fa2 g (by omega)).trans a6⟩, ⟨a7, a8, (fa3 g (by omega)).trans a9⟩, q.elim (fun q => Or.inl ((fa4 g (by omega)).trans q)) (fun ⟨j, hj, q⟩ => Or.inr ⟨j, hj, (fa4 g (by omega)).trans q⟩)⟩
    · exact fun j hj => by obtain ⟨⟨a1, a2, a3⟩, ⟨a4, a5, a6⟩, q⟩ := H.2.2.2.2.2.2.2.1 j hj; exact ⟨⟨a1, a2, (fa5 j (by omega)).trans a3⟩, ⟨a4, a5, (fa6 j (by omega)).trans a6⟩, q.elim (fun q => Or.inl ((fa7 j (by omega)).trans q)) (fun ⟨g, hg, q⟩ => Or.inr ⟨g, hg, (fa7 j (by omega)).trans q⟩)⟩
    · exact ⟨fb1, H.2.2.2.2.2.2.2.2.1.2.1, H.2.2.2.2.2.2.2.2.1.2.2.1, fun i hi => (fd1 i hi).trans (H.2.2.2.2.2.2.2.2.1.2.2.2 i hi)⟩
    · exact ⟨fb2, H.2.2.2.2.2.2.2.2.2.1.2.1, H.2.2.2.2.2.2.2.2.2.1.2.2.1, fun i hi => (fd2 i hi).trans (H.2.2.2.2.2.2.2.2.2.1.2.2.2 i hi)⟩
    · exact ⟨⟨fb3, fun j hj => (fd3 j hj).trans (H.2.2.2.2.2.2.2.2.2.2.1.1.2.1 j hj), H.2.2.2.2.2.2.2.2.2.2.1.1.2.2.1, b0, b1, rfl, H.2.2.2.2.2.2.2.2.2.2.1.1.2.2.2.2.2.2⟩, H.2.2.2.2.2.2.2.2.2.2.1.2⟩
    · exact ⟨⟨fb4, fun j hj => (fd4 j hj).trans (H.2.2.2.2.2.2.2.2.2.2.2.1.2.1 j hj), H.2.2.2.2.2.2.2.2.2.2.2.1.2.2.1, b2, b3, rfl, H.2.2.2.2.2.2.2.2.2.2.2.1.2.2.2.2.2.2⟩, H.2.2.2.2.2.2.2.2.2.2.2.2⟩
  refine am_gen_q (P := fun X => Q none (am_S b) X) (fun X hX => ?_)
  show Q none (am_S b) X
  have eX : X = am_ov h [1, 2, 3, 4, 5, 6, 7, 8, 9, 10, 11, 12, 14, 15, 16, 19, 20, 21] X := am_ov_of (fun a ha => by rw [hX]; rw [am_u_off _ _ _ (am_nel ha rfl), am_u_off _ _ _ (am_nel ha rfl), am_u_off _ _ _ (am_nel ha rfl), am_u_off _ _ _ (am_nel ha rfl), am_u_off _ _ _ (am_nel ha rfl), am_u_off _ _ _ (am_nel ha rfl), am_ov_off (am_sub ha rfl), am_u_off _ _ _ (am_nel ha rfl), am_ov_off (am_sub ha rfl), am_ov_off (am_sub ha rfl), am_ov_off (am_sub ha rfl), am_ov_off (am_sub ha rfl), am_ov_off (am_sub ha rfl), am_ov_off (am_sub ha rfl), am_ov_off (am_sub ha rfl), am_ov_off (am_sub ha rfl), am_ov_off (am_sub ha rfl), am_ov_off (am_sub ha rfl)])
  rw [eX]
  exact kk X (by rw [hX]; exact R9)
