/-! calls tied: feed -/
def fe_r (r : Nat → Int32) (w : Int64) (p : Nat) : Nat → Nat → Int32
  | 0 => r
  | i + 1 => upd (fe_r r w p i) (p + i) (fe_b w i)
theorem fe_lo {r : Nat → Int32} {w : Int64} {p j : Nat} : ∀ i, (j < p ∨ p + i ≤ j) → fe_r r w p i j = r j
  | 0, _ => rfl
  | i + 1, h => by
    show upd (fe_r r w p i) (p + i) (fe_b w i) j = _
    rw [pk_un (by omega)]
    exact fe_lo i (by omega)
theorem fe_hi {r : Nat → Int32} {w : Int64} {p q : Nat} : ∀ i, q < i → fe_r r w p i (p + q) = fe_b w q
  | 0, h => by omega
  | i + 1, h => by
    show upd (fe_r r w p i) (p + i) (fe_b w i) (p + q) = _
    by_cases e : q = i
    · rw [e, pk_us]
    · rw [pk_un (by omega)]
      exact fe_hi i (by omega)
theorem am_sk_self {h : am_HI} {k n : Nat} (e : h k 1 = nI n) : am_sk h k (h (k + 1)) n = h := by
  funext a j
  unfold am_sk am_u am_ur
  by_cases e1 : a = k
  · subst e1
    rw [if_pos rfl]
    unfold upd
    by_cases e3 : j = 1
    · rw [if_pos e3, e3, e]
    · rw [if_neg e3, if_neg (by omega)]
  · rw [if_neg e1]
    by_cases e2 : a = k + 1
    · rw [if_pos e2, e2]
    · rw [if_neg e2]
def fe_m (m : Nat → Int32) (w : Int64) (p i : Nat) : Nat → Int32 := upd (fe_r m w (56 + p) i) 5 (nI (p + i))
theorem fe_m_s {m : Nat → Int32} {w : Int64} {p i : Nat} : upd (upd (fe_m m w p i) (56 + (p + i)) (fe_b w i)) 5 (nI (p + i + 1)) = fe_m m w p (i + 1) := by
  unfold fe_m
  rw [ab_uw _ (show (5 : Nat) ≠ 56 + (p + i) by omega), ab_ut, ← Nat.add_assoc 56 p i]
  rfl
theorem fe_m_0 {m : Nat → Int32} {w : Int64} {p : Nat} (h : m 5 = nI p) : fe_m m w p 0 = m := ab_us h
theorem fe_m_off {m : Nat → Int32} {w : Int64} {p i j : Nat} (h5 : j ≠ 5) (h : j < 56 ∨ 116 ≤ j) (hp : p + i ≤ 60) : fe_m m w p i j = m j := by
  unfold fe_m
  rw [pk_un h5]
  exact fe_lo i (by omega)
theorem fe_m_at {m : Nat → Int32} {w : Int64} {p i j : Nat} : fe_m m w p i (56 + j) = fe_r m w (56 + p) i (56 + j) := by
  unfold fe_m
  rw [pk_un (by omega)]
theorem lp_feed {L : Nat} {xs : Nat → Int32} {d ms b : Nat} {h : am_HI} {Q : am_Q} {w : Int64} {p k : Nat} (hk : k ≤ 8) (hp : p + k ≤ 60) (hd : 2 ≤ d) (kk : am_wp L xs d 0 ms 47 76 [.ref 0, .long w, am_du, .int (nI k), .int (nI k)] [] (am_S b) (am_sk h 9 (fe_r (h 10) w p k) (p + k)) Q) :
    ∀ (m i : Nat), i + m = k → am_wp L xs d 0 ms 47 42 [.ref 0, .long w, am_du, .int (nI k), .int (nI i)] [] (am_S b) (am_sk h 9 (fe_r (h 10) w p i) (p + i)) Q := by
  intro m
  induction m with
  | zero =>
    intro i hi
    have e9 : i = k := by omega
    rw [e9]
    refine wp_run 2 (pc' := 45) (ls' := [.ref 0, .long w, am_du, .int (nI k), .int (nI k)]) (st' := [.int (nI k), .int (nI k)]) rfl ?_
    refine wp_icmp_t rfl (show (nI k) ≤ (nI k) from (nI_leI (a := k) (b := k) (by omega) (by omega)).mpr (by omega)) ?_
    exact kk
  | succ m ih =>
    intro i hi
    refine wp_run 2 (pc' := 45) (ls' := [.ref 0, .long w, am_du, .int (nI k), .int (nI i)]) (st' := [.int (nI k), .int (nI i)]) rfl ?_
    refine wp_icmp_f rfl (show ¬ ((nI k) ≤ (nI i)) from mt (nI_leI (a := k) (b := i) (by omega) (by omega)).mp (by omega)) ?_
    refine wp_run 1 (pc' := 49) (ls' := [.ref 0, .long w, am_du, .int (nI k), .int (nI i)]) (st' := [.ref 0]) rfl ?_
    refine wp_getr 1 rfl rfl rfl ?_
    refine wp_getr 9 rfl rfl rfl ?_
    refine wp_run 8 (pc' := 67) (ls' := [.ref 0, .long w, am_du, .int (nI k), .int (nI i)]) (st' := [.int ((Int64.toInt32 (am_lushr w (8 * (nI i)))) &&& 255), .ref 9]) rfl ?_
    rw [show ((8 * (nI i)) : Int32) = (nI (8 * i)) from pk_mul 8 i]
    refine wp_callV (o := 9) (as := [.int ((Int64.toInt32 (am_lushr w (nI (8 * i)))) &&& 255)]) (rest := []) (els := [.ref 9, .int ((Int64.toInt32 (am_lushr w (nI (8 * i)))) &&& 255)]) rfl rfl rfl rfl rfl rfl rfl rfl (by omega) ?_
    refine sp_push (o := 9) (cap := 60) (n := p + i) rfl rfl rfl rfl (am_sk_n h 9 _ _) (by omega) ?_
    rw [am_sk_push]
    show am_wp L xs _ _ _ _ 70 [.ref 0, .long w, am_du, .int (nI k), .int (nI i)] [] (am_S b) (am_sk h 9 (fe_r (h 10) w p (i + 1)) (p + i + 1)) _
    refine wp_run 2 (pc' := 42) (ls' := [.ref 0, .long w, am_du, .int (nI k), .int ((nI i) + 1)]) (st' := []) rfl ?_
    rw [show (((nI i) + 1) : Int32) = (nI (i + 1)) from nI_add i 1]
    exact ih (i + 1) (by omega)
theorem lp_m_feed {L : Nat} {xs : Nat → Int32} {d ms b : Nat} {h : am_HI} {Q : am_Q} {w : Int64} {p k : Nat} (hk : k ≤ 8) (hp : p + k ≤ 60) (hd : 2 ≤ d) (kk : am_wp L xs d 0 ms 161 88 [.ref 74, .long w, am_du, .int (nI k), .int (nI k)] [] (am_S b) (am_ur h 75 (fe_m (h 75) w p k)) Q) :
    ∀ (m i : Nat), i + m = k → am_wp L xs d 0 ms 161 40 [.ref 74, .long w, am_du, .int (nI k), .int (nI i)] [] (am_S b) (am_ur h 75 (fe_m (h 75) w p i)) Q := by
  intro m
  induction m with
  | zero =>
    intro i hi
    have e9 : i = k := by omega
    rw [e9]
    refine wp_run 2 (pc' := 43) (ls' := [.ref 74, .long w, am_du, .int (nI k), .int (nI k)]) (st' := [.int (nI k), .int (nI k)]) rfl ?_
    refine wp_icmp_t rfl (show (nI k) ≤ (nI k) from (nI_leI (a := k) (b := k) (by omega) (by omega)).mpr (by omega)) ?_
    exact kk
  | succ m ih =>
    intro i hi
    refine wp_run 2 (pc' := 43) (ls' := [.ref 74, .long w, am_du, .int (nI k), .int (nI i)]) (st' := [.int (nI k), .int (nI i)]) rfl ?_
    refine wp_icmp_f rfl (show ¬ ((nI k) ≤ (nI i)) from mt (nI_leI (a := k) (b := i) (by omega) (by omega)).mp (by omega)) ?_
    refine wp_run 1 (pc' := 47) (ls' := [.ref 74, .long w, am_du, .int (nI k), .int (nI i)]) (st' := [.ref 74]) rfl ?_
    refine wp_getr 75 rfl rfl rfl ?_
    refine wp_run 2 (pc' := 53) (ls' := [.ref 74, .long w, am_du, .int (nI k), .int (nI i)]) (st' := [.ref 74, .int 56, .ref 75]) rfl ?_
    refine wp_getr 75 rfl rfl rfl ?_
    refine wp_run 1 (pc' := 57) (ls' := [.ref 74, .long w, am_du, .int (nI k), .int (nI i)]) (st' := [.int 5, .ref 75, .int 56, .ref 75]) rfl ?_
    refine wp_ald (i := 5) (nI (p + i)) (show fe_m (h 75) w p i 5 = nI (p + i) from pk_us) rfl rfl rfl (by decide) rfl ?_
    refine wp_run 9 (pc' := 71) (ls' := [.ref 74, .long w, am_du, .int (nI k), .int (nI i)]) (st' := [.int (Int64.toInt32 ((w >>> (Int32.toInt64 (8 * (nI i)) &&& 63)) &&& (Int64.ofNat 255))), .int (56 + (nI (p + i))), .ref 75]) rfl ?_
    rw [show ((8 * (nI i)) : Int32) = (nI (8 * i)) from pk_mul 8 i]
    rw [show ((56 + (nI (p + i))) : Int32) = (nI (56 + (p + i))) from nI_add 56 (p + i)]
    rw [show ((Int64.toInt32 ((w >>> (Int32.toInt64 (nI (8 * i)) &&& 63)) &&& (Int64.ofNat 255))) : Int32) = fe_b w i from fe_eq w i (by omega)]
    refine wp_ast rfl rfl rfl (by omega) rfl ?_
    refine wp_run 1 (pc' := 73) (ls' := [.ref 74, .long w, am_du, .int (nI k), .int (nI i)]) (st' := [.ref 74]) rfl ?_
    refine wp_getr 75 rfl rfl rfl ?_
    refine wp_run 2 (pc' := 78) (ls' := [.ref 74, .long w, am_du, .int (nI k), .int (nI i)]) (st' := [.int 5, .ref 75, .int 5, .ref 75]) rfl ?_
    refine wp_ald (i := 5) (nI (p + i)) (show upd (fe_m (h 75) w p i) (56 + (p + i)) (fe_b w i) 5 = nI (p + i) from (pk_un (by omega)).trans pk_us) rfl rfl rfl (by decide) rfl ?_
    refine wp_run 2 (pc' := 81) (ls' := [.ref 74, .long w, am_du, .int (nI k), .int (nI i)]) (st' := [.int ((nI (p + i)) + 1), .int 5, .ref 75]) rfl ?_
    rw [show (((nI (p + i)) + 1) : Int32) = (nI ((p + i) + 1)) from nI_add (p + i) 1]
    refine wp_ast rfl rfl rfl (by decide) rfl ?_
    refine wp_run 2 (pc' := 40) (ls' := [.ref 74, .long w, am_du, .int (nI k), .int ((nI i) + 1)]) (st' := []) rfl ?_
    rw [show (((nI i) + 1) : Int32) = (nI (i + 1)) from nI_add i 1]
    rw [am_ur_u, am_ur_u, fe_m_s]
    exact ih (i + 1) (by omega)
theorem op_feed {L : Nat} {xs : Nat → Int32} {d ms b N : Nat} {h : am_HI} {Q : am_Q} {x1 : Int64} {x2 : Int32} (hd : 30 ≤ d) (hR : am_Rel N h) (hN : N < 100000)
    (kk : ∀ v b1 h1, (∀ ms2 Q2, (∀ b2 h2, am_Rel (N + 1) h2 → Q2 (some (.int v)) (am_S b2) h2) → am_wp L xs d 0 ms2 161 0 [.ref 74, .long x1, am_du, .int x2, am_du] [] (am_S b1) h1 Q2) → Q (some (.int v)) (am_S b1) h1) :
    am_wp L xs d 0 ms 47 0 [.ref 0, .long x1, am_du, .int x2, am_du] [] (am_S b) h Q := by
  obtain ⟨⟨n, c, t, tp, wt, s0, s1, p0, p1, H⟩, hI, hE, hS0, hS1, hS2, hS3, hT⟩ := id hR
  have hn := H.1.1
  have hm2 := H.1.2.1
  have hn7 := H.1.2.2
  have hc := H.2.1.1
  have hm3 := H.2.1.2.1
  have hc7 := H.2.1.2.2
  have ht := H.2.2.1.1
  have hm0 := H.2.2.1.2.1
  have ht9 := H.2.2.1.2.2
  have HS := re_hs H
  have HM := re_ms H
  have htp : tp ≤ 60 := H.2.2.2.2.2.2.2.2.1.2.2.1
  refine wp_run 3 (pc' := 4) (ls' := [.ref 0, .long x1, am_du, .int x2, am_du]) (st' := [.int 8, .int 1, .int x2]) rfl ?_
  refine wp_callS (as := [.int x2, .int 1, .int 8]) (rest := []) (els := [.int x2, .int 1, .int 8]) rfl rfl rfl rfl rfl rfl rfl rfl (by omega) ?_
  refine sp_x_btw (m := 8) rfl rfl rfl ?_ ?_
  · skip
    intro kx2 hk1x2 hkx2 ex2
    subst ex2
    show am_wp L xs _ _ _ _ 7 [.ref 0, .long x1, am_du, .int (nI kx2), am_du] [.int 1] (am_S b) h _
    refine wp_if_t rfl (show ¬ (1 : Int32) = 0 from by decide) ?_
    refine wp_run 1 (pc' := 17) (ls' := [.ref 0, .long x1, am_du, .int (nI kx2), am_du]) (st' := [.ref 0]) rfl ?_
    refine wp_getr 1 rfl rfl rfl ?_
    refine wp_getr 9 rfl rfl rfl ?_
    refine wp_geti (a := 1) (nI tp) H.2.2.2.2.2.2.2.2.1.1 rfl rfl rfl ?_
    refine wp_run 3 (pc' := 30) (ls' := [.ref 0, .long x1, am_du, .int (nI kx2), am_du]) (st' := [.int 60, .int ((nI tp) + (nI kx2))]) rfl ?_
    rw [show (((nI tp) + (nI kx2)) : Int32) = (nI (tp + kx2)) from nI_add tp kx2]
    refine wp_icmp rfl (fun (cq30 : (nI (tp + kx2)) ≤ 60) => ?_) (fun (cq30 : ¬ ((nI (tp + kx2)) ≤ 60)) => ?_)
    · skip
      have cq30n : (tp + kx2) ≤ 60 := (nI_leI (a := (tp + kx2)) (b := 60) (by omega) (by omega)).mp cq30
      refine wp_run 2 (pc' := 42) (ls' := [.ref 0, .long x1, am_du, .int (nI kx2), .int 0]) (st' := []) rfl ?_
      have hp := fun kq => lp_feed (L := L) (xs := xs) (d := d) (ms := ms) (b := b) (h := h) (Q := Q) (w := x1) (p := tp) (k := kx2) (by omega) (by omega) (by omega) kq kx2 0 (by omega)
      rw [show am_sk h 9 (fe_r (h 10) x1 tp 0) (tp + 0) = h from am_sk_self H.2.2.2.2.2.2.2.2.1.1] at hp
      refine hp ?_
      refine wp_run 1 (pc' := 77) (ls' := [.ref 0, .long x1, am_du, .int (nI kx2), .int (nI kx2)]) (st' := [.ref 0]) rfl ?_
      refine wp_getr 1 rfl rfl rfl ?_
      refine wp_getr 9 rfl rfl rfl ?_
      refine wp_geti (a := 1) (nI (tp + kx2)) (am_sk_n h 9 _ _) rfl rfl rfl ?_
      refine wp_ret rfl ?_
      refine kk _ _ _ (fun ms2 Q2 kk2 => ?_)
      refine wp_run 3 (pc' := 4) (ls' := [.ref 74, .long x1, am_du, .int (nI kx2), am_du]) (st' := [.int 8, .int 1, .int (nI kx2)]) rfl ?_
      refine wp_callS (as := [.int (nI kx2), .int 1, .int 8]) (rest := []) (els := [.int (nI kx2), .int 1, .int 8]) rfl rfl rfl rfl rfl rfl rfl rfl (by omega) ?_
      refine sp_m_btw (m := 8) rfl rfl rfl (fun _ _ _ _ => ?_) (fun q => absurd rfl (q kx2 (by omega) (by omega)))
      show am_wp L xs _ _ _ _ 7 [.ref 74, .long x1, am_du, .int (nI kx2), am_du] [.int 1] (am_S b) (am_sk h 9 (fe_r (h 10) x1 tp kx2) (tp + kx2)) _
      refine wp_if_t rfl (show ¬ (1 : Int32) = 0 from by decide) ?_
      refine wp_run 1 (pc' := 18) (ls' := [.ref 74, .long x1, am_du, .int (nI kx2), am_du]) (st' := [.ref 74]) rfl ?_
      refine wp_getr 75 rfl rfl rfl ?_
      refine wp_run 1 (pc' := 22) (ls' := [.ref 74, .long x1, am_du, .int (nI kx2), am_du]) (st' := [.int 5, .ref 75]) rfl ?_
      refine wp_ald (i := 5) (nI tp) (show (am_sk h 9 (fe_r (h 10) x1 tp kx2) (tp + kx2)) 75 5 = nI tp from H.2.2.2.2.2.2.2.2.1.2.1) rfl rfl rfl (by decide) rfl ?_
      refine wp_run 3 (pc' := 27) (ls' := [.ref 74, .long x1, am_du, .int (nI kx2), am_du]) (st' := [.int 60, .int ((nI tp) + (nI kx2))]) rfl ?_
      rw [show (((nI tp) + (nI kx2)) : Int32) = (nI (tp + kx2)) from nI_add tp kx2]
      refine wp_icmp_t rfl (show (nI (tp + kx2)) ≤ 60 from (nI_leI (a := (tp + kx2)) (b := 60) (by omega) (by omega)).mpr (by omega)) ?_
      refine wp_run 2 (pc' := 40) (ls' := [.ref 74, .long x1, am_du, .int (nI kx2), .int 0]) (st' := []) rfl ?_
      have hp := fun kq => lp_m_feed (L := L) (xs := xs) (d := d) (ms := ms2) (b := b) (h := (am_sk h 9 (fe_r (h 10) x1 tp kx2) (tp + kx2))) (Q := Q2) (w := x1) (p := tp) (k := kx2) (by omega) (by omega) (by omega) kq kx2 0 (by omega)
      rw [show am_ur (am_sk h 9 (fe_r (h 10) x1 tp kx2) (tp + kx2)) 75 (fe_m ((am_sk h 9 (fe_r (h 10) x1 tp kx2) (tp + kx2)) 75) x1 tp 0) = (am_sk h 9 (fe_r (h 10) x1 tp kx2) (tp + kx2)) from by rw [fe_m_0 (show (am_sk h 9 (fe_r (h 10) x1 tp kx2) (tp + kx2)) 75 5 = nI tp from H.2.2.2.2.2.2.2.2.1.2.1), ← am_ur_self]] at hp
      refine hp ?_
      refine wp_run 1 (pc' := 89) (ls' := [.ref 74, .long x1, am_du, .int (nI kx2), .int (nI kx2)]) (st' := [.ref 74]) rfl ?_
      refine wp_getr 75 rfl rfl rfl ?_
      refine wp_run 1 (pc' := 93) (ls' := [.ref 74, .long x1, am_du, .int (nI kx2), .int (nI kx2)]) (st' := [.int 5, .ref 75]) rfl ?_
      refine wp_ald (i := 5) (nI (tp + kx2)) (show fe_m ((am_sk h 9 (fe_r (h 10) x1 tp kx2) (tp + kx2)) 75) x1 tp kx2 5 = nI (tp + kx2) from pk_us) rfl rfl rfl (by decide) rfl ?_
      refine wp_ret rfl ?_
      have Hn : re_house n c t (tp + kx2) wt s0 s1 p0 p1 (h 1) (h 2) (h 3) (h 4) (h 5) (h 6) (h 7) (h 8) (upd (h 9) 1 (nI (tp + kx2))) (fe_r (h 10) x1 tp kx2) (h 11) (h 12) (h 14) (h 15) (h 16) (h 19) (h 20) (h 21) (fe_m (h 75) x1 tp kx2) := by
        refine ⟨⟨H.1.1, (fe_m_off (show (2 : Nat) ≠ 5 by decide) (by decide) (by omega)).trans H.1.2.1, H.1.2.2⟩, ⟨H.2.1.1, (fe_m_off (show (3 : Nat) ≠ 5 by decide) (by decide) (by omega)).trans H.2.1.2.1, H.2.1.2.2⟩, ⟨H.2.2.1.1, (fe_m_off (show (0 : Nat) ≠ 5 by decide) (by decide) (by omega)).trans H.2.2.1.2.1, H.2.2.1.2.2⟩, ⟨H.2.2.2.1.1.trans (fe_m_off (show (4 : Nat) ≠ 5 by decide) (by decide) (by omega)).symm, H.2.2.2.1.2.trans (fe_m_off (show (1 : Nat) ≠ 5 by decide) (by decide) (by omega)).symm⟩, re_g5 H.2.2.2.2.1 (fun i h1 h2 => fe_m_off (by omega) (by omega) (by omega)), re_g6 H.2.2.2.2.2.1 (fun i h1 h2 => fe_m_off (by omega) (by omega) (by omega)), H.2.2.2.2.2.2.1, H.2.2.2.2.2.2.2.1, ⟨pk_us, pk_us, by omega, fun i hi => ?_⟩, ⟨H.2.2.2.2.2.2.2.2.2.1.1, (fe_m_off (show (6 : Nat) ≠ 5 by decide) (by decide) (by omega)).trans H.2.2.2.2.2.2.2.2.2.1.2.1, H.2.2.2.2.2.2.2.2.2.1.2.2.1, re_g10 H.2.2.2.2.2.2.2.2.2.1.2.2.1 H.2.2.2.2.2.2.2.2.2.1.2.2.2 (fun i h1 h2 => fe_m_off (by omega) (by omega) (by omega))⟩, re_law_m H.2.2.2.2.2.2.2.2.2.2.1 (fun i h1 h2 => fe_m_off (by omega) (by omega) (by omega)), re_law_m H.2.2.2.2.2.2.2.2.2.2.2 (fun i h1 h2 => fe_m_off (by omega) (by omega) (by omega))⟩
        rw [fe_m_at]
        by_cases hi2 : i < tp
        · rw [fe_lo kx2 (Or.inl hi2), fe_lo kx2 (Or.inl (by omega))]
          exact H.2.2.2.2.2.2.2.2.1.2.2.2 i hi2
        · obtain ⟨q, rfl⟩ : ∃ q, i = tp + q := ⟨i - tp, by omega⟩
          rw [fe_hi kx2 (by omega), ← Nat.add_assoc 56 tp q, fe_hi kx2 (by omega)]
      exact kk2 _ _ ⟨⟨n, c, t, tp + kx2, wt, s0, s1, p0, p1, Hn⟩, re_im_s hI, hE, hS0, hS1, hS2, hS3, hT⟩
    · skip
      have cq30n : ¬ ((tp + kx2) ≤ 60) := fun q => cq30 ((nI_leI (a := (tp + kx2)) (b := 60) (by omega) (by omega)).mpr q)
      refine wp_run 2 (pc' := 35) (ls' := [.ref 0, .long x1, am_du, .int (nI kx2), am_du]) (st' := [.int 4, .ref 0]) rfl ?_
      refine wp_callV (o := 0) (as := [.int 4]) (rest := []) (els := [.ref 0, .int 4]) rfl rfl rfl rfl rfl rfl rfl rfl (by omega) ?_
      refine sp_refuse4 (by omega) ?_
      show am_wp L xs _ _ _ _ 38 [.ref 0, .long x1, am_du, .int (nI kx2), am_du] [.int (-1000000004)] (am_S b) (am_u h 73 4 (h 73 4 + 1)) _
      refine wp_ret rfl ?_
      refine kk _ _ _ (fun ms2 Q2 kk2 => ?_)
      refine wp_run 3 (pc' := 4) (ls' := [.ref 74, .long x1, am_du, .int (nI kx2), am_du]) (st' := [.int 8, .int 1, .int (nI kx2)]) rfl ?_
      refine wp_callS (as := [.int (nI kx2), .int 1, .int 8]) (rest := []) (els := [.int (nI kx2), .int 1, .int 8]) rfl rfl rfl rfl rfl rfl rfl rfl (by omega) ?_
      refine sp_m_btw (m := 8) rfl rfl rfl (fun _ _ _ _ => ?_) (fun q => absurd rfl (q kx2 (by omega) (by omega)))
      show am_wp L xs _ _ _ _ 7 [.ref 74, .long x1, am_du, .int (nI kx2), am_du] [.int 1] (am_S b) (am_u h 73 4 (h 73 4 + 1)) _
      refine wp_if_t rfl (show ¬ (1 : Int32) = 0 from by decide) ?_
      refine wp_run 1 (pc' := 18) (ls' := [.ref 74, .long x1, am_du, .int (nI kx2), am_du]) (st' := [.ref 74]) rfl ?_
      refine wp_getr 75 rfl rfl rfl ?_
      refine wp_run 1 (pc' := 22) (ls' := [.ref 74, .long x1, am_du, .int (nI kx2), am_du]) (st' := [.int 5, .ref 75]) rfl ?_
      refine wp_ald (i := 5) (nI tp) H.2.2.2.2.2.2.2.2.1.2.1 rfl rfl rfl (by decide) rfl ?_
      refine wp_run 3 (pc' := 27) (ls' := [.ref 74, .long x1, am_du, .int (nI kx2), am_du]) (st' := [.int 60, .int ((nI tp) + (nI kx2))]) rfl ?_
      rw [show (((nI tp) + (nI kx2)) : Int32) = (nI (tp + kx2)) from nI_add tp kx2]
      refine wp_icmp_f rfl (show ¬ ((nI (tp + kx2)) ≤ 60) from mt (nI_leI (a := (tp + kx2)) (b := 60) (by omega) (by omega)).mp (by omega)) ?_
      refine wp_run 2 (pc' := 33) (ls' := [.ref 74, .long x1, am_du, .int (nI kx2), am_du]) (st' := [.int (-1000000004), .ref 74]) rfl ?_
      refine wp_callV (o := 74) (as := [.int (-1000000004)]) (rest := []) (els := [.ref 74, .int (-1000000004)]) rfl rfl rfl rfl rfl rfl rfl rfl (by omega) ?_
      refine sp_error4 ?_
      show am_wp L xs _ _ _ _ 36 [.ref 74, .long x1, am_du, .int (nI kx2), am_du] [.int (-1000000004)] (am_S b) (am_u (am_u h 73 4 (h 73 4 + 1)) 77 4 ((am_u h 73 4 (h 73 4 + 1)) 77 4 + 1)) _
      refine wp_ret rfl ?_
      exact kk2 _ _ (re_err4 hR)
  · skip
    intro hn1
    show am_wp L xs _ _ _ _ 7 [.ref 0, .long x1, am_du, .int x2, am_du] [.int 0] (am_S b) h _
    refine wp_if_f rfl (show ¬ (¬ (0 : Int32) = 0) from by decide) ?_
    refine wp_run 2 (pc' := 12) (ls' := [.ref 0, .long x1, am_du, .int x2, am_du]) (st' := [.int 1, .ref 0]) rfl ?_
    refine wp_callV (o := 0) (as := [.int 1]) (rest := []) (els := [.ref 0, .int 1]) rfl rfl rfl rfl rfl rfl rfl rfl (by omega) ?_
    refine sp_refuse1 (by omega) ?_
    show am_wp L xs _ _ _ _ 15 [.ref 0, .long x1, am_du, .int x2, am_du] [.int (-1000000001)] (am_S b) (am_u h 73 1 (h 73 1 + 1)) _
    refine wp_ret rfl ?_
    refine kk _ _ _ (fun ms2 Q2 kk2 => ?_)
    refine wp_run 3 (pc' := 4) (ls' := [.ref 74, .long x1, am_du, .int x2, am_du]) (st' := [.int 8, .int 1, .int x2]) rfl ?_
    refine wp_callS (as := [.int x2, .int 1, .int 8]) (rest := []) (els := [.int x2, .int 1, .int 8]) rfl rfl rfl rfl rfl rfl rfl rfl (by omega) ?_
    refine sp_m_btw (m := 8) rfl rfl rfl (fun k h1 h2 e => absurd e (hn1 k h1 h2)) (fun _ => ?_)
    show am_wp L xs _ _ _ _ 7 [.ref 74, .long x1, am_du, .int x2, am_du] [.int 0] (am_S b) (am_u h 73 1 (h 73 1 + 1)) _
    refine wp_if_f rfl (show ¬ (¬ (0 : Int32) = 0) from by decide) ?_
    refine wp_run 2 (pc' := 13) (ls' := [.ref 74, .long x1, am_du, .int x2, am_du]) (st' := [.int (-1000000001), .ref 74]) rfl ?_
    refine wp_callV (o := 74) (as := [.int (-1000000001)]) (rest := []) (els := [.ref 74, .int (-1000000001)]) rfl rfl rfl rfl rfl rfl rfl rfl (by omega) ?_
    refine sp_error1 ?_
    show am_wp L xs _ _ _ _ 16 [.ref 74, .long x1, am_du, .int x2, am_du] [.int (-1000000001)] (am_S b) (am_u (am_u h 73 1 (h 73 1 + 1)) 77 1 ((am_u h 73 1 (h 73 1 + 1)) 77 1 + 1)) _
    refine wp_ret rfl ?_
    exact kk2 _ _ (re_err1 hR)
