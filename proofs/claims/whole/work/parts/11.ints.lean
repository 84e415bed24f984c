/-! rows with an end -/
/-- push while there is room, and when there is none -/
theorem sp_push {L : Nat} {xs : Nat → Int32} {d ms : Nat} {h : am_HI} {sh : am_SH} {Q : am_Q} {o cap n : Nat} {v : Int32} (ho : am_objb sh o 2 = true) (hr : am_rf sh o 0 = o + 1 + 1) (hz : sh[o + 1]? = some (20, cap, [])) (hcap : Nat.blt cap 100000 = true) (hs : h o 1 = nI n) (hn : n < cap) (kk : Q none sh (am_u (am_u h (o + 1) n v) o 1 (nI (n + 1)))) :
    am_wp L xs d 0 ms 23 0 [.ref o, .int v] [] sh h Q := by
  have hcap2 := Nat.le_of_ble_eq_true hcap
  refine wp_run 1 (pc' := 1) (ls' := [.ref o, .int v]) (st' := [.ref o]) rfl ?_
  refine wp_geti (nI n) hs rfl rfl ho ?_
  refine wp_run 1 (pc' := 5) (ls' := [.ref o, .int v]) (st' := [.ref o, .int (nI n)]) rfl ?_
  refine wp_getr (o + 1) rfl ho hr ?_
  refine wp_len rfl hz ?_
  refine wp_icmp_f rfl (show ¬ ((nI cap) ≤ (nI n)) from mt (nI_leI (a := cap) (b := n) (by omega) (by omega)).mp (by omega)) ?_
  refine wp_run 1 (pc' := 13) (ls' := [.ref o, .int v]) (st' := [.ref o]) rfl ?_
  refine wp_getr (o + 1) rfl ho hr ?_
  refine wp_run 1 (pc' := 17) (ls' := [.ref o, .int v]) (st' := [.ref o, .ref (o + 1)]) rfl ?_
  refine wp_geti (nI n) hs rfl rfl ho ?_
  refine wp_run 1 (pc' := 21) (ls' := [.ref o, .int v]) (st' := [.int v, .int (nI n), .ref (o + 1)]) rfl ?_
  refine wp_ast rfl hz rfl (by omega) hcap ?_
  refine wp_run 2 (pc' := 24) (ls' := [.ref o, .int v]) (st' := [.ref o, .ref o]) rfl ?_
  refine wp_geti (nI n) (by simp [am_u, upd]; exact hs) rfl rfl ho ?_
  refine wp_run 2 (pc' := 29) (ls' := [.ref o, .int v]) (st' := [.int ((nI n) + 1), .ref o]) rfl ?_
  rw [show ((nI n) + 1) = (nI (n + 1)) from nI_add n 1]
  refine wp_puti rfl ho ?_
  refine wp_retv rfl ?_
  exact kk
theorem sp_push_full {L : Nat} {xs : Nat → Int32} {d ms : Nat} {h : am_HI} {sh : am_SH} {Q : am_Q} {o cap n : Nat} {v : Int32} (ho : am_objb sh o 2 = true) (hr : am_rf sh o 0 = o + 1 + 1) (hz : sh[o + 1]? = some (20, cap, [])) (hcap : Nat.blt cap 100000 = true) (hs : h o 1 = nI n) (hn : cap ≤ n) (hn2 : n < 100000) (kk : Q none sh h) :
    am_wp L xs d 0 ms 23 0 [.ref o, .int v] [] sh h Q := by
  have hcap2 := Nat.le_of_ble_eq_true hcap
  refine wp_run 1 (pc' := 1) (ls' := [.ref o, .int v]) (st' := [.ref o]) rfl ?_
  refine wp_geti (nI n) hs rfl rfl ho ?_
  refine wp_run 1 (pc' := 5) (ls' := [.ref o, .int v]) (st' := [.ref o, .int (nI n)]) rfl ?_
  refine wp_getr (o + 1) rfl ho hr ?_
  refine wp_len rfl hz ?_
  refine wp_icmp_t rfl (show (nI cap) ≤ (nI n) from (nI_leI (a := cap) (b := n) (by omega) (by omega)).mpr (by omega)) ?_
  refine wp_retv rfl ?_
  exact kk
theorem sp_pop {L : Nat} {xs : Nat → Int32} {d ms : Nat} {h : am_HI} {sh : am_SH} {Q : am_Q} {o cap n : Nat} (ho : am_objb sh o 2 = true) (hr : am_rf sh o 0 = o + 1 + 1) (hz : sh[o + 1]? = some (20, cap, [])) (hcap : Nat.blt cap 100000 = true) (hs : h o 1 = nI (n + 1)) (hn : n < cap) (kk : Q (some (.int (h (o + 1) n))) sh (am_u h o 1 (nI n))) :
    am_wp L xs d 0 ms 24 0 [.ref o] [] sh h Q := by
  have hcap2 := Nat.le_of_ble_eq_true hcap
  refine wp_run 1 (pc' := 1) (ls' := [.ref o]) (st' := [.ref o]) rfl ?_
  refine wp_geti (nI (n + 1)) hs rfl rfl ho ?_
  refine wp_if_t rfl (show 0 < (nI (n + 1)) from (nI_ltI (a := 0) (b := (n + 1)) (by omega) (by omega)).mpr (by omega)) ?_
  refine wp_run 2 (pc' := 11) (ls' := [.ref o]) (st' := [.ref o, .ref o]) rfl ?_
  refine wp_geti (nI (n + 1)) hs rfl rfl ho ?_
  refine wp_run 2 (pc' := 16) (ls' := [.ref o]) (st' := [.int ((nI (n + 1)) - 1), .ref o]) rfl ?_
  rw [show ((nI (n + 1)) - 1) = (nI n) from nI_pred n]
  refine wp_puti rfl ho ?_
  refine wp_run 1 (pc' := 20) (ls' := [.ref o]) (st' := [.ref o]) rfl ?_
  refine wp_getr (o + 1) rfl ho hr ?_
  refine wp_run 1 (pc' := 24) (ls' := [.ref o]) (st' := [.ref o, .ref (o + 1)]) rfl ?_
  refine wp_geti (nI n) (by simp [am_u, upd]) rfl rfl ho ?_
  refine wp_ald (h (o + 1) n) (by simp [am_u]) rfl hz rfl (by omega) hcap ?_
  refine wp_ret rfl ?_
  exact kk
theorem sp_top {L : Nat} {xs : Nat → Int32} {d ms : Nat} {h : am_HI} {sh : am_SH} {Q : am_Q} {o cap n : Nat} (ho : am_objb sh o 2 = true) (hr : am_rf sh o 0 = o + 1 + 1) (hz : sh[o + 1]? = some (20, cap, [])) (hcap : Nat.blt cap 100000 = true) (hs : h o 1 = nI (n + 1)) (hn : n < cap) (kk : Q (some (.int (h (o + 1) n))) sh h) :
    am_wp L xs d 0 ms 57 0 [.ref o] [] sh h Q := by
  have hcap2 := Nat.le_of_ble_eq_true hcap
  refine wp_run 1 (pc' := 1) (ls' := [.ref o]) (st' := [.ref o]) rfl ?_
  refine wp_geti (nI (n + 1)) hs rfl rfl ho ?_
  refine wp_if_t rfl (show 0 < (nI (n + 1)) from (nI_ltI (a := 0) (b := (n + 1)) (by omega) (by omega)).mpr (by omega)) ?_
  refine wp_run 1 (pc' := 12) (ls' := [.ref o]) (st' := [.ref o]) rfl ?_
  refine wp_getr (o + 1) rfl ho hr ?_
  refine wp_run 1 (pc' := 16) (ls' := [.ref o]) (st' := [.ref o, .ref (o + 1)]) rfl ?_
  refine wp_geti (nI (n + 1)) hs rfl rfl ho ?_
  refine wp_run 2 (pc' := 21) (ls' := [.ref o]) (st' := [.int ((nI (n + 1)) - 1), .ref (o + 1)]) rfl ?_
  rw [show ((nI (n + 1)) - 1) = (nI n) from nI_pred n]
  refine wp_ald (h (o + 1) n) rfl rfl hz rfl (by omega) hcap ?_
  refine wp_ret rfl ?_
  exact kk
theorem sp_top0 {L : Nat} {xs : Nat → Int32} {d ms : Nat} {h : am_HI} {sh : am_SH} {Q : am_Q} {o : Nat} (ho : am_objb sh o 2 = true) (hs : h o 1 = nI 0) (kk : Q (some (.int 0)) sh h) :
    am_wp L xs d 0 ms 57 0 [.ref o] [] sh h Q := by
  refine wp_run 1 (pc' := 1) (ls' := [.ref o]) (st' := [.ref o]) rfl ?_
  refine wp_geti 0 hs rfl rfl ho ?_
  refine wp_if_f rfl (show ¬ (0 < (0 : Int32)) from by decide) ?_
  refine wp_run 2 (pc' := 22) (ls' := [.ref o]) (st' := [.int 0]) rfl ?_
  refine wp_ret rfl ?_
  exact kk
def am_cp (h : am_HI) (o p i : Nat) : am_HI := am_u (am_ur h (o + 1) (fun j => if j < i then h (p + 1) j else h (o + 1) j)) o 1 (nI i)
theorem am_cp_step (h : am_HI) (o p i : Nat) : am_u (am_u (am_cp h o p i) (o + 1) i (h (p + 1) i)) o 1 (nI (i + 1)) = am_cp h o p (i + 1) := by
  have h1 : ¬ o = o + 1 := by omega
  have h2 : ¬ o + 1 = o := by omega
  funext a j
  unfold am_cp am_u am_ur
  by_cases e1 : a = o
  · subst e1
    by_cases e3 : j = 1 <;> simp [upd, h1, e3]
  · by_cases e2 : a = o + 1
    · subst e2
      simp only [if_pos, if_neg h2, upd]
      by_cases e3 : j = i
      · subst e3
        simp
      · simp only [if_neg e3]
        by_cases e4 : j < i
        · rw [if_pos e4, if_pos (by omega)]
        · rw [if_neg e4, if_neg (by omega)]
    · simp [e1, e2]
theorem am_cp_0 (h : am_HI) (o p : Nat) : am_u h o 1 (nI 0) = am_cp h o p 0 := by
  have h1 : ¬ o = o + 1 := by omega
  funext a j
  unfold am_cp am_u am_ur
  by_cases e1 : a = o
  · subst e1
    by_cases e3 : j = 1 <;> simp [upd, h1, e3]
  · by_cases e2 : a = o + 1
    · subst e2
      simp
    · simp [e1, e2]
theorem am_cp_off (h : am_HI) {o p a : Nat} (i : Nat) (h1 : a ≠ o) (h2 : a ≠ o + 1) : am_cp h o p i a = h a := by
  unfold am_cp am_u am_ur
  simp [h1, h2]
theorem am_cp_1 (h : am_HI) (o p i : Nat) : am_cp h o p i o 1 = nI i := by
  simp [am_cp, am_u, upd]
theorem lp_icopy {L : Nat} {xs : Nat → Int32} {d ms : Nat} {h : am_HI} {sh : am_SH} {Q : am_Q} {o p cap cap2 k : Nat} (ho : am_objb sh o 2 = true) (hr : am_rf sh o 0 = o + 1 + 1) (hz : sh[o + 1]? = some (20, cap, [])) (hcap : Nat.blt cap 100000 = true) (go : am_objb sh p 2 = true) (gr : am_rf sh p 0 = p + 1 + 1) (gz : sh[p + 1]? = some (20, cap2, [])) (gcap : Nat.blt cap2 100000 = true) (n1 : p ≠ o) (n2 : p ≠ o + 1) (n3 : p + 1 ≠ o) (gs : h p 1 = nI k) (gk : k ≤ cap) (gk2 : k ≤ cap2) (hd : 1 ≤ d) (kk : Q none sh (am_cp h o p k)) :
    ∀ (m i : Nat), i + m = k → am_wp L xs d 0 ms 65 7 [.ref o, .ref p, .int (nI i)] [] sh (am_cp h o p i) Q := by
  have hcap2 := Nat.le_of_ble_eq_true hcap
  have gcap2 := Nat.le_of_ble_eq_true gcap
  intro m
  induction m with
  | zero =>
    intro i hi
    refine wp_run 2 (pc' := 9) (ls' := [.ref o, .ref p, .int (nI i)]) (st' := [.ref p, .int (nI i)]) rfl ?_
    refine wp_geti (nI k) (by rw [am_cp_off h _ n1 n2]; exact gs) rfl rfl go ?_
    refine wp_icmp_t rfl (show (nI k) ≤ (nI i) from (nI_leI (a := k) (b := i) (by omega) (by omega)).mpr (by omega)) ?_
    refine wp_retv rfl ?_
    have e : i = k := by omega
    rw [e]
    exact kk
  | succ m ih =>
    intro i hi
    refine wp_run 2 (pc' := 9) (ls' := [.ref o, .ref p, .int (nI i)]) (st' := [.ref p, .int (nI i)]) rfl ?_
    refine wp_geti (nI k) (by rw [am_cp_off h _ n1 n2]; exact gs) rfl rfl go ?_
    refine wp_icmp_f rfl (show ¬ ((nI k) ≤ (nI i)) from mt (nI_leI (a := k) (b := i) (by omega) (by omega)).mp (by omega)) ?_
    refine wp_run 2 (pc' := 17) (ls' := [.ref o, .ref p, .int (nI i)]) (st' := [.ref p, .ref o]) rfl ?_
    refine wp_getr (p + 1) rfl go gr ?_
    refine wp_run 1 (pc' := 21) (ls' := [.ref o, .ref p, .int (nI i)]) (st' := [.int (nI i), .ref (p + 1), .ref o]) rfl ?_
    refine wp_ald (h (p + 1) i) (by rw [am_cp_off h _ n3 (by omega)]) rfl gz rfl (by omega) gcap ?_
    refine wp_callV (o := o) (as := [.int (h (p + 1) i)]) (rest := []) (els := [.ref o, .int (h (p + 1) i)]) rfl rfl rfl rfl rfl rfl rfl ho (by omega) ?_
    refine sp_push ho hr hz hcap (am_cp_1 h o p i) (by omega) ?_
    rw [am_cp_step]
    show am_wp L xs _ _ _ _ 25 [.ref o, .ref p, .int (nI i)] [] sh (am_cp h o p (i + 1)) _
    refine wp_run 2 (pc' := 7) (ls' := [.ref o, .ref p, .int ((nI i) + 1)]) (st' := []) rfl ?_
    rw [show ((nI i) + 1) = (nI (i + 1)) from nI_add i 1]
    exact ih (i + 1) (by omega)
theorem sp_icopy {L : Nat} {xs : Nat → Int32} {d ms : Nat} {h : am_HI} {sh : am_SH} {Q : am_Q} {o p cap cap2 k : Nat} (ho : am_objb sh o 2 = true) (hr : am_rf sh o 0 = o + 1 + 1) (hz : sh[o + 1]? = some (20, cap, [])) (hcap : Nat.blt cap 100000 = true) (go : am_objb sh p 2 = true) (gr : am_rf sh p 0 = p + 1 + 1) (gz : sh[p + 1]? = some (20, cap2, [])) (gcap : Nat.blt cap2 100000 = true) (n1 : p ≠ o) (n2 : p ≠ o + 1) (n3 : p + 1 ≠ o) (gs : h p 1 = nI k) (gk : k ≤ cap) (gk2 : k ≤ cap2) (hd : 1 ≤ d) (kk : Q none sh (am_cp h o p k)) :
    am_wp L xs d 0 ms 65 0 [.ref o, .ref p, am_du] [] sh h Q := by
  refine wp_run 2 (pc' := 2) (ls' := [.ref o, .ref p, am_du]) (st' := [.int 0, .ref o]) rfl ?_
  refine wp_puti rfl ho ?_
  refine wp_run 2 (pc' := 7) (ls' := [.ref o, .ref p, .int 0]) (st' := []) rfl ?_
  rw [show ((am_u h o 1 0) : am_HI) = am_cp h o p 0 from am_cp_0 h o p]
  exact lp_icopy ho hr hz hcap go gr gz gcap n1 n2 n3 gs gk gk2 hd kk k 0 (by omega)
