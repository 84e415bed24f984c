/-! calls tied: move, the copying -/
def mv_a (f : Nat → Int32) (u w k : Nat) : Nat → Int32 := fun q => if w ≤ q ∧ q < w + k then f (u + (q - w)) else f q
def mv_d (f : Nat → Int32) (u w n k : Nat) : Nat → Int32 := fun q => if w + (n - k) ≤ q ∧ q < w + n then f (u + (q - w)) else f q
theorem mv_a0 (h : am_HI) (u w : Nat) : am_ur h 80 (mv_a (h 80) u w 0) = h := by
  funext b j
  unfold am_ur
  by_cases e : b = 80
  · rw [if_pos e, e]
    exact if_neg (by omega)
  · rw [if_neg e]
theorem mv_d0 (h : am_HI) (u w n : Nat) : am_ur h 80 (mv_d (h 80) u w n 0) = h := by
  funext b j
  unfold am_ur
  by_cases e : b = 80
  · rw [if_pos e, e]
    exact if_neg (by omega)
  · rw [if_neg e]
theorem mv_dn (f : Nat → Int32) (u w n : Nat) : mv_d f u w n n = mv_a f u w n := by
  funext q
  unfold mv_d mv_a
  rw [Nat.sub_self, Nat.add_zero]
theorem mv_as (h : am_HI) (u w k : Nat) : am_u (am_ur h 80 (mv_a (h 80) u w k)) 80 (w + k) (h 80 (u + k)) = am_ur h 80 (mv_a (h 80) u w (k + 1)) := by
  funext b j
  unfold am_ur am_u
  by_cases e : b = 80
  · subst e
    simp only [if_pos, upd]
    unfold mv_a
    by_cases e1 : j = w + k
    · rw [if_pos e1, if_pos (by omega), show u + (j - w) = u + k by omega]
    · rw [if_neg e1]
      by_cases e2 : w ≤ j ∧ j < w + k
      · rw [if_pos e2, if_pos (by omega)]
      · rw [if_neg e2, if_neg (by omega)]
  · simp only [if_neg e]
theorem mv_ds (h : am_HI) (u w n k : Nat) (hk : k < n) : am_u (am_ur h 80 (mv_d (h 80) u w n k)) 80 (w + (n - 1 - k)) (h 80 (u + (n - 1 - k))) = am_ur h 80 (mv_d (h 80) u w n (k + 1)) := by
  funext b j
  unfold am_ur am_u
  by_cases e : b = 80
  · subst e
    simp only [if_pos, upd]
    unfold mv_d
    by_cases e1 : j = w + (n - 1 - k)
    · rw [if_pos e1, if_pos (by omega), show u + (j - w) = u + (n - 1 - k) by omega]
    · rw [if_neg e1]
      by_cases e2 : w + (n - k) ≤ j ∧ j < w + n
      · rw [if_pos e2, if_pos (by omega)]
      · rw [if_neg e2, if_neg (by omega)]
  · simp only [if_neg e]
theorem lp_mva {L : Nat} {xs : Nat → Int32} {d ms b : Nat} {h : am_HI} {Q : am_Q} {s i o j n : Nat} (hs : s < 4) (ho : o < 4) (hin : i + n ≤ 24) (hjn : j + n ≤ 24) (hij : ¬ i < j) (hsf : (24 * o + j) ≤ (24 * s + i) ∨ (24 * s + i) + n ≤ (24 * o + j)) (kk : Q (some (.int (nI n))) (am_S b) (am_ur h 80 (mv_a (h 80) (24 * s + i) (24 * o + j) n))) :
    ∀ (m k : Nat) (u8 : Value), k + m = n → am_wp L xs d 0 ms 213 28 [.ref 74, .int (nI s), .int (nI i), .int (nI o), .int (nI j), .int (nI n), .int 0, .int (nI k), u8] [] (am_S b) (am_ur h 80 (mv_a (h 80) (24 * s + i) (24 * o + j) k)) Q := by
  intro m
  induction m with
  | zero =>
    intro k u8 hk
    refine wp_run 2 (pc' := 32) (ls' := [.ref 74, .int (nI s), .int (nI i), .int (nI o), .int (nI j), .int (nI n), .int 0, .int (nI k), u8]) (st' := [.int (nI n), .int (nI k)]) rfl ?_
    refine wp_icmp_t rfl (show (nI n) ≤ (nI k) from (nI_leI (a := n) (b := k) (by omega) (by omega)).mpr (by omega)) ?_
    refine wp_run 1 (pc' := 92) (ls' := [.ref 74, .int (nI s), .int (nI i), .int (nI o), .int (nI j), .int (nI n), .int 0, .int (nI k), u8]) (st' := [.int (nI n)]) rfl ?_
    refine wp_ret rfl ?_
    have e9 : k = n := by omega
    subst e9
    exact kk
  | succ m ih =>
    intro k u8 hk
    refine wp_run 2 (pc' := 32) (ls' := [.ref 74, .int (nI s), .int (nI i), .int (nI o), .int (nI j), .int (nI n), .int 0, .int (nI k), u8]) (st' := [.int (nI n), .int (nI k)]) rfl ?_
    refine wp_icmp_f rfl (show ¬ ((nI n) ≤ (nI k)) from mt (nI_leI (a := n) (b := k) (by omega) (by omega)).mp (by omega)) ?_
    refine wp_run 2 (pc' := 38) (ls' := [.ref 74, .int (nI s), .int (nI i), .int (nI o), .int (nI j), .int (nI n), .int 0, .int (nI k), u8]) (st' := [.int (nI j), .int (nI i)]) rfl ?_
    refine wp_icmp_t rfl (show (nI j) ≤ (nI i) from (nI_leI (a := j) (b := i) (by omega) (by omega)).mpr (by omega)) ?_
    refine wp_run 3 (pc' := 56) (ls' := [.ref 74, .int (nI s), .int (nI i), .int (nI o), .int (nI j), .int (nI n), .int 0, .int (nI k), .int (nI k)]) (st' := [.ref 74]) rfl ?_
    refine wp_getr 80 rfl rfl rfl ?_
    refine wp_run 8 (pc' := 70) (ls' := [.ref 74, .int (nI s), .int (nI i), .int (nI o), .int (nI j), .int (nI n), .int 0, .int (nI k), .int (nI k)]) (st' := [.ref 74, .int (((24 * (nI o)) + (nI j)) + (nI k)), .ref 80]) rfl ?_
    rw [show ((24 * (nI o)) : Int32) = (nI (24 * o)) from pk_mul 24 o]
    rw [show (((nI (24 * o)) + (nI j)) : Int32) = (nI ((24 * o) + j)) from nI_add (24 * o) j]
    rw [show (((nI ((24 * o) + j)) + (nI k)) : Int32) = (nI (((24 * o) + j) + k)) from nI_add ((24 * o) + j) k]
    refine wp_getr 80 rfl rfl rfl ?_
    refine wp_run 7 (pc' := 82) (ls' := [.ref 74, .int (nI s), .int (nI i), .int (nI o), .int (nI j), .int (nI n), .int 0, .int (nI k), .int (nI k)]) (st' := [.int (((24 * (nI s)) + (nI i)) + (nI k)), .ref 80, .int (nI (((24 * o) + j) + k)), .ref 80]) rfl ?_
    rw [show ((24 * (nI s)) : Int32) = (nI (24 * s)) from pk_mul 24 s]
    rw [show (((nI (24 * s)) + (nI i)) : Int32) = (nI ((24 * s) + i)) from nI_add (24 * s) i]
    rw [show (((nI ((24 * s) + i)) + (nI k)) : Int32) = (nI (((24 * s) + i) + k)) from nI_add ((24 * s) + i) k]
    refine wp_ald (i := (((24 * s) + i) + k)) (h 80 (((24 * s) + i) + k)) (show mv_a (h 80) (24 * s + i) (24 * o + j) k (((24 * s) + i) + k) = h 80 (((24 * s) + i) + k) from if_neg (by omega)) rfl rfl rfl (by omega) rfl ?_
    refine wp_ast rfl rfl rfl (by omega) rfl ?_
    refine wp_run 2 (pc' := 28) (ls' := [.ref 74, .int (nI s), .int (nI i), .int (nI o), .int (nI j), .int (nI n), .int 0, .int ((nI k) + 1), .int (nI k)]) (st' := []) rfl ?_
    rw [show (((nI k) + 1) : Int32) = (nI (k + 1)) from nI_add k 1]
    rw [show ((am_u (am_ur h 80 (mv_a (h 80) (24 * s + i) (24 * o + j) k)) 80 (((24 * o) + j) + k) (h 80 (((24 * s) + i) + k))) : am_HI) = (am_ur h 80 (mv_a (h 80) (24 * s + i) (24 * o + j) (k + 1))) from mv_as h (24 * s + i) (24 * o + j) k]
    exact ih (k + 1) _ (by omega)
theorem lp_mvd {L : Nat} {xs : Nat → Int32} {d ms b : Nat} {h : am_HI} {Q : am_Q} {s i o j n : Nat} (hs : s < 4) (ho : o < 4) (hin : i + n ≤ 24) (hjn : j + n ≤ 24) (hij : i < j) (hsf : (24 * s + i) ≤ (24 * o + j) ∨ (24 * o + j) + n ≤ (24 * s + i)) (kk : Q (some (.int (nI n))) (am_S b) (am_ur h 80 (mv_a (h 80) (24 * s + i) (24 * o + j) n))) :
    ∀ (m k : Nat) (u8 : Value), k + m = n → am_wp L xs d 0 ms 213 28 [.ref 74, .int (nI s), .int (nI i), .int (nI o), .int (nI j), .int (nI n), .int 0, .int (nI k), u8] [] (am_S b) (am_ur h 80 (mv_d (h 80) (24 * s + i) (24 * o + j) n k)) Q := by
  intro m
  induction m with
  | zero =>
    intro k u8 hk
    refine wp_run 2 (pc' := 32) (ls' := [.ref 74, .int (nI s), .int (nI i), .int (nI o), .int (nI j), .int (nI n), .int 0, .int (nI k), u8]) (st' := [.int (nI n), .int (nI k)]) rfl ?_
    refine wp_icmp_t rfl (show (nI n) ≤ (nI k) from (nI_leI (a := n) (b := k) (by omega) (by omega)).mpr (by omega)) ?_
    refine wp_run 1 (pc' := 92) (ls' := [.ref 74, .int (nI s), .int (nI i), .int (nI o), .int (nI j), .int (nI n), .int 0, .int (nI k), u8]) (st' := [.int (nI n)]) rfl ?_
    refine wp_ret rfl ?_
    have e9 : k = n := by omega
    subst e9
    rw [mv_dn]
    exact kk
  | succ m ih =>
    intro k u8 hk
    refine wp_run 2 (pc' := 32) (ls' := [.ref 74, .int (nI s), .int (nI i), .int (nI o), .int (nI j), .int (nI n), .int 0, .int (nI k), u8]) (st' := [.int (nI n), .int (nI k)]) rfl ?_
    refine wp_icmp_f rfl (show ¬ ((nI n) ≤ (nI k)) from mt (nI_leI (a := n) (b := k) (by omega) (by omega)).mp (by omega)) ?_
    refine wp_run 2 (pc' := 38) (ls' := [.ref 74, .int (nI s), .int (nI i), .int (nI o), .int (nI j), .int (nI n), .int 0, .int (nI k), u8]) (st' := [.int (nI j), .int (nI i)]) rfl ?_
    refine wp_icmp_f rfl (show ¬ ((nI j) ≤ (nI i)) from mt (nI_leI (a := j) (b := i) (by omega) (by omega)).mp (by omega)) ?_
    refine wp_run 5 (pc' := 48) (ls' := [.ref 74, .int (nI s), .int (nI i), .int (nI o), .int (nI j), .int (nI n), .int 0, .int (nI k), u8]) (st' := [.int (((nI n) - 1) - (nI k))]) rfl ?_
    rw [show ((((nI n) - 1) - (nI k)) : Int32) = nI (n - 1 - k) from by rw [show (nI n - 1 : Int32) = nI (n - 1) from pu_sub (l := n) (k := 1) (by omega), pu_sub (by omega)]]
    refine wp_run 3 (pc' := 56) (ls' := [.ref 74, .int (nI s), .int (nI i), .int (nI o), .int (nI j), .int (nI n), .int 0, .int (nI k), .int (nI (n - 1 - k))]) (st' := [.ref 74]) rfl ?_
    refine wp_getr 80 rfl rfl rfl ?_
    refine wp_run 8 (pc' := 70) (ls' := [.ref 74, .int (nI s), .int (nI i), .int (nI o), .int (nI j), .int (nI n), .int 0, .int (nI k), .int (nI (n - 1 - k))]) (st' := [.ref 74, .int (((24 * (nI o)) + (nI j)) + (nI (n - 1 - k))), .ref 80]) rfl ?_
    rw [show ((24 * (nI o)) : Int32) = (nI (24 * o)) from pk_mul 24 o]
    rw [show (((nI (24 * o)) + (nI j)) : Int32) = (nI ((24 * o) + j)) from nI_add (24 * o) j]
    rw [show (((nI ((24 * o) + j)) + (nI (n - 1 - k))) : Int32) = (nI (((24 * o) + j) + (n - 1 - k))) from nI_add ((24 * o) + j) (n - 1 - k)]
    refine wp_getr 80 rfl rfl rfl ?_
    refine wp_run 7 (pc' := 82) (ls' := [.ref 74, .int (nI s), .int (nI i), .int (nI o), .int (nI j), .int (nI n), .int 0, .int (nI k), .int (nI (n - 1 - k))]) (st' := [.int (((24 * (nI s)) + (nI i)) + (nI (n - 1 - k))), .ref 80, .int (nI (((24 * o) + j) + (n - 1 - k))), .ref 80]) rfl ?_
    rw [show ((24 * (nI s)) : Int32) = (nI (24 * s)) from pk_mul 24 s]
    rw [show (((nI (24 * s)) + (nI i)) : Int32) = (nI ((24 * s) + i)) from nI_add (24 * s) i]
    rw [show (((nI ((24 * s) + i)) + (nI (n - 1 - k))) : Int32) = (nI (((24 * s) + i) + (n - 1 - k))) from nI_add ((24 * s) + i) (n - 1 - k)]
    refine wp_ald (i := (((24 * s) + i) + (n - 1 - k))) (h 80 (((24 * s) + i) + (n - 1 - k))) (show mv_d (h 80) (24 * s + i) (24 * o + j) n k (((24 * s) + i) + (n - 1 - k)) = h 80 (((24 * s) + i) + (n - 1 - k)) from if_neg (by omega)) rfl rfl rfl (by omega) rfl ?_
    refine wp_ast rfl rfl rfl (by omega) rfl ?_
    refine wp_run 2 (pc' := 28) (ls' := [.ref 74, .int (nI s), .int (nI i), .int (nI o), .int (nI j), .int (nI n), .int 0, .int ((nI k) + 1), .int (nI (n - 1 - k))]) (st' := []) rfl ?_
    rw [show (((nI k) + 1) : Int32) = (nI (k + 1)) from nI_add k 1]
    rw [show ((am_u (am_ur h 80 (mv_d (h 80) (24 * s + i) (24 * o + j) n k)) 80 (((24 * o) + j) + (n - 1 - k)) (h 80 (((24 * s) + i) + (n - 1 - k)))) : am_HI) = (am_ur h 80 (mv_d (h 80) (24 * s + i) (24 * o + j) n (k + 1))) from mv_ds h (24 * s + i) (24 * o + j) n k (by omega)]
    exact ih (k + 1) _ (by omega)
