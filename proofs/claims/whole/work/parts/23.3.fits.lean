/-! calls tied: fits -/
theorem pu_ntz : ∀ S, S < 128 → 0 < S → ∃ t, t < 7 ∧ (nI S ^^^ -1) &&& (nI S - 1) = nI (2 ^ t - 1) ∧ S.testBit t = true ∧ ∀ k, k < t → S.testBit k = false := by
  have h : ∀ S, S < 128 → 0 < S → ∃ t : Fin 7, (nI S ^^^ -1) &&& (nI S - 1) = nI (2 ^ t.val - 1) ∧ S.testBit t.val = true ∧ ∀ k, k < t.val → S.testBit k = false := by decide +kernel
  intro S h1 h2
  obtain ⟨t, h3⟩ := h S h1 h2
  exact ⟨t.val, t.isLt, h3⟩
theorem ab_ft_c {S S2 gt gt2 : Nat → Int32} {l n : Nat} (e1 : ∀ k, k < l → S k = S2 k) (e2 : ∀ g, g < n → gt g = gt2 g) : ab_ft S l n gt = ab_ft S2 l n gt2 := by
  unfold ab_ft
  refine decide_eq_decide.mpr ⟨fun ⟨q1, q2⟩ => ⟨q1, fun k hk => ?_⟩, fun ⟨q1, q2⟩ => ⟨q1, fun k hk => ?_⟩⟩
  · rw [← e1 k hk, ← e2 k (by omega)]
    exact q2 k hk
  · rw [e1 k hk, e2 k (by omega)]
    exact q2 k hk
theorem ab_fs_bit (F : Nat → Bool) : ∀ i, i ≤ 7 → ∀ k, k < 7 → ((ab_fs F i).testBit k = true ↔ k < i ∧ F k = true)
  | 0, _, k, _ => by simp [ab_fs]
  | i + 1, h, k, hk => by
    have ih := ab_fs_bit F i (by omega) k hk
    unfold ab_fs
    by_cases e : F i = true
    · rw [if_pos e, pu_set_bit _ (ab_fs_lt F i (by omega)) i (by omega) k hk, Bool.or_eq_true, ih]
      constructor
      · rintro (⟨q1, q2⟩ | q)
        · exact ⟨by omega, q2⟩
        · have : k = i := by simpa using q
          exact ⟨by omega, by rw [this]; exact e⟩
      · rintro ⟨q1, q2⟩
        by_cases q : k = i
        · exact Or.inr (by simp [q])
        · exact Or.inl ⟨by omega, q2⟩
    · rw [if_neg e, ih]
      constructor
      · rintro ⟨q1, q2⟩
        exact ⟨by omega, q2⟩
      · rintro ⟨q1, q2⟩
        by_cases q : k = i
        · rw [q] at q2
          exact absurd q2 e
        · exact ⟨by omega, q2⟩
/-- from the last on: the set so far, the least so far -/
def ms_fs (F : Nat → Bool) (n i W : Nat) (v : Int32) : Prop := W < 128 ∧ (∀ k, k < 7 → (W.testBit k = true ↔ i ≤ k ∧ k < n ∧ F k = true)) ∧ ((v = -1 ∧ ∀ k, i ≤ k → k < n → F k = false) ∨ ∃ t, i ≤ t ∧ t < n ∧ v = nI t ∧ F t = true ∧ ∀ k, i ≤ k → k < t → F k = false)
theorem ms_fs_t {F : Nat → Bool} {n i W : Nat} {v : Int32} (h : ms_fs F n (i + 1) W v) (hi : i < n) (hn : n ≤ 7) (e : F i = true) : ms_fs F n i (pu_set W i) (nI i) := by
  obtain ⟨h1, h2, h3⟩ := h
  refine ⟨pu_set_lt W h1 i (by omega), fun k hk => ?_, Or.inr ⟨i, Nat.le_refl _, hi, rfl, e, fun k q1 q2 => by omega⟩⟩
  rw [pu_set_bit W h1 i (by omega) k hk, Bool.or_eq_true, h2 k hk]
  constructor
  · rintro (⟨q1, q2, q3⟩ | q)
    · exact ⟨by omega, q2, q3⟩
    · have : k = i := by simpa using q
      exact ⟨by omega, by omega, by rw [this]; exact e⟩
  · rintro ⟨q1, q2, q3⟩
    by_cases q : k = i
    · exact Or.inr (by simp [q])
    · exact Or.inl ⟨by omega, q2, q3⟩
theorem ms_fs_f {F : Nat → Bool} {n i W : Nat} {v : Int32} (h : ms_fs F n (i + 1) W v) (e : F i = false) : ms_fs F n i W v := by
  obtain ⟨h1, h2, h3⟩ := h
  refine ⟨h1, fun k hk => ?_, ?_⟩
  · rw [h2 k hk]
    constructor
    · rintro ⟨q1, q2, q3⟩
      exact ⟨by omega, q2, q3⟩
    · rintro ⟨q1, q2, q3⟩
      by_cases q : k = i
      · rw [q, e] at q3
        cases q3
      · exact ⟨by omega, q2, q3⟩
  · rcases h3 with ⟨q1, q2⟩ | ⟨t, q1, q2, q3, q4, q5⟩
    · refine Or.inl ⟨q1, fun k k1 k2 => ?_⟩
      by_cases q : k = i
      · rw [q]; exact e
      · exact q2 k (by omega) k2
    · refine Or.inr ⟨t, by omega, q2, q3, q4, fun k k1 k2 => ?_⟩
      by_cases q : k = i
      · rw [q]; exact e
      · exact q5 k (by omega) k2
theorem ms_fs_set {F : Nat → Bool} {n W : Nat} {v : Int32} (h : ms_fs F n 0 W v) (hn : n ≤ 7) : W = ab_fs F n := by
  refine pu_ext _ h.1 _ (ab_fs_lt F n hn) (fun k hk => ?_)
  rw [Bool.eq_iff_iff, h.2.1 k hk, ab_fs_bit F n hn k hk]
  exact ⟨fun q => q.2, fun q => ⟨Nat.zero_le _, q⟩⟩
theorem ms_fs_0 {F : Nat → Bool} {n W : Nat} {v : Int32} (h : ms_fs F n 0 W v) (hn : n ≤ 7) (h0 : ab_fs F n = 0) : v = -1 := by
  rcases h.2.2 with ⟨q1, q2⟩ | ⟨t, q1, q2, q3, q4, q5⟩
  · exact q1
  · have := (ab_fs_bit F n hn t (by omega)).mpr ⟨q2, q4⟩
    rw [h0, Nat.zero_testBit] at this
    cases this
theorem ms_fs_1 {F : Nat → Bool} {n W t : Nat} {v : Int32} (h : ms_fs F n 0 W v) (hn : n ≤ 7) (ht : t < 7) (h1 : (ab_fs F n).testBit t = true) (h2 : ∀ k, k < t → (ab_fs F n).testBit k = false) : v = nI t := by
  obtain ⟨a1, a2⟩ := (ab_fs_bit F n hn t ht).mp h1
  rcases h.2.2 with ⟨q1, q2⟩ | ⟨t2, q1, q2, q3, q4, q5⟩
  · rw [q2 t (Nat.zero_le _) a1] at a2
    cases a2
  · rcases Nat.lt_trichotomy t t2 with q | q | q
    · rw [q5 t (Nat.zero_le _) q] at a2
      cases a2
    · rw [q3, q]
    · have b1 := (ab_fs_bit F n hn t2 (by omega)).mpr ⟨q2, q4⟩
      rw [h2 t2 q] at b1
      cases b1
theorem sp_ntz {L : Nat} {xs : Nat → Int32} {d ms : Nat} {h : am_HI} {sh : am_SH} {Q : am_Q} {S : Nat} (h1 : S < 128) (h2 : 0 < S) (kk : ∀ t, t < 7 → S.testBit t = true → (∀ k, k < t → S.testBit k = false) → Q (some (.int (nI t))) sh h) :
    am_wp L xs d 0 ms 101 0 [.int (nI S), am_du] [] sh h Q := by
  obtain ⟨t, ht, e1, e2, e3⟩ := pu_ntz S h1 h2
  have k2 := kk t ht e2 e3
  refine wp_run 9 (pc' := 9) (ls' := [.int ((nI S ^^^ -1) &&& (nI S - 1)), am_du]) (st' := [.int ((nI S ^^^ -1) &&& (nI S - 1))]) rfl ?_
  rw [e1]
  have ht7 : t = 0 ∨ t = 1 ∨ t = 2 ∨ t = 3 ∨ t = 4 ∨ t = 5 ∨ t = 6 := by omega
  rcases ht7 with e | e | e | e | e | e | e <;> subst e
  · show am_wp L xs _ _ _ _ 9 [.int 0, am_du] [.int 0] _ _ _
    refine wp_if_f rfl (show ¬ (0 < (0 : Int32)) from by decide) ?_
    refine wp_run 3 (pc' := 16) (ls' := [.int 0, am_du]) (st' := [.int (0 &&& 32)]) rfl ?_
    rw [show ((0 &&& 32) : Int32) = 0 from by decide]
    refine wp_ret rfl ?_
    exact k2
  · show am_wp L xs _ _ _ _ 9 [.int 1, am_du] [.int 1] _ _ _
    refine wp_if_t rfl (show 0 < (1 : Int32) from by decide) ?_
    refine wp_run 4 (pc' := 23) (ls' := [.int 1, .int 1]) (st' := [.int 65536, .int 1]) rfl ?_
    refine wp_icmp_t rfl (show (1 : Int32) ≤ 65536 from by decide) ?_
    refine wp_run 2 (pc' := 38) (ls' := [.int 1, .int 1]) (st' := [.int 256, .int 1]) rfl ?_
    refine wp_icmp_t rfl (show (1 : Int32) ≤ 256 from by decide) ?_
    refine wp_run 2 (pc' := 52) (ls' := [.int 1, .int 1]) (st' := [.int 16, .int 1]) rfl ?_
    refine wp_icmp_t rfl (show (1 : Int32) ≤ 16 from by decide) ?_
    refine wp_run 2 (pc' := 64) (ls' := [.int 1, .int 1]) (st' := [.int 4, .int 1]) rfl ?_
    refine wp_icmp_t rfl (show (1 : Int32) ≤ 4 from by decide) ?_
    refine wp_run 5 (pc' := 79) (ls' := [.int 1, .int 1]) (st' := [.int (1 + (am_ushr 1 1))]) rfl ?_
    rw [show ((am_ushr 1 1) : Int32) = 0 from by decide]
    rw [show ((1 + 0) : Int32) = 1 from by decide]
    refine wp_ret rfl ?_
    exact k2
  · show am_wp L xs _ _ _ _ 9 [.int 3, am_du] [.int 3] _ _ _
    refine wp_if_t rfl (show 0 < (3 : Int32) from by decide) ?_
    refine wp_run 4 (pc' := 23) (ls' := [.int 3, .int 1]) (st' := [.int 65536, .int 3]) rfl ?_
    refine wp_icmp_t rfl (show (3 : Int32) ≤ 65536 from by decide) ?_
    refine wp_run 2 (pc' := 38) (ls' := [.int 3, .int 1]) (st' := [.int 256, .int 3]) rfl ?_
    refine wp_icmp_t rfl (show (3 : Int32) ≤ 256 from by decide) ?_
    refine wp_run 2 (pc' := 52) (ls' := [.int 3, .int 1]) (st' := [.int 16, .int 3]) rfl ?_
    refine wp_icmp_t rfl (show (3 : Int32) ≤ 16 from by decide) ?_
    refine wp_run 2 (pc' := 64) (ls' := [.int 3, .int 1]) (st' := [.int 4, .int 3]) rfl ?_
    refine wp_icmp_t rfl (show (3 : Int32) ≤ 4 from by decide) ?_
    refine wp_run 5 (pc' := 79) (ls' := [.int 3, .int 1]) (st' := [.int (1 + (am_ushr 3 1))]) rfl ?_
    rw [show ((am_ushr 3 1) : Int32) = 1 from by decide]
    rw [show ((1 + 1) : Int32) = 2 from by decide]
    refine wp_ret rfl ?_
    exact k2
  · show am_wp L xs _ _ _ _ 9 [.int 7, am_du] [.int 7] _ _ _
    refine wp_if_t rfl (show 0 < (7 : Int32) from by decide) ?_
    refine wp_run 4 (pc' := 23) (ls' := [.int 7, .int 1]) (st' := [.int 65536, .int 7]) rfl ?_
    refine wp_icmp_t rfl (show (7 : Int32) ≤ 65536 from by decide) ?_
    refine wp_run 2 (pc' := 38) (ls' := [.int 7, .int 1]) (st' := [.int 256, .int 7]) rfl ?_
    refine wp_icmp_t rfl (show (7 : Int32) ≤ 256 from by decide) ?_
    refine wp_run 2 (pc' := 52) (ls' := [.int 7, .int 1]) (st' := [.int 16, .int 7]) rfl ?_
    refine wp_icmp_t rfl (show (7 : Int32) ≤ 16 from by decide) ?_
    refine wp_run 2 (pc' := 64) (ls' := [.int 7, .int 1]) (st' := [.int 4, .int 7]) rfl ?_
    refine wp_icmp_f rfl (show ¬ ((7 : Int32) ≤ 4) from by decide) ?_
    refine wp_run 10 (pc' := 79) (ls' := [.int (am_ushr 7 2), .int (1 + 2)]) (st' := [.int ((1 + 2) + (am_ushr (am_ushr 7 2) 1))]) rfl ?_
    rw [show ((am_ushr 7 2) : Int32) = 1 from by decide]
    rw [show ((1 + 2) : Int32) = 3 from by decide]
    rw [show ((am_ushr 1 1) : Int32) = 0 from by decide]
    rw [show ((3 + 0) : Int32) = 3 from by decide]
    refine wp_ret rfl ?_
    exact k2
  · show am_wp L xs _ _ _ _ 9 [.int 15, am_du] [.int 15] _ _ _
    refine wp_if_t rfl (show 0 < (15 : Int32) from by decide) ?_
    refine wp_run 4 (pc' := 23) (ls' := [.int 15, .int 1]) (st' := [.int 65536, .int 15]) rfl ?_
    refine wp_icmp_t rfl (show (15 : Int32) ≤ 65536 from by decide) ?_
    refine wp_run 2 (pc' := 38) (ls' := [.int 15, .int 1]) (st' := [.int 256, .int 15]) rfl ?_
    refine wp_icmp_t rfl (show (15 : Int32) ≤ 256 from by decide) ?_
    refine wp_run 2 (pc' := 52) (ls' := [.int 15, .int 1]) (st' := [.int 16, .int 15]) rfl ?_
    refine wp_icmp_t rfl (show (15 : Int32) ≤ 16 from by decide) ?_
    refine wp_run 2 (pc' := 64) (ls' := [.int 15, .int 1]) (st' := [.int 4, .int 15]) rfl ?_
    refine wp_icmp_f rfl (show ¬ ((15 : Int32) ≤ 4) from by decide) ?_
    refine wp_run 10 (pc' := 79) (ls' := [.int (am_ushr 15 2), .int (1 + 2)]) (st' := [.int ((1 + 2) + (am_ushr (am_ushr 15 2) 1))]) rfl ?_
    rw [show ((am_ushr 15 2) : Int32) = 3 from by decide]
    rw [show ((1 + 2) : Int32) = 3 from by decide]
    rw [show ((am_ushr 3 1) : Int32) = 1 from by decide]
    rw [show ((3 + 1) : Int32) = 4 from by decide]
    refine wp_ret rfl ?_
    exact k2
  · show am_wp L xs _ _ _ _ 9 [.int 31, am_du] [.int 31] _ _ _
    refine wp_if_t rfl (show 0 < (31 : Int32) from by decide) ?_
    refine wp_run 4 (pc' := 23) (ls' := [.int 31, .int 1]) (st' := [.int 65536, .int 31]) rfl ?_
    refine wp_icmp_t rfl (show (31 : Int32) ≤ 65536 from by decide) ?_
    refine wp_run 2 (pc' := 38) (ls' := [.int 31, .int 1]) (st' := [.int 256, .int 31]) rfl ?_
    refine wp_icmp_t rfl (show (31 : Int32) ≤ 256 from by decide) ?_
    refine wp_run 2 (pc' := 52) (ls' := [.int 31, .int 1]) (st' := [.int 16, .int 31]) rfl ?_
    refine wp_icmp_f rfl (show ¬ ((31 : Int32) ≤ 16) from by decide) ?_
    refine wp_run 7 (pc' := 64) (ls' := [.int (am_ushr 31 4), .int (1 + 4)]) (st' := [.int 4, .int (am_ushr 31 4)]) rfl ?_
    rw [show ((am_ushr 31 4) : Int32) = 1 from by decide]
    rw [show ((1 + 4) : Int32) = 5 from by decide]
    refine wp_icmp_t rfl (show (1 : Int32) ≤ 4 from by decide) ?_
    refine wp_run 5 (pc' := 79) (ls' := [.int 1, .int 5]) (st' := [.int (5 + (am_ushr 1 1))]) rfl ?_
    rw [show ((am_ushr 1 1) : Int32) = 0 from by decide]
    rw [show ((5 + 0) : Int32) = 5 from by decide]
    refine wp_ret rfl ?_
    exact k2
  · show am_wp L xs _ _ _ _ 9 [.int 63, am_du] [.int 63] _ _ _
    refine wp_if_t rfl (show 0 < (63 : Int32) from by decide) ?_
    refine wp_run 4 (pc' := 23) (ls' := [.int 63, .int 1]) (st' := [.int 65536, .int 63]) rfl ?_
    refine wp_icmp_t rfl (show (63 : Int32) ≤ 65536 from by decide) ?_
    refine wp_run 2 (pc' := 38) (ls' := [.int 63, .int 1]) (st' := [.int 256, .int 63]) rfl ?_
    refine wp_icmp_t rfl (show (63 : Int32) ≤ 256 from by decide) ?_
    refine wp_run 2 (pc' := 52) (ls' := [.int 63, .int 1]) (st' := [.int 16, .int 63]) rfl ?_
    refine wp_icmp_f rfl (show ¬ ((63 : Int32) ≤ 16) from by decide) ?_
    refine wp_run 7 (pc' := 64) (ls' := [.int (am_ushr 63 4), .int (1 + 4)]) (st' := [.int 4, .int (am_ushr 63 4)]) rfl ?_
    rw [show ((am_ushr 63 4) : Int32) = 3 from by decide]
    rw [show ((1 + 4) : Int32) = 5 from by decide]
    refine wp_icmp_t rfl (show (3 : Int32) ≤ 4 from by decide) ?_
    refine wp_run 5 (pc' := 79) (ls' := [.int 3, .int 5]) (st' := [.int (5 + (am_ushr 3 1))]) rfl ?_
    rw [show ((am_ushr 3 1) : Int32) = 1 from by decide]
    rw [show ((5 + 1) : Int32) = 6 from by decide]
    refine wp_ret rfl ?_
    exact k2
theorem lp_isSo {L : Nat} {xs : Nat → Int32} {d ms b : Nat} {h : am_HI} {Q : am_Q} {s l n : Nat} (hs : s < 4) (hl24 : l ≤ 24) (hz2 : h 79 s = nI l) (hm2 : h 75 2 = nI n) (hn7 : n ≤ 7) (hln : l ≤ n) (kt : (ab_ft (fun k => h 80 (24 * s + k)) l n (h 88)) = true → Q (some (.int 1)) (am_S b) h) (kf : (ab_ft (fun k => h 80 (24 * s + k)) l n (h 88)) = false → Q (some (.int 0)) (am_S b) h) :
    ∀ (m i : Nat) (hx : ∀ k, k < i → h 80 (24 * s + k) = h 88 k), i + m = l → am_wp L xs d 0 ms 196 23 [.ref 74, .int (nI s), .int 1, .int (nI i)] [] (am_S b) h Q := by
  intro m
  induction m with
  | zero =>
    intro i hx hi
    refine wp_run 2 (pc' := 25) (ls' := [.ref 74, .int (nI s), .int 1, .int (nI i)]) (st' := [.ref 74, .int (nI i)]) rfl ?_
    refine wp_getr 79 rfl rfl rfl ?_
    refine wp_run 1 (pc' := 29) (ls' := [.ref 74, .int (nI s), .int 1, .int (nI i)]) (st' := [.int (nI s), .ref 79, .int (nI i)]) rfl ?_
    refine wp_ald (i := s) (nI l) hz2 rfl rfl rfl (by omega) rfl ?_
    refine wp_icmp_t rfl (show (nI l) ≤ (nI i) from (nI_leI (a := l) (b := i) (by omega) (by omega)).mpr (by omega)) ?_
    refine wp_run 1 (pc' := 70) (ls' := [.ref 74, .int (nI s), .int 1, .int (nI i)]) (st' := [.int 1]) rfl ?_
    refine wp_retz rfl (Or.inr rfl) ?_
    exact kt (decide_eq_true_iff.mpr ⟨hln, fun k hk => hx k (by omega)⟩)
  | succ m ih =>
    intro i hx hi
    refine wp_run 2 (pc' := 25) (ls' := [.ref 74, .int (nI s), .int 1, .int (nI i)]) (st' := [.ref 74, .int (nI i)]) rfl ?_
    refine wp_getr 79 rfl rfl rfl ?_
    refine wp_run 1 (pc' := 29) (ls' := [.ref 74, .int (nI s), .int 1, .int (nI i)]) (st' := [.int (nI s), .ref 79, .int (nI i)]) rfl ?_
    refine wp_ald (i := s) (nI l) hz2 rfl rfl rfl (by omega) rfl ?_
    refine wp_icmp_f rfl (show ¬ ((nI l) ≤ (nI i)) from mt (nI_leI (a := l) (b := i) (by omega) (by omega)).mp (by omega)) ?_
    refine wp_run 1 (pc' := 34) (ls' := [.ref 74, .int (nI s), .int 1, .int (nI i)]) (st' := [.int 1]) rfl ?_
    refine wp_if_f rfl (show ¬ ((1 : Int32) = 0) from by decide) ?_
    refine wp_run 1 (pc' := 38) (ls' := [.ref 74, .int (nI s), .int 1, .int (nI i)]) (st' := [.ref 74]) rfl ?_
    refine wp_getr 80 rfl rfl rfl ?_
    refine wp_run 5 (pc' := 47) (ls' := [.ref 74, .int (nI s), .int 1, .int (nI i)]) (st' := [.int ((24 * (nI s)) + (nI i)), .ref 80]) rfl ?_
    rw [show ((24 * (nI s)) : Int32) = (nI (24 * s)) from pk_mul 24 s]
    rw [show (((nI (24 * s)) + (nI i)) : Int32) = (nI ((24 * s) + i)) from nI_add (24 * s) i]
    refine wp_ald (i := ((24 * s) + i)) (h 80 ((24 * s) + i)) rfl rfl rfl rfl (by omega) rfl ?_
    refine wp_run 1 (pc' := 49) (ls' := [.ref 74, .int (nI s), .int 1, .int (nI i)]) (st' := [.ref 74, .int (h 80 ((24 * s) + i))]) rfl ?_
    refine wp_getr 88 rfl rfl rfl ?_
    refine wp_run 1 (pc' := 53) (ls' := [.ref 74, .int (nI s), .int 1, .int (nI i)]) (st' := [.int (nI i), .ref 88, .int (h 80 ((24 * s) + i))]) rfl ?_
    refine wp_ald (i := i) (h 88 i) rfl rfl rfl rfl (by omega) rfl ?_
    refine wp_icmp rfl (fun (cq54 : ¬ (h 80 ((24 * s) + i)) = (h 88 i)) => ?_) (fun (cq54 : ¬ (¬ (h 80 ((24 * s) + i)) = (h 88 i))) => ?_)
    · skip
      refine wp_run 4 (pc' := 23) (ls' := [.ref 74, .int (nI s), .int 0, .int ((nI i) + 1)]) (st' := []) rfl ?_
      rw [show (((nI i) + 1) : Int32) = (nI (i + 1)) from nI_add i 1]
      refine wp_run 2 (pc' := 25) (ls' := [.ref 74, .int (nI s), .int 0, .int (nI (i + 1))]) (st' := [.ref 74, .int (nI (i + 1))]) rfl ?_
      refine wp_getr 79 rfl rfl rfl ?_
      refine wp_run 1 (pc' := 29) (ls' := [.ref 74, .int (nI s), .int 0, .int (nI (i + 1))]) (st' := [.int (nI s), .ref 79, .int (nI (i + 1))]) rfl ?_
      refine wp_ald (i := s) (nI l) hz2 rfl rfl rfl (by omega) rfl ?_
      refine wp_icmp rfl (fun (cq30 : (nI l) ≤ (nI (i + 1))) => ?_) (fun (cq30 : ¬ ((nI l) ≤ (nI (i + 1)))) => ?_)
      · skip
        refine wp_run 1 (pc' := 70) (ls' := [.ref 74, .int (nI s), .int 0, .int (nI (i + 1))]) (st' := [.int 0]) rfl ?_
        refine wp_retz rfl (Or.inl rfl) ?_
        exact kf (decide_eq_false_iff_not.mpr (fun q => cq54 (q.2 i (by omega))))
      · skip
        refine wp_run 1 (pc' := 34) (ls' := [.ref 74, .int (nI s), .int 0, .int (nI (i + 1))]) (st' := [.int 0]) rfl ?_
        refine wp_if_t rfl (show (0 : Int32) = 0 from by decide) ?_
        refine wp_run 1 (pc' := 70) (ls' := [.ref 74, .int (nI s), .int 0, .int (nI (i + 1))]) (st' := [.int 0]) rfl ?_
        refine wp_retz rfl (Or.inl rfl) ?_
        exact kf (decide_eq_false_iff_not.mpr (fun q => cq54 (q.2 i (by omega))))
    · skip
      replace cq54 := Decidable.not_not.mp cq54
      refine wp_run 5 (pc' := 23) (ls' := [.ref 74, .int (nI s), .int 1, .int ((nI i) + 1)]) (st' := []) rfl ?_
      rw [show (((nI i) + 1) : Int32) = (nI (i + 1)) from nI_add i 1]
      exact ih (i + 1) (fun k hk => by rcases Nat.lt_succ_iff_lt_or_eq.mp hk with q | q; exact hx k q; rw [q]; exact cq54) (by omega)
theorem sp_isSo {L : Nat} {xs : Nat → Int32} {d ms b : Nat} {h : am_HI} {Q : am_Q} {s l n : Nat} (hs : s < 4) (hl24 : l ≤ 24) (hz2 : h 79 s = nI l) (hm2 : h 75 2 = nI n) (hn7 : n ≤ 7) (kt : (ab_ft (fun k => h 80 (24 * s + k)) l n (h 88)) = true → Q (some (.int 1)) (am_S b) h) (kf : (ab_ft (fun k => h 80 (24 * s + k)) l n (h 88)) = false → Q (some (.int 0)) (am_S b) h) :
    am_wp L xs d 0 ms 196 0 [.ref 74, .int (nI s), am_du, am_du] [] (am_S b) h Q := by
  refine wp_run 1 (pc' := 1) (ls' := [.ref 74, .int (nI s), am_du, am_du]) (st' := [.ref 74]) rfl ?_
  refine wp_getr 79 rfl rfl rfl ?_
  refine wp_run 1 (pc' := 5) (ls' := [.ref 74, .int (nI s), am_du, am_du]) (st' := [.int (nI s), .ref 79]) rfl ?_
  refine wp_ald (i := s) (nI l) hz2 rfl rfl rfl (by omega) rfl ?_
  refine wp_run 1 (pc' := 7) (ls' := [.ref 74, .int (nI s), am_du, am_du]) (st' := [.ref 74, .int (nI l)]) rfl ?_
  refine wp_getr 75 rfl rfl rfl ?_
  refine wp_run 1 (pc' := 11) (ls' := [.ref 74, .int (nI s), am_du, am_du]) (st' := [.int 2, .ref 75, .int (nI l)]) rfl ?_
  refine wp_ald (i := 2) (nI n) hm2 rfl rfl rfl (by decide) rfl ?_
  refine wp_icmp rfl (fun (cq12 : (nI n) < (nI l)) => ?_) (fun (cq12 : ¬ ((nI n) < (nI l))) => ?_)
  · skip
    have cq12n : n < l := (nI_ltI (a := n) (b := l) (by omega) (by omega)).mp cq12
    refine wp_run 4 (pc' := 23) (ls' := [.ref 74, .int (nI s), .int 0, .int 0]) (st' := []) rfl ?_
    refine wp_run 2 (pc' := 25) (ls' := [.ref 74, .int (nI s), .int 0, .int 0]) (st' := [.ref 74, .int 0]) rfl ?_
    refine wp_getr 79 rfl rfl rfl ?_
    refine wp_run 1 (pc' := 29) (ls' := [.ref 74, .int (nI s), .int 0, .int 0]) (st' := [.int (nI s), .ref 79, .int 0]) rfl ?_
    refine wp_ald (i := s) (nI l) hz2 rfl rfl rfl (by omega) rfl ?_
    refine wp_icmp rfl (fun (cq30 : (nI l) ≤ (0 : Int32)) => ?_) (fun (cq30 : ¬ ((nI l) ≤ (0 : Int32))) => ?_)
    · skip
      refine wp_run 1 (pc' := 70) (ls' := [.ref 74, .int (nI s), .int 0, .int 0]) (st' := [.int 0]) rfl ?_
      refine wp_retz rfl (Or.inl rfl) ?_
      exact kf (decide_eq_false_iff_not.mpr (fun q => absurd q.1 (by omega)))
    · skip
      refine wp_run 1 (pc' := 34) (ls' := [.ref 74, .int (nI s), .int 0, .int 0]) (st' := [.int 0]) rfl ?_
      refine wp_if_t rfl (show (0 : Int32) = 0 from by decide) ?_
      refine wp_run 1 (pc' := 70) (ls' := [.ref 74, .int (nI s), .int 0, .int 0]) (st' := [.int 0]) rfl ?_
      refine wp_retz rfl (Or.inl rfl) ?_
      exact kf (decide_eq_false_iff_not.mpr (fun q => absurd q.1 (by omega)))
  · skip
    have cq12n : ¬ (n < l) := fun q => cq12 ((nI_ltI (a := n) (b := l) (by omega) (by omega)).mpr q)
    refine wp_run 5 (pc' := 23) (ls' := [.ref 74, .int (nI s), .int 1, .int 0]) (st' := []) rfl ?_
    exact lp_isSo hs hl24 hz2 hm2 hn7 (by omega) kt kf l 0 (fun k hk => by omega) (by omega)
theorem lp_m_fits {L : Nat} {xs : Nat → Int32} {d ms b : Nat} {h : am_HI} {Q : am_Q} {X : am_HI} {s l n c : Nat} {p2 : Int32} {LK : Nat → Nat → Int32} (hs : s < 4) (hl24 : l ≤ 24) (hz2 : X 79 s = nI l) (hm2 : X 75 2 = nI n) (hn7 : n ≤ 7) (hm3 : X 75 3 = nI c) (hc7 : c ≤ 7) (hl : ∀ g, g < n → ∀ j, j < c → X 87 (7 * g + j) = LK j g) (hd : 4 ≤ d) (kk : ∀ r W v u6, ms_fs (fun i => ab_ft (fun k => X 80 (24 * s + k)) l n (ab_got LK c n i)) n 0 W v → am_wp L xs d 0 ms 194 112 [.ref 74, .int (nI s), .int p2, .int (nI W), .int v, .int (-1), u6] [] (am_S b) (am_ur X 88 r) Q) :
    ∀ (i W : Nat) (v : Int32) (u6 : Value) (r : Nat → Int32), i ≤ n → ms_fs (fun i => ab_ft (fun k => X 80 (24 * s + k)) l n (ab_got LK c n i)) n i W v → am_wp L xs d 0 ms 194 58 [.ref 74, .int (nI s), .int p2, .int (nI W), .int v, .int (nI i - 1), u6] [] (am_S b) (am_ur X 88 r) Q := by
  intro i
  induction i with
  | zero =>
    intro W v u6 r hi hfs
    rw [show (nI 0 - 1 : Int32) = -1 from by decide]
    refine wp_run 1 (pc' := 60) (ls' := [.ref 74, .int (nI s), .int p2, .int (nI W), .int v, .int (-1), u6]) (st' := [.int (-1)]) rfl ?_
    refine wp_if_t rfl (show ((-1) : Int32) < 0 from by decide) ?_
    exact kk r W v u6 hfs
  | succ i ih =>
    intro W v u6 r hi hfs
    rw [nI_pred i]
    refine wp_run 1 (pc' := 60) (ls' := [.ref 74, .int (nI s), .int p2, .int (nI W), .int v, .int (nI i), u6]) (st' := [.int (nI i)]) rfl ?_
    refine wp_if_f rfl (show ¬ ((nI i) < 0) from mt (nI_ltI (a := i) (b := 0) (by omega) (by omega)).mp (by omega)) ?_
    refine wp_run 2 (pc' := 66) (ls' := [.ref 74, .int (nI s), .int p2, .int (nI W), .int v, .int (nI i), u6]) (st' := [.int (nI i), .ref 74]) rfl ?_
    refine wp_callV (o := 74) (as := [.int (nI i)]) (rest := []) (els := [.ref 74, .int (nI i), am_du, am_du, am_du, am_du]) rfl rfl rfl rfl rfl rfl rfl rfl (by omega) ?_
    refine sp_allGet (h := h) (X := am_ur X 88 r) (n := n) (c := c) (f := i) (LK := LK) hm2 hn7 hm3 hc7 (by omega) hl (by omega) (fun r2 hr2 => ?_)
    rw [am_ur_ur]
    show am_wp L xs _ _ _ _ 69 [.ref 74, .int (nI s), .int p2, .int (nI W), .int v, .int (nI i), u6] [] (am_S b) (am_ur X 88 r2) _
    refine wp_run 2 (pc' := 71) (ls' := [.ref 74, .int (nI s), .int p2, .int (nI W), .int v, .int (nI i), u6]) (st' := [.int (nI s), .ref 74]) rfl ?_
    refine wp_callV (o := 74) (as := [.int (nI s)]) (rest := []) (els := [.ref 74, .int (nI s), am_du, am_du]) rfl rfl rfl rfl rfl rfl rfl rfl (by omega) ?_
    refine sp_isSo (h := am_ur X 88 r2) (s := s) (l := l) (n := n) hs hl24 hz2 hm2 hn7 ?_ ?_
    · skip
      intro hq
      have hF : (fun i => ab_ft (fun k => X 80 (24 * s + k)) l n (ab_got LK c n i)) i = true := (ab_ft_c (fun k hk => rfl) (fun g hg => (hr2 g hg).symm)).trans hq
      show am_wp L xs _ _ _ _ 74 [.ref 74, .int (nI s), .int p2, .int (nI W), .int v, .int (nI i), u6] [.int 1] (am_S b) (am_ur X 88 r2) _
      refine wp_run 3 (pc' := 79) (ls' := [.ref 74, .int (nI s), .int p2, .int (nI W), .int v, .int (nI i), .int 1]) (st' := [.int 1, .int (nI W)]) rfl ?_
      refine wp_if_f rfl (show ¬ ((1 : Int32) = 0) from by decide) ?_
      refine wp_run 7 (pc' := 94) (ls' := [.ref 74, .int (nI s), .int p2, .int ((nI W) ||| (1 <<< ((nI i) &&& 31))), .int v, .int (nI i), .int 1]) (st' := [.int 1]) rfl ?_
      refine wp_if_f rfl (show ¬ ((1 : Int32) = 0) from by decide) ?_
      refine wp_run 5 (pc' := 58) (ls' := [.ref 74, .int (nI s), .int p2, .int ((nI W) ||| (1 <<< ((nI i) &&& 31))), .int (nI i), .int ((nI i) + (-1)), .int 1]) (st' := []) rfl ?_
      rw [show (((nI i) + (-1)) : Int32) = nI i - 1 from (Int32.sub_eq_add_neg (nI i) 1).symm]
      rw [show (((nI W) ||| (1 <<< ((nI i) &&& 31))) : Int32) = nI (pu_set W i) from pu_set_i W hfs.1 i (by omega)]
      exact ih _ _ _ _ (by omega) (ms_fs_t hfs (by omega) hn7 hF)
    · skip
      intro hq
      have hF : (fun i => ab_ft (fun k => X 80 (24 * s + k)) l n (ab_got LK c n i)) i = false := (ab_ft_c (fun k hk => rfl) (fun g hg => (hr2 g hg).symm)).trans hq
      show am_wp L xs _ _ _ _ 74 [.ref 74, .int (nI s), .int p2, .int (nI W), .int v, .int (nI i), u6] [.int 0] (am_S b) (am_ur X 88 r2) _
      refine wp_run 3 (pc' := 79) (ls' := [.ref 74, .int (nI s), .int p2, .int (nI W), .int v, .int (nI i), .int 0]) (st' := [.int 0, .int (nI W)]) rfl ?_
      refine wp_if_t rfl (show (0 : Int32) = 0 from by decide) ?_
      refine wp_run 4 (pc' := 94) (ls' := [.ref 74, .int (nI s), .int p2, .int ((nI W) ||| 0), .int v, .int (nI i), .int 0]) (st' := [.int 0]) rfl ?_
      refine wp_if_t rfl (show (0 : Int32) = 0 from by decide) ?_
      refine wp_run 4 (pc' := 58) (ls' := [.ref 74, .int (nI s), .int p2, .int ((nI W) ||| 0), .int v, .int ((nI i) + (-1)), .int 0]) (st' := []) rfl ?_
      rw [show (((nI i) + (-1)) : Int32) = nI i - 1 from (Int32.sub_eq_add_neg (nI i) 1).symm]
      rw [show (((nI W) ||| 0) : Int32) = nI W from Int32.or_zero]
      exact ih _ _ _ _ (by omega) (ms_fs_f hfs hF)
theorem re_keep0 {N : Nat} {h Y : am_HI} (hR : am_Rel N h) (q : ∀ a, re_scr.elem a = false → Y a = h a) (Hn : ∃ n c t tp wt s0 s1 p0 p1, re_H Y n c t tp wt s0 s1 p0 p1) : am_Rel N Y := by
  obtain ⟨-, hI, hE, hS0, hS1, hS2, hS3, hT⟩ := hR
  refine ⟨Hn, ?_, ?_, ?_, ?_, ?_, ?_, ?_⟩
  · unfold re_K
    rw [q 0 rfl, q 74 rfl, q 24 rfl, q 25 rfl, q 26 rfl, q 27 rfl, q 28 rfl, q 29 rfl, q 30 rfl, q 31 rfl, q 32 rfl, q 33 rfl, q 34 rfl, q 35 rfl, q 37 rfl, q 38 rfl, q 39 rfl, q 42 rfl, q 43 rfl, q 44 rfl, q 76 rfl]
    exact hI
  · rw [q 73 rfl, q 77 rfl]
    exact hE
  · rw [q 65 rfl, q 66 rfl, q 78 rfl, q 79 rfl, q 80 rfl]
    exact hS0
  · rw [q 67 rfl, q 68 rfl, q 78 rfl, q 79 rfl, q 80 rfl]
    exact hS1
  · rw [q 69 rfl, q 70 rfl, q 78 rfl, q 79 rfl, q 80 rfl]
    exact hS2
  · rw [q 71 rfl, q 72 rfl, q 78 rfl, q 79 rfl, q 80 rfl]
    exact hS3
  · rw [q 62 rfl, q 63 rfl, q 74 rfl, q 91 rfl]
    exact hT
theorem am_ov_u (h : am_HI) {a : Nat} (i : Nat) (v : Int32) {l : List Nat} (g : am_HI) (ha : l.elem a = false) : am_ov (am_u h a i v) l g = am_u (am_ov h l g) a i v := by
  funext b
  by_cases e : b = a
  · subst e
    rw [am_ov_off ha]
    unfold am_u
    rw [if_pos rfl, if_pos rfl, am_ov_off ha]
  · rw [am_u_off _ _ _ e]
    unfold am_ov
    rw [am_u_off _ _ _ e]
theorem am_ur_u2 (h : am_HI) {a k : Nat} (i : Nat) (v : Int32) (r : Nat → Int32) (ha : a ≠ k) : am_ur (am_u h a i v) k r = am_u (am_ur h k r) a i v := by
  funext b
  by_cases e : b = a
  · subst e
    rw [am_ur_off _ _ ha]
    unfold am_u
    rw [if_pos rfl, if_pos rfl, am_ur_off _ _ ha]
  · rw [am_u_off _ _ _ e]
    unfold am_ur
    rw [am_u_off _ _ _ e]
theorem re_fit_err {N : Nat} {h gz1 gz2 : am_HI} {r9 : Nat → Int32} (hR : am_Rel N h) (Hn : ∃ n c t tp wt s0 s1 p0 p1, re_H h n c t tp wt s0 s1 p0 p1) : am_Rel (N + 1) (am_u (am_ur (am_ov (am_u (am_ov h [17, 18, 47, 48, 53] gz1) 73 2 (h 73 2 + 1)) [83, 84, 86, 87] gz2) 88 r9) 77 2 (h 77 2 + 1)) := by
  rw [am_ov_u _ _ _ _ rfl, am_ur_u2 _ _ _ _ (by decide)]
  exact re_err2 (re_keep0 (Y := am_ur (am_ov (am_ov h [17, 18, 47, 48, 53] gz1) [83, 84, 86, 87] gz2) 88 r9) hR (am_ov2 (l3 := []) (k := 0) rfl rfl rfl) Hn)
theorem op_fits {L : Nat} {xs : Nat → Int32} {d ms b N : Nat} {h : am_HI} {Q : am_Q} {x1 : Int32} {x2 : Int32} (hd : 30 ≤ d) (hR : am_Rel N h) (hN : N < 100000)
    (kk : ∀ v b1 h1, (∀ ms2 Q2, (∀ b2 h2, am_Rel (N + 1) h2 → Q2 (some (.int v)) (am_S b2) h2) → am_wp L xs d 0 ms2 194 0 [.ref 74, .int x1, .int x2, am_du, am_du, am_du, am_du] [] (am_S b1) h1 Q2) → Q (some (.int v)) (am_S b1) h1) :
    am_wp L xs d 0 ms 96 0 [.ref 0, .int x1, .int x2, am_du] [] (am_S b) h Q := by
  obtain ⟨⟨n, c, t, tp, wt, s0, s1, p0, p1, H⟩, hI, hE, hS0, hS1, hS2, hS3, hT⟩ := id hR
  have hn := H.1.1
  have hm2 := H.1.2.1
  have hn7 := H.1.2.2
  have hc := H.2.1.1
  have hm3 := H.2.1.2.1
  have hc7 := H.2.1.2.2
  have ht := H.2.2.1.1
  have hm0 := H.2.2.1.2.1
  have ht9 := H.2.2.1.2.2
  have HS := re_hs H
  have HM := re_ms H
  refine wp_run 1 (pc' := 1) (ls' := [.ref 0, .int x1, .int x2, am_du]) (st' := [.int x1]) rfl ?_
  refine wp_callS (as := [.int x1]) (rest := []) (els := [.int x1]) rfl rfl rfl rfl rfl rfl rfl rfl (by omega) ?_
  refine sp_x_isSheet (by omega) (pu_four ?_ ?_ ?_ ?_) ?_
  · skip
    intro ex1
    subst ex1
    show am_wp L xs _ _ _ _ 4 [.ref 0, .int 0, .int x2, am_du] [.int 1] (am_S b) h _
    refine wp_if_f rfl (show ¬ ((1 : Int32) = 0) from by decide) ?_
    refine wp_run 3 (pc' := 10) (ls' := [.ref 0, .int 0, .int x2, am_du]) (st' := [.int 1, .int 0, .int x2]) rfl ?_
    refine wp_callS (as := [.int x2, .int 0, .int 1]) (rest := []) (els := [.int x2, .int 0, .int 1]) rfl rfl rfl rfl rfl rfl rfl rfl (by omega) ?_
    refine sp_x_within0 (m := 1) rfl rfl (pu_two ?_ ?_) ?_
    · skip
      intro ex2
      subst ex2
      show am_wp L xs _ _ _ _ 13 [.ref 0, .int 0, .int 0, am_du] [.int 1] (am_S b) h _
      refine wp_if_t rfl (show ¬ (1 : Int32) = 0 from by decide) ?_
      obtain ⟨l, hl24, ho2, hz2, hob, hbb, hri⟩ := id hS0
      rcases (show h 78 0 = 0 ∨ ¬ h 78 0 = 0 from Classical.em _) with eb | eb
      · skip
        refine wp_run 1 (pc' := 23) (ls' := [.ref 0, .int 0, .int 0, am_du]) (st' := [.ref 0]) rfl ?_
        refine wp_getr 64 rfl rfl rfl ?_
        refine wp_run 1 (pc' := 27) (ls' := [.ref 0, .int 0, .int 0, am_du]) (st' := [.int 0, .ref 64]) rfl ?_
        refine wp_aald (r := 65) rfl rfl (Or.inr rfl) rfl (by decide) rfl rfl ?_
        refine wp_callV (o := 65) (as := []) (rest := []) (els := [.ref 65]) rfl rfl rfl rfl rfl rfl rfl rfl (by omega) ?_
        refine wp_run 1 (pc' := 1) (ls' := [.ref 65]) (st' := [.ref 65]) rfl ?_
        refine wp_geti (a := 1) 0 (hob.trans eb) rfl rfl rfl ?_
        refine wp_if_f rfl (show ¬ (¬ (0 : Int32) = 0) from by decide) ?_
        refine wp_run 2 (pc' := 12) (ls' := [.ref 65]) (st' := [.int 1]) rfl ?_
        refine wp_retz rfl (Or.inr rfl) ?_
        show am_wp L xs _ _ _ _ 31 [.ref 0, .int 0, .int 0, am_du] [.int 1] (am_S b) h _
        refine wp_if_f rfl (show ¬ ((1 : Int32) = 0) from by decide) ?_
        refine wp_run 2 (pc' := 36) (ls' := [.ref 0, .int 0, .int 0, am_du]) (st' := [.int 2, .ref 0]) rfl ?_
        refine wp_callV (o := 0) (as := [.int 2]) (rest := []) (els := [.ref 0, .int 2]) rfl rfl rfl rfl rfl rfl rfl rfl (by omega) ?_
        refine sp_refuse2 (by omega) ?_
        show am_wp L xs _ _ _ _ 39 [.ref 0, .int 0, .int 0, am_du] [.int (-1000000002)] (am_S b) (am_u h 73 2 (h 73 2 + 1)) _
        refine wp_ret rfl ?_
        refine kk _ _ _ (fun ms2 Q2 kk2 => ?_)
        refine wp_run 1 (pc' := 1) (ls' := [.ref 74, .int 0, .int 0, am_du, am_du, am_du, am_du]) (st' := [.int 0]) rfl ?_
        refine wp_callS (as := [.int 0]) (rest := []) (els := [.int 0]) rfl rfl rfl rfl rfl rfl rfl rfl (by omega) ?_
        refine sp_m_isSheet (by omega) (fun _ _ _ => ?_) (fun q => absurd rfl (q 0 (by omega)))
        show am_wp L xs _ _ _ _ 4 [.ref 74, .int 0, .int 0, am_du, am_du, am_du, am_du] [.int 1] (am_S b) (am_u h 73 2 (h 73 2 + 1)) _
        refine wp_if_f rfl (show ¬ ((1 : Int32) = 0) from by decide) ?_
        refine wp_run 3 (pc' := 10) (ls' := [.ref 74, .int 0, .int 0, am_du, am_du, am_du, am_du]) (st' := [.int 1, .int 0, .int 0]) rfl ?_
        refine wp_callS (as := [.int 0, .int 0, .int 1]) (rest := []) (els := [.int 0, .int 0, .int 1]) rfl rfl rfl rfl rfl rfl rfl rfl (by omega) ?_
        refine sp_m_in0 (m := 1) rfl rfl (fun _ _ _ => ?_) (fun q => absurd rfl (q 0 (by omega)))
        show am_wp L xs _ _ _ _ 13 [.ref 74, .int 0, .int 0, am_du, am_du, am_du, am_du] [.int 1] (am_S b) (am_u h 73 2 (h 73 2 + 1)) _
        refine wp_if_t rfl (show ¬ (1 : Int32) = 0 from by decide) ?_
        refine wp_run 1 (pc' := 24) (ls' := [.ref 74, .int 0, .int 0, am_du, am_du, am_du, am_du]) (st' := [.ref 74]) rfl ?_
        refine wp_getr 78 rfl rfl rfl ?_
        refine wp_run 1 (pc' := 28) (ls' := [.ref 74, .int 0, .int 0, am_du, am_du, am_du, am_du]) (st' := [.int 0, .ref 78]) rfl ?_
        refine wp_ald (i := 0) 0 eb rfl rfl rfl (by decide) rfl ?_
        refine wp_if_f rfl (show ¬ (¬ (0 : Int32) = 0) from by decide) ?_
        refine wp_run 2 (pc' := 35) (ls' := [.ref 74, .int 0, .int 0, am_du, am_du, am_du, am_du]) (st' := [.int (-1000000002), .ref 74]) rfl ?_
        refine wp_callV (o := 74) (as := [.int (-1000000002)]) (rest := []) (els := [.ref 74, .int (-1000000002)]) rfl rfl rfl rfl rfl rfl rfl rfl (by omega) ?_
        refine sp_error2 ?_
        show am_wp L xs _ _ _ _ 38 [.ref 74, .int 0, .int 0, am_du, am_du, am_du, am_du] [.int (-1000000002)] (am_S b) (am_u (am_u h 73 2 (h 73 2 + 1)) 77 2 ((am_u h 73 2 (h 73 2 + 1)) 77 2 + 1)) _
        refine wp_ret rfl ?_
        exact kk2 _ _ (re_err2 hR)
      · skip
        have hsl := ab_fs_lt (fun i => ab_ft (h 66) l n (ab_got (fun j g => hs_lk h s0 p0 j g) c n i)) n hn7
        refine wp_run 1 (pc' := 23) (ls' := [.ref 0, .int 0, .int 0, am_du]) (st' := [.ref 0]) rfl ?_
        refine wp_getr 64 rfl rfl rfl ?_
        refine wp_run 1 (pc' := 27) (ls' := [.ref 0, .int 0, .int 0, am_du]) (st' := [.int 0, .ref 64]) rfl ?_
        refine wp_aald (r := 65) rfl rfl (Or.inr rfl) rfl (by decide) rfl rfl ?_
        refine wp_callV (o := 65) (as := []) (rest := []) (els := [.ref 65]) rfl rfl rfl rfl rfl rfl rfl rfl (by omega) ?_
        refine wp_run 1 (pc' := 1) (ls' := [.ref 65]) (st' := [.ref 65]) rfl ?_
        refine wp_geti (a := 1) (h 78 0) hob rfl rfl rfl ?_
        refine wp_if_t rfl (show ¬ (h 78 0) = 0 from eb) ?_
        refine wp_run 1 (pc' := 12) (ls' := [.ref 65]) (st' := [.int 0]) rfl ?_
        refine wp_retz rfl (Or.inl rfl) ?_
        show am_wp L xs _ _ _ _ 31 [.ref 0, .int 0, .int 0, am_du] [.int 0] (am_S b) h _
        refine wp_if_t rfl (show (0 : Int32) = 0 from by decide) ?_
        refine wp_run 1 (pc' := 41) (ls' := [.ref 0, .int 0, .int 0, am_du]) (st' := [.ref 0]) rfl ?_
        refine wp_getr 49 rfl rfl rfl ?_
        refine wp_run 1 (pc' := 45) (ls' := [.ref 0, .int 0, .int 0, am_du]) (st' := [.ref 0, .ref 49]) rfl ?_
        refine wp_getr 1 rfl rfl rfl ?_
        refine wp_run 1 (pc' := 49) (ls' := [.ref 0, .int 0, .int 0, am_du]) (st' := [.ref 0, .ref 1, .ref 49]) rfl ?_
        refine wp_getr 47 rfl rfl rfl ?_
        refine wp_run 1 (pc' := 53) (ls' := [.ref 0, .int 0, .int 0, am_du]) (st' := [.ref 0, .ref 47, .ref 1, .ref 49]) rfl ?_
        refine wp_getr 64 rfl rfl rfl ?_
        refine wp_run 1 (pc' := 57) (ls' := [.ref 0, .int 0, .int 0, am_du]) (st' := [.int 0, .ref 64, .ref 47, .ref 1, .ref 49]) rfl ?_
        refine wp_aald (r := 65) rfl rfl (Or.inr rfl) rfl (by decide) rfl rfl ?_
        refine wp_callV (o := 49) (as := [.ref 1, .ref 47, .ref 65]) (rest := []) (els := [.ref 49, .ref 1, .ref 47, .ref 65, am_du, am_du]) rfl rfl rfl rfl rfl rfl rfl rfl (by omega) ?_
        refine sp_fit0 HS ho2 hl24 (by omega) (fun gz1 => ?_)
        show am_wp L xs _ _ _ _ 61 [.ref 0, .int 0, .int 0, am_du] [.int (nI (ab_fs (fun i => ab_ft (h 66) l n (ab_got (fun j g => hs_lk h s0 p0 j g) c n i)) n))] (am_S b) (am_ov h [17, 18, 47, 48, 53] gz1) _
        refine wp_run 2 (pc' := 63) (ls' := [.ref 0, .int 0, .int 0, .int (nI (ab_fs (fun i => ab_ft (h 66) l n (ab_got (fun j g => hs_lk h s0 p0 j g) c n i)) n))]) (st' := [.int 0]) rfl ?_
        refine wp_if_f rfl (show ¬ (¬ (0 : Int32) = 0) from by decide) ?_
        refine wp_run 1 (pc' := 67) (ls' := [.ref 0, .int 0, .int 0, .int (nI (ab_fs (fun i => ab_ft (h 66) l n (ab_got (fun j g => hs_lk h s0 p0 j g) c n i)) n))]) (st' := [.int (nI (ab_fs (fun i => ab_ft (h 66) l n (ab_got (fun j g => hs_lk h s0 p0 j g) c n i)) n))]) rfl ?_
        refine wp_ret rfl ?_
        refine kk _ _ _ (fun ms2 Q2 kk2 => ?_)
        refine wp_run 1 (pc' := 1) (ls' := [.ref 74, .int 0, .int 0, am_du, am_du, am_du, am_du]) (st' := [.int 0]) rfl ?_
        refine wp_callS (as := [.int 0]) (rest := []) (els := [.int 0]) rfl rfl rfl rfl rfl rfl rfl rfl (by omega) ?_
        refine sp_m_isSheet (by omega) (fun _ _ _ => ?_) (fun q => absurd rfl (q 0 (by omega)))
        show am_wp L xs _ _ _ _ 4 [.ref 74, .int 0, .int 0, am_du, am_du, am_du, am_du] [.int 1] (am_S b) (am_ov h [17, 18, 47, 48, 53] gz1) _
        refine wp_if_f rfl (show ¬ ((1 : Int32) = 0) from by decide) ?_
        refine wp_run 3 (pc' := 10) (ls' := [.ref 74, .int 0, .int 0, am_du, am_du, am_du, am_du]) (st' := [.int 1, .int 0, .int 0]) rfl ?_
        refine wp_callS (as := [.int 0, .int 0, .int 1]) (rest := []) (els := [.int 0, .int 0, .int 1]) rfl rfl rfl rfl rfl rfl rfl rfl (by omega) ?_
        refine sp_m_in0 (m := 1) rfl rfl (fun _ _ _ => ?_) (fun q => absurd rfl (q 0 (by omega)))
        show am_wp L xs _ _ _ _ 13 [.ref 74, .int 0, .int 0, am_du, am_du, am_du, am_du] [.int 1] (am_S b) (am_ov h [17, 18, 47, 48, 53] gz1) _
        refine wp_if_t rfl (show ¬ (1 : Int32) = 0 from by decide) ?_
        refine wp_run 1 (pc' := 24) (ls' := [.ref 74, .int 0, .int 0, am_du, am_du, am_du, am_du]) (st' := [.ref 74]) rfl ?_
        refine wp_getr 78 rfl rfl rfl ?_
        refine wp_run 1 (pc' := 28) (ls' := [.ref 74, .int 0, .int 0, am_du, am_du, am_du, am_du]) (st' := [.int 0, .ref 78]) rfl ?_
        refine wp_ald (i := 0) (h 78 0) rfl rfl rfl rfl (by decide) rfl ?_
        refine wp_if_t rfl (show ¬ (h 78 0) = 0 from eb) ?_
        refine wp_run 1 (pc' := 40) (ls' := [.ref 74, .int 0, .int 0, am_du, am_du, am_du, am_du]) (st' := [.ref 74]) rfl ?_
        refine wp_callV (o := 74) (as := []) (rest := []) (els := [.ref 74, am_du, am_du]) rfl rfl rfl rfl rfl rfl rfl rfl (by omega) ?_
        refine sp_findWorths (h := (am_ov h [17, 18, 47, 48, 53] gz1)) (n := n) (c := c) (t := t) (s0 := s0) (s1 := s1) (p0 := p0) (p1 := p1) HM (by omega) (fun gz2 f86 f87 => ?_)
        show am_wp L xs _ _ _ _ 43 [.ref 74, .int 0, .int 0, am_du, am_du, am_du, am_du] [] (am_S b) (am_ov (am_ov h [17, 18, 47, 48, 53] gz1) [83, 84, 86, 87] gz2) _
        refine wp_run 5 (pc' := 49) (ls' := [.ref 74, .int 0, .int 0, .int 0, .int (-1), am_du, am_du]) (st' := [.ref 74]) rfl ?_
        refine wp_getr 75 rfl rfl rfl ?_
        refine wp_run 1 (pc' := 53) (ls' := [.ref 74, .int 0, .int 0, .int 0, .int (-1), am_du, am_du]) (st' := [.int 2, .ref 75]) rfl ?_
        refine wp_ald (i := 2) (nI n) hm2 rfl rfl rfl (by decide) rfl ?_
        refine wp_run 3 (pc' := 58) (ls' := [.ref 74, .int 0, .int 0, .int 0, .int (-1), .int ((nI n) - 1), am_du]) (st' := []) rfl ?_
        have hp := fun kq => lp_m_fits (L := L) (xs := xs) (d := d) (ms := ms2) (b := b) (h := h) (Q := Q2) (X := (am_ov (am_ov h [17, 18, 47, 48, 53] gz1) [83, 84, 86, 87] gz2)) (s := 0) (l := l) (n := n) (c := c) (LK := (fun j g => hs_lk h s0 p0 j g)) (p2 := 0) (by omega) hl24 hz2 hm2 hn7 hm3 hc7 (fun g hg j hj => (f87 g hg j hj).trans (re_lk H hj hg)) (by omega) kq n 0 (-1) am_du ((am_ov (am_ov h [17, 18, 47, 48, 53] gz1) [83, 84, 86, 87] gz2) 88) (Nat.le_refl _) ⟨by decide, fun k hk => by simp; omega, Or.inl ⟨rfl, fun k k1 k2 => by omega⟩⟩
        rw [← am_ur_self] at hp
        refine hp (fun r9 W9 v9 u9 hfs0 => ?_)
        have hfs : ms_fs (fun i => ab_ft (h 66) l n (ab_got (fun j g => hs_lk h s0 p0 j g) c n i)) n 0 W9 v9 := by
          have ef : (fun i => ab_ft (fun k => (am_ov (am_ov h [17, 18, 47, 48, 53] gz1) [83, 84, 86, 87] gz2) 80 (24 * 0 + k)) l n (ab_got (fun j g => hs_lk h s0 p0 j g) c n i)) = (fun i => ab_ft (h 66) l n (ab_got (fun j g => hs_lk h s0 p0 j g) c n i)) := funext fun i => ab_ft_c (fun q hq => (hri q (by omega)).symm) (fun g hg => rfl)
          rw [← ef]
          exact hfs0
        have eW := ms_fs_set hfs hn7
        rw [eW]
        refine wp_run 1 (pc' := 113) (ls' := [.ref 74, .int 0, .int 0, .int (nI (ab_fs (fun i => ab_ft (h 66) l n (ab_got (fun j g => hs_lk h s0 p0 j g) c n i)) n)), .int v9, .int (-1), u9]) (st' := [.int 0]) rfl ?_
        refine wp_if_f rfl (show ¬ (¬ (0 : Int32) = 0) from by decide) ?_
        refine wp_run 2 (pc' := 136) (ls' := [.ref 74, .int 0, .int 0, .int (nI (ab_fs (fun i => ab_ft (h 66) l n (ab_got (fun j g => hs_lk h s0 p0 j g) c n i)) n)), .int v9, .int (-1), u9]) (st' := [.int (nI (ab_fs (fun i => ab_ft (h 66) l n (ab_got (fun j g => hs_lk h s0 p0 j g) c n i)) n))]) rfl ?_
        refine wp_ret rfl ?_
        exact kk2 _ _ (re_keep hR (am_ov2 (l3 := []) (k := 0) rfl rfl rfl) ⟨n, c, t, tp, wt, s0, s1, p0, p1, H⟩)
    · skip
      intro ex2
      subst ex2
      show am_wp L xs _ _ _ _ 13 [.ref 0, .int 0, .int 1, am_du] [.int 1] (am_S b) h _
      refine wp_if_t rfl (show ¬ (1 : Int32) = 0 from by decide) ?_
      obtain ⟨l, hl24, ho2, hz2, hob, hbb, hri⟩ := id hS0
      rcases (show h 78 0 = 0 ∨ ¬ h 78 0 = 0 from Classical.em _) with eb | eb
      · skip
        refine wp_run 1 (pc' := 23) (ls' := [.ref 0, .int 0, .int 1, am_du]) (st' := [.ref 0]) rfl ?_
        refine wp_getr 64 rfl rfl rfl ?_
        refine wp_run 1 (pc' := 27) (ls' := [.ref 0, .int 0, .int 1, am_du]) (st' := [.int 0, .ref 64]) rfl ?_
        refine wp_aald (r := 65) rfl rfl (Or.inr rfl) rfl (by decide) rfl rfl ?_
        refine wp_callV (o := 65) (as := []) (rest := []) (els := [.ref 65]) rfl rfl rfl rfl rfl rfl rfl rfl (by omega) ?_
        refine wp_run 1 (pc' := 1) (ls' := [.ref 65]) (st' := [.ref 65]) rfl ?_
        refine wp_geti (a := 1) 0 (hob.trans eb) rfl rfl rfl ?_
        refine wp_if_f rfl (show ¬ (¬ (0 : Int32) = 0) from by decide) ?_
        refine wp_run 2 (pc' := 12) (ls' := [.ref 65]) (st' := [.int 1]) rfl ?_
        refine wp_retz rfl (Or.inr rfl) ?_
        show am_wp L xs _ _ _ _ 31 [.ref 0, .int 0, .int 1, am_du] [.int 1] (am_S b) h _
        refine wp_if_f rfl (show ¬ ((1 : Int32) = 0) from by decide) ?_
        refine wp_run 2 (pc' := 36) (ls' := [.ref 0, .int 0, .int 1, am_du]) (st' := [.int 2, .ref 0]) rfl ?_
        refine wp_callV (o := 0) (as := [.int 2]) (rest := []) (els := [.ref 0, .int 2]) rfl rfl rfl rfl rfl rfl rfl rfl (by omega) ?_
        refine sp_refuse2 (by omega) ?_
        show am_wp L xs _ _ _ _ 39 [.ref 0, .int 0, .int 1, am_du] [.int (-1000000002)] (am_S b) (am_u h 73 2 (h 73 2 + 1)) _
        refine wp_ret rfl ?_
        refine kk _ _ _ (fun ms2 Q2 kk2 => ?_)
        refine wp_run 1 (pc' := 1) (ls' := [.ref 74, .int 0, .int 1, am_du, am_du, am_du, am_du]) (st' := [.int 0]) rfl ?_
        refine wp_callS (as := [.int 0]) (rest := []) (els := [.int 0]) rfl rfl rfl rfl rfl rfl rfl rfl (by omega) ?_
        refine sp_m_isSheet (by omega) (fun _ _ _ => ?_) (fun q => absurd rfl (q 0 (by omega)))
        show am_wp L xs _ _ _ _ 4 [.ref 74, .int 0, .int 1, am_du, am_du, am_du, am_du] [.int 1] (am_S b) (am_u h 73 2 (h 73 2 + 1)) _
        refine wp_if_f rfl (show ¬ ((1 : Int32) = 0) from by decide) ?_
        refine wp_run 3 (pc' := 10) (ls' := [.ref 74, .int 0, .int 1, am_du, am_du, am_du, am_du]) (st' := [.int 1, .int 0, .int 1]) rfl ?_
        refine wp_callS (as := [.int 1, .int 0, .int 1]) (rest := []) (els := [.int 1, .int 0, .int 1]) rfl rfl rfl rfl rfl rfl rfl rfl (by omega) ?_
        refine sp_m_in0 (m := 1) rfl rfl (fun _ _ _ => ?_) (fun q => absurd rfl (q 1 (by omega)))
        show am_wp L xs _ _ _ _ 13 [.ref 74, .int 0, .int 1, am_du, am_du, am_du, am_du] [.int 1] (am_S b) (am_u h 73 2 (h 73 2 + 1)) _
        refine wp_if_t rfl (show ¬ (1 : Int32) = 0 from by decide) ?_
        refine wp_run 1 (pc' := 24) (ls' := [.ref 74, .int 0, .int 1, am_du, am_du, am_du, am_du]) (st' := [.ref 74]) rfl ?_
        refine wp_getr 78 rfl rfl rfl ?_
        refine wp_run 1 (pc' := 28) (ls' := [.ref 74, .int 0, .int 1, am_du, am_du, am_du, am_du]) (st' := [.int 0, .ref 78]) rfl ?_
        refine wp_ald (i := 0) 0 eb rfl rfl rfl (by decide) rfl ?_
        refine wp_if_f rfl (show ¬ (¬ (0 : Int32) = 0) from by decide) ?_
        refine wp_run 2 (pc' := 35) (ls' := [.ref 74, .int 0, .int 1, am_du, am_du, am_du, am_du]) (st' := [.int (-1000000002), .ref 74]) rfl ?_
        refine wp_callV (o := 74) (as := [.int (-1000000002)]) (rest := []) (els := [.ref 74, .int (-1000000002)]) rfl rfl rfl rfl rfl rfl rfl rfl (by omega) ?_
        refine sp_error2 ?_
        show am_wp L xs _ _ _ _ 38 [.ref 74, .int 0, .int 1, am_du, am_du, am_du, am_du] [.int (-1000000002)] (am_S b) (am_u (am_u h 73 2 (h 73 2 + 1)) 77 2 ((am_u h 73 2 (h 73 2 + 1)) 77 2 + 1)) _
        refine wp_ret rfl ?_
        exact kk2 _ _ (re_err2 hR)
      · skip
        have hsl := ab_fs_lt (fun i => ab_ft (h 66) l n (ab_got (fun j g => hs_lk h s0 p0 j g) c n i)) n hn7
        refine wp_run 1 (pc' := 23) (ls' := [.ref 0, .int 0, .int 1, am_du]) (st' := [.ref 0]) rfl ?_
        refine wp_getr 64 rfl rfl rfl ?_
        refine wp_run 1 (pc' := 27) (ls' := [.ref 0, .int 0, .int 1, am_du]) (st' := [.int 0, .ref 64]) rfl ?_
        refine wp_aald (r := 65) rfl rfl (Or.inr rfl) rfl (by decide) rfl rfl ?_
        refine wp_callV (o := 65) (as := []) (rest := []) (els := [.ref 65]) rfl rfl rfl rfl rfl rfl rfl rfl (by omega) ?_
        refine wp_run 1 (pc' := 1) (ls' := [.ref 65]) (st' := [.ref 65]) rfl ?_
        refine wp_geti (a := 1) (h 78 0) hob rfl rfl rfl ?_
        refine wp_if_t rfl (show ¬ (h 78 0) = 0 from eb) ?_
        refine wp_run 1 (pc' := 12) (ls' := [.ref 65]) (st' := [.int 0]) rfl ?_
        refine wp_retz rfl (Or.inl rfl) ?_
        show am_wp L xs _ _ _ _ 31 [.ref 0, .int 0, .int 1, am_du] [.int 0] (am_S b) h _
        refine wp_if_t rfl (show (0 : Int32) = 0 from by decide) ?_
        refine wp_run 1 (pc' := 41) (ls' := [.ref 0, .int 0, .int 1, am_du]) (st' := [.ref 0]) rfl ?_
        refine wp_getr 49 rfl rfl rfl ?_
        refine wp_run 1 (pc' := 45) (ls' := [.ref 0, .int 0, .int 1, am_du]) (st' := [.ref 0, .ref 49]) rfl ?_
        refine wp_getr 1 rfl rfl rfl ?_
        refine wp_run 1 (pc' := 49) (ls' := [.ref 0, .int 0, .int 1, am_du]) (st' := [.ref 0, .ref 1, .ref 49]) rfl ?_
        refine wp_getr 47 rfl rfl rfl ?_
        refine wp_run 1 (pc' := 53) (ls' := [.ref 0, .int 0, .int 1, am_du]) (st' := [.ref 0, .ref 47, .ref 1, .ref 49]) rfl ?_
        refine wp_getr 64 rfl rfl rfl ?_
        refine wp_run 1 (pc' := 57) (ls' := [.ref 0, .int 0, .int 1, am_du]) (st' := [.int 0, .ref 64, .ref 47, .ref 1, .ref 49]) rfl ?_
        refine wp_aald (r := 65) rfl rfl (Or.inr rfl) rfl (by decide) rfl rfl ?_
        refine wp_callV (o := 49) (as := [.ref 1, .ref 47, .ref 65]) (rest := []) (els := [.ref 49, .ref 1, .ref 47, .ref 65, am_du, am_du]) rfl rfl rfl rfl rfl rfl rfl rfl (by omega) ?_
        refine sp_fit0 HS ho2 hl24 (by omega) (fun gz1 => ?_)
        show am_wp L xs _ _ _ _ 61 [.ref 0, .int 0, .int 1, am_du] [.int (nI (ab_fs (fun i => ab_ft (h 66) l n (ab_got (fun j g => hs_lk h s0 p0 j g) c n i)) n))] (am_S b) (am_ov h [17, 18, 47, 48, 53] gz1) _
        refine wp_run 2 (pc' := 63) (ls' := [.ref 0, .int 0, .int 1, .int (nI (ab_fs (fun i => ab_ft (h 66) l n (ab_got (fun j g => hs_lk h s0 p0 j g) c n i)) n))]) (st' := [.int 1]) rfl ?_
        refine wp_if_t rfl (show ¬ (1 : Int32) = 0 from by decide) ?_
        refine wp_run 1 (pc' := 69) (ls' := [.ref 0, .int 0, .int 1, .int (nI (ab_fs (fun i => ab_ft (h 66) l n (ab_got (fun j g => hs_lk h s0 p0 j g) c n i)) n))]) (st' := [.int (nI (ab_fs (fun i => ab_ft (h 66) l n (ab_got (fun j g => hs_lk h s0 p0 j g) c n i)) n))]) rfl ?_
        refine wp_if rfl (fun (cq69 : ¬ (nI (ab_fs (fun i => ab_ft (h 66) l n (ab_got (fun j g => hs_lk h s0 p0 j g) c n i)) n)) = 0) => ?_) (fun (cq69 : ¬ (¬ (nI (ab_fs (fun i => ab_ft (h 66) l n (ab_got (fun j g => hs_lk h s0 p0 j g) c n i)) n)) = 0)) => ?_)
        · skip
          have cq69n : ¬ ((ab_fs (fun i => ab_ft (h 66) l n (ab_got (fun j g => hs_lk h s0 p0 j g) c n i)) n) = 0) := fun q => cq69 ((nI_eq (a := (ab_fs (fun i => ab_ft (h 66) l n (ab_got (fun j g => hs_lk h s0 p0 j g) c n i)) n)) (b := 0) (by omega) (by omega)).mpr q)
          refine wp_run 1 (pc' := 81) (ls' := [.ref 0, .int 0, .int 1, .int (nI (ab_fs (fun i => ab_ft (h 66) l n (ab_got (fun j g => hs_lk h s0 p0 j g) c n i)) n))]) (st' := [.int (nI (ab_fs (fun i => ab_ft (h 66) l n (ab_got (fun j g => hs_lk h s0 p0 j g) c n i)) n))]) rfl ?_
          refine wp_callS (as := [.int (nI (ab_fs (fun i => ab_ft (h 66) l n (ab_got (fun j g => hs_lk h s0 p0 j g) c n i)) n))]) (rest := []) (els := [.int (nI (ab_fs (fun i => ab_ft (h 66) l n (ab_got (fun j g => hs_lk h s0 p0 j g) c n i)) n)), am_du]) rfl rfl rfl rfl rfl rfl rfl rfl (by omega) ?_
          refine sp_ntz hsl (by omega) (fun t1 ht1 hb1 hb2 => ?_)
          show am_wp L xs _ _ _ _ 84 [.ref 0, .int 0, .int 1, .int (nI (ab_fs (fun i => ab_ft (h 66) l n (ab_got (fun j g => hs_lk h s0 p0 j g) c n i)) n))] [.int (nI t1)] (am_S b) (am_ov h [17, 18, 47, 48, 53] gz1) _
          refine wp_ret rfl ?_
          refine kk _ _ _ (fun ms2 Q2 kk2 => ?_)
          refine wp_run 1 (pc' := 1) (ls' := [.ref 74, .int 0, .int 1, am_du, am_du, am_du, am_du]) (st' := [.int 0]) rfl ?_
          refine wp_callS (as := [.int 0]) (rest := []) (els := [.int 0]) rfl rfl rfl rfl rfl rfl rfl rfl (by omega) ?_
          refine sp_m_isSheet (by omega) (fun _ _ _ => ?_) (fun q => absurd rfl (q 0 (by omega)))
          show am_wp L xs _ _ _ _ 4 [.ref 74, .int 0, .int 1, am_du, am_du, am_du, am_du] [.int 1] (am_S b) (am_ov h [17, 18, 47, 48, 53] gz1) _
          refine wp_if_f rfl (show ¬ ((1 : Int32) = 0) from by decide) ?_
          refine wp_run 3 (pc' := 10) (ls' := [.ref 74, .int 0, .int 1, am_du, am_du, am_du, am_du]) (st' := [.int 1, .int 0, .int 1]) rfl ?_
          refine wp_callS (as := [.int 1, .int 0, .int 1]) (rest := []) (els := [.int 1, .int 0, .int 1]) rfl rfl rfl rfl rfl rfl rfl rfl (by omega) ?_
          refine sp_m_in0 (m := 1) rfl rfl (fun _ _ _ => ?_) (fun q => absurd rfl (q 1 (by omega)))
          show am_wp L xs _ _ _ _ 13 [.ref 74, .int 0, .int 1, am_du, am_du, am_du, am_du] [.int 1] (am_S b) (am_ov h [17, 18, 47, 48, 53] gz1) _
          refine wp_if_t rfl (show ¬ (1 : Int32) = 0 from by decide) ?_
          refine wp_run 1 (pc' := 24) (ls' := [.ref 74, .int 0, .int 1, am_du, am_du, am_du, am_du]) (st' := [.ref 74]) rfl ?_
          refine wp_getr 78 rfl rfl rfl ?_
          refine wp_run 1 (pc' := 28) (ls' := [.ref 74, .int 0, .int 1, am_du, am_du, am_du, am_du]) (st' := [.int 0, .ref 78]) rfl ?_
          refine wp_ald (i := 0) (h 78 0) rfl rfl rfl rfl (by decide) rfl ?_
          refine wp_if_t rfl (show ¬ (h 78 0) = 0 from eb) ?_
          refine wp_run 1 (pc' := 40) (ls' := [.ref 74, .int 0, .int 1, am_du, am_du, am_du, am_du]) (st' := [.ref 74]) rfl ?_
          refine wp_callV (o := 74) (as := []) (rest := []) (els := [.ref 74, am_du, am_du]) rfl rfl rfl rfl rfl rfl rfl rfl (by omega) ?_
          refine sp_findWorths (h := (am_ov h [17, 18, 47, 48, 53] gz1)) (n := n) (c := c) (t := t) (s0 := s0) (s1 := s1) (p0 := p0) (p1 := p1) HM (by omega) (fun gz2 f86 f87 => ?_)
          show am_wp L xs _ _ _ _ 43 [.ref 74, .int 0, .int 1, am_du, am_du, am_du, am_du] [] (am_S b) (am_ov (am_ov h [17, 18, 47, 48, 53] gz1) [83, 84, 86, 87] gz2) _
          refine wp_run 5 (pc' := 49) (ls' := [.ref 74, .int 0, .int 1, .int 0, .int (-1), am_du, am_du]) (st' := [.ref 74]) rfl ?_
          refine wp_getr 75 rfl rfl rfl ?_
          refine wp_run 1 (pc' := 53) (ls' := [.ref 74, .int 0, .int 1, .int 0, .int (-1), am_du, am_du]) (st' := [.int 2, .ref 75]) rfl ?_
          refine wp_ald (i := 2) (nI n) hm2 rfl rfl rfl (by decide) rfl ?_
          refine wp_run 3 (pc' := 58) (ls' := [.ref 74, .int 0, .int 1, .int 0, .int (-1), .int ((nI n) - 1), am_du]) (st' := []) rfl ?_
          have hp := fun kq => lp_m_fits (L := L) (xs := xs) (d := d) (ms := ms2) (b := b) (h := h) (Q := Q2) (X := (am_ov (am_ov h [17, 18, 47, 48, 53] gz1) [83, 84, 86, 87] gz2)) (s := 0) (l := l) (n := n) (c := c) (LK := (fun j g => hs_lk h s0 p0 j g)) (p2 := 1) (by omega) hl24 hz2 hm2 hn7 hm3 hc7 (fun g hg j hj => (f87 g hg j hj).trans (re_lk H hj hg)) (by omega) kq n 0 (-1) am_du ((am_ov (am_ov h [17, 18, 47, 48, 53] gz1) [83, 84, 86, 87] gz2) 88) (Nat.le_refl _) ⟨by decide, fun k hk => by simp; omega, Or.inl ⟨rfl, fun k k1 k2 => by omega⟩⟩
          rw [← am_ur_self] at hp
          refine hp (fun r9 W9 v9 u9 hfs0 => ?_)
          have hfs : ms_fs (fun i => ab_ft (h 66) l n (ab_got (fun j g => hs_lk h s0 p0 j g) c n i)) n 0 W9 v9 := by
            have ef : (fun i => ab_ft (fun k => (am_ov (am_ov h [17, 18, 47, 48, 53] gz1) [83, 84, 86, 87] gz2) 80 (24 * 0 + k)) l n (ab_got (fun j g => hs_lk h s0 p0 j g) c n i)) = (fun i => ab_ft (h 66) l n (ab_got (fun j g => hs_lk h s0 p0 j g) c n i)) := funext fun i => ab_ft_c (fun q hq => (hri q (by omega)).symm) (fun g hg => rfl)
            rw [← ef]
            exact hfs0
          have eW := ms_fs_set hfs hn7
          rw [eW]
          have ev9 := ms_fs_1 hfs hn7 ht1 hb1 hb2
          subst ev9
          refine wp_run 1 (pc' := 113) (ls' := [.ref 74, .int 0, .int 1, .int (nI (ab_fs (fun i => ab_ft (h 66) l n (ab_got (fun j g => hs_lk h s0 p0 j g) c n i)) n)), .int (nI t1), .int (-1), u9]) (st' := [.int 1]) rfl ?_
          refine wp_if_t rfl (show ¬ (1 : Int32) = 0 from by decide) ?_
          refine wp_run 1 (pc' := 122) (ls' := [.ref 74, .int 0, .int 1, .int (nI (ab_fs (fun i => ab_ft (h 66) l n (ab_got (fun j g => hs_lk h s0 p0 j g) c n i)) n)), .int (nI t1), .int (-1), u9]) (st' := [.int (nI t1)]) rfl ?_
          refine wp_if_t rfl (show 0 ≤ (nI t1) from (nI_leI (a := 0) (b := t1) (by omega) (by omega)).mpr (by omega)) ?_
          refine wp_run 1 (pc' := 136) (ls' := [.ref 74, .int 0, .int 1, .int (nI (ab_fs (fun i => ab_ft (h 66) l n (ab_got (fun j g => hs_lk h s0 p0 j g) c n i)) n)), .int (nI t1), .int (-1), u9]) (st' := [.int (nI t1)]) rfl ?_
          refine wp_ret rfl ?_
          exact kk2 _ _ (re_keep hR (am_ov2 (l3 := []) (k := 0) rfl rfl rfl) ⟨n, c, t, tp, wt, s0, s1, p0, p1, H⟩)
        · skip
          replace cq69 := Decidable.not_not.mp cq69
          have cq69n : (ab_fs (fun i => ab_ft (h 66) l n (ab_got (fun j g => hs_lk h s0 p0 j g) c n i)) n) = 0 := (nI_eq (a := (ab_fs (fun i => ab_ft (h 66) l n (ab_got (fun j g => hs_lk h s0 p0 j g) c n i)) n)) (b := 0) (by omega) (by omega)).mp cq69
          refine wp_run 2 (pc' := 74) (ls' := [.ref 0, .int 0, .int 1, .int (nI (ab_fs (fun i => ab_ft (h 66) l n (ab_got (fun j g => hs_lk h s0 p0 j g) c n i)) n))]) (st' := [.int 2, .ref 0]) rfl ?_
          refine wp_callV (o := 0) (as := [.int 2]) (rest := []) (els := [.ref 0, .int 2]) rfl rfl rfl rfl rfl rfl rfl rfl (by omega) ?_
          refine sp_refuse2 (by omega) ?_
          show am_wp L xs _ _ _ _ 77 [.ref 0, .int 0, .int 1, .int (nI (ab_fs (fun i => ab_ft (h 66) l n (ab_got (fun j g => hs_lk h s0 p0 j g) c n i)) n))] [.int (-1000000002)] (am_S b) (am_u (am_ov h [17, 18, 47, 48, 53] gz1) 73 2 ((am_ov h [17, 18, 47, 48, 53] gz1) 73 2 + 1)) _
          refine wp_run 1 (pc' := 84) (ls' := [.ref 0, .int 0, .int 1, .int (nI (ab_fs (fun i => ab_ft (h 66) l n (ab_got (fun j g => hs_lk h s0 p0 j g) c n i)) n))]) (st' := [.int (-1000000002)]) rfl ?_
          refine wp_ret rfl ?_
          refine kk _ _ _ (fun ms2 Q2 kk2 => ?_)
          refine wp_run 1 (pc' := 1) (ls' := [.ref 74, .int 0, .int 1, am_du, am_du, am_du, am_du]) (st' := [.int 0]) rfl ?_
          refine wp_callS (as := [.int 0]) (rest := []) (els := [.int 0]) rfl rfl rfl rfl rfl rfl rfl rfl (by omega) ?_
          refine sp_m_isSheet (by omega) (fun _ _ _ => ?_) (fun q => absurd rfl (q 0 (by omega)))
          show am_wp L xs _ _ _ _ 4 [.ref 74, .int 0, .int 1, am_du, am_du, am_du, am_du] [.int 1] (am_S b) (am_u (am_ov h [17, 18, 47, 48, 53] gz1) 73 2 ((am_ov h [17, 18, 47, 48, 53] gz1) 73 2 + 1)) _
          refine wp_if_f rfl (show ¬ ((1 : Int32) = 0) from by decide) ?_
          refine wp_run 3 (pc' := 10) (ls' := [.ref 74, .int 0, .int 1, am_du, am_du, am_du, am_du]) (st' := [.int 1, .int 0, .int 1]) rfl ?_
          refine wp_callS (as := [.int 1, .int 0, .int 1]) (rest := []) (els := [.int 1, .int 0, .int 1]) rfl rfl rfl rfl rfl rfl rfl rfl (by omega) ?_
          refine sp_m_in0 (m := 1) rfl rfl (fun _ _ _ => ?_) (fun q => absurd rfl (q 1 (by omega)))
          show am_wp L xs _ _ _ _ 13 [.ref 74, .int 0, .int 1, am_du, am_du, am_du, am_du] [.int 1] (am_S b) (am_u (am_ov h [17, 18, 47, 48, 53] gz1) 73 2 ((am_ov h [17, 18, 47, 48, 53] gz1) 73 2 + 1)) _
          refine wp_if_t rfl (show ¬ (1 : Int32) = 0 from by decide) ?_
          refine wp_run 1 (pc' := 24) (ls' := [.ref 74, .int 0, .int 1, am_du, am_du, am_du, am_du]) (st' := [.ref 74]) rfl ?_
          refine wp_getr 78 rfl rfl rfl ?_
          refine wp_run 1 (pc' := 28) (ls' := [.ref 74, .int 0, .int 1, am_du, am_du, am_du, am_du]) (st' := [.int 0, .ref 78]) rfl ?_
          refine wp_ald (i := 0) (h 78 0) rfl rfl rfl rfl (by decide) rfl ?_
          refine wp_if_t rfl (show ¬ (h 78 0) = 0 from eb) ?_
          refine wp_run 1 (pc' := 40) (ls' := [.ref 74, .int 0, .int 1, am_du, am_du, am_du, am_du]) (st' := [.ref 74]) rfl ?_
          refine wp_callV (o := 74) (as := []) (rest := []) (els := [.ref 74, am_du, am_du]) rfl rfl rfl rfl rfl rfl rfl rfl (by omega) ?_
          refine sp_findWorths (h := (am_u (am_ov h [17, 18, 47, 48, 53] gz1) 73 2 ((am_ov h [17, 18, 47, 48, 53] gz1) 73 2 + 1))) (n := n) (c := c) (t := t) (s0 := s0) (s1 := s1) (p0 := p0) (p1 := p1) HM (by omega) (fun gz2 f86 f87 => ?_)
          show am_wp L xs _ _ _ _ 43 [.ref 74, .int 0, .int 1, am_du, am_du, am_du, am_du] [] (am_S b) (am_ov (am_u (am_ov h [17, 18, 47, 48, 53] gz1) 73 2 ((am_ov h [17, 18, 47, 48, 53] gz1) 73 2 + 1)) [83, 84, 86, 87] gz2) _
          refine wp_run 5 (pc' := 49) (ls' := [.ref 74, .int 0, .int 1, .int 0, .int (-1), am_du, am_du]) (st' := [.ref 74]) rfl ?_
          refine wp_getr 75 rfl rfl rfl ?_
          refine wp_run 1 (pc' := 53) (ls' := [.ref 74, .int 0, .int 1, .int 0, .int (-1), am_du, am_du]) (st' := [.int 2, .ref 75]) rfl ?_
          refine wp_ald (i := 2) (nI n) hm2 rfl rfl rfl (by decide) rfl ?_
          refine wp_run 3 (pc' := 58) (ls' := [.ref 74, .int 0, .int 1, .int 0, .int (-1), .int ((nI n) - 1), am_du]) (st' := []) rfl ?_
          have hp := fun kq => lp_m_fits (L := L) (xs := xs) (d := d) (ms := ms2) (b := b) (h := h) (Q := Q2) (X := (am_ov (am_u (am_ov h [17, 18, 47, 48, 53] gz1) 73 2 ((am_ov h [17, 18, 47, 48, 53] gz1) 73 2 + 1)) [83, 84, 86, 87] gz2)) (s := 0) (l := l) (n := n) (c := c) (LK := (fun j g => hs_lk h s0 p0 j g)) (p2 := 1) (by omega) hl24 hz2 hm2 hn7 hm3 hc7 (fun g hg j hj => (f87 g hg j hj).trans (re_lk H hj hg)) (by omega) kq n 0 (-1) am_du ((am_ov (am_u (am_ov h [17, 18, 47, 48, 53] gz1) 73 2 ((am_ov h [17, 18, 47, 48, 53] gz1) 73 2 + 1)) [83, 84, 86, 87] gz2) 88) (Nat.le_refl _) ⟨by decide, fun k hk => by simp; omega, Or.inl ⟨rfl, fun k k1 k2 => by omega⟩⟩
          rw [← am_ur_self] at hp
          refine hp (fun r9 W9 v9 u9 hfs0 => ?_)
          have hfs : ms_fs (fun i => ab_ft (h 66) l n (ab_got (fun j g => hs_lk h s0 p0 j g) c n i)) n 0 W9 v9 := by
            have ef : (fun i => ab_ft (fun k => (am_ov (am_u (am_ov h [17, 18, 47, 48, 53] gz1) 73 2 ((am_ov h [17, 18, 47, 48, 53] gz1) 73 2 + 1)) [83, 84, 86, 87] gz2) 80 (24 * 0 + k)) l n (ab_got (fun j g => hs_lk h s0 p0 j g) c n i)) = (fun i => ab_ft (h 66) l n (ab_got (fun j g => hs_lk h s0 p0 j g) c n i)) := funext fun i => ab_ft_c (fun q hq => (hri q (by omega)).symm) (fun g hg => rfl)
            rw [← ef]
            exact hfs0
          have eW := ms_fs_set hfs hn7
          rw [eW]
          have ev9 := ms_fs_0 hfs hn7 (by omega)
          subst ev9
          refine wp_run 1 (pc' := 113) (ls' := [.ref 74, .int 0, .int 1, .int (nI (ab_fs (fun i => ab_ft (h 66) l n (ab_got (fun j g => hs_lk h s0 p0 j g) c n i)) n)), .int (-1), .int (-1), u9]) (st' := [.int 1]) rfl ?_
          refine wp_if_t rfl (show ¬ (1 : Int32) = 0 from by decide) ?_
          refine wp_run 1 (pc' := 122) (ls' := [.ref 74, .int 0, .int 1, .int (nI (ab_fs (fun i => ab_ft (h 66) l n (ab_got (fun j g => hs_lk h s0 p0 j g) c n i)) n)), .int (-1), .int (-1), u9]) (st' := [.int (-1)]) rfl ?_
          refine wp_if_f rfl (show ¬ (0 ≤ ((-1) : Int32)) from by decide) ?_
          refine wp_run 2 (pc' := 128) (ls' := [.ref 74, .int 0, .int 1, .int (nI (ab_fs (fun i => ab_ft (h 66) l n (ab_got (fun j g => hs_lk h s0 p0 j g) c n i)) n)), .int (-1), .int (-1), u9]) (st' := [.int (-1000000002), .ref 74]) rfl ?_
          refine wp_callV (o := 74) (as := [.int (-1000000002)]) (rest := []) (els := [.ref 74, .int (-1000000002)]) rfl rfl rfl rfl rfl rfl rfl rfl (by omega) ?_
          refine sp_error2 ?_
          show am_wp L xs _ _ _ _ 131 [.ref 74, .int 0, .int 1, .int (nI (ab_fs (fun i => ab_ft (h 66) l n (ab_got (fun j g => hs_lk h s0 p0 j g) c n i)) n)), .int (-1), .int (-1), u9] [.int (-1000000002)] (am_S b) (am_u (am_ur (am_ov (am_u (am_ov h [17, 18, 47, 48, 53] gz1) 73 2 ((am_ov h [17, 18, 47, 48, 53] gz1) 73 2 + 1)) [83, 84, 86, 87] gz2) 88 r9) 77 2 ((am_ur (am_ov (am_u (am_ov h [17, 18, 47, 48, 53] gz1) 73 2 ((am_ov h [17, 18, 47, 48, 53] gz1) 73 2 + 1)) [83, 84, 86, 87] gz2) 88 r9) 77 2 + 1)) _
          refine wp_run 1 (pc' := 136) (ls' := [.ref 74, .int 0, .int 1, .int (nI (ab_fs (fun i => ab_ft (h 66) l n (ab_got (fun j g => hs_lk h s0 p0 j g) c n i)) n)), .int (-1), .int (-1), u9]) (st' := [.int (-1000000002)]) rfl ?_
          refine wp_ret rfl ?_
          exact kk2 _ _ (re_fit_err hR ⟨n, c, t, tp, wt, s0, s1, p0, p1, H⟩)
    · skip
      intro hnx2
      show am_wp L xs _ _ _ _ 13 [.ref 0, .int 0, .int x2, am_du] [.int 0] (am_S b) h _
      refine wp_if_f rfl (show ¬ (¬ (0 : Int32) = 0) from by decide) ?_
      refine wp_run 2 (pc' := 18) (ls' := [.ref 0, .int 0, .int x2, am_du]) (st' := [.int 1, .ref 0]) rfl ?_
      refine wp_callV (o := 0) (as := [.int 1]) (rest := []) (els := [.ref 0, .int 1]) rfl rfl rfl rfl rfl rfl rfl rfl (by omega) ?_
      refine sp_refuse1 (by omega) ?_
      show am_wp L xs _ _ _ _ 21 [.ref 0, .int 0, .int x2, am_du] [.int (-1000000001)] (am_S b) (am_u h 73 1 (h 73 1 + 1)) _
      refine wp_ret rfl ?_
      refine kk _ _ _ (fun ms2 Q2 kk2 => ?_)
      refine wp_run 1 (pc' := 1) (ls' := [.ref 74, .int 0, .int x2, am_du, am_du, am_du, am_du]) (st' := [.int 0]) rfl ?_
      refine wp_callS (as := [.int 0]) (rest := []) (els := [.int 0]) rfl rfl rfl rfl rfl rfl rfl rfl (by omega) ?_
      refine sp_m_isSheet (by omega) (fun _ _ _ => ?_) (fun q => absurd rfl (q 0 (by omega)))
      show am_wp L xs _ _ _ _ 4 [.ref 74, .int 0, .int x2, am_du, am_du, am_du, am_du] [.int 1] (am_S b) (am_u h 73 1 (h 73 1 + 1)) _
      refine wp_if_f rfl (show ¬ ((1 : Int32) = 0) from by decide) ?_
      refine wp_run 3 (pc' := 10) (ls' := [.ref 74, .int 0, .int x2, am_du, am_du, am_du, am_du]) (st' := [.int 1, .int 0, .int x2]) rfl ?_
      refine wp_callS (as := [.int x2, .int 0, .int 1]) (rest := []) (els := [.int x2, .int 0, .int 1]) rfl rfl rfl rfl rfl rfl rfl rfl (by omega) ?_
      refine sp_m_in0 (m := 1) rfl rfl (fun k hk e => absurd e (hnx2 k hk)) (fun _ => ?_)
      show am_wp L xs _ _ _ _ 13 [.ref 74, .int 0, .int x2, am_du, am_du, am_du, am_du] [.int 0] (am_S b) (am_u h 73 1 (h 73 1 + 1)) _
      refine wp_if_f rfl (show ¬ (¬ (0 : Int32) = 0) from by decide) ?_
      refine wp_run 2 (pc' := 19) (ls' := [.ref 74, .int 0, .int x2, am_du, am_du, am_du, am_du]) (st' := [.int (-1000000001), .ref 74]) rfl ?_
      refine wp_callV (o := 74) (as := [.int (-1000000001)]) (rest := []) (els := [.ref 74, .int (-1000000001)]) rfl rfl rfl rfl rfl rfl rfl rfl (by omega) ?_
      refine sp_error1 ?_
      show am_wp L xs _ _ _ _ 22 [.ref 74, .int 0, .int x2, am_du, am_du, am_du, am_du] [.int (-1000000001)] (am_S b) (am_u (am_u h 73 1 (h 73 1 + 1)) 77 1 ((am_u h 73 1 (h 73 1 + 1)) 77 1 + 1)) _
      refine wp_ret rfl ?_
      exact kk2 _ _ (re_err1 hR)
  · skip
    intro ex1
    subst ex1
    show am_wp L xs _ _ _ _ 4 [.ref 0, .int 1, .int x2, am_du] [.int 1] (am_S b) h _
    refine wp_if_f rfl (show ¬ ((1 : Int32) = 0) from by decide) ?_
    refine wp_run 3 (pc' := 10) (ls' := [.ref 0, .int 1, .int x2, am_du]) (st' := [.int 1, .int 0, .int x2]) rfl ?_
    refine wp_callS (as := [.int x2, .int 0, .int 1]) (rest := []) (els := [.int x2, .int 0, .int 1]) rfl rfl rfl rfl rfl rfl rfl rfl (by omega) ?_
    refine sp_x_within0 (m := 1) rfl rfl (pu_two ?_ ?_) ?_
    · skip
      intro ex2
      subst ex2
      show am_wp L xs _ _ _ _ 13 [.ref 0, .int 1, .int 0, am_du] [.int 1] (am_S b) h _
      refine wp_if_t rfl (show ¬ (1 : Int32) = 0 from by decide) ?_
      obtain ⟨l, hl24, ho2, hz2, hob, hbb, hri⟩ := id hS1
      rcases (show h 78 1 = 0 ∨ ¬ h 78 1 = 0 from Classical.em _) with eb | eb
      · skip
        refine wp_run 1 (pc' := 23) (ls' := [.ref 0, .int 1, .int 0, am_du]) (st' := [.ref 0]) rfl ?_
        refine wp_getr 64 rfl rfl rfl ?_
        refine wp_run 1 (pc' := 27) (ls' := [.ref 0, .int 1, .int 0, am_du]) (st' := [.int 1, .ref 64]) rfl ?_
        refine wp_aald (r := 67) rfl rfl (Or.inr rfl) rfl (by decide) rfl rfl ?_
        refine wp_callV (o := 67) (as := []) (rest := []) (els := [.ref 67]) rfl rfl rfl rfl rfl rfl rfl rfl (by omega) ?_
        refine wp_run 1 (pc' := 1) (ls' := [.ref 67]) (st' := [.ref 67]) rfl ?_
        refine wp_geti (a := 1) 0 (hob.trans eb) rfl rfl rfl ?_
        refine wp_if_f rfl (show ¬ (¬ (0 : Int32) = 0) from by decide) ?_
        refine wp_run 2 (pc' := 12) (ls' := [.ref 67]) (st' := [.int 1]) rfl ?_
        refine wp_retz rfl (Or.inr rfl) ?_
        show am_wp L xs _ _ _ _ 31 [.ref 0, .int 1, .int 0, am_du] [.int 1] (am_S b) h _
        refine wp_if_f rfl (show ¬ ((1 : Int32) = 0) from by decide) ?_
        refine wp_run 2 (pc' := 36) (ls' := [.ref 0, .int 1, .int 0, am_du]) (st' := [.int 2, .ref 0]) rfl ?_
        refine wp_callV (o := 0) (as := [.int 2]) (rest := []) (els := [.ref 0, .int 2]) rfl rfl rfl rfl rfl rfl rfl rfl (by omega) ?_
        refine sp_refuse2 (by omega) ?_
        show am_wp L xs _ _ _ _ 39 [.ref 0, .int 1, .int 0, am_du] [.int (-1000000002)] (am_S b) (am_u h 73 2 (h 73 2 + 1)) _
        refine wp_ret rfl ?_
        refine kk _ _ _ (fun ms2 Q2 kk2 => ?_)
        refine wp_run 1 (pc' := 1) (ls' := [.ref 74, .int 1, .int 0, am_du, am_du, am_du, am_du]) (st' := [.int 1]) rfl ?_
        refine wp_callS (as := [.int 1]) (rest := []) (els := [.int 1]) rfl rfl rfl rfl rfl rfl rfl rfl (by omega) ?_
        refine sp_m_isSheet (by omega) (fun _ _ _ => ?_) (fun q => absurd rfl (q 1 (by omega)))
        show am_wp L xs _ _ _ _ 4 [.ref 74, .int 1, .int 0, am_du, am_du, am_du, am_du] [.int 1] (am_S b) (am_u h 73 2 (h 73 2 + 1)) _
        refine wp_if_f rfl (show ¬ ((1 : Int32) = 0) from by decide) ?_
        refine wp_run 3 (pc' := 10) (ls' := [.ref 74, .int 1, .int 0, am_du, am_du, am_du, am_du]) (st' := [.int 1, .int 0, .int 0]) rfl ?_
        refine wp_callS (as := [.int 0, .int 0, .int 1]) (rest := []) (els := [.int 0, .int 0, .int 1]) rfl rfl rfl rfl rfl rfl rfl rfl (by omega) ?_
        refine sp_m_in0 (m := 1) rfl rfl (fun _ _ _ => ?_) (fun q => absurd rfl (q 0 (by omega)))
        show am_wp L xs _ _ _ _ 13 [.ref 74, .int 1, .int 0, am_du, am_du, am_du, am_du] [.int 1] (am_S b) (am_u h 73 2 (h 73 2 + 1)) _
        refine wp_if_t rfl (show ¬ (1 : Int32) = 0 from by decide) ?_
        refine wp_run 1 (pc' := 24) (ls' := [.ref 74, .int 1, .int 0, am_du, am_du, am_du, am_du]) (st' := [.ref 74]) rfl ?_
        refine wp_getr 78 rfl rfl rfl ?_
        refine wp_run 1 (pc' := 28) (ls' := [.ref 74, .int 1, .int 0, am_du, am_du, am_du, am_du]) (st' := [.int 1, .ref 78]) rfl ?_
        refine wp_ald (i := 1) 0 eb rfl rfl rfl (by decide) rfl ?_
        refine wp_if_f rfl (show ¬ (¬ (0 : Int32) = 0) from by decide) ?_
        refine wp_run 2 (pc' := 35) (ls' := [.ref 74, .int 1, .int 0, am_du, am_du, am_du, am_du]) (st' := [.int (-1000000002), .ref 74]) rfl ?_
        refine wp_callV (o := 74) (as := [.int (-1000000002)]) (rest := []) (els := [.ref 74, .int (-1000000002)]) rfl rfl rfl rfl rfl rfl rfl rfl (by omega) ?_
        refine sp_error2 ?_
        show am_wp L xs _ _ _ _ 38 [.ref 74, .int 1, .int 0, am_du, am_du, am_du, am_du] [.int (-1000000002)] (am_S b) (am_u (am_u h 73 2 (h 73 2 + 1)) 77 2 ((am_u h 73 2 (h 73 2 + 1)) 77 2 + 1)) _
        refine wp_ret rfl ?_
        exact kk2 _ _ (re_err2 hR)
      · skip
        have hsl := ab_fs_lt (fun i => ab_ft (h 68) l n (ab_got (fun j g => hs_lk h s0 p0 j g) c n i)) n hn7
        refine wp_run 1 (pc' := 23) (ls' := [.ref 0, .int 1, .int 0, am_du]) (st' := [.ref 0]) rfl ?_
        refine wp_getr 64 rfl rfl rfl ?_
        refine wp_run 1 (pc' := 27) (ls' := [.ref 0, .int 1, .int 0, am_du]) (st' := [.int 1, .ref 64]) rfl ?_
        refine wp_aald (r := 67) rfl rfl (Or.inr rfl) rfl (by decide) rfl rfl ?_
        refine wp_callV (o := 67) (as := []) (rest := []) (els := [.ref 67]) rfl rfl rfl rfl rfl rfl rfl rfl (by omega) ?_
        refine wp_run 1 (pc' := 1) (ls' := [.ref 67]) (st' := [.ref 67]) rfl ?_
        refine wp_geti (a := 1) (h 78 1) hob rfl rfl rfl ?_
        refine wp_if_t rfl (show ¬ (h 78 1) = 0 from eb) ?_
        refine wp_run 1 (pc' := 12) (ls' := [.ref 67]) (st' := [.int 0]) rfl ?_
        refine wp_retz rfl (Or.inl rfl) ?_
        show am_wp L xs _ _ _ _ 31 [.ref 0, .int 1, .int 0, am_du] [.int 0] (am_S b) h _
        refine wp_if_t rfl (show (0 : Int32) = 0 from by decide) ?_
        refine wp_run 1 (pc' := 41) (ls' := [.ref 0, .int 1, .int 0, am_du]) (st' := [.ref 0]) rfl ?_
        refine wp_getr 49 rfl rfl rfl ?_
        refine wp_run 1 (pc' := 45) (ls' := [.ref 0, .int 1, .int 0, am_du]) (st' := [.ref 0, .ref 49]) rfl ?_
        refine wp_getr 1 rfl rfl rfl ?_
        refine wp_run 1 (pc' := 49) (ls' := [.ref 0, .int 1, .int 0, am_du]) (st' := [.ref 0, .ref 1, .ref 49]) rfl ?_
        refine wp_getr 47 rfl rfl rfl ?_
        refine wp_run 1 (pc' := 53) (ls' := [.ref 0, .int 1, .int 0, am_du]) (st' := [.ref 0, .ref 47, .ref 1, .ref 49]) rfl ?_
        refine wp_getr 64 rfl rfl rfl ?_
        refine wp_run 1 (pc' := 57) (ls' := [.ref 0, .int 1, .int 0, am_du]) (st' := [.int 1, .ref 64, .ref 47, .ref 1, .ref 49]) rfl ?_
        refine wp_aald (r := 67) rfl rfl (Or.inr rfl) rfl (by decide) rfl rfl ?_
        refine wp_callV (o := 49) (as := [.ref 1, .ref 47, .ref 67]) (rest := []) (els := [.ref 49, .ref 1, .ref 47, .ref 67, am_du, am_du]) rfl rfl rfl rfl rfl rfl rfl rfl (by omega) ?_
        refine sp_fit1 HS ho2 hl24 (by omega) (fun gz1 => ?_)
        show am_wp L xs _ _ _ _ 61 [.ref 0, .int 1, .int 0, am_du] [.int (nI (ab_fs (fun i => ab_ft (h 68) l n (ab_got (fun j g => hs_lk h s0 p0 j g) c n i)) n))] (am_S b) (am_ov h [17, 18, 47, 48, 53] gz1) _
        refine wp_run 2 (pc' := 63) (ls' := [.ref 0, .int 1, .int 0, .int (nI (ab_fs (fun i => ab_ft (h 68) l n (ab_got (fun j g => hs_lk h s0 p0 j g) c n i)) n))]) (st' := [.int 0]) rfl ?_
        refine wp_if_f rfl (show ¬ (¬ (0 : Int32) = 0) from by decide) ?_
        refine wp_run 1 (pc' := 67) (ls' := [.ref 0, .int 1, .int 0, .int (nI (ab_fs (fun i => ab_ft (h 68) l n (ab_got (fun j g => hs_lk h s0 p0 j g) c n i)) n))]) (st' := [.int (nI (ab_fs (fun i => ab_ft (h 68) l n (ab_got (fun j g => hs_lk h s0 p0 j g) c n i)) n))]) rfl ?_
        refine wp_ret rfl ?_
        refine kk _ _ _ (fun ms2 Q2 kk2 => ?_)
        refine wp_run 1 (pc' := 1) (ls' := [.ref 74, .int 1, .int 0, am_du, am_du, am_du, am_du]) (st' := [.int 1]) rfl ?_
        refine wp_callS (as := [.int 1]) (rest := []) (els := [.int 1]) rfl rfl rfl rfl rfl rfl rfl rfl (by omega) ?_
        refine sp_m_isSheet (by omega) (fun _ _ _ => ?_) (fun q => absurd rfl (q 1 (by omega)))
        show am_wp L xs _ _ _ _ 4 [.ref 74, .int 1, .int 0, am_du, am_du, am_du, am_du] [.int 1] (am_S b) (am_ov h [17, 18, 47, 48, 53] gz1) _
        refine wp_if_f rfl (show ¬ ((1 : Int32) = 0) from by decide) ?_
        refine wp_run 3 (pc' := 10) (ls' := [.ref 74, .int 1, .int 0, am_du, am_du, am_du, am_du]) (st' := [.int 1, .int 0, .int 0]) rfl ?_
        refine wp_callS (as := [.int 0, .int 0, .int 1]) (rest := []) (els := [.int 0, .int 0, .int 1]) rfl rfl rfl rfl rfl rfl rfl rfl (by omega) ?_
        refine sp_m_in0 (m := 1) rfl rfl (fun _ _ _ => ?_) (fun q => absurd rfl (q 0 (by omega)))
        show am_wp L xs _ _ _ _ 13 [.ref 74, .int 1, .int 0, am_du, am_du, am_du, am_du] [.int 1] (am_S b) (am_ov h [17, 18, 47, 48, 53] gz1) _
        refine wp_if_t rfl (show ¬ (1 : Int32) = 0 from by decide) ?_
        refine wp_run 1 (pc' := 24) (ls' := [.ref 74, .int 1, .int 0, am_du, am_du, am_du, am_du]) (st' := [.ref 74]) rfl ?_
        refine wp_getr 78 rfl rfl rfl ?_
        refine wp_run 1 (pc' := 28) (ls' := [.ref 74, .int 1, .int 0, am_du, am_du, am_du, am_du]) (st' := [.int 1, .ref 78]) rfl ?_
        refine wp_ald (i := 1) (h 78 1) rfl rfl rfl rfl (by decide) rfl ?_
        refine wp_if_t rfl (show ¬ (h 78 1) = 0 from eb) ?_
        refine wp_run 1 (pc' := 40) (ls' := [.ref 74, .int 1, .int 0, am_du, am_du, am_du, am_du]) (st' := [.ref 74]) rfl ?_
        refine wp_callV (o := 74) (as := []) (rest := []) (els := [.ref 74, am_du, am_du]) rfl rfl rfl rfl rfl rfl rfl rfl (by omega) ?_
        refine sp_findWorths (h := (am_ov h [17, 18, 47, 48, 53] gz1)) (n := n) (c := c) (t := t) (s0 := s0) (s1 := s1) (p0 := p0) (p1 := p1) HM (by omega) (fun gz2 f86 f87 => ?_)
        show am_wp L xs _ _ _ _ 43 [.ref 74, .int 1, .int 0, am_du, am_du, am_du, am_du] [] (am_S b) (am_ov (am_ov h [17, 18, 47, 48, 53] gz1) [83, 84, 86, 87] gz2) _
        refine wp_run 5 (pc' := 49) (ls' := [.ref 74, .int 1, .int 0, .int 0, .int (-1), am_du, am_du]) (st' := [.ref 74]) rfl ?_
        refine wp_getr 75 rfl rfl rfl ?_
        refine wp_run 1 (pc' := 53) (ls' := [.ref 74, .int 1, .int 0, .int 0, .int (-1), am_du, am_du]) (st' := [.int 2, .ref 75]) rfl ?_
        refine wp_ald (i := 2) (nI n) hm2 rfl rfl rfl (by decide) rfl ?_
        refine wp_run 3 (pc' := 58) (ls' := [.ref 74, .int 1, .int 0, .int 0, .int (-1), .int ((nI n) - 1), am_du]) (st' := []) rfl ?_
        have hp := fun kq => lp_m_fits (L := L) (xs := xs) (d := d) (ms := ms2) (b := b) (h := h) (Q := Q2) (X := (am_ov (am_ov h [17, 18, 47, 48, 53] gz1) [83, 84, 86, 87] gz2)) (s := 1) (l := l) (n := n) (c := c) (LK := (fun j g => hs_lk h s0 p0 j g)) (p2 := 0) (by omega) hl24 hz2 hm2 hn7 hm3 hc7 (fun g hg j hj => (f87 g hg j hj).trans (re_lk H hj hg)) (by omega) kq n 0 (-1) am_du ((am_ov (am_ov h [17, 18, 47, 48, 53] gz1) [83, 84, 86, 87] gz2) 88) (Nat.le_refl _) ⟨by decide, fun k hk => by simp; omega, Or.inl ⟨rfl, fun k k1 k2 => by omega⟩⟩
        rw [← am_ur_self] at hp
        refine hp (fun r9 W9 v9 u9 hfs0 => ?_)
        have hfs : ms_fs (fun i => ab_ft (h 68) l n (ab_got (fun j g => hs_lk h s0 p0 j g) c n i)) n 0 W9 v9 := by
          have ef : (fun i => ab_ft (fun k => (am_ov (am_ov h [17, 18, 47, 48, 53] gz1) [83, 84, 86, 87] gz2) 80 (24 * 1 + k)) l n (ab_got (fun j g => hs_lk h s0 p0 j g) c n i)) = (fun i => ab_ft (h 68) l n (ab_got (fun j g => hs_lk h s0 p0 j g) c n i)) := funext fun i => ab_ft_c (fun q hq => (hri q (by omega)).symm) (fun g hg => rfl)
          rw [← ef]
          exact hfs0
        have eW := ms_fs_set hfs hn7
        rw [eW]
        refine wp_run 1 (pc' := 113) (ls' := [.ref 74, .int 1, .int 0, .int (nI (ab_fs (fun i => ab_ft (h 68) l n (ab_got (fun j g => hs_lk h s0 p0 j g) c n i)) n)), .int v9, .int (-1), u9]) (st' := [.int 0]) rfl ?_
        refine wp_if_f rfl (show ¬ (¬ (0 : Int32) = 0) from by decide) ?_
        refine wp_run 2 (pc' := 136) (ls' := [.ref 74, .int 1, .int 0, .int (nI (ab_fs (fun i => ab_ft (h 68) l n (ab_got (fun j g => hs_lk h s0 p0 j g) c n i)) n)), .int v9, .int (-1), u9]) (st' := [.int (nI (ab_fs (fun i => ab_ft (h 68) l n (ab_got (fun j g => hs_lk h s0 p0 j g) c n i)) n))]) rfl ?_
        refine wp_ret rfl ?_
        exact kk2 _ _ (re_keep hR (am_ov2 (l3 := []) (k := 0) rfl rfl rfl) ⟨n, c, t, tp, wt, s0, s1, p0, p1, H⟩)
    · skip
      intro ex2
      subst ex2
      show am_wp L xs _ _ _ _ 13 [.ref 0, .int 1, .int 1, am_du] [.int 1] (am_S b) h _
      refine wp_if_t rfl (show ¬ (1 : Int32) = 0 from by decide) ?_
      obtain ⟨l, hl24, ho2, hz2, hob, hbb, hri⟩ := id hS1
      rcases (show h 78 1 = 0 ∨ ¬ h 78 1 = 0 from Classical.em _) with eb | eb
      · skip
        refine wp_run 1 (pc' := 23) (ls' := [.ref 0, .int 1, .int 1, am_du]) (st' := [.ref 0]) rfl ?_
        refine wp_getr 64 rfl rfl rfl ?_
        refine wp_run 1 (pc' := 27) (ls' := [.ref 0, .int 1, .int 1, am_du]) (st' := [.int 1, .ref 64]) rfl ?_
        refine wp_aald (r := 67) rfl rfl (Or.inr rfl) rfl (by decide) rfl rfl ?_
        refine wp_callV (o := 67) (as := []) (rest := []) (els := [.ref 67]) rfl rfl rfl rfl rfl rfl rfl rfl (by omega) ?_
        refine wp_run 1 (pc' := 1) (ls' := [.ref 67]) (st' := [.ref 67]) rfl ?_
        refine wp_geti (a := 1) 0 (hob.trans eb) rfl rfl rfl ?_
        refine wp_if_f rfl (show ¬ (¬ (0 : Int32) = 0) from by decide) ?_
        refine wp_run 2 (pc' := 12) (ls' := [.ref 67]) (st' := [.int 1]) rfl ?_
        refine wp_retz rfl (Or.inr rfl) ?_
        show am_wp L xs _ _ _ _ 31 [.ref 0, .int 1, .int 1, am_du] [.int 1] (am_S b) h _
        refine wp_if_f rfl (show ¬ ((1 : Int32) = 0) from by decide) ?_
        refine wp_run 2 (pc' := 36) (ls' := [.ref 0, .int 1, .int 1, am_du]) (st' := [.int 2, .ref 0]) rfl ?_
        refine wp_callV (o := 0) (as := [.int 2]) (rest := []) (els := [.ref 0, .int 2]) rfl rfl rfl rfl rfl rfl rfl rfl (by omega) ?_
        refine sp_refuse2 (by omega) ?_
        show am_wp L xs _ _ _ _ 39 [.ref 0, .int 1, .int 1, am_du] [.int (-1000000002)] (am_S b) (am_u h 73 2 (h 73 2 + 1)) _
        refine wp_ret rfl ?_
        refine kk _ _ _ (fun ms2 Q2 kk2 => ?_)
        refine wp_run 1 (pc' := 1) (ls' := [.ref 74, .int 1, .int 1, am_du, am_du, am_du, am_du]) (st' := [.int 1]) rfl ?_
        refine wp_callS (as := [.int 1]) (rest := []) (els := [.int 1]) rfl rfl rfl rfl rfl rfl rfl rfl (by omega) ?_
        refine sp_m_isSheet (by omega) (fun _ _ _ => ?_) (fun q => absurd rfl (q 1 (by omega)))
        show am_wp L xs _ _ _ _ 4 [.ref 74, .int 1, .int 1, am_du, am_du, am_du, am_du] [.int 1] (am_S b) (am_u h 73 2 (h 73 2 + 1)) _
        refine wp_if_f rfl (show ¬ ((1 : Int32) = 0) from by decide) ?_
        refine wp_run 3 (pc' := 10) (ls' := [.ref 74, .int 1, .int 1, am_du, am_du, am_du, am_du]) (st' := [.int 1, .int 0, .int 1]) rfl ?_
        refine wp_callS (as := [.int 1, .int 0, .int 1]) (rest := []) (els := [.int 1, .int 0, .int 1]) rfl rfl rfl rfl rfl rfl rfl rfl (by omega) ?_
        refine sp_m_in0 (m := 1) rfl rfl (fun _ _ _ => ?_) (fun q => absurd rfl (q 1 (by omega)))
        show am_wp L xs _ _ _ _ 13 [.ref 74, .int 1, .int 1, am_du, am_du, am_du, am_du] [.int 1] (am_S b) (am_u h 73 2 (h 73 2 + 1)) _
        refine wp_if_t rfl (show ¬ (1 : Int32) = 0 from by decide) ?_
        refine wp_run 1 (pc' := 24) (ls' := [.ref 74, .int 1, .int 1, am_du, am_du, am_du, am_du]) (st' := [.ref 74]) rfl ?_
        refine wp_getr 78 rfl rfl rfl ?_
        refine wp_run 1 (pc' := 28) (ls' := [.ref 74, .int 1, .int 1, am_du, am_du, am_du, am_du]) (st' := [.int 1, .ref 78]) rfl ?_
        refine wp_ald (i := 1) 0 eb rfl rfl rfl (by decide) rfl ?_
        refine wp_if_f rfl (show ¬ (¬ (0 : Int32) = 0) from by decide) ?_
        refine wp_run 2 (pc' := 35) (ls' := [.ref 74, .int 1, .int 1, am_du, am_du, am_du, am_du]) (st' := [.int (-1000000002), .ref 74]) rfl ?_
        refine wp_callV (o := 74) (as := [.int (-1000000002)]) (rest := []) (els := [.ref 74, .int (-1000000002)]) rfl rfl rfl rfl rfl rfl rfl rfl (by omega) ?_
        refine sp_error2 ?_
        show am_wp L xs _ _ _ _ 38 [.ref 74, .int 1, .int 1, am_du, am_du, am_du, am_du] [.int (-1000000002)] (am_S b) (am_u (am_u h 73 2 (h 73 2 + 1)) 77 2 ((am_u h 73 2 (h 73 2 + 1)) 77 2 + 1)) _
        refine wp_ret rfl ?_
        exact kk2 _ _ (re_err2 hR)
      · skip
        have hsl := ab_fs_lt (fun i => ab_ft (h 68) l n (ab_got (fun j g => hs_lk h s0 p0 j g) c n i)) n hn7
        refine wp_run 1 (pc' := 23) (ls' := [.ref 0, .int 1, .int 1, am_du]) (st' := [.ref 0]) rfl ?_
        refine wp_getr 64 rfl rfl rfl ?_
        refine wp_run 1 (pc' := 27) (ls' := [.ref 0, .int 1, .int 1, am_du]) (st' := [.int 1, .ref 64]) rfl ?_
        refine wp_aald (r := 67) rfl rfl (Or.inr rfl) rfl (by decide) rfl rfl ?_
        refine wp_callV (o := 67) (as := []) (rest := []) (els := [.ref 67]) rfl rfl rfl rfl rfl rfl rfl rfl (by omega) ?_
        refine wp_run 1 (pc' := 1) (ls' := [.ref 67]) (st' := [.ref 67]) rfl ?_
        refine wp_geti (a := 1) (h 78 1) hob rfl rfl rfl ?_
        refine wp_if_t rfl (show ¬ (h 78 1) = 0 from eb) ?_
        refine wp_run 1 (pc' := 12) (ls' := [.ref 67]) (st' := [.int 0]) rfl ?_
        refine wp_retz rfl (Or.inl rfl) ?_
        show am_wp L xs _ _ _ _ 31 [.ref 0, .int 1, .int 1, am_du] [.int 0] (am_S b) h _
        refine wp_if_t rfl (show (0 : Int32) = 0 from by decide) ?_
        refine wp_run 1 (pc' := 41) (ls' := [.ref 0, .int 1, .int 1, am_du]) (st' := [.ref 0]) rfl ?_
        refine wp_getr 49 rfl rfl rfl ?_
        refine wp_run 1 (pc' := 45) (ls' := [.ref 0, .int 1, .int 1, am_du]) (st' := [.ref 0, .ref 49]) rfl ?_
        refine wp_getr 1 rfl rfl rfl ?_
        refine wp_run 1 (pc' := 49) (ls' := [.ref 0, .int 1, .int 1, am_du]) (st' := [.ref 0, .ref 1, .ref 49]) rfl ?_
        refine wp_getr 47 rfl rfl rfl ?_
        refine wp_run 1 (pc' := 53) (ls' := [.ref 0, .int 1, .int 1, am_du]) (st' := [.ref 0, .ref 47, .ref 1, .ref 49]) rfl ?_
        refine wp_getr 64 rfl rfl rfl ?_
        refine wp_run 1 (pc' := 57) (ls' := [.ref 0, .int 1, .int 1, am_du]) (st' := [.int 1, .ref 64, .ref 47, .ref 1, .ref 49]) rfl ?_
        refine wp_aald (r := 67) rfl rfl (Or.inr rfl) rfl (by decide) rfl rfl ?_
        refine wp_callV (o := 49) (as := [.ref 1, .ref 47, .ref 67]) (rest := []) (els := [.ref 49, .ref 1, .ref 47, .ref 67, am_du, am_du]) rfl rfl rfl rfl rfl rfl rfl rfl (by omega) ?_
        refine sp_fit1 HS ho2 hl24 (by omega) (fun gz1 => ?_)
        show am_wp L xs _ _ _ _ 61 [.ref 0, .int 1, .int 1, am_du] [.int (nI (ab_fs (fun i => ab_ft (h 68) l n (ab_got (fun j g => hs_lk h s0 p0 j g) c n i)) n))] (am_S b) (am_ov h [17, 18, 47, 48, 53] gz1) _
        refine wp_run 2 (pc' := 63) (ls' := [.ref 0, .int 1, .int 1, .int (nI (ab_fs (fun i => ab_ft (h 68) l n (ab_got (fun j g => hs_lk h s0 p0 j g) c n i)) n))]) (st' := [.int 1]) rfl ?_
        refine wp_if_t rfl (show ¬ (1 : Int32) = 0 from by decide) ?_
        refine wp_run 1 (pc' := 69) (ls' := [.ref 0, .int 1, .int 1, .int (nI (ab_fs (fun i => ab_ft (h 68) l n (ab_got (fun j g => hs_lk h s0 p0 j g) c n i)) n))]) (st' := [.int (nI (ab_fs (fun i => ab_ft (h 68) l n (ab_got (fun j g => hs_lk h s0 p0 j g) c n i)) n))]) rfl ?_
        refine wp_if rfl (fun (cq69 : ¬ (nI (ab_fs (fun i => ab_ft (h 68) l n (ab_got (fun j g => hs_lk h s0 p0 j g) c n i)) n)) = 0) => ?_) (fun (cq69 : ¬ (¬ (nI (ab_fs (fun i => ab_ft (h 68) l n (ab_got (fun j g => hs_lk h s0 p0 j g) c n i)) n)) = 0)) => ?_)
        · skip
          have cq69n : ¬ ((ab_fs (fun i => ab_ft (h 68) l n (ab_got (fun j g => hs_lk h s0 p0 j g) c n i)) n) = 0) := fun q => cq69 ((nI_eq (a := (ab_fs (fun i => ab_ft (h 68) l n (ab_got (fun j g => hs_lk h s0 p0 j g) c n i)) n)) (b := 0) (by omega) (by omega)).mpr q)
          refine wp_run 1 (pc' := 81) (ls' := [.ref 0, .int 1, .int 1, .int (nI (ab_fs (fun i => ab_ft (h 68) l n (ab_got (fun j g => hs_lk h s0 p0 j g) c n i)) n))]) (st' := [.int (nI (ab_fs (fun i => ab_ft (h 68) l n (ab_got (fun j g => hs_lk h s0 p0 j g) c n i)) n))]) rfl ?_
          refine wp_callS (as := [.int (nI (ab_fs (fun i => ab_ft (h 68) l n (ab_got (fun j g => hs_lk h s0 p0 j g) c n i)) n))]) (rest := []) (els := [.int (nI (ab_fs (fun i => ab_ft (h 68) l n (ab_got (fun j g => hs_lk h s0 p0 j g) c n i)) n)), am_du]) rfl rfl rfl rfl rfl rfl rfl rfl (by omega) ?_
          refine sp_ntz hsl (by omega) (fun t1 ht1 hb1 hb2 => ?_)
          show am_wp L xs _ _ _ _ 84 [.ref 0, .int 1, .int 1, .int (nI (ab_fs (fun i => ab_ft (h 68) l n (ab_got (fun j g => hs_lk h s0 p0 j g) c n i)) n))] [.int (nI t1)] (am_S b) (am_ov h [17, 18, 47, 48, 53] gz1) _
          refine wp_ret rfl ?_
          refine kk _ _ _ (fun ms2 Q2 kk2 => ?_)
          refine wp_run 1 (pc' := 1) (ls' := [.ref 74, .int 1, .int 1, am_du, am_du, am_du, am_du]) (st' := [.int 1]) rfl ?_
          refine wp_callS (as := [.int 1]) (rest := []) (els := [.int 1]) rfl rfl rfl rfl rfl rfl rfl rfl (by omega) ?_
          refine sp_m_isSheet (by omega) (fun _ _ _ => ?_) (fun q => absurd rfl (q 1 (by omega)))
          show am_wp L xs _ _ _ _ 4 [.ref 74, .int 1, .int 1, am_du, am_du, am_du, am_du] [.int 1] (am_S b) (am_ov h [17, 18, 47, 48, 53] gz1) _
          refine wp_if_f rfl (show ¬ ((1 : Int32) = 0) from by decide) ?_
          refine wp_run 3 (pc' := 10) (ls' := [.ref 74, .int 1, .int 1, am_du, am_du, am_du, am_du]) (st' := [.int 1, .int 0, .int 1]) rfl ?_
          refine wp_callS (as := [.int 1, .int 0, .int 1]) (rest := []) (els := [.int 1, .int 0, .int 1]) rfl rfl rfl rfl rfl rfl rfl rfl (by omega) ?_
          refine sp_m_in0 (m := 1) rfl rfl (fun _ _ _ => ?_) (fun q => absurd rfl (q 1 (by omega)))
          show am_wp L xs _ _ _ _ 13 [.ref 74, .int 1, .int 1, am_du, am_du, am_du, am_du] [.int 1] (am_S b) (am_ov h [17, 18, 47, 48, 53] gz1) _
          refine wp_if_t rfl (show ¬ (1 : Int32) = 0 from by decide) ?_
          refine wp_run 1 (pc' := 24) (ls' := [.ref 74, .int 1, .int 1, am_du, am_du, am_du, am_du]) (st' := [.ref 74]) rfl ?_
          refine wp_getr 78 rfl rfl rfl ?_
          refine wp_run 1 (pc' := 28) (ls' := [.ref 74, .int 1, .int 1, am_du, am_du, am_du, am_du]) (st' := [.int 1, .ref 78]) rfl ?_
          refine wp_ald (i := 1) (h 78 1) rfl rfl rfl rfl (by decide) rfl ?_
          refine wp_if_t rfl (show ¬ (h 78 1) = 0 from eb) ?_
          refine wp_run 1 (pc' := 40) (ls' := [.ref 74, .int 1, .int 1, am_du, am_du, am_du, am_du]) (st' := [.ref 74]) rfl ?_
          refine wp_callV (o := 74) (as := []) (rest := []) (els := [.ref 74, am_du, am_du]) rfl rfl rfl rfl rfl rfl rfl rfl (by omega) ?_
          refine sp_findWorths (h := (am_ov h [17, 18, 47, 48, 53] gz1)) (n := n) (c := c) (t := t) (s0 := s0) (s1 := s1) (p0 := p0) (p1 := p1) HM (by omega) (fun gz2 f86 f87 => ?_)
          show am_wp L xs _ _ _ _ 43 [.ref 74, .int 1, .int 1, am_du, am_du, am_du, am_du] [] (am_S b) (am_ov (am_ov h [17, 18, 47, 48, 53] gz1) [83, 84, 86, 87] gz2) _
          refine wp_run 5 (pc' := 49) (ls' := [.ref 74, .int 1, .int 1, .int 0, .int (-1), am_du, am_du]) (st' := [.ref 74]) rfl ?_
          refine wp_getr 75 rfl rfl rfl ?_
          refine wp_run 1 (pc' := 53) (ls' := [.ref 74, .int 1, .int 1, .int 0, .int (-1), am_du, am_du]) (st' := [.int 2, .ref 75]) rfl ?_
          refine wp_ald (i := 2) (nI n) hm2 rfl rfl rfl (by decide) rfl ?_
          refine wp_run 3 (pc' := 58) (ls' := [.ref 74, .int 1, .int 1, .int 0, .int (-1), .int ((nI n) - 1), am_du]) (st' := []) rfl ?_
          have hp := fun kq => lp_m_fits (L := L) (xs := xs) (d := d) (ms := ms2) (b := b) (h := h) (Q := Q2) (X := (am_ov (am_ov h [17, 18, 47, 48, 53] gz1) [83, 84, 86, 87] gz2)) (s := 1) (l := l) (n := n) (c := c) (LK := (fun j g => hs_lk h s0 p0 j g)) (p2 := 1) (by omega) hl24 hz2 hm2 hn7 hm3 hc7 (fun g hg j hj => (f87 g hg j hj).trans (re_lk H hj hg)) (by omega) kq n 0 (-1) am_du ((am_ov (am_ov h [17, 18, 47, 48, 53] gz1) [83, 84, 86, 87] gz2) 88) (Nat.le_refl _) ⟨by decide, fun k hk => by simp; omega, Or.inl ⟨rfl, fun k k1 k2 => by omega⟩⟩
          rw [← am_ur_self] at hp
          refine hp (fun r9 W9 v9 u9 hfs0 => ?_)
          have hfs : ms_fs (fun i => ab_ft (h 68) l n (ab_got (fun j g => hs_lk h s0 p0 j g) c n i)) n 0 W9 v9 := by
            have ef : (fun i => ab_ft (fun k => (am_ov (am_ov h [17, 18, 47, 48, 53] gz1) [83, 84, 86, 87] gz2) 80 (24 * 1 + k)) l n (ab_got (fun j g => hs_lk h s0 p0 j g) c n i)) = (fun i => ab_ft (h 68) l n (ab_got (fun j g => hs_lk h s0 p0 j g) c n i)) := funext fun i => ab_ft_c (fun q hq => (hri q (by omega)).symm) (fun g hg => rfl)
            rw [← ef]
            exact hfs0
          have eW := ms_fs_set hfs hn7
          rw [eW]
          have ev9 := ms_fs_1 hfs hn7 ht1 hb1 hb2
          subst ev9
          refine wp_run 1 (pc' := 113) (ls' := [.ref 74, .int 1, .int 1, .int (nI (ab_fs (fun i => ab_ft (h 68) l n (ab_got (fun j g => hs_lk h s0 p0 j g) c n i)) n)), .int (nI t1), .int (-1), u9]) (st' := [.int 1]) rfl ?_
          refine wp_if_t rfl (show ¬ (1 : Int32) = 0 from by decide) ?_
          refine wp_run 1 (pc' := 122) (ls' := [.ref 74, .int 1, .int 1, .int (nI (ab_fs (fun i => ab_ft (h 68) l n (ab_got (fun j g => hs_lk h s0 p0 j g) c n i)) n)), .int (nI t1), .int (-1), u9]) (st' := [.int (nI t1)]) rfl ?_
          refine wp_if_t rfl (show 0 ≤ (nI t1) from (nI_leI (a := 0) (b := t1) (by omega) (by omega)).mpr (by omega)) ?_
          refine wp_run 1 (pc' := 136) (ls' := [.ref 74, .int 1, .int 1, .int (nI (ab_fs (fun i => ab_ft (h 68) l n (ab_got (fun j g => hs_lk h s0 p0 j g) c n i)) n)), .int (nI t1), .int (-1), u9]) (st' := [.int (nI t1)]) rfl ?_
          refine wp_ret rfl ?_
          exact kk2 _ _ (re_keep hR (am_ov2 (l3 := []) (k := 0) rfl rfl rfl) ⟨n, c, t, tp, wt, s0, s1, p0, p1, H⟩)
        · skip
          replace cq69 := Decidable.not_not.mp cq69
          have cq69n : (ab_fs (fun i => ab_ft (h 68) l n (ab_got (fun j g => hs_lk h s0 p0 j g) c n i)) n) = 0 := (nI_eq (a := (ab_fs (fun i => ab_ft (h 68) l n (ab_got (fun j g => hs_lk h s0 p0 j g) c n i)) n)) (b := 0) (by omega) (by omega)).mp cq69
          refine wp_run 2 (pc' := 74) (ls' := [.ref 0, .int 1, .int 1, .int (nI (ab_fs (fun i => ab_ft (h 68) l n (ab_got (fun j g => hs_lk h s0 p0 j g) c n i)) n))]) (st' := [.int 2, .ref 0]) rfl ?_
          refine wp_callV (o := 0) (as := [.int 2]) (rest := []) (els := [.ref 0, .int 2]) rfl rfl rfl rfl rfl rfl rfl rfl (by omega) ?_
          refine sp_refuse2 (by omega) ?_
          show am_wp L xs _ _ _ _ 77 [.ref 0, .int 1, .int 1, .int (nI (ab_fs (fun i => ab_ft (h 68) l n (ab_got (fun j g => hs_lk h s0 p0 j g) c n i)) n))] [.int (-1000000002)] (am_S b) (am_u (am_ov h [17, 18, 47, 48, 53] gz1) 73 2 ((am_ov h [17, 18, 47, 48, 53] gz1) 73 2 + 1)) _
          refine wp_run 1 (pc' := 84) (ls' := [.ref 0, .int 1, .int 1, .int (nI (ab_fs (fun i => ab_ft (h 68) l n (ab_got (fun j g => hs_lk h s0 p0 j g) c n i)) n))]) (st' := [.int (-1000000002)]) rfl ?_
          refine wp_ret rfl ?_
          refine kk _ _ _ (fun ms2 Q2 kk2 => ?_)
          refine wp_run 1 (pc' := 1) (ls' := [.ref 74, .int 1, .int 1, am_du, am_du, am_du, am_du]) (st' := [.int 1]) rfl ?_
          refine wp_callS (as := [.int 1]) (rest := []) (els := [.int 1]) rfl rfl rfl rfl rfl rfl rfl rfl (by omega) ?_
          refine sp_m_isSheet (by omega) (fun _ _ _ => ?_) (fun q => absurd rfl (q 1 (by omega)))
          show am_wp L xs _ _ _ _ 4 [.ref 74, .int 1, .int 1, am_du, am_du, am_du, am_du] [.int 1] (am_S b) (am_u (am_ov h [17, 18, 47, 48, 53] gz1) 73 2 ((am_ov h [17, 18, 47, 48, 53] gz1) 73 2 + 1)) _
          refine wp_if_f rfl (show ¬ ((1 : Int32) = 0) from by decide) ?_
          refine wp_run 3 (pc' := 10) (ls' := [.ref 74, .int 1, .int 1, am_du, am_du, am_du, am_du]) (st' := [.int 1, .int 0, .int 1]) rfl ?_
          refine wp_callS (as := [.int 1, .int 0, .int 1]) (rest := []) (els := [.int 1, .int 0, .int 1]) rfl rfl rfl rfl rfl rfl rfl rfl (by omega) ?_
          refine sp_m_in0 (m := 1) rfl rfl (fun _ _ _ => ?_) (fun q => absurd rfl (q 1 (by omega)))
          show am_wp L xs _ _ _ _ 13 [.ref 74, .int 1, .int 1, am_du, am_du, am_du, am_du] [.int 1] (am_S b) (am_u (am_ov h [17, 18, 47, 48, 53] gz1) 73 2 ((am_ov h [17, 18, 47, 48, 53] gz1) 73 2 + 1)) _
          refine wp_if_t rfl (show ¬ (1 : Int32) = 0 from by decide) ?_
          refine wp_run 1 (pc' := 24) (ls' := [.ref 74, .int 1, .int 1, am_du, am_du, am_du, am_du]) (st' := [.ref 74]) rfl ?_
          refine wp_getr 78 rfl rfl rfl ?_
          refine wp_run 1 (pc' := 28) (ls' := [.ref 74, .int 1, .int 1, am_du, am_du, am_du, am_du]) (st' := [.int 1, .ref 78]) rfl ?_
          refine wp_ald (i := 1) (h 78 1) rfl rfl rfl rfl (by decide) rfl ?_
          refine wp_if_t rfl (show ¬ (h 78 1) = 0 from eb) ?_
          refine wp_run 1 (pc' := 40) (ls' := [.ref 74, .int 1, .int 1, am_du, am_du, am_du, am_du]) (st' := [.ref 74]) rfl ?_
          refine wp_callV (o := 74) (as := []) (rest := []) (els := [.ref 74, am_du, am_du]) rfl rfl rfl rfl rfl rfl rfl rfl (by omega) ?_
          refine sp_findWorths (h := (am_u (am_ov h [17, 18, 47, 48, 53] gz1) 73 2 ((am_ov h [17, 18, 47, 48, 53] gz1) 73 2 + 1))) (n := n) (c := c) (t := t) (s0 := s0) (s1 := s1) (p0 := p0) (p1 := p1) HM (by omega) (fun gz2 f86 f87 => ?_)
          show am_wp L xs _ _ _ _ 43 [.ref 74, .int 1, .int 1, am_du, am_du, am_du, am_du] [] (am_S b) (am_ov (am_u (am_ov h [17, 18, 47, 48, 53] gz1) 73 2 ((am_ov h [17, 18, 47, 48, 53] gz1) 73 2 + 1)) [83, 84, 86, 87] gz2) _
          refine wp_run 5 (pc' := 49) (ls' := [.ref 74, .int 1, .int 1, .int 0, .int (-1), am_du, am_du]) (st' := [.ref 74]) rfl ?_
          refine wp_getr 75 rfl rfl rfl ?_
          refine wp_run 1 (pc' := 53) (ls' := [.ref 74, .int 1, .int 1, .int 0, .int (-1), am_du, am_du]) (st' := [.int 2, .ref 75]) rfl ?_
          refine wp_ald (i := 2) (nI n) hm2 rfl rfl rfl (by decide) rfl ?_
          refine wp_run 3 (pc' := 58) (ls' := [.ref 74, .int 1, .int 1, .int 0, .int (-1), .int ((nI n) - 1), am_du]) (st' := []) rfl ?_
          have hp := fun kq => lp_m_fits (L := L) (xs := xs) (d := d) (ms := ms2) (b := b) (h := h) (Q := Q2) (X := (am_ov (am_u (am_ov h [17, 18, 47, 48, 53] gz1) 73 2 ((am_ov h [17, 18, 47, 48, 53] gz1) 73 2 + 1)) [83, 84, 86, 87] gz2)) (s := 1) (l := l) (n := n) (c := c) (LK := (fun j g => hs_lk h s0 p0 j g)) (p2 := 1) (by omega) hl24 hz2 hm2 hn7 hm3 hc7 (fun g hg j hj => (f87 g hg j hj).trans (re_lk H hj hg)) (by omega) kq n 0 (-1) am_du ((am_ov (am_u (am_ov h [17, 18, 47, 48, 53] gz1) 73 2 ((am_ov h [17, 18, 47, 48, 53] gz1) 73 2 + 1)) [83, 84, 86, 87] gz2) 88) (Nat.le_refl _) ⟨by decide, fun k hk => by simp; omega, Or.inl ⟨rfl, fun k k1 k2 => by omega⟩⟩
          rw [← am_ur_self] at hp
          refine hp (fun r9 W9 v9 u9 hfs0 => ?_)
          have hfs : ms_fs (fun i => ab_ft (h 68) l n (ab_got (fun j g => hs_lk h s0 p0 j g) c n i)) n 0 W9 v9 := by
            have ef : (fun i => ab_ft (fun k => (am_ov (am_u (am_ov h [17, 18, 47, 48, 53] gz1) 73 2 ((am_ov h [17, 18, 47, 48, 53] gz1) 73 2 + 1)) [83, 84, 86, 87] gz2) 80 (24 * 1 + k)) l n (ab_got (fun j g => hs_lk h s0 p0 j g) c n i)) = (fun i => ab_ft (h 68) l n (ab_got (fun j g => hs_lk h s0 p0 j g) c n i)) := funext fun i => ab_ft_c (fun q hq => (hri q (by omega)).symm) (fun g hg => rfl)
            rw [← ef]
            exact hfs0
          have eW := ms_fs_set hfs hn7
          rw [eW]
          have ev9 := ms_fs_0 hfs hn7 (by omega)
          subst ev9
          refine wp_run 1 (pc' := 113) (ls' := [.ref 74, .int 1, .int 1, .int (nI (ab_fs (fun i => ab_ft (h 68) l n (ab_got (fun j g => hs_lk h s0 p0 j g) c n i)) n)), .int (-1), .int (-1), u9]) (st' := [.int 1]) rfl ?_
          refine wp_if_t rfl (show ¬ (1 : Int32) = 0 from by decide) ?_
          refine wp_run 1 (pc' := 122) (ls' := [.ref 74, .int 1, .int 1, .int (nI (ab_fs (fun i => ab_ft (h 68) l n (ab_got (fun j g => hs_lk h s0 p0 j g) c n i)) n)), .int (-1), .int (-1), u9]) (st' := [.int (-1)]) rfl ?_
          refine wp_if_f rfl (show ¬ (0 ≤ ((-1) : Int32)) from by decide) ?_
          refine wp_run 2 (pc' := 128) (ls' := [.ref 74, .int 1, .int 1, .int (nI (ab_fs (fun i => ab_ft (h 68) l n (ab_got (fun j g => hs_lk h s0 p0 j g) c n i)) n)), .int (-1), .int (-1), u9]) (st' := [.int (-1000000002), .ref 74]) rfl ?_
          refine wp_callV (o := 74) (as := [.int (-1000000002)]) (rest := []) (els := [.ref 74, .int (-1000000002)]) rfl rfl rfl rfl rfl rfl rfl rfl (by omega) ?_
          refine sp_error2 ?_
          show am_wp L xs _ _ _ _ 131 [.ref 74, .int 1, .int 1, .int (nI (ab_fs (fun i => ab_ft (h 68) l n (ab_got (fun j g => hs_lk h s0 p0 j g) c n i)) n)), .int (-1), .int (-1), u9] [.int (-1000000002)] (am_S b) (am_u (am_ur (am_ov (am_u (am_ov h [17, 18, 47, 48, 53] gz1) 73 2 ((am_ov h [17, 18, 47, 48, 53] gz1) 73 2 + 1)) [83, 84, 86, 87] gz2) 88 r9) 77 2 ((am_ur (am_ov (am_u (am_ov h [17, 18, 47, 48, 53] gz1) 73 2 ((am_ov h [17, 18, 47, 48, 53] gz1) 73 2 + 1)) [83, 84, 86, 87] gz2) 88 r9) 77 2 + 1)) _
          refine wp_run 1 (pc' := 136) (ls' := [.ref 74, .int 1, .int 1, .int (nI (ab_fs (fun i => ab_ft (h 68) l n (ab_got (fun j g => hs_lk h s0 p0 j g) c n i)) n)), .int (-1), .int (-1), u9]) (st' := [.int (-1000000002)]) rfl ?_
          refine wp_ret rfl ?_
          exact kk2 _ _ (re_fit_err hR ⟨n, c, t, tp, wt, s0, s1, p0, p1, H⟩)
    · skip
      intro hnx2
      show am_wp L xs _ _ _ _ 13 [.ref 0, .int 1, .int x2, am_du] [.int 0] (am_S b) h _
      refine wp_if_f rfl (show ¬ (¬ (0 : Int32) = 0) from by decide) ?_
      refine wp_run 2 (pc' := 18) (ls' := [.ref 0, .int 1, .int x2, am_du]) (st' := [.int 1, .ref 0]) rfl ?_
      refine wp_callV (o := 0) (as := [.int 1]) (rest := []) (els := [.ref 0, .int 1]) rfl rfl rfl rfl rfl rfl rfl rfl (by omega) ?_
      refine sp_refuse1 (by omega) ?_
      show am_wp L xs _ _ _ _ 21 [.ref 0, .int 1, .int x2, am_du] [.int (-1000000001)] (am_S b) (am_u h 73 1 (h 73 1 + 1)) _
      refine wp_ret rfl ?_
      refine kk _ _ _ (fun ms2 Q2 kk2 => ?_)
      refine wp_run 1 (pc' := 1) (ls' := [.ref 74, .int 1, .int x2, am_du, am_du, am_du, am_du]) (st' := [.int 1]) rfl ?_
      refine wp_callS (as := [.int 1]) (rest := []) (els := [.int 1]) rfl rfl rfl rfl rfl rfl rfl rfl (by omega) ?_
      refine sp_m_isSheet (by omega) (fun _ _ _ => ?_) (fun q => absurd rfl (q 1 (by omega)))
      show am_wp L xs _ _ _ _ 4 [.ref 74, .int 1, .int x2, am_du, am_du, am_du, am_du] [.int 1] (am_S b) (am_u h 73 1 (h 73 1 + 1)) _
      refine wp_if_f rfl (show ¬ ((1 : Int32) = 0) from by decide) ?_
      refine wp_run 3 (pc' := 10) (ls' := [.ref 74, .int 1, .int x2, am_du, am_du, am_du, am_du]) (st' := [.int 1, .int 0, .int x2]) rfl ?_
      refine wp_callS (as := [.int x2, .int 0, .int 1]) (rest := []) (els := [.int x2, .int 0, .int 1]) rfl rfl rfl rfl rfl rfl rfl rfl (by omega) ?_
      refine sp_m_in0 (m := 1) rfl rfl (fun k hk e => absurd e (hnx2 k hk)) (fun _ => ?_)
      show am_wp L xs _ _ _ _ 13 [.ref 74, .int 1, .int x2, am_du, am_du, am_du, am_du] [.int 0] (am_S b) (am_u h 73 1 (h 73 1 + 1)) _
      refine wp_if_f rfl (show ¬ (¬ (0 : Int32) = 0) from by decide) ?_
      refine wp_run 2 (pc' := 19) (ls' := [.ref 74, .int 1, .int x2, am_du, am_du, am_du, am_du]) (st' := [.int (-1000000001), .ref 74]) rfl ?_
      refine wp_callV (o := 74) (as := [.int (-1000000001)]) (rest := []) (els := [.ref 74, .int (-1000000001)]) rfl rfl rfl rfl rfl rfl rfl rfl (by omega) ?_
      refine sp_error1 ?_
      show am_wp L xs _ _ _ _ 22 [.ref 74, .int 1, .int x2, am_du, am_du, am_du, am_du] [.int (-1000000001)] (am_S b) (am_u (am_u h 73 1 (h 73 1 + 1)) 77 1 ((am_u h 73 1 (h 73 1 + 1)) 77 1 + 1)) _
      refine wp_ret rfl ?_
      exact kk2 _ _ (re_err1 hR)
  · skip
    intro ex1
    subst ex1
    show am_wp L xs _ _ _ _ 4 [.ref 0, .int 2, .int x2, am_du] [.int 1] (am_S b) h _
    refine wp_if_f rfl (show ¬ ((1 : Int32) = 0) from by decide) ?_
    refine wp_run 3 (pc' := 10) (ls' := [.ref 0, .int 2, .int x2, am_du]) (st' := [.int 1, .int 0, .int x2]) rfl ?_
    refine wp_callS (as := [.int x2, .int 0, .int 1]) (rest := []) (els := [.int x2, .int 0, .int 1]) rfl rfl rfl rfl rfl rfl rfl rfl (by omega) ?_
    refine sp_x_within0 (m := 1) rfl rfl (pu_two ?_ ?_) ?_
    · skip
      intro ex2
      subst ex2
      show am_wp L xs _ _ _ _ 13 [.ref 0, .int 2, .int 0, am_du] [.int 1] (am_S b) h _
      refine wp_if_t rfl (show ¬ (1 : Int32) = 0 from by decide) ?_
      obtain ⟨l, hl24, ho2, hz2, hob, hbb, hri⟩ := id hS2
      rcases (show h 78 2 = 0 ∨ ¬ h 78 2 = 0 from Classical.em _) with eb | eb
      · skip
        refine wp_run 1 (pc' := 23) (ls' := [.ref 0, .int 2, .int 0, am_du]) (st' := [.ref 0]) rfl ?_
        refine wp_getr 64 rfl rfl rfl ?_
        refine wp_run 1 (pc' := 27) (ls' := [.ref 0, .int 2, .int 0, am_du]) (st' := [.int 2, .ref 64]) rfl ?_
        refine wp_aald (r := 69) rfl rfl (Or.inr rfl) rfl (by decide) rfl rfl ?_
        refine wp_callV (o := 69) (as := []) (rest := []) (els := [.ref 69]) rfl rfl rfl rfl rfl rfl rfl rfl (by omega) ?_
        refine wp_run 1 (pc' := 1) (ls' := [.ref 69]) (st' := [.ref 69]) rfl ?_
        refine wp_geti (a := 1) 0 (hob.trans eb) rfl rfl rfl ?_
        refine wp_if_f rfl (show ¬ (¬ (0 : Int32) = 0) from by decide) ?_
        refine wp_run 2 (pc' := 12) (ls' := [.ref 69]) (st' := [.int 1]) rfl ?_
        refine wp_retz rfl (Or.inr rfl) ?_
        show am_wp L xs _ _ _ _ 31 [.ref 0, .int 2, .int 0, am_du] [.int 1] (am_S b) h _
        refine wp_if_f rfl (show ¬ ((1 : Int32) = 0) from by decide) ?_
        refine wp_run 2 (pc' := 36) (ls' := [.ref 0, .int 2, .int 0, am_du]) (st' := [.int 2, .ref 0]) rfl ?_
        refine wp_callV (o := 0) (as := [.int 2]) (rest := []) (els := [.ref 0, .int 2]) rfl rfl rfl rfl rfl rfl rfl rfl (by omega) ?_
        refine sp_refuse2 (by omega) ?_
        show am_wp L xs _ _ _ _ 39 [.ref 0, .int 2, .int 0, am_du] [.int (-1000000002)] (am_S b) (am_u h 73 2 (h 73 2 + 1)) _
        refine wp_ret rfl ?_
        refine kk _ _ _ (fun ms2 Q2 kk2 => ?_)
        refine wp_run 1 (pc' := 1) (ls' := [.ref 74, .int 2, .int 0, am_du, am_du, am_du, am_du]) (st' := [.int 2]) rfl ?_
        refine wp_callS (as := [.int 2]) (rest := []) (els := [.int 2]) rfl rfl rfl rfl rfl rfl rfl rfl (by omega) ?_
        refine sp_m_isSheet (by omega) (fun _ _ _ => ?_) (fun q => absurd rfl (q 2 (by omega)))
        show am_wp L xs _ _ _ _ 4 [.ref 74, .int 2, .int 0, am_du, am_du, am_du, am_du] [.int 1] (am_S b) (am_u h 73 2 (h 73 2 + 1)) _
        refine wp_if_f rfl (show ¬ ((1 : Int32) = 0) from by decide) ?_
        refine wp_run 3 (pc' := 10) (ls' := [.ref 74, .int 2, .int 0, am_du, am_du, am_du, am_du]) (st' := [.int 1, .int 0, .int 0]) rfl ?_
        refine wp_callS (as := [.int 0, .int 0, .int 1]) (rest := []) (els := [.int 0, .int 0, .int 1]) rfl rfl rfl rfl rfl rfl rfl rfl (by omega) ?_
        refine sp_m_in0 (m := 1) rfl rfl (fun _ _ _ => ?_) (fun q => absurd rfl (q 0 (by omega)))
        show am_wp L xs _ _ _ _ 13 [.ref 74, .int 2, .int 0, am_du, am_du, am_du, am_du] [.int 1] (am_S b) (am_u h 73 2 (h 73 2 + 1)) _
        refine wp_if_t rfl (show ¬ (1 : Int32) = 0 from by decide) ?_
        refine wp_run 1 (pc' := 24) (ls' := [.ref 74, .int 2, .int 0, am_du, am_du, am_du, am_du]) (st' := [.ref 74]) rfl ?_
        refine wp_getr 78 rfl rfl rfl ?_
        refine wp_run 1 (pc' := 28) (ls' := [.ref 74, .int 2, .int 0, am_du, am_du, am_du, am_du]) (st' := [.int 2, .ref 78]) rfl ?_
        refine wp_ald (i := 2) 0 eb rfl rfl rfl (by decide) rfl ?_
        refine wp_if_f rfl (show ¬ (¬ (0 : Int32) = 0) from by decide) ?_
        refine wp_run 2 (pc' := 35) (ls' := [.ref 74, .int 2, .int 0, am_du, am_du, am_du, am_du]) (st' := [.int (-1000000002), .ref 74]) rfl ?_
        refine wp_callV (o := 74) (as := [.int (-1000000002)]) (rest := []) (els := [.ref 74, .int (-1000000002)]) rfl rfl rfl rfl rfl rfl rfl rfl (by omega) ?_
        refine sp_error2 ?_
        show am_wp L xs _ _ _ _ 38 [.ref 74, .int 2, .int 0, am_du, am_du, am_du, am_du] [.int (-1000000002)] (am_S b) (am_u (am_u h 73 2 (h 73 2 + 1)) 77 2 ((am_u h 73 2 (h 73 2 + 1)) 77 2 + 1)) _
        refine wp_ret rfl ?_
        exact kk2 _ _ (re_err2 hR)
      · skip
        have hsl := ab_fs_lt (fun i => ab_ft (h 70) l n (ab_got (fun j g => hs_lk h s0 p0 j g) c n i)) n hn7
        refine wp_run 1 (pc' := 23) (ls' := [.ref 0, .int 2, .int 0, am_du]) (st' := [.ref 0]) rfl ?_
        refine wp_getr 64 rfl rfl rfl ?_
        refine wp_run 1 (pc' := 27) (ls' := [.ref 0, .int 2, .int 0, am_du]) (st' := [.int 2, .ref 64]) rfl ?_
        refine wp_aald (r := 69) rfl rfl (Or.inr rfl) rfl (by decide) rfl rfl ?_
        refine wp_callV (o := 69) (as := []) (rest := []) (els := [.ref 69]) rfl rfl rfl rfl rfl rfl rfl rfl (by omega) ?_
        refine wp_run 1 (pc' := 1) (ls' := [.ref 69]) (st' := [.ref 69]) rfl ?_
        refine wp_geti (a := 1) (h 78 2) hob rfl rfl rfl ?_
        refine wp_if_t rfl (show ¬ (h 78 2) = 0 from eb) ?_
        refine wp_run 1 (pc' := 12) (ls' := [.ref 69]) (st' := [.int 0]) rfl ?_
        refine wp_retz rfl (Or.inl rfl) ?_
        show am_wp L xs _ _ _ _ 31 [.ref 0, .int 2, .int 0, am_du] [.int 0] (am_S b) h _
        refine wp_if_t rfl (show (0 : Int32) = 0 from by decide) ?_
        refine wp_run 1 (pc' := 41) (ls' := [.ref 0, .int 2, .int 0, am_du]) (st' := [.ref 0]) rfl ?_
        refine wp_getr 49 rfl rfl rfl ?_
        refine wp_run 1 (pc' := 45) (ls' := [.ref 0, .int 2, .int 0, am_du]) (st' := [.ref 0, .ref 49]) rfl ?_
        refine wp_getr 1 rfl rfl rfl ?_
        refine wp_run 1 (pc' := 49) (ls' := [.ref 0, .int 2, .int 0, am_du]) (st' := [.ref 0, .ref 1, .ref 49]) rfl ?_
        refine wp_getr 47 rfl rfl rfl ?_
        refine wp_run 1 (pc' := 53) (ls' := [.ref 0, .int 2, .int 0, am_du]) (st' := [.ref 0, .ref 47, .ref 1, .ref 49]) rfl ?_
        refine wp_getr 64 rfl rfl rfl ?_
        refine wp_run 1 (pc' := 57) (ls' := [.ref 0, .int 2, .int 0, am_du]) (st' := [.int 2, .ref 64, .ref 47, .ref 1, .ref 49]) rfl ?_
        refine wp_aald (r := 69) rfl rfl (Or.inr rfl) rfl (by decide) rfl rfl ?_
        refine wp_callV (o := 49) (as := [.ref 1, .ref 47, .ref 69]) (rest := []) (els := [.ref 49, .ref 1, .ref 47, .ref 69, am_du, am_du]) rfl rfl rfl rfl rfl rfl rfl rfl (by omega) ?_
        refine sp_fit2 HS ho2 hl24 (by omega) (fun gz1 => ?_)
        show am_wp L xs _ _ _ _ 61 [.ref 0, .int 2, .int 0, am_du] [.int (nI (ab_fs (fun i => ab_ft (h 70) l n (ab_got (fun j g => hs_lk h s0 p0 j g) c n i)) n))] (am_S b) (am_ov h [17, 18, 47, 48, 53] gz1) _
        refine wp_run 2 (pc' := 63) (ls' := [.ref 0, .int 2, .int 0, .int (nI (ab_fs (fun i => ab_ft (h 70) l n (ab_got (fun j g => hs_lk h s0 p0 j g) c n i)) n))]) (st' := [.int 0]) rfl ?_
        refine wp_if_f rfl (show ¬ (¬ (0 : Int32) = 0) from by decide) ?_
        refine wp_run 1 (pc' := 67) (ls' := [.ref 0, .int 2, .int 0, .int (nI (ab_fs (fun i => ab_ft (h 70) l n (ab_got (fun j g => hs_lk h s0 p0 j g) c n i)) n))]) (st' := [.int (nI (ab_fs (fun i => ab_ft (h 70) l n (ab_got (fun j g => hs_lk h s0 p0 j g) c n i)) n))]) rfl ?_
        refine wp_ret rfl ?_
        refine kk _ _ _ (fun ms2 Q2 kk2 => ?_)
        refine wp_run 1 (pc' := 1) (ls' := [.ref 74, .int 2, .int 0, am_du, am_du, am_du, am_du]) (st' := [.int 2]) rfl ?_
        refine wp_callS (as := [.int 2]) (rest := []) (els := [.int 2]) rfl rfl rfl rfl rfl rfl rfl rfl (by omega) ?_
        refine sp_m_isSheet (by omega) (fun _ _ _ => ?_) (fun q => absurd rfl (q 2 (by omega)))
        show am_wp L xs _ _ _ _ 4 [.ref 74, .int 2, .int 0, am_du, am_du, am_du, am_du] [.int 1] (am_S b) (am_ov h [17, 18, 47, 48, 53] gz1) _
        refine wp_if_f rfl (show ¬ ((1 : Int32) = 0) from by decide) ?_
        refine wp_run 3 (pc' := 10) (ls' := [.ref 74, .int 2, .int 0, am_du, am_du, am_du, am_du]) (st' := [.int 1, .int 0, .int 0]) rfl ?_
        refine wp_callS (as := [.int 0, .int 0, .int 1]) (rest := []) (els := [.int 0, .int 0, .int 1]) rfl rfl rfl rfl rfl rfl rfl rfl (by omega) ?_
        refine sp_m_in0 (m := 1) rfl rfl (fun _ _ _ => ?_) (fun q => absurd rfl (q 0 (by omega)))
        show am_wp L xs _ _ _ _ 13 [.ref 74, .int 2, .int 0, am_du, am_du, am_du, am_du] [.int 1] (am_S b) (am_ov h [17, 18, 47, 48, 53] gz1) _
        refine wp_if_t rfl (show ¬ (1 : Int32) = 0 from by decide) ?_
        refine wp_run 1 (pc' := 24) (ls' := [.ref 74, .int 2, .int 0, am_du, am_du, am_du, am_du]) (st' := [.ref 74]) rfl ?_
        refine wp_getr 78 rfl rfl rfl ?_
        refine wp_run 1 (pc' := 28) (ls' := [.ref 74, .int 2, .int 0, am_du, am_du, am_du, am_du]) (st' := [.int 2, .ref 78]) rfl ?_
        refine wp_ald (i := 2) (h 78 2) rfl rfl rfl rfl (by decide) rfl ?_
        refine wp_if_t rfl (show ¬ (h 78 2) = 0 from eb) ?_
        refine wp_run 1 (pc' := 40) (ls' := [.ref 74, .int 2, .int 0, am_du, am_du, am_du, am_du]) (st' := [.ref 74]) rfl ?_
        refine wp_callV (o := 74) (as := []) (rest := []) (els := [.ref 74, am_du, am_du]) rfl rfl rfl rfl rfl rfl rfl rfl (by omega) ?_
        refine sp_findWorths (h := (am_ov h [17, 18, 47, 48, 53] gz1)) (n := n) (c := c) (t := t) (s0 := s0) (s1 := s1) (p0 := p0) (p1 := p1) HM (by omega) (fun gz2 f86 f87 => ?_)
        show am_wp L xs _ _ _ _ 43 [.ref 74, .int 2, .int 0, am_du, am_du, am_du, am_du] [] (am_S b) (am_ov (am_ov h [17, 18, 47, 48, 53] gz1) [83, 84, 86, 87] gz2) _
        refine wp_run 5 (pc' := 49) (ls' := [.ref 74, .int 2, .int 0, .int 0, .int (-1), am_du, am_du]) (st' := [.ref 74]) rfl ?_
        refine wp_getr 75 rfl rfl rfl ?_
        refine wp_run 1 (pc' := 53) (ls' := [.ref 74, .int 2, .int 0, .int 0, .int (-1), am_du, am_du]) (st' := [.int 2, .ref 75]) rfl ?_
        refine wp_ald (i := 2) (nI n) hm2 rfl rfl rfl (by decide) rfl ?_
        refine wp_run 3 (pc' := 58) (ls' := [.ref 74, .int 2, .int 0, .int 0, .int (-1), .int ((nI n) - 1), am_du]) (st' := []) rfl ?_
        have hp := fun kq => lp_m_fits (L := L) (xs := xs) (d := d) (ms := ms2) (b := b) (h := h) (Q := Q2) (X := (am_ov (am_ov h [17, 18, 47, 48, 53] gz1) [83, 84, 86, 87] gz2)) (s := 2) (l := l) (n := n) (c := c) (LK := (fun j g => hs_lk h s0 p0 j g)) (p2 := 0) (by omega) hl24 hz2 hm2 hn7 hm3 hc7 (fun g hg j hj => (f87 g hg j hj).trans (re_lk H hj hg)) (by omega) kq n 0 (-1) am_du ((am_ov (am_ov h [17, 18, 47, 48, 53] gz1) [83, 84, 86, 87] gz2) 88) (Nat.le_refl _) ⟨by decide, fun k hk => by simp; omega, Or.inl ⟨rfl, fun k k1 k2 => by omega⟩⟩
        rw [← am_ur_self] at hp
        refine hp (fun r9 W9 v9 u9 hfs0 => ?_)
        have hfs : ms_fs (fun i => ab_ft (h 70) l n (ab_got (fun j g => hs_lk h s0 p0 j g) c n i)) n 0 W9 v9 := by
          have ef : (fun i => ab_ft (fun k => (am_ov (am_ov h [17, 18, 47, 48, 53] gz1) [83, 84, 86, 87] gz2) 80 (24 * 2 + k)) l n (ab_got (fun j g => hs_lk h s0 p0 j g) c n i)) = (fun i => ab_ft (h 70) l n (ab_got (fun j g => hs_lk h s0 p0 j g) c n i)) := funext fun i => ab_ft_c (fun q hq => (hri q (by omega)).symm) (fun g hg => rfl)
          rw [← ef]
          exact hfs0
        have eW := ms_fs_set hfs hn7
        rw [eW]
        refine wp_run 1 (pc' := 113) (ls' := [.ref 74, .int 2, .int 0, .int (nI (ab_fs (fun i => ab_ft (h 70) l n (ab_got (fun j g => hs_lk h s0 p0 j g) c n i)) n)), .int v9, .int (-1), u9]) (st' := [.int 0]) rfl ?_
        refine wp_if_f rfl (show ¬ (¬ (0 : Int32) = 0) from by decide) ?_
        refine wp_run 2 (pc' := 136) (ls' := [.ref 74, .int 2, .int 0, .int (nI (ab_fs (fun i => ab_ft (h 70) l n (ab_got (fun j g => hs_lk h s0 p0 j g) c n i)) n)), .int v9, .int (-1), u9]) (st' := [.int (nI (ab_fs (fun i => ab_ft (h 70) l n (ab_got (fun j g => hs_lk h s0 p0 j g) c n i)) n))]) rfl ?_
        refine wp_ret rfl ?_
        exact kk2 _ _ (re_keep hR (am_ov2 (l3 := []) (k := 0) rfl rfl rfl) ⟨n, c, t, tp, wt, s0, s1, p0, p1, H⟩)
    · skip
      intro ex2
      subst ex2
      show am_wp L xs _ _ _ _ 13 [.ref 0, .int 2, .int 1, am_du] [.int 1] (am_S b) h _
      refine wp_if_t rfl (show ¬ (1 : Int32) = 0 from by decide) ?_
      obtain ⟨l, hl24, ho2, hz2, hob, hbb, hri⟩ := id hS2
      rcases (show h 78 2 = 0 ∨ ¬ h 78 2 = 0 from Classical.em _) with eb | eb
      · skip
        refine wp_run 1 (pc' := 23) (ls' := [.ref 0, .int 2, .int 1, am_du]) (st' := [.ref 0]) rfl ?_
        refine wp_getr 64 rfl rfl rfl ?_
        refine wp_run 1 (pc' := 27) (ls' := [.ref 0, .int 2, .int 1, am_du]) (st' := [.int 2, .ref 64]) rfl ?_
        refine wp_aald (r := 69) rfl rfl (Or.inr rfl) rfl (by decide) rfl rfl ?_
        refine wp_callV (o := 69) (as := []) (rest := []) (els := [.ref 69]) rfl rfl rfl rfl rfl rfl rfl rfl (by omega) ?_
        refine wp_run 1 (pc' := 1) (ls' := [.ref 69]) (st' := [.ref 69]) rfl ?_
        refine wp_geti (a := 1) 0 (hob.trans eb) rfl rfl rfl ?_
        refine wp_if_f rfl (show ¬ (¬ (0 : Int32) = 0) from by decide) ?_
        refine wp_run 2 (pc' := 12) (ls' := [.ref 69]) (st' := [.int 1]) rfl ?_
        refine wp_retz rfl (Or.inr rfl) ?_
        show am_wp L xs _ _ _ _ 31 [.ref 0, .int 2, .int 1, am_du] [.int 1] (am_S b) h _
        refine wp_if_f rfl (show ¬ ((1 : Int32) = 0) from by decide) ?_
        refine wp_run 2 (pc' := 36) (ls' := [.ref 0, .int 2, .int 1, am_du]) (st' := [.int 2, .ref 0]) rfl ?_
        refine wp_callV (o := 0) (as := [.int 2]) (rest := []) (els := [.ref 0, .int 2]) rfl rfl rfl rfl rfl rfl rfl rfl (by omega) ?_
        refine sp_refuse2 (by omega) ?_
        show am_wp L xs _ _ _ _ 39 [.ref 0, .int 2, .int 1, am_du] [.int (-1000000002)] (am_S b) (am_u h 73 2 (h 73 2 + 1)) _
        refine wp_ret rfl ?_
        refine kk _ _ _ (fun ms2 Q2 kk2 => ?_)
        refine wp_run 1 (pc' := 1) (ls' := [.ref 74, .int 2, .int 1, am_du, am_du, am_du, am_du]) (st' := [.int 2]) rfl ?_
        refine wp_callS (as := [.int 2]) (rest := []) (els := [.int 2]) rfl rfl rfl rfl rfl rfl rfl rfl (by omega) ?_
        refine sp_m_isSheet (by omega) (fun _ _ _ => ?_) (fun q => absurd rfl (q 2 (by omega)))
        show am_wp L xs _ _ _ _ 4 [.ref 74, .int 2, .int 1, am_du, am_du, am_du, am_du] [.int 1] (am_S b) (am_u h 73 2 (h 73 2 + 1)) _
        refine wp_if_f rfl (show ¬ ((1 : Int32) = 0) from by decide) ?_
        refine wp_run 3 (pc' := 10) (ls' := [.ref 74, .int 2, .int 1, am_du, am_du, am_du, am_du]) (st' := [.int 1, .int 0, .int 1]) rfl ?_
        refine wp_callS (as := [.int 1, .int 0, .int 1]) (rest := []) (els := [.int 1, .int 0, .int 1]) rfl rfl rfl rfl rfl rfl rfl rfl (by omega) ?_
        refine sp_m_in0 (m := 1) rfl rfl (fun _ _ _ => ?_) (fun q => absurd rfl (q 1 (by omega)))
        show am_wp L xs _ _ _ _ 13 [.ref 74, .int 2, .int 1, am_du, am_du, am_du, am_du] [.int 1] (am_S b) (am_u h 73 2 (h 73 2 + 1)) _
        refine wp_if_t rfl (show ¬ (1 : Int32) = 0 from by decide) ?_
        refine wp_run 1 (pc' := 24) (ls' := [.ref 74, .int 2, .int 1, am_du, am_du, am_du, am_du]) (st' := [.ref 74]) rfl ?_
        refine wp_getr 78 rfl rfl rfl ?_
        refine wp_run 1 (pc' := 28) (ls' := [.ref 74, .int 2, .int 1, am_du, am_du, am_du, am_du]) (st' := [.int 2, .ref 78]) rfl ?_
        refine wp_ald (i := 2) 0 eb rfl rfl rfl (by decide) rfl ?_
        refine wp_if_f rfl (show ¬ (¬ (0 : Int32) = 0) from by decide) ?_
        refine wp_run 2 (pc' := 35) (ls' := [.ref 74, .int 2, .int 1, am_du, am_du, am_du, am_du]) (st' := [.int (-1000000002), .ref 74]) rfl ?_
        refine wp_callV (o := 74) (as := [.int (-1000000002)]) (rest := []) (els := [.ref 74, .int (-1000000002)]) rfl rfl rfl rfl rfl rfl rfl rfl (by omega) ?_
        refine sp_error2 ?_
        show am_wp L xs _ _ _ _ 38 [.ref 74, .int 2, .int 1, am_du, am_du, am_du, am_du] [.int (-1000000002)] (am_S b) (am_u (am_u h 73 2 (h 73 2 + 1)) 77 2 ((am_u h 73 2 (h 73 2 + 1)) 77 2 + 1)) _
        refine wp_ret rfl ?_
        exact kk2 _ _ (re_err2 hR)
      · skip
        have hsl := ab_fs_lt (fun i => ab_ft (h 70) l n (ab_got (fun j g => hs_lk h s0 p0 j g) c n i)) n hn7
        refine wp_run 1 (pc' := 23) (ls' := [.ref 0, .int 2, .int 1, am_du]) (st' := [.ref 0]) rfl ?_
        refine wp_getr 64 rfl rfl rfl ?_
        refine wp_run 1 (pc' := 27) (ls' := [.ref 0, .int 2, .int 1, am_du]) (st' := [.int 2, .ref 64]) rfl ?_
        refine wp_aald (r := 69) rfl rfl (Or.inr rfl) rfl (by decide) rfl rfl ?_
        refine wp_callV (o := 69) (as := []) (rest := []) (els := [.ref 69]) rfl rfl rfl rfl rfl rfl rfl rfl (by omega) ?_
        refine wp_run 1 (pc' := 1) (ls' := [.ref 69]) (st' := [.ref 69]) rfl ?_
        refine wp_geti (a := 1) (h 78 2) hob rfl rfl rfl ?_
        refine wp_if_t rfl (show ¬ (h 78 2) = 0 from eb) ?_
        refine wp_run 1 (pc' := 12) (ls' := [.ref 69]) (st' := [.int 0]) rfl ?_
        refine wp_retz rfl (Or.inl rfl) ?_
        show am_wp L xs _ _ _ _ 31 [.ref 0, .int 2, .int 1, am_du] [.int 0] (am_S b) h _
        refine wp_if_t rfl (show (0 : Int32) = 0 from by decide) ?_
        refine wp_run 1 (pc' := 41) (ls' := [.ref 0, .int 2, .int 1, am_du]) (st' := [.ref 0]) rfl ?_
        refine wp_getr 49 rfl rfl rfl ?_
        refine wp_run 1 (pc' := 45) (ls' := [.ref 0, .int 2, .int 1, am_du]) (st' := [.ref 0, .ref 49]) rfl ?_
        refine wp_getr 1 rfl rfl rfl ?_
        refine wp_run 1 (pc' := 49) (ls' := [.ref 0, .int 2, .int 1, am_du]) (st' := [.ref 0, .ref 1, .ref 49]) rfl ?_
        refine wp_getr 47 rfl rfl rfl ?_
        refine wp_run 1 (pc' := 53) (ls' := [.ref 0, .int 2, .int 1, am_du]) (st' := [.ref 0, .ref 47, .ref 1, .ref 49]) rfl ?_
        refine wp_getr 64 rfl rfl rfl ?_
        refine wp_run 1 (pc' := 57) (ls' := [.ref 0, .int 2, .int 1, am_du]) (st' := [.int 2, .ref 64, .ref 47, .ref 1, .ref 49]) rfl ?_
        refine wp_aald (r := 69) rfl rfl (Or.inr rfl) rfl (by decide) rfl rfl ?_
        refine wp_callV (o := 49) (as := [.ref 1, .ref 47, .ref 69]) (rest := []) (els := [.ref 49, .ref 1, .ref 47, .ref 69, am_du, am_du]) rfl rfl rfl rfl rfl rfl rfl rfl (by omega) ?_
        refine sp_fit2 HS ho2 hl24 (by omega) (fun gz1 => ?_)
        show am_wp L xs _ _ _ _ 61 [.ref 0, .int 2, .int 1, am_du] [.int (nI (ab_fs (fun i => ab_ft (h 70) l n (ab_got (fun j g => hs_lk h s0 p0 j g) c n i)) n))] (am_S b) (am_ov h [17, 18, 47, 48, 53] gz1) _
        refine wp_run 2 (pc' := 63) (ls' := [.ref 0, .int 2, .int 1, .int (nI (ab_fs (fun i => ab_ft (h 70) l n (ab_got (fun j g => hs_lk h s0 p0 j g) c n i)) n))]) (st' := [.int 1]) rfl ?_
        refine wp_if_t rfl (show ¬ (1 : Int32) = 0 from by decide) ?_
        refine wp_run 1 (pc' := 69) (ls' := [.ref 0, .int 2, .int 1, .int (nI (ab_fs (fun i => ab_ft (h 70) l n (ab_got (fun j g => hs_lk h s0 p0 j g) c n i)) n))]) (st' := [.int (nI (ab_fs (fun i => ab_ft (h 70) l n (ab_got (fun j g => hs_lk h s0 p0 j g) c n i)) n))]) rfl ?_
        refine wp_if rfl (fun (cq69 : ¬ (nI (ab_fs (fun i => ab_ft (h 70) l n (ab_got (fun j g => hs_lk h s0 p0 j g) c n i)) n)) = 0) => ?_) (fun (cq69 : ¬ (¬ (nI (ab_fs (fun i => ab_ft (h 70) l n (ab_got (fun j g => hs_lk h s0 p0 j g) c n i)) n)) = 0)) => ?_)
        · skip
          have cq69n : ¬ ((ab_fs (fun i => ab_ft (h 70) l n (ab_got (fun j g => hs_lk h s0 p0 j g) c n i)) n) = 0) := fun q => cq69 ((nI_eq (a := (ab_fs (fun i => ab_ft (h 70) l n (ab_got (fun j g => hs_lk h s0 p0 j g) c n i)) n)) (b := 0) (by omega) (by omega)).mpr q)
          refine wp_run 1 (pc' := 81) (ls' := [.ref 0, .int 2, .int 1, .int (nI (ab_fs (fun i => ab_ft (h 70) l n (ab_got (fun j g => hs_lk h s0 p0 j g) c n i)) n))]) (st' := [.int (nI (ab_fs (fun i => ab_ft (h 70) l n (ab_got (fun j g => hs_lk h s0 p0 j g) c n i)) n))]) rfl ?_
          refine wp_callS (as := [.int (nI (ab_fs (fun i => ab_ft (h 70) l n (ab_got (fun j g => hs_lk h s0 p0 j g) c n i)) n))]) (rest := []) (els := [.int (nI (ab_fs (fun i => ab_ft (h 70) l n (ab_got (fun j g => hs_lk h s0 p0 j g) c n i)) n)), am_du]) rfl rfl rfl rfl rfl rfl rfl rfl (by omega) ?_
          refine sp_ntz hsl (by omega) (fun t1 ht1 hb1 hb2 => ?_)
          show am_wp L xs _ _ _ _ 84 [.ref 0, .int 2, .int 1, .int (nI (ab_fs (fun i => ab_ft (h 70) l n (ab_got (fun j g => hs_lk h s0 p0 j g) c n i)) n))] [.int (nI t1)] (am_S b) (am_ov h [17, 18, 47, 48, 53] gz1) _
          refine wp_ret rfl ?_
          refine kk _ _ _ (fun ms2 Q2 kk2 => ?_)
          refine wp_run 1 (pc' := 1) (ls' := [.ref 74, .int 2, .int 1, am_du, am_du, am_du, am_du]) (st' := [.int 2]) rfl ?_
          refine wp_callS (as := [.int 2]) (rest := []) (els := [.int 2]) rfl rfl rfl rfl rfl rfl rfl rfl (by omega) ?_
          refine sp_m_isSheet (by omega) (fun _ _ _ => ?_) (fun q => absurd rfl (q 2 (by omega)))
          show am_wp L xs _ _ _ _ 4 [.ref 74, .int 2, .int 1, am_du, am_du, am_du, am_du] [.int 1] (am_S b) (am_ov h [17, 18, 47, 48, 53] gz1) _
          refine wp_if_f rfl (show ¬ ((1 : Int32) = 0) from by decide) ?_
          refine wp_run 3 (pc' := 10) (ls' := [.ref 74, .int 2, .int 1, am_du, am_du, am_du, am_du]) (st' := [.int 1, .int 0, .int 1]) rfl ?_
          refine wp_callS (as := [.int 1, .int 0, .int 1]) (rest := []) (els := [.int 1, .int 0, .int 1]) rfl rfl rfl rfl rfl rfl rfl rfl (by omega) ?_
          refine sp_m_in0 (m := 1) rfl rfl (fun _ _ _ => ?_) (fun q => absurd rfl (q 1 (by omega)))
          show am_wp L xs _ _ _ _ 13 [.ref 74, .int 2, .int 1, am_du, am_du, am_du, am_du] [.int 1] (am_S b) (am_ov h [17, 18, 47, 48, 53] gz1) _
          refine wp_if_t rfl (show ¬ (1 : Int32) = 0 from by decide) ?_
          refine wp_run 1 (pc' := 24) (ls' := [.ref 74, .int 2, .int 1, am_du, am_du, am_du, am_du]) (st' := [.ref 74]) rfl ?_
          refine wp_getr 78 rfl rfl rfl ?_
          refine wp_run 1 (pc' := 28) (ls' := [.ref 74, .int 2, .int 1, am_du, am_du, am_du, am_du]) (st' := [.int 2, .ref 78]) rfl ?_
          refine wp_ald (i := 2) (h 78 2) rfl rfl rfl rfl (by decide) rfl ?_
          refine wp_if_t rfl (show ¬ (h 78 2) = 0 from eb) ?_
          refine wp_run 1 (pc' := 40) (ls' := [.ref 74, .int 2, .int 1, am_du, am_du, am_du, am_du]) (st' := [.ref 74]) rfl ?_
          refine wp_callV (o := 74) (as := []) (rest := []) (els := [.ref 74, am_du, am_du]) rfl rfl rfl rfl rfl rfl rfl rfl (by omega) ?_
          refine sp_findWorths (h := (am_ov h [17, 18, 47, 48, 53] gz1)) (n := n) (c := c) (t := t) (s0 := s0) (s1 := s1) (p0 := p0) (p1 := p1) HM (by omega) (fun gz2 f86 f87 => ?_)
          show am_wp L xs _ _ _ _ 43 [.ref 74, .int 2, .int 1, am_du, am_du, am_du, am_du] [] (am_S b) (am_ov (am_ov h [17, 18, 47, 48, 53] gz1) [83, 84, 86, 87] gz2) _
          refine wp_run 5 (pc' := 49) (ls' := [.ref 74, .int 2, .int 1, .int 0, .int (-1), am_du, am_du]) (st' := [.ref 74]) rfl ?_
          refine wp_getr 75 rfl rfl rfl ?_
          refine wp_run 1 (pc' := 53) (ls' := [.ref 74, .int 2, .int 1, .int 0, .int (-1), am_du, am_du]) (st' := [.int 2, .ref 75]) rfl ?_
          refine wp_ald (i := 2) (nI n) hm2 rfl rfl rfl (by decide) rfl ?_
          refine wp_run 3 (pc' := 58) (ls' := [.ref 74, .int 2, .int 1, .int 0, .int (-1), .int ((nI n) - 1), am_du]) (st' := []) rfl ?_
          have hp := fun kq => lp_m_fits (L := L) (xs := xs) (d := d) (ms := ms2) (b := b) (h := h) (Q := Q2) (X := (am_ov (am_ov h [17, 18, 47, 48, 53] gz1) [83, 84, 86, 87] gz2)) (s := 2) (l := l) (n := n) (c := c) (LK := (fun j g => hs_lk h s0 p0 j g)) (p2 := 1) (by omega) hl24 hz2 hm2 hn7 hm3 hc7 (fun g hg j hj => (f87 g hg j hj).trans (re_lk H hj hg)) (by omega) kq n 0 (-1) am_du ((am_ov (am_ov h [17, 18, 47, 48, 53] gz1) [83, 84, 86, 87] gz2) 88) (Nat.le_refl _) ⟨by decide, fun k hk => by simp; omega, Or.inl ⟨rfl, fun k k1 k2 => by omega⟩⟩
          rw [← am_ur_self] at hp
          refine hp (fun r9 W9 v9 u9 hfs0 => ?_)
          have hfs : ms_fs (fun i => ab_ft (h 70) l n (ab_got (fun j g => hs_lk h s0 p0 j g) c n i)) n 0 W9 v9 := by
            have ef : (fun i => ab_ft (fun k => (am_ov (am_ov h [17, 18, 47, 48, 53] gz1) [83, 84, 86, 87] gz2) 80 (24 * 2 + k)) l n (ab_got (fun j g => hs_lk h s0 p0 j g) c n i)) = (fun i => ab_ft (h 70) l n (ab_got (fun j g => hs_lk h s0 p0 j g) c n i)) := funext fun i => ab_ft_c (fun q hq => (hri q (by omega)).symm) (fun g hg => rfl)
            rw [← ef]
            exact hfs0
          have eW := ms_fs_set hfs hn7
          rw [eW]
          have ev9 := ms_fs_1 hfs hn7 ht1 hb1 hb2
          subst ev9
          refine wp_run 1 (pc' := 113) (ls' := [.ref 74, .int 2, .int 1, .int (nI (ab_fs (fun i => ab_ft (h 70) l n (ab_got (fun j g => hs_lk h s0 p0 j g) c n i)) n)), .int (nI t1), .int (-1), u9]) (st' := [.int 1]) rfl ?_
          refine wp_if_t rfl (show ¬ (1 : Int32) = 0 from by decide) ?_
          refine wp_run 1 (pc' := 122) (ls' := [.ref 74, .int 2, .int 1, .int (nI (ab_fs (fun i => ab_ft (h 70) l n (ab_got (fun j g => hs_lk h s0 p0 j g) c n i)) n)), .int (nI t1), .int (-1), u9]) (st' := [.int (nI t1)]) rfl ?_
          refine wp_if_t rfl (show 0 ≤ (nI t1) from (nI_leI (a := 0) (b := t1) (by omega) (by omega)).mpr (by omega)) ?_
          refine wp_run 1 (pc' := 136) (ls' := [.ref 74, .int 2, .int 1, .int (nI (ab_fs (fun i => ab_ft (h 70) l n (ab_got (fun j g => hs_lk h s0 p0 j g) c n i)) n)), .int (nI t1), .int (-1), u9]) (st' := [.int (nI t1)]) rfl ?_
          refine wp_ret rfl ?_
          exact kk2 _ _ (re_keep hR (am_ov2 (l3 := []) (k := 0) rfl rfl rfl) ⟨n, c, t, tp, wt, s0, s1, p0, p1, H⟩)
        · skip
          replace cq69 := Decidable.not_not.mp cq69
          have cq69n : (ab_fs (fun i => ab_ft (h 70) l n (ab_got (fun j g => hs_lk h s0 p0 j g) c n i)) n) = 0 := (nI_eq (a := (ab_fs (fun i => ab_ft (h 70) l n (ab_got (fun j g => hs_lk h s0 p0 j g) c n i)) n)) (b := 0) (by omega) (by omega)).mp cq69
          refine wp_run 2 (pc' := 74) (ls' := [.ref 0, .int 2, .int 1, .int (nI (ab_fs (fun i => ab_ft (h 70) l n (ab_got (fun j g => hs_lk h s0 p0 j g) c n i)) n))]) (st' := [.int 2, .ref 0]) rfl ?_
          refine wp_callV (o := 0) (as := [.int 2]) (rest := []) (els := [.ref 0, .int 2]) rfl rfl rfl rfl rfl rfl rfl rfl (by omega) ?_
          refine sp_refuse2 (by omega) ?_
          show am_wp L xs _ _ _ _ 77 [.ref 0, .int 2, .int 1, .int (nI (ab_fs (fun i => ab_ft (h 70) l n (ab_got (fun j g => hs_lk h s0 p0 j g) c n i)) n))] [.int (-1000000002)] (am_S b) (am_u (am_ov h [17, 18, 47, 48, 53] gz1) 73 2 ((am_ov h [17, 18, 47, 48, 53] gz1) 73 2 + 1)) _
          refine wp_run 1 (pc' := 84) (ls' := [.ref 0, .int 2, .int 1, .int (nI (ab_fs (fun i => ab_ft (h 70) l n (ab_got (fun j g => hs_lk h s0 p0 j g) c n i)) n))]) (st' := [.int (-1000000002)]) rfl ?_
          refine wp_ret rfl ?_
          refine kk _ _ _ (fun ms2 Q2 kk2 => ?_)
          refine wp_run 1 (pc' := 1) (ls' := [.ref 74, .int 2, .int 1, am_du, am_du, am_du, am_du]) (st' := [.int 2]) rfl ?_
          refine wp_callS (as := [.int 2]) (rest := []) (els := [.int 2]) rfl rfl rfl rfl rfl rfl rfl rfl (by omega) ?_
          refine sp_m_isSheet (by omega) (fun _ _ _ => ?_) (fun q => absurd rfl (q 2 (by omega)))
          show am_wp L xs _ _ _ _ 4 [.ref 74, .int 2, .int 1, am_du, am_du, am_du, am_du] [.int 1] (am_S b) (am_u (am_ov h [17, 18, 47, 48, 53] gz1) 73 2 ((am_ov h [17, 18, 47, 48, 53] gz1) 73 2 + 1)) _
          refine wp_if_f rfl (show ¬ ((1 : Int32) = 0) from by decide) ?_
          refine wp_run 3 (pc' := 10) (ls' := [.ref 74, .int 2, .int 1, am_du, am_du, am_du, am_du]) (st' := [.int 1, .int 0, .int 1]) rfl ?_
          refine wp_callS (as := [.int 1, .int 0, .int 1]) (rest := []) (els := [.int 1, .int 0, .int 1]) rfl rfl rfl rfl rfl rfl rfl rfl (by omega) ?_
          refine sp_m_in0 (m := 1) rfl rfl (fun _ _ _ => ?_) (fun q => absurd rfl (q 1 (by omega)))
          show am_wp L xs _ _ _ _ 13 [.ref 74, .int 2, .int 1, am_du, am_du, am_du, am_du] [.int 1] (am_S b) (am_u (am_ov h [17, 18, 47, 48, 53] gz1) 73 2 ((am_ov h [17, 18, 47, 48, 53] gz1) 73 2 + 1)) _
          refine wp_if_t rfl (show ¬ (1 : Int32) = 0 from by decide) ?_
          refine wp_run 1 (pc' := 24) (ls' := [.ref 74, .int 2, .int 1, am_du, am_du, am_du, am_du]) (st' := [.ref 74]) rfl ?_
          refine wp_getr 78 rfl rfl rfl ?_
          refine wp_run 1 (pc' := 28) (ls' := [.ref 74, .int 2, .int 1, am_du, am_du, am_du, am_du]) (st' := [.int 2, .ref 78]) rfl ?_
          refine wp_ald (i := 2) (h 78 2) rfl rfl rfl rfl (by decide) rfl ?_
          refine wp_if_t rfl (show ¬ (h 78 2) = 0 from eb) ?_
          refine wp_run 1 (pc' := 40) (ls' := [.ref 74, .int 2, .int 1, am_du, am_du, am_du, am_du]) (st' := [.ref 74]) rfl ?_
          refine wp_callV (o := 74) (as := []) (rest := []) (els := [.ref 74, am_du, am_du]) rfl rfl rfl rfl rfl rfl rfl rfl (by omega) ?_
          refine sp_findWorths (h := (am_u (am_ov h [17, 18, 47, 48, 53] gz1) 73 2 ((am_ov h [17, 18, 47, 48, 53] gz1) 73 2 + 1))) (n := n) (c := c) (t := t) (s0 := s0) (s1 := s1) (p0 := p0) (p1 := p1) HM (by omega) (fun gz2 f86 f87 => ?_)
          show am_wp L xs _ _ _ _ 43 [.ref 74, .int 2, .int 1, am_du, am_du, am_du, am_du] [] (am_S b) (am_ov (am_u (am_ov h [17, 18, 47, 48, 53] gz1) 73 2 ((am_ov h [17, 18, 47, 48, 53] gz1) 73 2 + 1)) [83, 84, 86, 87] gz2) _
          refine wp_run 5 (pc' := 49) (ls' := [.ref 74, .int 2, .int 1, .int 0, .int (-1), am_du, am_du]) (st' := [.ref 74]) rfl ?_
          refine wp_getr 75 rfl rfl rfl ?_
          refine wp_run 1 (pc' := 53) (ls' := [.ref 74, .int 2, .int 1, .int 0, .int (-1), am_du, am_du]) (st' := [.int 2, .ref 75]) rfl ?_
          refine wp_ald (i := 2) (nI n) hm2 rfl rfl rfl (by decide) rfl ?_
          refine wp_run 3 (pc' := 58) (ls' := [.ref 74, .int 2, .int 1, .int 0, .int (-1), .int ((nI n) - 1), am_du]) (st' := []) rfl ?_
          have hp := fun kq => lp_m_fits (L := L) (xs := xs) (d := d) (ms := ms2) (b := b) (h := h) (Q := Q2) (X := (am_ov (am_u (am_ov h [17, 18, 47, 48, 53] gz1) 73 2 ((am_ov h [17, 18, 47, 48, 53] gz1) 73 2 + 1)) [83, 84, 86, 87] gz2)) (s := 2) (l := l) (n := n) (c := c) (LK := (fun j g => hs_lk h s0 p0 j g)) (p2 := 1) (by omega) hl24 hz2 hm2 hn7 hm3 hc7 (fun g hg j hj => (f87 g hg j hj).trans (re_lk H hj hg)) (by omega) kq n 0 (-1) am_du ((am_ov (am_u (am_ov h [17, 18, 47, 48, 53] gz1) 73 2 ((am_ov h [17, 18, 47, 48, 53] gz1) 73 2 + 1)) [83, 84, 86, 87] gz2) 88) (Nat.le_refl _) ⟨by decide, fun k hk => by simp; omega, Or.inl ⟨rfl, fun k k1 k2 => by omega⟩⟩
          rw [← am_ur_self] at hp
          refine hp (fun r9 W9 v9 u9 hfs0 => ?_)
          have hfs : ms_fs (fun i => ab_ft (h 70) l n (ab_got (fun j g => hs_lk h s0 p0 j g) c n i)) n 0 W9 v9 := by
            have ef : (fun i => ab_ft (fun k => (am_ov (am_u (am_ov h [17, 18, 47, 48, 53] gz1) 73 2 ((am_ov h [17, 18, 47, 48, 53] gz1) 73 2 + 1)) [83, 84, 86, 87] gz2) 80 (24 * 2 + k)) l n (ab_got (fun j g => hs_lk h s0 p0 j g) c n i)) = (fun i => ab_ft (h 70) l n (ab_got (fun j g => hs_lk h s0 p0 j g) c n i)) := funext fun i => ab_ft_c (fun q hq => (hri q (by omega)).symm) (fun g hg => rfl)
            rw [← ef]
            exact hfs0
          have eW := ms_fs_set hfs hn7
          rw [eW]
          have ev9 := ms_fs_0 hfs hn7 (by omega)
          subst ev9
          refine wp_run 1 (pc' := 113) (ls' := [.ref 74, .int 2, .int 1, .int (nI (ab_fs (fun i => ab_ft (h 70) l n (ab_got (fun j g => hs_lk h s0 p0 j g) c n i)) n)), .int (-1), .int (-1), u9]) (st' := [.int 1]) rfl ?_
          refine wp_if_t rfl (show ¬ (1 : Int32) = 0 from by decide) ?_
          refine wp_run 1 (pc' := 122) (ls' := [.ref 74, .int 2, .int 1, .int (nI (ab_fs (fun i => ab_ft (h 70) l n (ab_got (fun j g => hs_lk h s0 p0 j g) c n i)) n)), .int (-1), .int (-1), u9]) (st' := [.int (-1)]) rfl ?_
          refine wp_if_f rfl (show ¬ (0 ≤ ((-1) : Int32)) from by decide) ?_
          refine wp_run 2 (pc' := 128) (ls' := [.ref 74, .int 2, .int 1, .int (nI (ab_fs (fun i => ab_ft (h 70) l n (ab_got (fun j g => hs_lk h s0 p0 j g) c n i)) n)), .int (-1), .int (-1), u9]) (st' := [.int (-1000000002), .ref 74]) rfl ?_
          refine wp_callV (o := 74) (as := [.int (-1000000002)]) (rest := []) (els := [.ref 74, .int (-1000000002)]) rfl rfl rfl rfl rfl rfl rfl rfl (by omega) ?_
          refine sp_error2 ?_
          show am_wp L xs _ _ _ _ 131 [.ref 74, .int 2, .int 1, .int (nI (ab_fs (fun i => ab_ft (h 70) l n (ab_got (fun j g => hs_lk h s0 p0 j g) c n i)) n)), .int (-1), .int (-1), u9] [.int (-1000000002)] (am_S b) (am_u (am_ur (am_ov (am_u (am_ov h [17, 18, 47, 48, 53] gz1) 73 2 ((am_ov h [17, 18, 47, 48, 53] gz1) 73 2 + 1)) [83, 84, 86, 87] gz2) 88 r9) 77 2 ((am_ur (am_ov (am_u (am_ov h [17, 18, 47, 48, 53] gz1) 73 2 ((am_ov h [17, 18, 47, 48, 53] gz1) 73 2 + 1)) [83, 84, 86, 87] gz2) 88 r9) 77 2 + 1)) _
          refine wp_run 1 (pc' := 136) (ls' := [.ref 74, .int 2, .int 1, .int (nI (ab_fs (fun i => ab_ft (h 70) l n (ab_got (fun j g => hs_lk h s0 p0 j g) c n i)) n)), .int (-1), .int (-1), u9]) (st' := [.int (-1000000002)]) rfl ?_
          refine wp_ret rfl ?_
          exact kk2 _ _ (re_fit_err hR ⟨n, c, t, tp, wt, s0, s1, p0, p1, H⟩)
    · skip
      intro hnx2
      show am_wp L xs _ _ _ _ 13 [.ref 0, .int 2, .int x2, am_du] [.int 0] (am_S b) h _
      refine wp_if_f rfl (show ¬ (¬ (0 : Int32) = 0) from by decide) ?_
      refine wp_run 2 (pc' := 18) (ls' := [.ref 0, .int 2, .int x2, am_du]) (st' := [.int 1, .ref 0]) rfl ?_
      refine wp_callV (o := 0) (as := [.int 1]) (rest := []) (els := [.ref 0, .int 1]) rfl rfl rfl rfl rfl rfl rfl rfl (by omega) ?_
      refine sp_refuse1 (by omega) ?_
      show am_wp L xs _ _ _ _ 21 [.ref 0, .int 2, .int x2, am_du] [.int (-1000000001)] (am_S b) (am_u h 73 1 (h 73 1 + 1)) _
      refine wp_ret rfl ?_
      refine kk _ _ _ (fun ms2 Q2 kk2 => ?_)
      refine wp_run 1 (pc' := 1) (ls' := [.ref 74, .int 2, .int x2, am_du, am_du, am_du, am_du]) (st' := [.int 2]) rfl ?_
      refine wp_callS (as := [.int 2]) (rest := []) (els := [.int 2]) rfl rfl rfl rfl rfl rfl rfl rfl (by omega) ?_
      refine sp_m_isSheet (by omega) (fun _ _ _ => ?_) (fun q => absurd rfl (q 2 (by omega)))
      show am_wp L xs _ _ _ _ 4 [.ref 74, .int 2, .int x2, am_du, am_du, am_du, am_du] [.int 1] (am_S b) (am_u h 73 1 (h 73 1 + 1)) _
      refine wp_if_f rfl (show ¬ ((1 : Int32) = 0) from by decide) ?_
      refine wp_run 3 (pc' := 10) (ls' := [.ref 74, .int 2, .int x2, am_du, am_du, am_du, am_du]) (st' := [.int 1, .int 0, .int x2]) rfl ?_
      refine wp_callS (as := [.int x2, .int 0, .int 1]) (rest := []) (els := [.int x2, .int 0, .int 1]) rfl rfl rfl rfl rfl rfl rfl rfl (by omega) ?_
      refine sp_m_in0 (m := 1) rfl rfl (fun k hk e => absurd e (hnx2 k hk)) (fun _ => ?_)
      show am_wp L xs _ _ _ _ 13 [.ref 74, .int 2, .int x2, am_du, am_du, am_du, am_du] [.int 0] (am_S b) (am_u h 73 1 (h 73 1 + 1)) _
      refine wp_if_f rfl (show ¬ (¬ (0 : Int32) = 0) from by decide) ?_
      refine wp_run 2 (pc' := 19) (ls' := [.ref 74, .int 2, .int x2, am_du, am_du, am_du, am_du]) (st' := [.int (-1000000001), .ref 74]) rfl ?_
      refine wp_callV (o := 74) (as := [.int (-1000000001)]) (rest := []) (els := [.ref 74, .int (-1000000001)]) rfl rfl rfl rfl rfl rfl rfl rfl (by omega) ?_
      refine sp_error1 ?_
      show am_wp L xs _ _ _ _ 22 [.ref 74, .int 2, .int x2, am_du, am_du, am_du, am_du] [.int (-1000000001)] (am_S b) (am_u (am_u h 73 1 (h 73 1 + 1)) 77 1 ((am_u h 73 1 (h 73 1 + 1)) 77 1 + 1)) _
      refine wp_ret rfl ?_
      exact kk2 _ _ (re_err1 hR)
  · skip
    intro ex1
    subst ex1
    show am_wp L xs _ _ _ _ 4 [.ref 0, .int 3, .int x2, am_du] [.int 1] (am_S b) h _
    refine wp_if_f rfl (show ¬ ((1 : Int32) = 0) from by decide) ?_
    refine wp_run 3 (pc' := 10) (ls' := [.ref 0, .int 3, .int x2, am_du]) (st' := [.int 1, .int 0, .int x2]) rfl ?_
    refine wp_callS (as := [.int x2, .int 0, .int 1]) (rest := []) (els := [.int x2, .int 0, .int 1]) rfl rfl rfl rfl rfl rfl rfl rfl (by omega) ?_
    refine sp_x_within0 (m := 1) rfl rfl (pu_two ?_ ?_) ?_
    · skip
      intro ex2
      subst ex2
      show am_wp L xs _ _ _ _ 13 [.ref 0, .int 3, .int 0, am_du] [.int 1] (am_S b) h _
      refine wp_if_t rfl (show ¬ (1 : Int32) = 0 from by decide) ?_
      obtain ⟨l, hl24, ho2, hz2, hob, hbb, hri⟩ := id hS3
      rcases (show h 78 3 = 0 ∨ ¬ h 78 3 = 0 from Classical.em _) with eb | eb
      · skip
        refine wp_run 1 (pc' := 23) (ls' := [.ref 0, .int 3, .int 0, am_du]) (st' := [.ref 0]) rfl ?_
        refine wp_getr 64 rfl rfl rfl ?_
        refine wp_run 1 (pc' := 27) (ls' := [.ref 0, .int 3, .int 0, am_du]) (st' := [.int 3, .ref 64]) rfl ?_
        refine wp_aald (r := 71) rfl rfl (Or.inr rfl) rfl (by decide) rfl rfl ?_
        refine wp_callV (o := 71) (as := []) (rest := []) (els := [.ref 71]) rfl rfl rfl rfl rfl rfl rfl rfl (by omega) ?_
        refine wp_run 1 (pc' := 1) (ls' := [.ref 71]) (st' := [.ref 71]) rfl ?_
        refine wp_geti (a := 1) 0 (hob.trans eb) rfl rfl rfl ?_
        refine wp_if_f rfl (show ¬ (¬ (0 : Int32) = 0) from by decide) ?_
        refine wp_run 2 (pc' := 12) (ls' := [.ref 71]) (st' := [.int 1]) rfl ?_
        refine wp_retz rfl (Or.inr rfl) ?_
        show am_wp L xs _ _ _ _ 31 [.ref 0, .int 3, .int 0, am_du] [.int 1] (am_S b) h _
        refine wp_if_f rfl (show ¬ ((1 : Int32) = 0) from by decide) ?_
        refine wp_run 2 (pc' := 36) (ls' := [.ref 0, .int 3, .int 0, am_du]) (st' := [.int 2, .ref 0]) rfl ?_
        refine wp_callV (o := 0) (as := [.int 2]) (rest := []) (els := [.ref 0, .int 2]) rfl rfl rfl rfl rfl rfl rfl rfl (by omega) ?_
        refine sp_refuse2 (by omega) ?_
        show am_wp L xs _ _ _ _ 39 [.ref 0, .int 3, .int 0, am_du] [.int (-1000000002)] (am_S b) (am_u h 73 2 (h 73 2 + 1)) _
        refine wp_ret rfl ?_
        refine kk _ _ _ (fun ms2 Q2 kk2 => ?_)
        refine wp_run 1 (pc' := 1) (ls' := [.ref 74, .int 3, .int 0, am_du, am_du, am_du, am_du]) (st' := [.int 3]) rfl ?_
        refine wp_callS (as := [.int 3]) (rest := []) (els := [.int 3]) rfl rfl rfl rfl rfl rfl rfl rfl (by omega) ?_
        refine sp_m_isSheet (by omega) (fun _ _ _ => ?_) (fun q => absurd rfl (q 3 (by omega)))
        show am_wp L xs _ _ _ _ 4 [.ref 74, .int 3, .int 0, am_du, am_du, am_du, am_du] [.int 1] (am_S b) (am_u h 73 2 (h 73 2 + 1)) _
        refine wp_if_f rfl (show ¬ ((1 : Int32) = 0) from by decide) ?_
        refine wp_run 3 (pc' := 10) (ls' := [.ref 74, .int 3, .int 0, am_du, am_du, am_du, am_du]) (st' := [.int 1, .int 0, .int 0]) rfl ?_
        refine wp_callS (as := [.int 0, .int 0, .int 1]) (rest := []) (els := [.int 0, .int 0, .int 1]) rfl rfl rfl rfl rfl rfl rfl rfl (by omega) ?_
        refine sp_m_in0 (m := 1) rfl rfl (fun _ _ _ => ?_) (fun q => absurd rfl (q 0 (by omega)))
        show am_wp L xs _ _ _ _ 13 [.ref 74, .int 3, .int 0, am_du, am_du, am_du, am_du] [.int 1] (am_S b) (am_u h 73 2 (h 73 2 + 1)) _
        refine wp_if_t rfl (show ¬ (1 : Int32) = 0 from by decide) ?_
        refine wp_run 1 (pc' := 24) (ls' := [.ref 74, .int 3, .int 0, am_du, am_du, am_du, am_du]) (st' := [.ref 74]) rfl ?_
        refine wp_getr 78 rfl rfl rfl ?_
        refine wp_run 1 (pc' := 28) (ls' := [.ref 74, .int 3, .int 0, am_du, am_du, am_du, am_du]) (st' := [.int 3, .ref 78]) rfl ?_
        refine wp_ald (i := 3) 0 eb rfl rfl rfl (by decide) rfl ?_
        refine wp_if_f rfl (show ¬ (¬ (0 : Int32) = 0) from by decide) ?_
        refine wp_run 2 (pc' := 35) (ls' := [.ref 74, .int 3, .int 0, am_du, am_du, am_du, am_du]) (st' := [.int (-1000000002), .ref 74]) rfl ?_
        refine wp_callV (o := 74) (as := [.int (-1000000002)]) (rest := []) (els := [.ref 74, .int (-1000000002)]) rfl rfl rfl rfl rfl rfl rfl rfl (by omega) ?_
        refine sp_error2 ?_
        show am_wp L xs _ _ _ _ 38 [.ref 74, .int 3, .int 0, am_du, am_du, am_du, am_du] [.int (-1000000002)] (am_S b) (am_u (am_u h 73 2 (h 73 2 + 1)) 77 2 ((am_u h 73 2 (h 73 2 + 1)) 77 2 + 1)) _
        refine wp_ret rfl ?_
        exact kk2 _ _ (re_err2 hR)
      · skip
        have hsl := ab_fs_lt (fun i => ab_ft (h 72) l n (ab_got (fun j g => hs_lk h s0 p0 j g) c n i)) n hn7
        refine wp_run 1 (pc' := 23) (ls' := [.ref 0, .int 3, .int 0, am_du]) (st' := [.ref 0]) rfl ?_
        refine wp_getr 64 rfl rfl rfl ?_
        refine wp_run 1 (pc' := 27) (ls' := [.ref 0, .int 3, .int 0, am_du]) (st' := [.int 3, .ref 64]) rfl ?_
        refine wp_aald (r := 71) rfl rfl (Or.inr rfl) rfl (by decide) rfl rfl ?_
        refine wp_callV (o := 71) (as := []) (rest := []) (els := [.ref 71]) rfl rfl rfl rfl rfl rfl rfl rfl (by omega) ?_
        refine wp_run 1 (pc' := 1) (ls' := [.ref 71]) (st' := [.ref 71]) rfl ?_
        refine wp_geti (a := 1) (h 78 3) hob rfl rfl rfl ?_
        refine wp_if_t rfl (show ¬ (h 78 3) = 0 from eb) ?_
        refine wp_run 1 (pc' := 12) (ls' := [.ref 71]) (st' := [.int 0]) rfl ?_
        refine wp_retz rfl (Or.inl rfl) ?_
        show am_wp L xs _ _ _ _ 31 [.ref 0, .int 3, .int 0, am_du] [.int 0] (am_S b) h _
        refine wp_if_t rfl (show (0 : Int32) = 0 from by decide) ?_
        refine wp_run 1 (pc' := 41) (ls' := [.ref 0, .int 3, .int 0, am_du]) (st' := [.ref 0]) rfl ?_
        refine wp_getr 49 rfl rfl rfl ?_
        refine wp_run 1 (pc' := 45) (ls' := [.ref 0, .int 3, .int 0, am_du]) (st' := [.ref 0, .ref 49]) rfl ?_
        refine wp_getr 1 rfl rfl rfl ?_
        refine wp_run 1 (pc' := 49) (ls' := [.ref 0, .int 3, .int 0, am_du]) (st' := [.ref 0, .ref 1, .ref 49]) rfl ?_
        refine wp_getr 47 rfl rfl rfl ?_
        refine wp_run 1 (pc' := 53) (ls' := [.ref 0, .int 3, .int 0, am_du]) (st' := [.ref 0, .ref 47, .ref 1, .ref 49]) rfl ?_
        refine wp_getr 64 rfl rfl rfl ?_
        refine wp_run 1 (pc' := 57) (ls' := [.ref 0, .int 3, .int 0, am_du]) (st' := [.int 3, .ref 64, .ref 47, .ref 1, .ref 49]) rfl ?_
        refine wp_aald (r := 71) rfl rfl (Or.inr rfl) rfl (by decide) rfl rfl ?_
        refine wp_callV (o := 49) (as := [.ref 1, .ref 47, .ref 71]) (rest := []) (els := [.ref 49, .ref 1, .ref 47, .ref 71, am_du, am_du]) rfl rfl rfl rfl rfl rfl rfl rfl (by omega) ?_
        refine sp_fit3 HS ho2 hl24 (by omega) (fun gz1 => ?_)
        show am_wp L xs _ _ _ _ 61 [.ref 0, .int 3, .int 0, am_du] [.int (nI (ab_fs (fun i => ab_ft (h 72) l n (ab_got (fun j g => hs_lk h s0 p0 j g) c n i)) n))] (am_S b) (am_ov h [17, 18, 47, 48, 53] gz1) _
        refine wp_run 2 (pc' := 63) (ls' := [.ref 0, .int 3, .int 0, .int (nI (ab_fs (fun i => ab_ft (h 72) l n (ab_got (fun j g => hs_lk h s0 p0 j g) c n i)) n))]) (st' := [.int 0]) rfl ?_
        refine wp_if_f rfl (show ¬ (¬ (0 : Int32) = 0) from by decide) ?_
        refine wp_run 1 (pc' := 67) (ls' := [.ref 0, .int 3, .int 0, .int (nI (ab_fs (fun i => ab_ft (h 72) l n (ab_got (fun j g => hs_lk h s0 p0 j g) c n i)) n))]) (st' := [.int (nI (ab_fs (fun i => ab_ft (h 72) l n (ab_got (fun j g => hs_lk h s0 p0 j g) c n i)) n))]) rfl ?_
        refine wp_ret rfl ?_
        refine kk _ _ _ (fun ms2 Q2 kk2 => ?_)
        refine wp_run 1 (pc' := 1) (ls' := [.ref 74, .int 3, .int 0, am_du, am_du, am_du, am_du]) (st' := [.int 3]) rfl ?_
        refine wp_callS (as := [.int 3]) (rest := []) (els := [.int 3]) rfl rfl rfl rfl rfl rfl rfl rfl (by omega) ?_
        refine sp_m_isSheet (by omega) (fun _ _ _ => ?_) (fun q => absurd rfl (q 3 (by omega)))
        show am_wp L xs _ _ _ _ 4 [.ref 74, .int 3, .int 0, am_du, am_du, am_du, am_du] [.int 1] (am_S b) (am_ov h [17, 18, 47, 48, 53] gz1) _
        refine wp_if_f rfl (show ¬ ((1 : Int32) = 0) from by decide) ?_
        refine wp_run 3 (pc' := 10) (ls' := [.ref 74, .int 3, .int 0, am_du, am_du, am_du, am_du]) (st' := [.int 1, .int 0, .int 0]) rfl ?_
        refine wp_callS (as := [.int 0, .int 0, .int 1]) (rest := []) (els := [.int 0, .int 0, .int 1]) rfl rfl rfl rfl rfl rfl rfl rfl (by omega) ?_
        refine sp_m_in0 (m := 1) rfl rfl (fun _ _ _ => ?_) (fun q => absurd rfl (q 0 (by omega)))
        show am_wp L xs _ _ _ _ 13 [.ref 74, .int 3, .int 0, am_du, am_du, am_du, am_du] [.int 1] (am_S b) (am_ov h [17, 18, 47, 48, 53] gz1) _
        refine wp_if_t rfl (show ¬ (1 : Int32) = 0 from by decide) ?_
        refine wp_run 1 (pc' := 24) (ls' := [.ref 74, .int 3, .int 0, am_du, am_du, am_du, am_du]) (st' := [.ref 74]) rfl ?_
        refine wp_getr 78 rfl rfl rfl ?_
        refine wp_run 1 (pc' := 28) (ls' := [.ref 74, .int 3, .int 0, am_du, am_du, am_du, am_du]) (st' := [.int 3, .ref 78]) rfl ?_
        refine wp_ald (i := 3) (h 78 3) rfl rfl rfl rfl (by decide) rfl ?_
        refine wp_if_t rfl (show ¬ (h 78 3) = 0 from eb) ?_
        refine wp_run 1 (pc' := 40) (ls' := [.ref 74, .int 3, .int 0, am_du, am_du, am_du, am_du]) (st' := [.ref 74]) rfl ?_
        refine wp_callV (o := 74) (as := []) (rest := []) (els := [.ref 74, am_du, am_du]) rfl rfl rfl rfl rfl rfl rfl rfl (by omega) ?_
        refine sp_findWorths (h := (am_ov h [17, 18, 47, 48, 53] gz1)) (n := n) (c := c) (t := t) (s0 := s0) (s1 := s1) (p0 := p0) (p1 := p1) HM (by omega) (fun gz2 f86 f87 => ?_)
        show am_wp L xs _ _ _ _ 43 [.ref 74, .int 3, .int 0, am_du, am_du, am_du, am_du] [] (am_S b) (am_ov (am_ov h [17, 18, 47, 48, 53] gz1) [83, 84, 86, 87] gz2) _
        refine wp_run 5 (pc' := 49) (ls' := [.ref 74, .int 3, .int 0, .int 0, .int (-1), am_du, am_du]) (st' := [.ref 74]) rfl ?_
        refine wp_getr 75 rfl rfl rfl ?_
        refine wp_run 1 (pc' := 53) (ls' := [.ref 74, .int 3, .int 0, .int 0, .int (-1), am_du, am_du]) (st' := [.int 2, .ref 75]) rfl ?_
        refine wp_ald (i := 2) (nI n) hm2 rfl rfl rfl (by decide) rfl ?_
        refine wp_run 3 (pc' := 58) (ls' := [.ref 74, .int 3, .int 0, .int 0, .int (-1), .int ((nI n) - 1), am_du]) (st' := []) rfl ?_
        have hp := fun kq => lp_m_fits (L := L) (xs := xs) (d := d) (ms := ms2) (b := b) (h := h) (Q := Q2) (X := (am_ov (am_ov h [17, 18, 47, 48, 53] gz1) [83, 84, 86, 87] gz2)) (s := 3) (l := l) (n := n) (c := c) (LK := (fun j g => hs_lk h s0 p0 j g)) (p2 := 0) (by omega) hl24 hz2 hm2 hn7 hm3 hc7 (fun g hg j hj => (f87 g hg j hj).trans (re_lk H hj hg)) (by omega) kq n 0 (-1) am_du ((am_ov (am_ov h [17, 18, 47, 48, 53] gz1) [83, 84, 86, 87] gz2) 88) (Nat.le_refl _) ⟨by decide, fun k hk => by simp; omega, Or.inl ⟨rfl, fun k k1 k2 => by omega⟩⟩
        rw [← am_ur_self] at hp
        refine hp (fun r9 W9 v9 u9 hfs0 => ?_)
        have hfs : ms_fs (fun i => ab_ft (h 72) l n (ab_got (fun j g => hs_lk h s0 p0 j g) c n i)) n 0 W9 v9 := by
          have ef : (fun i => ab_ft (fun k => (am_ov (am_ov h [17, 18, 47, 48, 53] gz1) [83, 84, 86, 87] gz2) 80 (24 * 3 + k)) l n (ab_got (fun j g => hs_lk h s0 p0 j g) c n i)) = (fun i => ab_ft (h 72) l n (ab_got (fun j g => hs_lk h s0 p0 j g) c n i)) := funext fun i => ab_ft_c (fun q hq => (hri q (by omega)).symm) (fun g hg => rfl)
          rw [← ef]
          exact hfs0
        have eW := ms_fs_set hfs hn7
        rw [eW]
        refine wp_run 1 (pc' := 113) (ls' := [.ref 74, .int 3, .int 0, .int (nI (ab_fs (fun i => ab_ft (h 72) l n (ab_got (fun j g => hs_lk h s0 p0 j g) c n i)) n)), .int v9, .int (-1), u9]) (st' := [.int 0]) rfl ?_
        refine wp_if_f rfl (show ¬ (¬ (0 : Int32) = 0) from by decide) ?_
        refine wp_run 2 (pc' := 136) (ls' := [.ref 74, .int 3, .int 0, .int (nI (ab_fs (fun i => ab_ft (h 72) l n (ab_got (fun j g => hs_lk h s0 p0 j g) c n i)) n)), .int v9, .int (-1), u9]) (st' := [.int (nI (ab_fs (fun i => ab_ft (h 72) l n (ab_got (fun j g => hs_lk h s0 p0 j g) c n i)) n))]) rfl ?_
        refine wp_ret rfl ?_
        exact kk2 _ _ (re_keep hR (am_ov2 (l3 := []) (k := 0) rfl rfl rfl) ⟨n, c, t, tp, wt, s0, s1, p0, p1, H⟩)
    · skip
      intro ex2
      subst ex2
      show am_wp L xs _ _ _ _ 13 [.ref 0, .int 3, .int 1, am_du] [.int 1] (am_S b) h _
      refine wp_if_t rfl (show ¬ (1 : Int32) = 0 from by decide) ?_
      obtain ⟨l, hl24, ho2, hz2, hob, hbb, hri⟩ := id hS3
      rcases (show h 78 3 = 0 ∨ ¬ h 78 3 = 0 from Classical.em _) with eb | eb
      · skip
        refine wp_run 1 (pc' := 23) (ls' := [.ref 0, .int 3, .int 1, am_du]) (st' := [.ref 0]) rfl ?_
        refine wp_getr 64 rfl rfl rfl ?_
        refine wp_run 1 (pc' := 27) (ls' := [.ref 0, .int 3, .int 1, am_du]) (st' := [.int 3, .ref 64]) rfl ?_
        refine wp_aald (r := 71) rfl rfl (Or.inr rfl) rfl (by decide) rfl rfl ?_
        refine wp_callV (o := 71) (as := []) (rest := []) (els := [.ref 71]) rfl rfl rfl rfl rfl rfl rfl rfl (by omega) ?_
        refine wp_run 1 (pc' := 1) (ls' := [.ref 71]) (st' := [.ref 71]) rfl ?_
        refine wp_geti (a := 1) 0 (hob.trans eb) rfl rfl rfl ?_
        refine wp_if_f rfl (show ¬ (¬ (0 : Int32) = 0) from by decide) ?_
        refine wp_run 2 (pc' := 12) (ls' := [.ref 71]) (st' := [.int 1]) rfl ?_
        refine wp_retz rfl (Or.inr rfl) ?_
        show am_wp L xs _ _ _ _ 31 [.ref 0, .int 3, .int 1, am_du] [.int 1] (am_S b) h _
        refine wp_if_f rfl (show ¬ ((1 : Int32) = 0) from by decide) ?_
        refine wp_run 2 (pc' := 36) (ls' := [.ref 0, .int 3, .int 1, am_du]) (st' := [.int 2, .ref 0]) rfl ?_
        refine wp_callV (o := 0) (as := [.int 2]) (rest := []) (els := [.ref 0, .int 2]) rfl rfl rfl rfl rfl rfl rfl rfl (by omega) ?_
        refine sp_refuse2 (by omega) ?_
        show am_wp L xs _ _ _ _ 39 [.ref 0, .int 3, .int 1, am_du] [.int (-1000000002)] (am_S b) (am_u h 73 2 (h 73 2 + 1)) _
        refine wp_ret rfl ?_
        refine kk _ _ _ (fun ms2 Q2 kk2 => ?_)
        refine wp_run 1 (pc' := 1) (ls' := [.ref 74, .int 3, .int 1, am_du, am_du, am_du, am_du]) (st' := [.int 3]) rfl ?_
        refine wp_callS (as := [.int 3]) (rest := []) (els := [.int 3]) rfl rfl rfl rfl rfl rfl rfl rfl (by omega) ?_
        refine sp_m_isSheet (by omega) (fun _ _ _ => ?_) (fun q => absurd rfl (q 3 (by omega)))
        show am_wp L xs _ _ _ _ 4 [.ref 74, .int 3, .int 1, am_du, am_du, am_du, am_du] [.int 1] (am_S b) (am_u h 73 2 (h 73 2 + 1)) _
        refine wp_if_f rfl (show ¬ ((1 : Int32) = 0) from by decide) ?_
        refine wp_run 3 (pc' := 10) (ls' := [.ref 74, .int 3, .int 1, am_du, am_du, am_du, am_du]) (st' := [.int 1, .int 0, .int 1]) rfl ?_
        refine wp_callS (as := [.int 1, .int 0, .int 1]) (rest := []) (els := [.int 1, .int 0, .int 1]) rfl rfl rfl rfl rfl rfl rfl rfl (by omega) ?_
        refine sp_m_in0 (m := 1) rfl rfl (fun _ _ _ => ?_) (fun q => absurd rfl (q 1 (by omega)))
        show am_wp L xs _ _ _ _ 13 [.ref 74, .int 3, .int 1, am_du, am_du, am_du, am_du] [.int 1] (am_S b) (am_u h 73 2 (h 73 2 + 1)) _
        refine wp_if_t rfl (show ¬ (1 : Int32) = 0 from by decide) ?_
        refine wp_run 1 (pc' := 24) (ls' := [.ref 74, .int 3, .int 1, am_du, am_du, am_du, am_du]) (st' := [.ref 74]) rfl ?_
        refine wp_getr 78 rfl rfl rfl ?_
        refine wp_run 1 (pc' := 28) (ls' := [.ref 74, .int 3, .int 1, am_du, am_du, am_du, am_du]) (st' := [.int 3, .ref 78]) rfl ?_
        refine wp_ald (i := 3) 0 eb rfl rfl rfl (by decide) rfl ?_
        refine wp_if_f rfl (show ¬ (¬ (0 : Int32) = 0) from by decide) ?_
        refine wp_run 2 (pc' := 35) (ls' := [.ref 74, .int 3, .int 1, am_du, am_du, am_du, am_du]) (st' := [.int (-1000000002), .ref 74]) rfl ?_
        refine wp_callV (o := 74) (as := [.int (-1000000002)]) (rest := []) (els := [.ref 74, .int (-1000000002)]) rfl rfl rfl rfl rfl rfl rfl rfl (by omega) ?_
        refine sp_error2 ?_
        show am_wp L xs _ _ _ _ 38 [.ref 74, .int 3, .int 1, am_du, am_du, am_du, am_du] [.int (-1000000002)] (am_S b) (am_u (am_u h 73 2 (h 73 2 + 1)) 77 2 ((am_u h 73 2 (h 73 2 + 1)) 77 2 + 1)) _
        refine wp_ret rfl ?_
        exact kk2 _ _ (re_err2 hR)
      · skip
        have hsl := ab_fs_lt (fun i => ab_ft (h 72) l n (ab_got (fun j g => hs_lk h s0 p0 j g) c n i)) n hn7
        refine wp_run 1 (pc' := 23) (ls' := [.ref 0, .int 3, .int 1, am_du]) (st' := [.ref 0]) rfl ?_
        refine wp_getr 64 rfl rfl rfl ?_
        refine wp_run 1 (pc' := 27) (ls' := [.ref 0, .int 3, .int 1, am_du]) (st' := [.int 3, .ref 64]) rfl ?_
        refine wp_aald (r := 71) rfl rfl (Or.inr rfl) rfl (by decide) rfl rfl ?_
        refine wp_callV (o := 71) (as := []) (rest := []) (els := [.ref 71]) rfl rfl rfl rfl rfl rfl rfl rfl (by omega) ?_
        refine wp_run 1 (pc' := 1) (ls' := [.ref 71]) (st' := [.ref 71]) rfl ?_
        refine wp_geti (a := 1) (h 78 3) hob rfl rfl rfl ?_
        refine wp_if_t rfl (show ¬ (h 78 3) = 0 from eb) ?_
        refine wp_run 1 (pc' := 12) (ls' := [.ref 71]) (st' := [.int 0]) rfl ?_
        refine wp_retz rfl (Or.inl rfl) ?_
        show am_wp L xs _ _ _ _ 31 [.ref 0, .int 3, .int 1, am_du] [.int 0] (am_S b) h _
        refine wp_if_t rfl (show (0 : Int32) = 0 from by decide) ?_
        refine wp_run 1 (pc' := 41) (ls' := [.ref 0, .int 3, .int 1, am_du]) (st' := [.ref 0]) rfl ?_
        refine wp_getr 49 rfl rfl rfl ?_
        refine wp_run 1 (pc' := 45) (ls' := [.ref 0, .int 3, .int 1, am_du]) (st' := [.ref 0, .ref 49]) rfl ?_
        refine wp_getr 1 rfl rfl rfl ?_
        refine wp_run 1 (pc' := 49) (ls' := [.ref 0, .int 3, .int 1, am_du]) (st' := [.ref 0, .ref 1, .ref 49]) rfl ?_
        refine wp_getr 47 rfl rfl rfl ?_
        refine wp_run 1 (pc' := 53) (ls' := [.ref 0, .int 3, .int 1, am_du]) (st' := [.ref 0, .ref 47, .ref 1, .ref 49]) rfl ?_
        refine wp_getr 64 rfl rfl rfl ?_
        refine wp_run 1 (pc' := 57) (ls' := [.ref 0, .int 3, .int 1, am_du]) (st' := [.int 3, .ref 64, .ref 47, .ref 1, .ref 49]) rfl ?_
        refine wp_aald (r := 71) rfl rfl (Or.inr rfl) rfl (by decide) rfl rfl ?_
        refine wp_callV (o := 49) (as := [.ref 1, .ref 47, .ref 71]) (rest := []) (els := [.ref 49, .ref 1, .ref 47, .ref 71, am_du, am_du]) rfl rfl rfl rfl rfl rfl rfl rfl (by omega) ?_
        refine sp_fit3 HS ho2 hl24 (by omega) (fun gz1 => ?_)
        show am_wp L xs _ _ _ _ 61 [.ref 0, .int 3, .int 1, am_du] [.int (nI (ab_fs (fun i => ab_ft (h 72) l n (ab_got (fun j g => hs_lk h s0 p0 j g) c n i)) n))] (am_S b) (am_ov h [17, 18, 47, 48, 53] gz1) _
        refine wp_run 2 (pc' := 63) (ls' := [.ref 0, .int 3, .int 1, .int (nI (ab_fs (fun i => ab_ft (h 72) l n (ab_got (fun j g => hs_lk h s0 p0 j g) c n i)) n))]) (st' := [.int 1]) rfl ?_
        refine wp_if_t rfl (show ¬ (1 : Int32) = 0 from by decide) ?_
        refine wp_run 1 (pc' := 69) (ls' := [.ref 0, .int 3, .int 1, .int (nI (ab_fs (fun i => ab_ft (h 72) l n (ab_got (fun j g => hs_lk h s0 p0 j g) c n i)) n))]) (st' := [.int (nI (ab_fs (fun i => ab_ft (h 72) l n (ab_got (fun j g => hs_lk h s0 p0 j g) c n i)) n))]) rfl ?_
        refine wp_if rfl (fun (cq69 : ¬ (nI (ab_fs (fun i => ab_ft (h 72) l n (ab_got (fun j g => hs_lk h s0 p0 j g) c n i)) n)) = 0) => ?_) (fun (cq69 : ¬ (¬ (nI (ab_fs (fun i => ab_ft (h 72) l n (ab_got (fun j g => hs_lk h s0 p0 j g) c n i)) n)) = 0)) => ?_)
        · skip
          have cq69n : ¬ ((ab_fs (fun i => ab_ft (h 72) l n (ab_got (fun j g => hs_lk h s0 p0 j g) c n i)) n) = 0) := fun q => cq69 ((nI_eq (a := (ab_fs (fun i => ab_ft (h 72) l n (ab_got (fun j g => hs_lk h s0 p0 j g) c n i)) n)) (b := 0) (by omega) (by omega)).mpr q)
          refine wp_run 1 (pc' := 81) (ls' := [.ref 0, .int 3, .int 1, .int (nI (ab_fs (fun i => ab_ft (h 72) l n (ab_got (fun j g => hs_lk h s0 p0 j g) c n i)) n))]) (st' := [.int (nI (ab_fs (fun i => ab_ft (h 72) l n (ab_got (fun j g => hs_lk h s0 p0 j g) c n i)) n))]) rfl ?_
          refine wp_callS (as := [.int (nI (ab_fs (fun i => ab_ft (h 72) l n (ab_got (fun j g => hs_lk h s0 p0 j g) c n i)) n))]) (rest := []) (els := [.int (nI (ab_fs (fun i => ab_ft (h 72) l n (ab_got (fun j g => hs_lk h s0 p0 j g) c n i)) n)), am_du]) rfl rfl rfl rfl rfl rfl rfl rfl (by omega) ?_
          refine sp_ntz hsl (by omega) (fun t1 ht1 hb1 hb2 => ?_)
          show am_wp L xs _ _ _ _ 84 [.ref 0, .int 3, .int 1, .int (nI (ab_fs (fun i => ab_ft (h 72) l n (ab_got (fun j g => hs_lk h s0 p0 j g) c n i)) n))] [.int (nI t1)] (am_S b) (am_ov h [17, 18, 47, 48, 53] gz1) _
          refine wp_ret rfl ?_
          refine kk _ _ _ (fun ms2 Q2 kk2 => ?_)
          refine wp_run 1 (pc' := 1) (ls' := [.ref 74, .int 3, .int 1, am_du, am_du, am_du, am_du]) (st' := [.int 3]) rfl ?_
          refine wp_callS (as := [.int 3]) (rest := []) (els := [.int 3]) rfl rfl rfl rfl rfl rfl rfl rfl (by omega) ?_
          refine sp_m_isSheet (by omega) (fun _ _ _ => ?_) (fun q => absurd rfl (q 3 (by omega)))
          show am_wp L xs _ _ _ _ 4 [.ref 74, .int 3, .int 1, am_du, am_du, am_du, am_du] [.int 1] (am_S b) (am_ov h [17, 18, 47, 48, 53] gz1) _
          refine wp_if_f rfl (show ¬ ((1 : Int32) = 0) from by decide) ?_
          refine wp_run 3 (pc' := 10) (ls' := [.ref 74, .int 3, .int 1, am_du, am_du, am_du, am_du]) (st' := [.int 1, .int 0, .int 1]) rfl ?_
          refine wp_callS (as := [.int 1, .int 0, .int 1]) (rest := []) (els := [.int 1, .int 0, .int 1]) rfl rfl rfl rfl rfl rfl rfl rfl (by omega) ?_
          refine sp_m_in0 (m := 1) rfl rfl (fun _ _ _ => ?_) (fun q => absurd rfl (q 1 (by omega)))
          show am_wp L xs _ _ _ _ 13 [.ref 74, .int 3, .int 1, am_du, am_du, am_du, am_du] [.int 1] (am_S b) (am_ov h [17, 18, 47, 48, 53] gz1) _
          refine wp_if_t rfl (show ¬ (1 : Int32) = 0 from by decide) ?_
          refine wp_run 1 (pc' := 24) (ls' := [.ref 74, .int 3, .int 1, am_du, am_du, am_du, am_du]) (st' := [.ref 74]) rfl ?_
          refine wp_getr 78 rfl rfl rfl ?_
          refine wp_run 1 (pc' := 28) (ls' := [.ref 74, .int 3, .int 1, am_du, am_du, am_du, am_du]) (st' := [.int 3, .ref 78]) rfl ?_
          refine wp_ald (i := 3) (h 78 3) rfl rfl rfl rfl (by decide) rfl ?_
          refine wp_if_t rfl (show ¬ (h 78 3) = 0 from eb) ?_
          refine wp_run 1 (pc' := 40) (ls' := [.ref 74, .int 3, .int 1, am_du, am_du, am_du, am_du]) (st' := [.ref 74]) rfl ?_
          refine wp_callV (o := 74) (as := []) (rest := []) (els := [.ref 74, am_du, am_du]) rfl rfl rfl rfl rfl rfl rfl rfl (by omega) ?_
          refine sp_findWorths (h := (am_ov h [17, 18, 47, 48, 53] gz1)) (n := n) (c := c) (t := t) (s0 := s0) (s1 := s1) (p0 := p0) (p1 := p1) HM (by omega) (fun gz2 f86 f87 => ?_)
          show am_wp L xs _ _ _ _ 43 [.ref 74, .int 3, .int 1, am_du, am_du, am_du, am_du] [] (am_S b) (am_ov (am_ov h [17, 18, 47, 48, 53] gz1) [83, 84, 86, 87] gz2) _
          refine wp_run 5 (pc' := 49) (ls' := [.ref 74, .int 3, .int 1, .int 0, .int (-1), am_du, am_du]) (st' := [.ref 74]) rfl ?_
          refine wp_getr 75 rfl rfl rfl ?_
          refine wp_run 1 (pc' := 53) (ls' := [.ref 74, .int 3, .int 1, .int 0, .int (-1), am_du, am_du]) (st' := [.int 2, .ref 75]) rfl ?_
          refine wp_ald (i := 2) (nI n) hm2 rfl rfl rfl (by decide) rfl ?_
          refine wp_run 3 (pc' := 58) (ls' := [.ref 74, .int 3, .int 1, .int 0, .int (-1), .int ((nI n) - 1), am_du]) (st' := []) rfl ?_
          have hp := fun kq => lp_m_fits (L := L) (xs := xs) (d := d) (ms := ms2) (b := b) (h := h) (Q := Q2) (X := (am_ov (am_ov h [17, 18, 47, 48, 53] gz1) [83, 84, 86, 87] gz2)) (s := 3) (l := l) (n := n) (c := c) (LK := (fun j g => hs_lk h s0 p0 j g)) (p2 := 1) (by omega) hl24 hz2 hm2 hn7 hm3 hc7 (fun g hg j hj => (f87 g hg j hj).trans (re_lk H hj hg)) (by omega) kq n 0 (-1) am_du ((am_ov (am_ov h [17, 18, 47, 48, 53] gz1) [83, 84, 86, 87] gz2) 88) (Nat.le_refl _) ⟨by decide, fun k hk => by simp; omega, Or.inl ⟨rfl, fun k k1 k2 => by omega⟩⟩
          rw [← am_ur_self] at hp
          refine hp (fun r9 W9 v9 u9 hfs0 => ?_)
          have hfs : ms_fs (fun i => ab_ft (h 72) l n (ab_got (fun j g => hs_lk h s0 p0 j g) c n i)) n 0 W9 v9 := by
            have ef : (fun i => ab_ft (fun k => (am_ov (am_ov h [17, 18, 47, 48, 53] gz1) [83, 84, 86, 87] gz2) 80 (24 * 3 + k)) l n (ab_got (fun j g => hs_lk h s0 p0 j g) c n i)) = (fun i => ab_ft (h 72) l n (ab_got (fun j g => hs_lk h s0 p0 j g) c n i)) := funext fun i => ab_ft_c (fun q hq => (hri q (by omega)).symm) (fun g hg => rfl)
            rw [← ef]
            exact hfs0
          have eW := ms_fs_set hfs hn7
          rw [eW]
          have ev9 := ms_fs_1 hfs hn7 ht1 hb1 hb2
          subst ev9
          refine wp_run 1 (pc' := 113) (ls' := [.ref 74, .int 3, .int 1, .int (nI (ab_fs (fun i => ab_ft (h 72) l n (ab_got (fun j g => hs_lk h s0 p0 j g) c n i)) n)), .int (nI t1), .int (-1), u9]) (st' := [.int 1]) rfl ?_
          refine wp_if_t rfl (show ¬ (1 : Int32) = 0 from by decide) ?_
          refine wp_run 1 (pc' := 122) (ls' := [.ref 74, .int 3, .int 1, .int (nI (ab_fs (fun i => ab_ft (h 72) l n (ab_got (fun j g => hs_lk h s0 p0 j g) c n i)) n)), .int (nI t1), .int (-1), u9]) (st' := [.int (nI t1)]) rfl ?_
          refine wp_if_t rfl (show 0 ≤ (nI t1) from (nI_leI (a := 0) (b := t1) (by omega) (by omega)).mpr (by omega)) ?_
          refine wp_run 1 (pc' := 136) (ls' := [.ref 74, .int 3, .int 1, .int (nI (ab_fs (fun i => ab_ft (h 72) l n (ab_got (fun j g => hs_lk h s0 p0 j g) c n i)) n)), .int (nI t1), .int (-1), u9]) (st' := [.int (nI t1)]) rfl ?_
          refine wp_ret rfl ?_
          exact kk2 _ _ (re_keep hR (am_ov2 (l3 := []) (k := 0) rfl rfl rfl) ⟨n, c, t, tp, wt, s0, s1, p0, p1, H⟩)
        · skip
          replace cq69 := Decidable.not_not.mp cq69
          have cq69n : (ab_fs (fun i => ab_ft (h 72) l n (ab_got (fun j g => hs_lk h s0 p0 j g) c n i)) n) = 0 := (nI_eq (a := (ab_fs (fun i => ab_ft (h 72) l n (ab_got (fun j g => hs_lk h s0 p0 j g) c n i)) n)) (b := 0) (by omega) (by omega)).mp cq69
          refine wp_run 2 (pc' := 74) (ls' := [.ref 0, .int 3, .int 1, .int (nI (ab_fs (fun i => ab_ft (h 72) l n (ab_got (fun j g => hs_lk h s0 p0 j g) c n i)) n))]) (st' := [.int 2, .ref 0]) rfl ?_
          refine wp_callV (o := 0) (as := [.int 2]) (rest := []) (els := [.ref 0, .int 2]) rfl rfl rfl rfl rfl rfl rfl rfl (by omega) ?_
          refine sp_refuse2 (by omega) ?_
          show am_wp L xs _ _ _ _ 77 [.ref 0, .int 3, .int 1, .int (nI (ab_fs (fun i => ab_ft (h 72) l n (ab_got (fun j g => hs_lk h s0 p0 j g) c n i)) n))] [.int (-1000000002)] (am_S b) (am_u (am_ov h [17, 18, 47, 48, 53] gz1) 73 2 ((am_ov h [17, 18, 47, 48, 53] gz1) 73 2 + 1)) _
          refine wp_run 1 (pc' := 84) (ls' := [.ref 0, .int 3, .int 1, .int (nI (ab_fs (fun i => ab_ft (h 72) l n (ab_got (fun j g => hs_lk h s0 p0 j g) c n i)) n))]) (st' := [.int (-1000000002)]) rfl ?_
          refine wp_ret rfl ?_
          refine kk _ _ _ (fun ms2 Q2 kk2 => ?_)
          refine wp_run 1 (pc' := 1) (ls' := [.ref 74, .int 3, .int 1, am_du, am_du, am_du, am_du]) (st' := [.int 3]) rfl ?_
          refine wp_callS (as := [.int 3]) (rest := []) (els := [.int 3]) rfl rfl rfl rfl rfl rfl rfl rfl (by omega) ?_
          refine sp_m_isSheet (by omega) (fun _ _ _ => ?_) (fun q => absurd rfl (q 3 (by omega)))
          show am_wp L xs _ _ _ _ 4 [.ref 74, .int 3, .int 1, am_du, am_du, am_du, am_du] [.int 1] (am_S b) (am_u (am_ov h [17, 18, 47, 48, 53] gz1) 73 2 ((am_ov h [17, 18, 47, 48, 53] gz1) 73 2 + 1)) _
          refine wp_if_f rfl (show ¬ ((1 : Int32) = 0) from by decide) ?_
          refine wp_run 3 (pc' := 10) (ls' := [.ref 74, .int 3, .int 1, am_du, am_du, am_du, am_du]) (st' := [.int 1, .int 0, .int 1]) rfl ?_
          refine wp_callS (as := [.int 1, .int 0, .int 1]) (rest := []) (els := [.int 1, .int 0, .int 1]) rfl rfl rfl rfl rfl rfl rfl rfl (by omega) ?_
          refine sp_m_in0 (m := 1) rfl rfl (fun _ _ _ => ?_) (fun q => absurd rfl (q 1 (by omega)))
          show am_wp L xs _ _ _ _ 13 [.ref 74, .int 3, .int 1, am_du, am_du, am_du, am_du] [.int 1] (am_S b) (am_u (am_ov h [17, 18, 47, 48, 53] gz1) 73 2 ((am_ov h [17, 18, 47, 48, 53] gz1) 73 2 + 1)) _
          refine wp_if_t rfl (show ¬ (1 : Int32) = 0 from by decide) ?_
          refine wp_run 1 (pc' := 24) (ls' := [.ref 74, .int 3, .int 1, am_du, am_du, am_du, am_du]) (st' := [.ref 74]) rfl ?_
          refine wp_getr 78 rfl rfl rfl ?_
          refine wp_run 1 (pc' := 28) (ls' := [.ref 74, .int 3, .int 1, am_du, am_du, am_du, am_du]) (st' := [.int 3, .ref 78]) rfl ?_
          refine wp_ald (i := 3) (h 78 3) rfl rfl rfl rfl (by decide) rfl ?_
          refine wp_if_t rfl (show ¬ (h 78 3) = 0 from eb) ?_
          refine wp_run 1 (pc' := 40) (ls' := [.ref 74, .int 3, .int 1, am_du, am_du, am_du, am_du]) (st' := [.ref 74]) rfl ?_
          refine wp_callV (o := 74) (as := []) (rest := []) (els := [.ref 74, am_du, am_du]) rfl rfl rfl rfl rfl rfl rfl rfl (by omega) ?_
          refine sp_findWorths (h := (am_u (am_ov h [17, 18, 47, 48, 53] gz1) 73 2 ((am_ov h [17, 18, 47, 48, 53] gz1) 73 2 + 1))) (n := n) (c := c) (t := t) (s0 := s0) (s1 := s1) (p0 := p0) (p1 := p1) HM (by omega) (fun gz2 f86 f87 => ?_)
          show am_wp L xs _ _ _ _ 43 [.ref 74, .int 3, .int 1, am_du, am_du, am_du, am_du] [] (am_S b) (am_ov (am_u (am_ov h [17, 18, 47, 48, 53] gz1) 73 2 ((am_ov h [17, 18, 47, 48, 53] gz1) 73 2 + 1)) [83, 84, 86, 87] gz2) _
          refine wp_run 5 (pc' := 49) (ls' := [.ref 74, .int 3, .int 1, .int 0, .int (-1), am_du, am_du]) (st' := [.ref 74]) rfl ?_
          refine wp_getr 75 rfl rfl rfl ?_
          refine wp_run 1 (pc' := 53) (ls' := [.ref 74, .int 3, .int 1, .int 0, .int (-1), am_du, am_du]) (st' := [.int 2, .ref 75]) rfl ?_
          refine wp_ald (i := 2) (nI n) hm2 rfl rfl rfl (by decide) rfl ?_
          refine wp_run 3 (pc' := 58) (ls' := [.ref 74, .int 3, .int 1, .int 0, .int (-1), .int ((nI n) - 1), am_du]) (st' := []) rfl ?_
          have hp := fun kq => lp_m_fits (L := L) (xs := xs) (d := d) (ms := ms2) (b := b) (h := h) (Q := Q2) (X := (am_ov (am_u (am_ov h [17, 18, 47, 48, 53] gz1) 73 2 ((am_ov h [17, 18, 47, 48, 53] gz1) 73 2 + 1)) [83, 84, 86, 87] gz2)) (s := 3) (l := l) (n := n) (c := c) (LK := (fun j g => hs_lk h s0 p0 j g)) (p2 := 1) (by omega) hl24 hz2 hm2 hn7 hm3 hc7 (fun g hg j hj => (f87 g hg j hj).trans (re_lk H hj hg)) (by omega) kq n 0 (-1) am_du ((am_ov (am_u (am_ov h [17, 18, 47, 48, 53] gz1) 73 2 ((am_ov h [17, 18, 47, 48, 53] gz1) 73 2 + 1)) [83, 84, 86, 87] gz2) 88) (Nat.le_refl _) ⟨by decide, fun k hk => by simp; omega, Or.inl ⟨rfl, fun k k1 k2 => by omega⟩⟩
          rw [← am_ur_self] at hp
          refine hp (fun r9 W9 v9 u9 hfs0 => ?_)
          have hfs : ms_fs (fun i => ab_ft (h 72) l n (ab_got (fun j g => hs_lk h s0 p0 j g) c n i)) n 0 W9 v9 := by
            have ef : (fun i => ab_ft (fun k => (am_ov (am_u (am_ov h [17, 18, 47, 48, 53] gz1) 73 2 ((am_ov h [17, 18, 47, 48, 53] gz1) 73 2 + 1)) [83, 84, 86, 87] gz2) 80 (24 * 3 + k)) l n (ab_got (fun j g => hs_lk h s0 p0 j g) c n i)) = (fun i => ab_ft (h 72) l n (ab_got (fun j g => hs_lk h s0 p0 j g) c n i)) := funext fun i => ab_ft_c (fun q hq => (hri q (by omega)).symm) (fun g hg => rfl)
            rw [← ef]
            exact hfs0
          have eW := ms_fs_set hfs hn7
          rw [eW]
          have ev9 := ms_fs_0 hfs hn7 (by omega)
          subst ev9
          refine wp_run 1 (pc' := 113) (ls' := [.ref 74, .int 3, .int 1, .int (nI (ab_fs (fun i => ab_ft (h 72) l n (ab_got (fun j g => hs_lk h s0 p0 j g) c n i)) n)), .int (-1), .int (-1), u9]) (st' := [.int 1]) rfl ?_
          refine wp_if_t rfl (show ¬ (1 : Int32) = 0 from by decide) ?_
          refine wp_run 1 (pc' := 122) (ls' := [.ref 74, .int 3, .int 1, .int (nI (ab_fs (fun i => ab_ft (h 72) l n (ab_got (fun j g => hs_lk h s0 p0 j g) c n i)) n)), .int (-1), .int (-1), u9]) (st' := [.int (-1)]) rfl ?_
          refine wp_if_f rfl (show ¬ (0 ≤ ((-1) : Int32)) from by decide) ?_
          refine wp_run 2 (pc' := 128) (ls' := [.ref 74, .int 3, .int 1, .int (nI (ab_fs (fun i => ab_ft (h 72) l n (ab_got (fun j g => hs_lk h s0 p0 j g) c n i)) n)), .int (-1), .int (-1), u9]) (st' := [.int (-1000000002), .ref 74]) rfl ?_
          refine wp_callV (o := 74) (as := [.int (-1000000002)]) (rest := []) (els := [.ref 74, .int (-1000000002)]) rfl rfl rfl rfl rfl rfl rfl rfl (by omega) ?_
          refine sp_error2 ?_
          show am_wp L xs _ _ _ _ 131 [.ref 74, .int 3, .int 1, .int (nI (ab_fs (fun i => ab_ft (h 72) l n (ab_got (fun j g => hs_lk h s0 p0 j g) c n i)) n)), .int (-1), .int (-1), u9] [.int (-1000000002)] (am_S b) (am_u (am_ur (am_ov (am_u (am_ov h [17, 18, 47, 48, 53] gz1) 73 2 ((am_ov h [17, 18, 47, 48, 53] gz1) 73 2 + 1)) [83, 84, 86, 87] gz2) 88 r9) 77 2 ((am_ur (am_ov (am_u (am_ov h [17, 18, 47, 48, 53] gz1) 73 2 ((am_ov h [17, 18, 47, 48, 53] gz1) 73 2 + 1)) [83, 84, 86, 87] gz2) 88 r9) 77 2 + 1)) _
          refine wp_run 1 (pc' := 136) (ls' := [.ref 74, .int 3, .int 1, .int (nI (ab_fs (fun i => ab_ft (h 72) l n (ab_got (fun j g => hs_lk h s0 p0 j g) c n i)) n)), .int (-1), .int (-1), u9]) (st' := [.int (-1000000002)]) rfl ?_
          refine wp_ret rfl ?_
          exact kk2 _ _ (re_fit_err hR ⟨n, c, t, tp, wt, s0, s1, p0, p1, H⟩)
    · skip
      intro hnx2
      show am_wp L xs _ _ _ _ 13 [.ref 0, .int 3, .int x2, am_du] [.int 0] (am_S b) h _
      refine wp_if_f rfl (show ¬ (¬ (0 : Int32) = 0) from by decide) ?_
      refine wp_run 2 (pc' := 18) (ls' := [.ref 0, .int 3, .int x2, am_du]) (st' := [.int 1, .ref 0]) rfl ?_
      refine wp_callV (o := 0) (as := [.int 1]) (rest := []) (els := [.ref 0, .int 1]) rfl rfl rfl rfl rfl rfl rfl rfl (by omega) ?_
      refine sp_refuse1 (by omega) ?_
      show am_wp L xs _ _ _ _ 21 [.ref 0, .int 3, .int x2, am_du] [.int (-1000000001)] (am_S b) (am_u h 73 1 (h 73 1 + 1)) _
      refine wp_ret rfl ?_
      refine kk _ _ _ (fun ms2 Q2 kk2 => ?_)
      refine wp_run 1 (pc' := 1) (ls' := [.ref 74, .int 3, .int x2, am_du, am_du, am_du, am_du]) (st' := [.int 3]) rfl ?_
      refine wp_callS (as := [.int 3]) (rest := []) (els := [.int 3]) rfl rfl rfl rfl rfl rfl rfl rfl (by omega) ?_
      refine sp_m_isSheet (by omega) (fun _ _ _ => ?_) (fun q => absurd rfl (q 3 (by omega)))
      show am_wp L xs _ _ _ _ 4 [.ref 74, .int 3, .int x2, am_du, am_du, am_du, am_du] [.int 1] (am_S b) (am_u h 73 1 (h 73 1 + 1)) _
      refine wp_if_f rfl (show ¬ ((1 : Int32) = 0) from by decide) ?_
      refine wp_run 3 (pc' := 10) (ls' := [.ref 74, .int 3, .int x2, am_du, am_du, am_du, am_du]) (st' := [.int 1, .int 0, .int x2]) rfl ?_
      refine wp_callS (as := [.int x2, .int 0, .int 1]) (rest := []) (els := [.int x2, .int 0, .int 1]) rfl rfl rfl rfl rfl rfl rfl rfl (by omega) ?_
      refine sp_m_in0 (m := 1) rfl rfl (fun k hk e => absurd e (hnx2 k hk)) (fun _ => ?_)
      show am_wp L xs _ _ _ _ 13 [.ref 74, .int 3, .int x2, am_du, am_du, am_du, am_du] [.int 0] (am_S b) (am_u h 73 1 (h 73 1 + 1)) _
      refine wp_if_f rfl (show ¬ (¬ (0 : Int32) = 0) from by decide) ?_
      refine wp_run 2 (pc' := 19) (ls' := [.ref 74, .int 3, .int x2, am_du, am_du, am_du, am_du]) (st' := [.int (-1000000001), .ref 74]) rfl ?_
      refine wp_callV (o := 74) (as := [.int (-1000000001)]) (rest := []) (els := [.ref 74, .int (-1000000001)]) rfl rfl rfl rfl rfl rfl rfl rfl (by omega) ?_
      refine sp_error1 ?_
      show am_wp L xs _ _ _ _ 22 [.ref 74, .int 3, .int x2, am_du, am_du, am_du, am_du] [.int (-1000000001)] (am_S b) (am_u (am_u h 73 1 (h 73 1 + 1)) 77 1 ((am_u h 73 1 (h 73 1 + 1)) 77 1 + 1)) _
      refine wp_ret rfl ?_
      exact kk2 _ _ (re_err1 hR)
  · skip
    intro hnx1
    show am_wp L xs _ _ _ _ 4 [.ref 0, .int x1, .int x2, am_du] [.int 0] (am_S b) h _
    refine wp_if_t rfl (show (0 : Int32) = 0 from by decide) ?_
    refine wp_run 2 (pc' := 18) (ls' := [.ref 0, .int x1, .int x2, am_du]) (st' := [.int 1, .ref 0]) rfl ?_
    refine wp_callV (o := 0) (as := [.int 1]) (rest := []) (els := [.ref 0, .int 1]) rfl rfl rfl rfl rfl rfl rfl rfl (by omega) ?_
    refine sp_refuse1 (by omega) ?_
    show am_wp L xs _ _ _ _ 21 [.ref 0, .int x1, .int x2, am_du] [.int (-1000000001)] (am_S b) (am_u h 73 1 (h 73 1 + 1)) _
    refine wp_ret rfl ?_
    refine kk _ _ _ (fun ms2 Q2 kk2 => ?_)
    refine wp_run 1 (pc' := 1) (ls' := [.ref 74, .int x1, .int x2, am_du, am_du, am_du, am_du]) (st' := [.int x1]) rfl ?_
    refine wp_callS (as := [.int x1]) (rest := []) (els := [.int x1]) rfl rfl rfl rfl rfl rfl rfl rfl (by omega) ?_
    refine sp_m_isSheet (by omega) (fun k hk e => absurd e (hnx1 k hk)) (fun _ => ?_)
    show am_wp L xs _ _ _ _ 4 [.ref 74, .int x1, .int x2, am_du, am_du, am_du, am_du] [.int 0] (am_S b) (am_u h 73 1 (h 73 1 + 1)) _
    refine wp_if_t rfl (show (0 : Int32) = 0 from by decide) ?_
    refine wp_run 2 (pc' := 19) (ls' := [.ref 74, .int x1, .int x2, am_du, am_du, am_du, am_du]) (st' := [.int (-1000000001), .ref 74]) rfl ?_
    refine wp_callV (o := 74) (as := [.int (-1000000001)]) (rest := []) (els := [.ref 74, .int (-1000000001)]) rfl rfl rfl rfl rfl rfl rfl rfl (by omega) ?_
    refine sp_error1 ?_
    show am_wp L xs _ _ _ _ 22 [.ref 74, .int x1, .int x2, am_du, am_du, am_du, am_du] [.int (-1000000001)] (am_S b) (am_u (am_u h 73 1 (h 73 1 + 1)) 77 1 ((am_u h 73 1 (h 73 1 + 1)) 77 1 + 1)) _
    refine wp_ret rfl ?_
    exact kk2 _ _ (re_err1 hR)
