/-! the shape of the 92 cells, once they are made; overridden cells -/
def am_S (b : Nat) : am_SH := [(8, 9, [2, 25, 48, 50, 57, 62, 65, 74, 0]), (1, 15, [3, 4, 5, 6, 7, 8, 9, 10, 12, 14, 0, 0, 0, 0, 0]), (20, 7, []), (20, 7, []), (20, 7, []), (20, 7, []), (20, 7, []), (20, 7, []), (20, 7, []), (2, 2, [11, 0]), (20, 60, []), (2, 2, [13, 0]), (20, 24, []), (21, 2, [15, 20]), (3, 5, [0, 0, 16, 18, 0]), (2, 2, [17, 0]), (20, 60, []), (2, 2, [19, 0]), (20, 60, []), (3, 5, [0, 0, 21, 23, 0]), (2, 2, [22, 0]), (20, 60, []), (2, 2, [24, 0]), (20, 60, []), (1, 15, [26, 27, 28, 29, 30, 31, 32, 33, 35, 37, 0, 0, 0, 0, 0]), (20, 7, []), (20, 7, []), (20, 7, []), (20, 7, []), (20, 7, []), (20, 7, []), (20, 7, []), (2, 2, [34, 0]), (20, 60, []), (2, 2, [36, 0]), (20, 24, []), (21, 2, [38, 43]), (3, 5, [0, 0, 39, 41, 0]), (2, 2, [40, 0]), (20, 60, []), (2, 2, [42, 0]), (20, 60, []), (3, 5, [0, 0, 44, 46, 0]), (2, 2, [45, 0]), (20, 60, []), (2, 2, [47, 0]), (20, 60, []), (0, 2, [49, 0]), (20, 49, []), (7, 10, [51, 0, 52, 0, 0, 0, 53, 54, 55, 56]), (20, 7, []), (20, 7, []), (20, 7, []), (20, 7, []), (20, 49, []), (20, 1024, []), (4, 7, [58, 60, b, 0, 0, 0, 0]), (2, 2, [59, 0]), (20, 60, []), (2, 2, [61, 0]), (20, 60, []), (6, 5, [63, 0, 0, 0, 0]), (2, 2, [64, 0]), (20, 30, []), (22, 4, [66, 68, 70, 72]), (5, 3, [67, 0, 0]), (20, 24, []), (5, 3, [69, 0, 0]), (20, 24, []), (5, 3, [71, 0, 0]), (20, 24, []), (5, 3, [73, 0, 0]), (20, 24, []), (20, 7, []), (9, 27, [76, 77, 0, 78, 79, 80, 81, 82, 83, 84, 85, 0, 0, 0, 0, 0, 86, 87, 88, 89, 90, 91, 0, 0, 92, 0, 0]), (20, 382, []), (20, 382, []), (20, 7, []), (20, 4, []), (20, 4, []), (20, 96, []), (20, 60, []), (20, 60, []), (20, 3, []), (20, 60, []), (20, 1024, []), (20, 49, []), (20, 49, []), (20, 7, []), (20, 7, []), (20, 7, []), (20, 30, [])]
def am_ov (h : am_HI) (l : List Nat) (g : am_HI) : am_HI := fun a => bif l.elem a then g a else h a
theorem am_u_at (h : am_HI) (a i : Nat) (v : Int32) : am_u h a i v a i = v := by simp [am_u, upd]
theorem sp_x_within {L : Nat} {xs : Nat → Int32} {d ms : Nat} {h : am_HI} {sh : am_SH} {Q : am_Q} {v v0 v1 : Int32} (kt : v0 ≤ v ∧ v ≤ v1 → Q (some (.int 1)) sh h) (kf : ¬ (v0 ≤ v ∧ v ≤ v1) → Q (some (.int 0)) sh h) :
    am_wp L xs d 0 ms 11 0 [.int v, .int v0, .int v1] [] sh h Q := by
  refine wp_run 2 (pc' := 2) (ls' := [.int v, .int v0, .int v1]) (st' := [.int v0, .int v]) rfl ?_
  refine wp_icmp rfl (fun (cq2 : v < v0) => ?_) (fun (cq2 : ¬ (v < v0)) => ?_)
  · skip
    refine wp_run 1 (pc' := 15) (ls' := [.int v, .int v0, .int v1]) (st' := [.int 0]) rfl ?_
    refine wp_retz rfl (Or.inl rfl) ?_
    exact kf (fun q => by first | exact absurd q.1 (Int32.not_le.mpr cq2) | exact absurd q.2 (Int32.not_le.mpr cq7))
  · skip
    refine wp_run 2 (pc' := 7) (ls' := [.int v, .int v0, .int v1]) (st' := [.int v1, .int v]) rfl ?_
    refine wp_icmp rfl (fun (cq7 : v1 < v) => ?_) (fun (cq7 : ¬ (v1 < v)) => ?_)
    · skip
      refine wp_run 1 (pc' := 15) (ls' := [.int v, .int v0, .int v1]) (st' := [.int 0]) rfl ?_
      refine wp_retz rfl (Or.inl rfl) ?_
      exact kf (fun q => by first | exact absurd q.1 (Int32.not_le.mpr cq2) | exact absurd q.2 (Int32.not_le.mpr cq7))
    · skip
      refine wp_run 2 (pc' := 15) (ls' := [.int v, .int v0, .int v1]) (st' := [.int 1]) rfl ?_
      refine wp_retz rfl (Or.inr rfl) ?_
      exact kt (by first | exact ⟨Int32.not_lt.mp cq2, Int32.not_lt.mp cq7⟩ | exact ⟨by simpa using cq2, by simpa using cq7⟩)
theorem sp_x_within0 {L : Nat} {xs : Nat → Int32} {d ms : Nat} {h : am_HI} {sh : am_SH} {Q : am_Q} {v v1 : Int32} {m : Nat} (hm : Nat.blt m 2147483648 = true) (e : v1 = nI m) (kt : ∀ k, k ≤ m → v = nI k → Q (some (.int 1)) sh h) (kf : (∀ k, k ≤ m → v ≠ nI k) → Q (some (.int 0)) sh h) :
    am_wp L xs d 0 ms 11 0 [.int v, .int 0, .int v1] [] sh h Q := by
  have hm := Nat.le_of_ble_eq_true hm
  subst e
  refine sp_x_within (fun q => ?_) (fun q => kf fun k hk e => q ((pu_r0 (by omega)).mpr ⟨k, hk, e⟩))
  obtain ⟨k, hk, e⟩ := (pu_r0 (by omega)).mp q
  exact kt k hk e
theorem sp_x_within1 {L : Nat} {xs : Nat → Int32} {d ms : Nat} {h : am_HI} {sh : am_SH} {Q : am_Q} {v v1 : Int32} {m : Nat} (hm : m < 2 ^ 31) (e : v1 = nI m - 1) (kt : ∀ k, k < m → v = nI k → Q (some (.int 1)) sh h) (kf : (∀ k, k < m → v ≠ nI k) → Q (some (.int 0)) sh h) :
    am_wp L xs d 0 ms 11 0 [.int v, .int 0, .int v1] [] sh h Q := by
  subst e
  refine sp_x_within (fun q => ?_) (fun q => kf fun k hk e => q ((pu_r1 hm).mpr ⟨k, hk, e⟩))
  obtain ⟨k, hk, e⟩ := (pu_r1 hm).mp q
  exact kt k hk e
theorem sp_x_withinm {L : Nat} {xs : Nat → Int32} {d ms : Nat} {h : am_HI} {sh : am_SH} {Q : am_Q} {v v1 : Int32} {m : Nat} (hm : m < 2 ^ 31) (e : v1 = nI m - 1) (k1 : v = -1 → Q (some (.int 1)) sh h) (kt : ∀ k, k < m → v = nI k → Q (some (.int 1)) sh h) (kf : v ≠ -1 → (∀ k, k < m → v ≠ nI k) → Q (some (.int 0)) sh h) :
    am_wp L xs d 0 ms 11 0 [.int v, .int (-1), .int v1] [] sh h Q := by
  subst e
  refine sp_x_within (fun q => ?_) (fun q => kf (fun e => q ((pu_rm hm).mpr (Or.inl e))) fun k hk e => q ((pu_rm hm).mpr (Or.inr ⟨k, hk, e⟩)))
  rcases (pu_rm hm).mp q with e | ⟨k, hk, e⟩
  · exact k1 e
  · exact kt k hk e
theorem sp_m_in {L : Nat} {xs : Nat → Int32} {d ms : Nat} {h : am_HI} {sh : am_SH} {Q : am_Q} {v v0 v1 : Int32} (kt : v0 ≤ v ∧ v ≤ v1 → Q (some (.int 1)) sh h) (kf : ¬ (v0 ≤ v ∧ v ≤ v1) → Q (some (.int 0)) sh h) :
    am_wp L xs d 0 ms 131 0 [.int v, .int v0, .int v1] [] sh h Q := by
  refine wp_run 2 (pc' := 2) (ls' := [.int v, .int v0, .int v1]) (st' := [.int v0, .int v]) rfl ?_
  refine wp_icmp rfl (fun (cq2 : v < v0) => ?_) (fun (cq2 : ¬ (v < v0)) => ?_)
  · skip
    refine wp_run 1 (pc' := 15) (ls' := [.int v, .int v0, .int v1]) (st' := [.int 0]) rfl ?_
    refine wp_retz rfl (Or.inl rfl) ?_
    exact kf (fun q => by first | exact absurd q.1 (Int32.not_le.mpr cq2) | exact absurd q.2 (Int32.not_le.mpr cq7))
  · skip
    refine wp_run 2 (pc' := 7) (ls' := [.int v, .int v0, .int v1]) (st' := [.int v1, .int v]) rfl ?_
    refine wp_icmp rfl (fun (cq7 : v1 < v) => ?_) (fun (cq7 : ¬ (v1 < v)) => ?_)
    · skip
      refine wp_run 1 (pc' := 15) (ls' := [.int v, .int v0, .int v1]) (st' := [.int 0]) rfl ?_
      refine wp_retz rfl (Or.inl rfl) ?_
      exact kf (fun q => by first | exact absurd q.1 (Int32.not_le.mpr cq2) | exact absurd q.2 (Int32.not_le.mpr cq7))
    · skip
      refine wp_run 2 (pc' := 15) (ls' := [.int v, .int v0, .int v1]) (st' := [.int 1]) rfl ?_
      refine wp_retz rfl (Or.inr rfl) ?_
      exact kt (by first | exact ⟨Int32.not_lt.mp cq2, Int32.not_lt.mp cq7⟩ | exact ⟨by simpa using cq2, by simpa using cq7⟩)
theorem sp_m_in0 {L : Nat} {xs : Nat → Int32} {d ms : Nat} {h : am_HI} {sh : am_SH} {Q : am_Q} {v v1 : Int32} {m : Nat} (hm : Nat.blt m 2147483648 = true) (e : v1 = nI m) (kt : ∀ k, k ≤ m → v = nI k → Q (some (.int 1)) sh h) (kf : (∀ k, k ≤ m → v ≠ nI k) → Q (some (.int 0)) sh h) :
    am_wp L xs d 0 ms 131 0 [.int v, .int 0, .int v1] [] sh h Q := by
  have hm := Nat.le_of_ble_eq_true hm
  subst e
  refine sp_m_in (fun q => ?_) (fun q => kf fun k hk e => q ((pu_r0 (by omega)).mpr ⟨k, hk, e⟩))
  obtain ⟨k, hk, e⟩ := (pu_r0 (by omega)).mp q
  exact kt k hk e
theorem sp_m_in1 {L : Nat} {xs : Nat → Int32} {d ms : Nat} {h : am_HI} {sh : am_SH} {Q : am_Q} {v v1 : Int32} {m : Nat} (hm : m < 2 ^ 31) (e : v1 = nI m - 1) (kt : ∀ k, k < m → v = nI k → Q (some (.int 1)) sh h) (kf : (∀ k, k < m → v ≠ nI k) → Q (some (.int 0)) sh h) :
    am_wp L xs d 0 ms 131 0 [.int v, .int 0, .int v1] [] sh h Q := by
  subst e
  refine sp_m_in (fun q => ?_) (fun q => kf fun k hk e => q ((pu_r1 hm).mpr ⟨k, hk, e⟩))
  obtain ⟨k, hk, e⟩ := (pu_r1 hm).mp q
  exact kt k hk e
theorem sp_m_inm {L : Nat} {xs : Nat → Int32} {d ms : Nat} {h : am_HI} {sh : am_SH} {Q : am_Q} {v v1 : Int32} {m : Nat} (hm : m < 2 ^ 31) (e : v1 = nI m - 1) (k1 : v = -1 → Q (some (.int 1)) sh h) (kt : ∀ k, k < m → v = nI k → Q (some (.int 1)) sh h) (kf : v ≠ -1 → (∀ k, k < m → v ≠ nI k) → Q (some (.int 0)) sh h) :
    am_wp L xs d 0 ms 131 0 [.int v, .int (-1), .int v1] [] sh h Q := by
  subst e
  refine sp_m_in (fun q => ?_) (fun q => kf (fun e => q ((pu_rm hm).mpr (Or.inl e))) fun k hk e => q ((pu_rm hm).mpr (Or.inr ⟨k, hk, e⟩)))
  rcases (pu_rm hm).mp q with e | ⟨k, hk, e⟩
  · exact k1 e
  · exact kt k hk e
theorem sp_x_held {L : Nat} {xs : Nat → Int32} {d ms : Nat} {h : am_HI} {sh : am_SH} {Q : am_Q} {v v0 v1 : Int32} (hab : v0 ≤ v1) (hd : 1 ≤ d) (kk : Q (some (.int (pu_held v v0 v1))) sh h) :
    am_wp L xs d 0 ms 22 0 [.int v, .int v0, .int v1] [] sh h Q := by
  refine wp_run 3 (pc' := 3) (ls' := [.int v, .int v0, .int v1]) (st' := [.int v, .int v1, .int v0]) rfl ?_
  refine wp_min rfl rfl (by omega) ?_
  refine wp_max rfl rfl (by omega) ?_
  refine wp_ret rfl ?_
  rw [show am_imax v0 (am_imin v1 v) = pu_held v v0 v1 from pu_held_mm hab]
  exact kk
theorem sp_m_held {L : Nat} {xs : Nat → Int32} {d ms : Nat} {h : am_HI} {sh : am_SH} {Q : am_Q} {v v0 v1 : Int32} (kk : Q (some (.int (pu_held v v0 v1))) sh h) :
    am_wp L xs d 0 ms 144 0 [.int v, .int v0, .int v1] [] sh h Q := by
  refine wp_run 2 (pc' := 2) (ls' := [.int v, .int v0, .int v1]) (st' := [.int v0, .int v]) rfl ?_
  refine wp_icmp rfl (fun (cq2 : v0 ≤ v) => ?_) (fun (cq2 : ¬ (v0 ≤ v)) => ?_)
  · skip
    refine wp_run 2 (pc' := 11) (ls' := [.int v, .int v0, .int v1]) (st' := [.int v1, .int v]) rfl ?_
    refine wp_icmp rfl (fun (cq11 : v ≤ v1) => ?_) (fun (cq11 : ¬ (v ≤ v1)) => ?_)
    · skip
      refine wp_run 1 (pc' := 19) (ls' := [.int v, .int v0, .int v1]) (st' := [.int v]) rfl ?_
      refine wp_ret rfl ?_
      have e : pu_held v v0 v1 = v := by unfold pu_held; rw [if_neg (Int32.not_lt.mpr cq2), if_neg (Int32.not_lt.mpr cq11)]
      rw [e] at kk
      exact kk
    · skip
      refine wp_run 2 (pc' := 19) (ls' := [.int v, .int v0, .int v1]) (st' := [.int v1]) rfl ?_
      refine wp_ret rfl ?_
      have e : pu_held v v0 v1 = v1 := by unfold pu_held; rw [if_neg (Int32.not_lt.mpr cq2), if_pos (Int32.not_le.mp cq11)]
      rw [e] at kk
      exact kk
  · skip
    refine wp_run 2 (pc' := 19) (ls' := [.int v, .int v0, .int v1]) (st' := [.int v0]) rfl ?_
    refine wp_ret rfl ?_
    have e : pu_held v v0 v1 = v0 := by unfold pu_held; rw [if_pos (Int32.not_le.mp cq2)]
    rw [e] at kk
    exact kk
theorem sp_x_isKindAndMark {L : Nat} {xs : Nat → Int32} {d ms : Nat} {h : am_HI} {sh : am_SH} {Q : am_Q} {v : Int32} (hd : 1 ≤ d) (kt : ∀ k, k ≤ 69 → v = nI k → Q (some (.int 1)) sh h) (kf : (∀ k, k ≤ 69 → v ≠ nI k) → Q (some (.int 0)) sh h) :
    am_wp L xs d 0 ms 27 0 [.int v] [] sh h Q := by
  refine wp_run 3 (pc' := 4) (ls' := [.int v]) (st' := [.int 69, .int 0, .int v]) rfl ?_
  refine wp_callS (as := [.int v, .int 0, .int 69]) (rest := []) (els := [.int v, .int 0, .int 69]) rfl rfl rfl rfl rfl rfl rfl rfl (by omega) ?_
  refine sp_x_within0 (m := 69) rfl rfl ?_ ?_
  · skip
    intro kv hkv ev
    subst ev
    show am_wp L xs _ _ _ _ 7 [.int (nI kv)] [.int 1] sh h _
    refine wp_retz rfl (Or.inr rfl) ?_
    exact kt _ hkv rfl
  · skip
    intro hnv
    show am_wp L xs _ _ _ _ 7 [.int v] [.int 0] sh h _
    refine wp_retz rfl (Or.inl rfl) ?_
    exact kf hnv
theorem sp_x_isUse {L : Nat} {xs : Nat → Int32} {d ms : Nat} {h : am_HI} {sh : am_SH} {Q : am_Q} {v : Int32} (hd : 1 ≤ d) (kt : ∀ k, k ≤ 1 → v = nI k → Q (some (.int 1)) sh h) (kf : (∀ k, k ≤ 1 → v ≠ nI k) → Q (some (.int 0)) sh h) :
    am_wp L xs d 0 ms 49 0 [.int v] [] sh h Q := by
  refine wp_run 3 (pc' := 3) (ls' := [.int v]) (st' := [.int 1, .int 0, .int v]) rfl ?_
  refine wp_callS (as := [.int v, .int 0, .int 1]) (rest := []) (els := [.int v, .int 0, .int 1]) rfl rfl rfl rfl rfl rfl rfl rfl (by omega) ?_
  refine sp_x_within0 (m := 1) rfl rfl ?_ ?_
  · skip
    intro kv hkv ev
    subst ev
    show am_wp L xs _ _ _ _ 6 [.int (nI kv)] [.int 1] sh h _
    refine wp_retz rfl (Or.inr rfl) ?_
    exact kt _ hkv rfl
  · skip
    intro hnv
    show am_wp L xs _ _ _ _ 6 [.int v] [.int 0] sh h _
    refine wp_retz rfl (Or.inl rfl) ?_
    exact kf hnv
theorem sp_x_isSheet {L : Nat} {xs : Nat → Int32} {d ms : Nat} {h : am_HI} {sh : am_SH} {Q : am_Q} {v : Int32} (hd : 1 ≤ d) (kt : ∀ k, k ≤ 3 → v = nI k → Q (some (.int 1)) sh h) (kf : (∀ k, k ≤ 3 → v ≠ nI k) → Q (some (.int 0)) sh h) :
    am_wp L xs d 0 ms 97 0 [.int v] [] sh h Q := by
  refine wp_run 3 (pc' := 3) (ls' := [.int v]) (st' := [.int 3, .int 0, .int v]) rfl ?_
  refine wp_callS (as := [.int v, .int 0, .int 3]) (rest := []) (els := [.int v, .int 0, .int 3]) rfl rfl rfl rfl rfl rfl rfl rfl (by omega) ?_
  refine sp_x_within0 (m := 3) rfl rfl ?_ ?_
  · skip
    intro kv hkv ev
    subst ev
    show am_wp L xs _ _ _ _ 6 [.int (nI kv)] [.int 1] sh h _
    refine wp_retz rfl (Or.inr rfl) ?_
    exact kt _ hkv rfl
  · skip
    intro hnv
    show am_wp L xs _ _ _ _ 6 [.int v] [.int 0] sh h _
    refine wp_retz rfl (Or.inl rfl) ?_
    exact kf hnv
theorem sp_m_isKm {L : Nat} {xs : Nat → Int32} {d ms : Nat} {h : am_HI} {sh : am_SH} {Q : am_Q} {v : Int32} (hd : 1 ≤ d) (kt : ∀ k, k ≤ 69 → v = nI k → Q (some (.int 1)) sh h) (kf : (∀ k, k ≤ 69 → v ≠ nI k) → Q (some (.int 0)) sh h) :
    am_wp L xs d 0 ms 146 0 [.int v] [] sh h Q := by
  refine wp_run 3 (pc' := 4) (ls' := [.int v]) (st' := [.int 69, .int 0, .int v]) rfl ?_
  refine wp_callS (as := [.int v, .int 0, .int 69]) (rest := []) (els := [.int v, .int 0, .int 69]) rfl rfl rfl rfl rfl rfl rfl rfl (by omega) ?_
  refine sp_m_in0 (m := 69) rfl rfl ?_ ?_
  · skip
    intro kv hkv ev
    subst ev
    show am_wp L xs _ _ _ _ 7 [.int (nI kv)] [.int 1] sh h _
    refine wp_retz rfl (Or.inr rfl) ?_
    exact kt _ hkv rfl
  · skip
    intro hnv
    show am_wp L xs _ _ _ _ 7 [.int v] [.int 0] sh h _
    refine wp_retz rfl (Or.inl rfl) ?_
    exact kf hnv
theorem sp_m_isSheet {L : Nat} {xs : Nat → Int32} {d ms : Nat} {h : am_HI} {sh : am_SH} {Q : am_Q} {v : Int32} (hd : 1 ≤ d) (kt : ∀ k, k ≤ 3 → v = nI k → Q (some (.int 1)) sh h) (kf : (∀ k, k ≤ 3 → v ≠ nI k) → Q (some (.int 0)) sh h) :
    am_wp L xs d 0 ms 195 0 [.int v] [] sh h Q := by
  refine wp_run 3 (pc' := 3) (ls' := [.int v]) (st' := [.int 3, .int 0, .int v]) rfl ?_
  refine wp_callS (as := [.int v, .int 0, .int 3]) (rest := []) (els := [.int v, .int 0, .int 3]) rfl rfl rfl rfl rfl rfl rfl rfl (by omega) ?_
  refine sp_m_in0 (m := 3) rfl rfl ?_ ?_
  · skip
    intro kv hkv ev
    subst ev
    show am_wp L xs _ _ _ _ 6 [.int (nI kv)] [.int 1] sh h _
    refine wp_retz rfl (Or.inr rfl) ?_
    exact kt _ hkv rfl
  · skip
    intro hnv
    show am_wp L xs _ _ _ _ 6 [.int v] [.int 0] sh h _
    refine wp_retz rfl (Or.inl rfl) ?_
    exact kf hnv
