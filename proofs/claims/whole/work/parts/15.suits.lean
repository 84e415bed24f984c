/-! suits, makes; the house in one word -/
def pu_off (s m : Int32) : Int32 := if m < s then s - m else m - s
theorem pu_off_abs : ∀ s, s < 10 → ∀ m, m < 10 → pu_off (nI s) (nI m) = am_iabs (nI s - nI m) := by decide +kernel
def pu_suitp (p k m wit sm nt : Int32) : Int32 :=
  if k = 1 then p - 5 else if k = 2 then p + wit else if k = 3 then (if sm = am_rem m 4 then 30 else 0) else if k = 4 then p - 5 + (if am_rem nt 7 = 5 then 20 else 0) else if k = 5 then p + wit - sm else if k = 6 then p / 2 else p
def pu_suits (k m wit sz sm nt : Int32) : Int32 := pu_suitp (20 - 2 * pu_off sz m) k m wit sm nt
def pu_makep (p k m : Int32) : Int32 := if k = 1 then 2 * p else if k = 2 then p / 2 else if k = 4 then 2 * p - m else if k = 5 then p / 2 + 3 else if k = 6 then 30 - p else p
def pu_makes (k m wit nt : Int32) : Int32 := pu_makep (wit + am_rem nt 3) k m
def am_lawd (h : am_HI) (o : Nat) (lo hi s : Int32) (p : List Int32) : Prop := h (o + 1) 1 = nI p.length ∧ (∀ j (hj : j < p.length), h (o + 2) j = p[j]) ∧ p.length ≤ 60 ∧ h o 0 = lo ∧ h o 1 = hi ∧ h o 4 = s ∧ (s = 0 ∨ pu_wf p 0 = some 1)
/-- the house: n guests, c coats, night t, the two laws -/
def am_hs (h : am_HI) (n c t : Nat) (s0 s1 : Int32) (p0 p1 : List Int32) : Prop := h 1 10 = nI n ∧ h 1 11 = nI c ∧ h 1 12 = nI t ∧ n ≤ 7 ∧ c ≤ 7 ∧ t ≤ 9999 ∧ am_lawd h 14 0 99 s0 p0 ∧ am_lawd h 19 (-99) 99 s1 p1 ∧
  (∀ g, g < n → ∃ s, s < 10 ∧ h 3 g = nI s) ∧ (∀ j, j < c → ∃ m, m < 10 ∧ h 7 j = nI m) ∧ (∀ g, g < n → h 5 g = -1 ∨ ∃ j, j < c ∧ h 5 g = nI j)
def hs_lk (h : am_HI) (s : Int32) (p : List Int32) (j g : Nat) : Int32 := pu_gv s p (pu_suits (h 6 j) (h 7 j) (h 2 g) (h 3 g) (h 4 g) (h 1 12)) (h 4 g) (am_rem (h 1 12) 7) 0 99
def hs_mk (h : am_HI) (s : Int32) (p : List Int32) (j g : Nat) : Int32 := pu_gv s p (pu_makes (h 6 j) (h 7 j) (h 2 g) (h 1 12)) (h 2 g) (if h 8 j = nI g then 1 else 0) (-99) 99
def hs_mkn (h : am_HI) (s : Int32) (p : List Int32) (g : Nat) : Int32 := if h 5 g = -1 then 0 else hs_mk h s p (h 5 g).toNatClampNeg g
theorem sp_suiting {L : Nat} {xs : Nat → Int32} {d ms b : Nat} {h : am_HI} {Q : am_Q} {n c : Nat} (hn7 : n ≤ 7) (hc7 : c ≤ 7) {j g : Nat} (hj : j < c) (hg : g < n) (hsz : ∃ s, s < 10 ∧ h 3 g = nI s) (hmk : ∃ m, m < 10 ∧ h 7 j = nI m) (hd : 1 ≤ d) (kk : Q (some (.int (pu_suits (h 6 j) (h 7 j) (h 2 g) (h 3 g) (h 4 g) (h 1 12)))) (am_S b) h) :
    am_wp L xs d 0 ms 37 0 [.ref 1, .int (nI j), .int (nI g), am_du] [] (am_S b) h Q := by
  have eo : pu_off (h 3 g) (h 7 j) = am_iabs (h 3 g - h 7 j) := by obtain ⟨s, hs, es⟩ := hsz; obtain ⟨m, hm, em⟩ := hmk; rw [es, em]; exact pu_off_abs s hs m hm
  unfold pu_suits at kk
  rw [eo] at kk
  refine wp_run 3 (pc' := 4) (ls' := [.ref 1, .int (nI j), .int (nI g), am_du]) (st' := [.ref 1, .int 2, .int 20]) rfl ?_
  refine wp_getr 3 rfl rfl rfl ?_
  refine wp_run 1 (pc' := 8) (ls' := [.ref 1, .int (nI j), .int (nI g), am_du]) (st' := [.int (nI g), .ref 3, .int 2, .int 20]) rfl ?_
  refine wp_ald (h 3 g) rfl rfl rfl rfl (by omega) rfl ?_
  refine wp_run 1 (pc' := 10) (ls' := [.ref 1, .int (nI j), .int (nI g), am_du]) (st' := [.ref 1, .int (h 3 g), .int 2, .int 20]) rfl ?_
  refine wp_getr 7 rfl rfl rfl ?_
  refine wp_run 1 (pc' := 14) (ls' := [.ref 1, .int (nI j), .int (nI g), am_du]) (st' := [.int (nI j), .ref 7, .int (h 3 g), .int 2, .int 20]) rfl ?_
  refine wp_ald (h 7 j) rfl rfl rfl rfl (by omega) rfl ?_
  refine wp_run 1 (pc' := 16) (ls' := [.ref 1, .int (nI j), .int (nI g), am_du]) (st' := [.int ((h 3 g) - (h 7 j)), .int 2, .int 20]) rfl ?_
  refine wp_abs rfl rfl (by omega) ?_
  refine wp_run 4 (pc' := 23) (ls' := [.ref 1, .int (nI j), .int (nI g), .int (20 - (2 * (am_iabs ((h 3 g) - (h 7 j)))))]) (st' := [.ref 1]) rfl ?_
  refine wp_getr 6 rfl rfl rfl ?_
  refine wp_run 1 (pc' := 27) (ls' := [.ref 1, .int (nI j), .int (nI g), .int (20 - (2 * (am_iabs ((h 3 g) - (h 7 j)))))]) (st' := [.int (nI j), .ref 6]) rfl ?_
  refine wp_ald (h 6 j) rfl rfl rfl rfl (by omega) rfl ?_
  refine wp_switch [(1, 68), (2, 72), (3, 81), (4, 105), (5, 127), (6, 143)] rfl rfl rfl ?_ ?_
  · refine List.forall_mem_cons.mpr ⟨fun (sw28 : (h 6 j) = _) => ?_, List.forall_mem_cons.mpr ⟨fun (sw28 : (h 6 j) = _) => ?_, List.forall_mem_cons.mpr ⟨fun (sw28 : (h 6 j) = _) => ?_, List.forall_mem_cons.mpr ⟨fun (sw28 : (h 6 j) = _) => ?_, List.forall_mem_cons.mpr ⟨fun (sw28 : (h 6 j) = _) => ?_, List.forall_mem_cons.mpr ⟨fun (sw28 : (h 6 j) = _) => ?_, fun _ h => absurd h List.not_mem_nil⟩⟩⟩⟩⟩⟩
    · skip
      refine wp_run 3 (pc' := 71) (ls' := [.ref 1, .int (nI j), .int (nI g), .int (20 - (2 * (am_iabs ((h 3 g) - (h 7 j)))))]) (st' := [.int ((20 - (2 * (am_iabs ((h 3 g) - (h 7 j))))) - 5)]) rfl ?_
      refine wp_ret rfl ?_
      have ej : pu_suitp (20 - (2 * (am_iabs ((h 3 g) - (h 7 j))))) (h 6 j) (h 7 j) (h 2 g) (h 4 g) (h 1 12) = ((20 - (2 * (am_iabs ((h 3 g) - (h 7 j))))) - 5) := by simp (decide := true) [pu_suitp, sw28]
      rw [ej] at kk
      exact kk
    · skip
      refine wp_run 2 (pc' := 74) (ls' := [.ref 1, .int (nI j), .int (nI g), .int (20 - (2 * (am_iabs ((h 3 g) - (h 7 j)))))]) (st' := [.ref 1, .int (20 - (2 * (am_iabs ((h 3 g) - (h 7 j)))))]) rfl ?_
      refine wp_getr 2 rfl rfl rfl ?_
      refine wp_run 1 (pc' := 78) (ls' := [.ref 1, .int (nI j), .int (nI g), .int (20 - (2 * (am_iabs ((h 3 g) - (h 7 j)))))]) (st' := [.int (nI g), .ref 2, .int (20 - (2 * (am_iabs ((h 3 g) - (h 7 j)))))]) rfl ?_
      refine wp_ald (h 2 g) rfl rfl rfl rfl (by omega) rfl ?_
      refine wp_run 1 (pc' := 80) (ls' := [.ref 1, .int (nI j), .int (nI g), .int (20 - (2 * (am_iabs ((h 3 g) - (h 7 j)))))]) (st' := [.int ((20 - (2 * (am_iabs ((h 3 g) - (h 7 j))))) + (h 2 g))]) rfl ?_
      refine wp_ret rfl ?_
      have ej : pu_suitp (20 - (2 * (am_iabs ((h 3 g) - (h 7 j))))) (h 6 j) (h 7 j) (h 2 g) (h 4 g) (h 1 12) = ((20 - (2 * (am_iabs ((h 3 g) - (h 7 j))))) + (h 2 g)) := by simp (decide := true) [pu_suitp, sw28]
      rw [ej] at kk
      exact kk
    · skip
      refine wp_run 1 (pc' := 82) (ls' := [.ref 1, .int (nI j), .int (nI g), .int (20 - (2 * (am_iabs ((h 3 g) - (h 7 j)))))]) (st' := [.ref 1]) rfl ?_
      refine wp_getr 4 rfl rfl rfl ?_
      refine wp_run 1 (pc' := 86) (ls' := [.ref 1, .int (nI j), .int (nI g), .int (20 - (2 * (am_iabs ((h 3 g) - (h 7 j)))))]) (st' := [.int (nI g), .ref 4]) rfl ?_
      refine wp_ald (h 4 g) rfl rfl rfl rfl (by omega) rfl ?_
      refine wp_run 1 (pc' := 88) (ls' := [.ref 1, .int (nI j), .int (nI g), .int (20 - (2 * (am_iabs ((h 3 g) - (h 7 j)))))]) (st' := [.ref 1, .int (h 4 g)]) rfl ?_
      refine wp_getr 7 rfl rfl rfl ?_
      refine wp_run 1 (pc' := 92) (ls' := [.ref 1, .int (nI j), .int (nI g), .int (20 - (2 * (am_iabs ((h 3 g) - (h 7 j)))))]) (st' := [.int (nI j), .ref 7, .int (h 4 g)]) rfl ?_
      refine wp_ald (h 7 j) rfl rfl rfl rfl (by omega) rfl ?_
      refine wp_run 1 (pc' := 94) (ls' := [.ref 1, .int (nI j), .int (nI g), .int (20 - (2 * (am_iabs ((h 3 g) - (h 7 j)))))]) (st' := [.int 4, .int (h 7 j), .int (h 4 g)]) rfl ?_
      refine wp_irem rfl (by decide) ?_
      refine wp_icmp rfl (fun (cq95 : ¬ (h 4 g) = (am_rem (h 7 j) 4)) => ?_) (fun (cq95 : ¬ (¬ (h 4 g) = (am_rem (h 7 j) 4))) => ?_)
      · skip
        refine wp_run 1 (pc' := 104) (ls' := [.ref 1, .int (nI j), .int (nI g), .int (20 - (2 * (am_iabs ((h 3 g) - (h 7 j)))))]) (st' := [.int 0]) rfl ?_
        refine wp_ret rfl ?_
        have ej : pu_suitp (20 - (2 * (am_iabs ((h 3 g) - (h 7 j))))) (h 6 j) (h 7 j) (h 2 g) (h 4 g) (h 1 12) = 0 := by simp (decide := true) [pu_suitp, sw28, cq95]
        rw [ej] at kk
        exact kk
      · skip
        replace cq95 := Decidable.not_not.mp cq95
        refine wp_run 2 (pc' := 104) (ls' := [.ref 1, .int (nI j), .int (nI g), .int (20 - (2 * (am_iabs ((h 3 g) - (h 7 j)))))]) (st' := [.int 30]) rfl ?_
        refine wp_ret rfl ?_
        have ej : pu_suitp (20 - (2 * (am_iabs ((h 3 g) - (h 7 j))))) (h 6 j) (h 7 j) (h 2 g) (h 4 g) (h 1 12) = 30 := by simp (decide := true) [pu_suitp, sw28, cq95]
        rw [ej] at kk
        exact kk
    · skip
      refine wp_run 4 (pc' := 109) (ls' := [.ref 1, .int (nI j), .int (nI g), .int (20 - (2 * (am_iabs ((h 3 g) - (h 7 j)))))]) (st' := [.ref 1, .int ((20 - (2 * (am_iabs ((h 3 g) - (h 7 j))))) - 5)]) rfl ?_
      refine wp_geti (h 1 12) rfl rfl rfl rfl ?_
      refine wp_run 1 (pc' := 114) (ls' := [.ref 1, .int (nI j), .int (nI g), .int (20 - (2 * (am_iabs ((h 3 g) - (h 7 j)))))]) (st' := [.int 7, .int (h 1 12), .int ((20 - (2 * (am_iabs ((h 3 g) - (h 7 j))))) - 5)]) rfl ?_
      refine wp_irem rfl (by decide) ?_
      refine wp_run 1 (pc' := 116) (ls' := [.ref 1, .int (nI j), .int (nI g), .int (20 - (2 * (am_iabs ((h 3 g) - (h 7 j)))))]) (st' := [.int 5, .int (am_rem (h 1 12) 7), .int ((20 - (2 * (am_iabs ((h 3 g) - (h 7 j))))) - 5)]) rfl ?_
      refine wp_icmp rfl (fun (cq116 : ¬ (am_rem (h 1 12) 7) = 5) => ?_) (fun (cq116 : ¬ (¬ (am_rem (h 1 12) 7) = 5)) => ?_)
      · skip
        refine wp_run 2 (pc' := 126) (ls' := [.ref 1, .int (nI j), .int (nI g), .int (20 - (2 * (am_iabs ((h 3 g) - (h 7 j)))))]) (st' := [.int (((20 - (2 * (am_iabs ((h 3 g) - (h 7 j))))) - 5) + 0)]) rfl ?_
        refine wp_ret rfl ?_
        have ej : pu_suitp (20 - (2 * (am_iabs ((h 3 g) - (h 7 j))))) (h 6 j) (h 7 j) (h 2 g) (h 4 g) (h 1 12) = (((20 - (2 * (am_iabs ((h 3 g) - (h 7 j))))) - 5) + 0) := by simp (decide := true) [pu_suitp, sw28, cq116]
        rw [ej] at kk
        exact kk
      · skip
        replace cq116 := Decidable.not_not.mp cq116
        refine wp_run 3 (pc' := 126) (ls' := [.ref 1, .int (nI j), .int (nI g), .int (20 - (2 * (am_iabs ((h 3 g) - (h 7 j)))))]) (st' := [.int (((20 - (2 * (am_iabs ((h 3 g) - (h 7 j))))) - 5) + 20)]) rfl ?_
        refine wp_ret rfl ?_
        have ej : pu_suitp (20 - (2 * (am_iabs ((h 3 g) - (h 7 j))))) (h 6 j) (h 7 j) (h 2 g) (h 4 g) (h 1 12) = (((20 - (2 * (am_iabs ((h 3 g) - (h 7 j))))) - 5) + 20) := by simp (decide := true) [pu_suitp, sw28, cq116]
        rw [ej] at kk
        exact kk
    · skip
      refine wp_run 2 (pc' := 129) (ls' := [.ref 1, .int (nI j), .int (nI g), .int (20 - (2 * (am_iabs ((h 3 g) - (h 7 j)))))]) (st' := [.ref 1, .int (20 - (2 * (am_iabs ((h 3 g) - (h 7 j)))))]) rfl ?_
      refine wp_getr 2 rfl rfl rfl ?_
      refine wp_run 1 (pc' := 133) (ls' := [.ref 1, .int (nI j), .int (nI g), .int (20 - (2 * (am_iabs ((h 3 g) - (h 7 j)))))]) (st' := [.int (nI g), .ref 2, .int (20 - (2 * (am_iabs ((h 3 g) - (h 7 j)))))]) rfl ?_
      refine wp_ald (h 2 g) rfl rfl rfl rfl (by omega) rfl ?_
      refine wp_run 2 (pc' := 136) (ls' := [.ref 1, .int (nI j), .int (nI g), .int (20 - (2 * (am_iabs ((h 3 g) - (h 7 j)))))]) (st' := [.ref 1, .int ((20 - (2 * (am_iabs ((h 3 g) - (h 7 j))))) + (h 2 g))]) rfl ?_
      refine wp_getr 4 rfl rfl rfl ?_
      refine wp_run 1 (pc' := 140) (ls' := [.ref 1, .int (nI j), .int (nI g), .int (20 - (2 * (am_iabs ((h 3 g) - (h 7 j)))))]) (st' := [.int (nI g), .ref 4, .int ((20 - (2 * (am_iabs ((h 3 g) - (h 7 j))))) + (h 2 g))]) rfl ?_
      refine wp_ald (h 4 g) rfl rfl rfl rfl (by omega) rfl ?_
      refine wp_run 1 (pc' := 142) (ls' := [.ref 1, .int (nI j), .int (nI g), .int (20 - (2 * (am_iabs ((h 3 g) - (h 7 j)))))]) (st' := [.int (((20 - (2 * (am_iabs ((h 3 g) - (h 7 j))))) + (h 2 g)) - (h 4 g))]) rfl ?_
      refine wp_ret rfl ?_
      have ej : pu_suitp (20 - (2 * (am_iabs ((h 3 g) - (h 7 j))))) (h 6 j) (h 7 j) (h 2 g) (h 4 g) (h 1 12) = (((20 - (2 * (am_iabs ((h 3 g) - (h 7 j))))) + (h 2 g)) - (h 4 g)) := by simp (decide := true) [pu_suitp, sw28]
      rw [ej] at kk
      exact kk
    · skip
      refine wp_run 2 (pc' := 145) (ls' := [.ref 1, .int (nI j), .int (nI g), .int (20 - (2 * (am_iabs ((h 3 g) - (h 7 j)))))]) (st' := [.int 2, .int (20 - (2 * (am_iabs ((h 3 g) - (h 7 j)))))]) rfl ?_
      refine wp_idiv rfl (by decide) ?_
      refine wp_ret rfl ?_
      have ej : pu_suitp (20 - (2 * (am_iabs ((h 3 g) - (h 7 j))))) (h 6 j) (h 7 j) (h 2 g) (h 4 g) (h 1 12) = ((20 - (2 * (am_iabs ((h 3 g) - (h 7 j))))) / 2) := by simp (decide := true) [pu_suitp, sw28]
      rw [ej] at kk
      exact kk
  · intro sw28
    refine wp_run 1 (pc' := 148) (ls' := [.ref 1, .int (nI j), .int (nI g), .int (20 - (2 * (am_iabs ((h 3 g) - (h 7 j)))))]) (st' := [.int (20 - (2 * (am_iabs ((h 3 g) - (h 7 j)))))]) rfl ?_
    refine wp_ret rfl ?_
    simp only [List.forall_mem_cons] at sw28
    have ej : pu_suitp (20 - (2 * (am_iabs ((h 3 g) - (h 7 j))))) (h 6 j) (h 7 j) (h 2 g) (h 4 g) (h 1 12) = (20 - (2 * (am_iabs ((h 3 g) - (h 7 j))))) := by simp (decide := true) [pu_suitp, sw28]
    rw [ej] at kk
    exact kk
theorem sp_yielding {L : Nat} {xs : Nat → Int32} {d ms b : Nat} {h : am_HI} {Q : am_Q} {n c : Nat} (hn7 : n ≤ 7) (hc7 : c ≤ 7) {j g : Nat} (hj : j < c) (hg : g < n) (hd : 1 ≤ d) (kk : Q (some (.int (pu_makes (h 6 j) (h 7 j) (h 2 g) (h 1 12)))) (am_S b) h) :
    am_wp L xs d 0 ms 19 0 [.ref 1, .int (nI j), .int (nI g), am_du] [] (am_S b) h Q := by
  unfold pu_makes at kk
  refine wp_run 1 (pc' := 1) (ls' := [.ref 1, .int (nI j), .int (nI g), am_du]) (st' := [.ref 1]) rfl ?_
  refine wp_getr 2 rfl rfl rfl ?_
  refine wp_run 1 (pc' := 5) (ls' := [.ref 1, .int (nI j), .int (nI g), am_du]) (st' := [.int (nI g), .ref 2]) rfl ?_
  refine wp_ald (h 2 g) rfl rfl rfl rfl (by omega) rfl ?_
  refine wp_run 1 (pc' := 7) (ls' := [.ref 1, .int (nI j), .int (nI g), am_du]) (st' := [.ref 1, .int (h 2 g)]) rfl ?_
  refine wp_geti (h 1 12) rfl rfl rfl rfl ?_
  refine wp_run 1 (pc' := 11) (ls' := [.ref 1, .int (nI j), .int (nI g), am_du]) (st' := [.int 3, .int (h 1 12), .int (h 2 g)]) rfl ?_
  refine wp_irem rfl (by decide) ?_
  refine wp_run 3 (pc' := 15) (ls' := [.ref 1, .int (nI j), .int (nI g), .int ((h 2 g) + (am_rem (h 1 12) 3))]) (st' := [.ref 1]) rfl ?_
  refine wp_getr 6 rfl rfl rfl ?_
  refine wp_run 1 (pc' := 19) (ls' := [.ref 1, .int (nI j), .int (nI g), .int ((h 2 g) + (am_rem (h 1 12) 3))]) (st' := [.int (nI j), .ref 6]) rfl ?_
  refine wp_ald (h 6 j) rfl rfl rfl rfl (by omega) rfl ?_
  refine wp_switch [(1, 60), (2, 64), (3, 90), (4, 68), (5, 79), (6, 85)] rfl rfl rfl ?_ ?_
  · refine List.forall_mem_cons.mpr ⟨fun (sw20 : (h 6 j) = _) => ?_, List.forall_mem_cons.mpr ⟨fun (sw20 : (h 6 j) = _) => ?_, List.forall_mem_cons.mpr ⟨fun (sw20 : (h 6 j) = _) => ?_, List.forall_mem_cons.mpr ⟨fun (sw20 : (h 6 j) = _) => ?_, List.forall_mem_cons.mpr ⟨fun (sw20 : (h 6 j) = _) => ?_, List.forall_mem_cons.mpr ⟨fun (sw20 : (h 6 j) = _) => ?_, fun _ h => absurd h List.not_mem_nil⟩⟩⟩⟩⟩⟩
    · skip
      refine wp_run 3 (pc' := 63) (ls' := [.ref 1, .int (nI j), .int (nI g), .int ((h 2 g) + (am_rem (h 1 12) 3))]) (st' := [.int (2 * ((h 2 g) + (am_rem (h 1 12) 3)))]) rfl ?_
      refine wp_ret rfl ?_
      have ej : pu_makep ((h 2 g) + (am_rem (h 1 12) 3)) (h 6 j) (h 7 j) = (2 * ((h 2 g) + (am_rem (h 1 12) 3))) := by simp (decide := true) [pu_makep, sw20]
      rw [ej] at kk
      exact kk
    · skip
      refine wp_run 2 (pc' := 66) (ls' := [.ref 1, .int (nI j), .int (nI g), .int ((h 2 g) + (am_rem (h 1 12) 3))]) (st' := [.int 2, .int ((h 2 g) + (am_rem (h 1 12) 3))]) rfl ?_
      refine wp_idiv rfl (by decide) ?_
      refine wp_ret rfl ?_
      have ej : pu_makep ((h 2 g) + (am_rem (h 1 12) 3)) (h 6 j) (h 7 j) = (((h 2 g) + (am_rem (h 1 12) 3)) / 2) := by simp (decide := true) [pu_makep, sw20]
      rw [ej] at kk
      exact kk
    · skip
      refine wp_run 1 (pc' := 91) (ls' := [.ref 1, .int (nI j), .int (nI g), .int ((h 2 g) + (am_rem (h 1 12) 3))]) (st' := [.int ((h 2 g) + (am_rem (h 1 12) 3))]) rfl ?_
      refine wp_ret rfl ?_
      have ej : pu_makep (h 2 g + am_rem (h 1 12) 3) (h 6 j) (h 7 j) = ((h 2 g) + (am_rem (h 1 12) 3)) := by simp (decide := true) [pu_makep, sw20]
      rw [ej] at kk
      exact kk
    · skip
      refine wp_run 4 (pc' := 72) (ls' := [.ref 1, .int (nI j), .int (nI g), .int ((h 2 g) + (am_rem (h 1 12) 3))]) (st' := [.ref 1, .int (2 * ((h 2 g) + (am_rem (h 1 12) 3)))]) rfl ?_
      refine wp_getr 7 rfl rfl rfl ?_
      refine wp_run 1 (pc' := 76) (ls' := [.ref 1, .int (nI j), .int (nI g), .int ((h 2 g) + (am_rem (h 1 12) 3))]) (st' := [.int (nI j), .ref 7, .int (2 * ((h 2 g) + (am_rem (h 1 12) 3)))]) rfl ?_
      refine wp_ald (h 7 j) rfl rfl rfl rfl (by omega) rfl ?_
      refine wp_run 1 (pc' := 78) (ls' := [.ref 1, .int (nI j), .int (nI g), .int ((h 2 g) + (am_rem (h 1 12) 3))]) (st' := [.int ((2 * ((h 2 g) + (am_rem (h 1 12) 3))) - (h 7 j))]) rfl ?_
      refine wp_ret rfl ?_
      have ej : pu_makep ((h 2 g) + (am_rem (h 1 12) 3)) (h 6 j) (h 7 j) = ((2 * ((h 2 g) + (am_rem (h 1 12) 3))) - (h 7 j)) := by simp (decide := true) [pu_makep, sw20]
      rw [ej] at kk
      exact kk
    · skip
      refine wp_run 2 (pc' := 81) (ls' := [.ref 1, .int (nI j), .int (nI g), .int ((h 2 g) + (am_rem (h 1 12) 3))]) (st' := [.int 2, .int ((h 2 g) + (am_rem (h 1 12) 3))]) rfl ?_
      refine wp_idiv rfl (by decide) ?_
      refine wp_run 2 (pc' := 84) (ls' := [.ref 1, .int (nI j), .int (nI g), .int ((h 2 g) + (am_rem (h 1 12) 3))]) (st' := [.int ((((h 2 g) + (am_rem (h 1 12) 3)) / 2) + 3)]) rfl ?_
      refine wp_ret rfl ?_
      have ej : pu_makep ((h 2 g) + (am_rem (h 1 12) 3)) (h 6 j) (h 7 j) = ((((h 2 g) + (am_rem (h 1 12) 3)) / 2) + 3) := by simp (decide := true) [pu_makep, sw20]
      rw [ej] at kk
      exact kk
    · skip
      refine wp_run 3 (pc' := 89) (ls' := [.ref 1, .int (nI j), .int (nI g), .int ((h 2 g) + (am_rem (h 1 12) 3))]) (st' := [.int (30 - ((h 2 g) + (am_rem (h 1 12) 3)))]) rfl ?_
      refine wp_ret rfl ?_
      have ej : pu_makep ((h 2 g) + (am_rem (h 1 12) 3)) (h 6 j) (h 7 j) = (30 - ((h 2 g) + (am_rem (h 1 12) 3))) := by simp (decide := true) [pu_makep, sw20]
      rw [ej] at kk
      exact kk
  · intro sw20
    refine wp_run 1 (pc' := 91) (ls' := [.ref 1, .int (nI j), .int (nI g), .int ((h 2 g) + (am_rem (h 1 12) 3))]) (st' := [.int ((h 2 g) + (am_rem (h 1 12) 3))]) rfl ?_
    refine wp_ret rfl ?_
    simp only [List.forall_mem_cons] at sw20
    have ej : pu_makep ((h 2 g) + (am_rem (h 1 12) 3)) (h 6 j) (h 7 j) = ((h 2 g) + (am_rem (h 1 12) 3)) := by simp (decide := true) [pu_makep, sw20]
    rw [ej] at kk
    exact kk
theorem sp_liking {L : Nat} {xs : Nat → Int32} {d ms b : Nat} {h : am_HI} {Q : am_Q} {n c t : Nat} {s0 s1 : Int32} {p0 p1 : List Int32} (H : am_hs h n c t s0 s1 p0 p1) {j g : Nat} (hj : j < c) (hg : g < n) (hd : 3 ≤ d) (kk : ∀ gz, Q (some (.int (hs_lk h s0 p0 j g))) (am_S b) (am_ov h [17, 18] gz)) :
    am_wp L xs d 0 ms 36 0 [.ref 1, .int (nI j), .int (nI g)] [] (am_S b) h Q := by
  have hn7 := H.2.2.2.1
  have hc7 := H.2.2.2.2.1
  refine wp_run 1 (pc' := 1) (ls' := [.ref 1, .int (nI j), .int (nI g)]) (st' := [.ref 1]) rfl ?_
  refine wp_getr 13 rfl rfl rfl ?_
  refine wp_run 1 (pc' := 5) (ls' := [.ref 1, .int (nI j), .int (nI g)]) (st' := [.int 0, .ref 13]) rfl ?_
  refine wp_aald (r := 14) rfl rfl (Or.inl rfl) rfl (by decide) rfl rfl ?_
  refine wp_run 3 (pc' := 9) (ls' := [.ref 1, .int (nI j), .int (nI g)]) (st' := [.int (nI g), .int (nI j), .ref 1, .ref 14]) rfl ?_
  refine wp_callV (o := 1) (as := [.int (nI j), .int (nI g)]) (rest := [.ref 14]) (els := [.ref 1, .int (nI j), .int (nI g), am_du]) rfl rfl rfl rfl rfl rfl rfl rfl (by omega) ?_
  refine sp_suiting H.2.2.2.1 H.2.2.2.2.1 hj hg (H.2.2.2.2.2.2.2.2.1 g hg) (H.2.2.2.2.2.2.2.2.2.1 j hj) (by omega) ?_
  show am_wp L xs _ _ _ _ 12 [.ref 1, .int (nI j), .int (nI g)] [.int (pu_suits (h 6 j) (h 7 j) (h 2 g) (h 3 g) (h 4 g) (h 1 12)), .ref 14] (am_S b) h _
  refine wp_run 1 (pc' := 13) (ls' := [.ref 1, .int (nI j), .int (nI g)]) (st' := [.ref 1, .int (pu_suits (h 6 j) (h 7 j) (h 2 g) (h 3 g) (h 4 g) (h 1 12)), .ref 14]) rfl ?_
  refine wp_getr 4 rfl rfl rfl ?_
  refine wp_run 1 (pc' := 17) (ls' := [.ref 1, .int (nI j), .int (nI g)]) (st' := [.int (nI g), .ref 4, .int (pu_suits (h 6 j) (h 7 j) (h 2 g) (h 3 g) (h 4 g) (h 1 12)), .ref 14]) rfl ?_
  refine wp_ald (h 4 g) rfl rfl rfl rfl (by omega) rfl ?_
  refine wp_run 1 (pc' := 19) (ls' := [.ref 1, .int (nI j), .int (nI g)]) (st' := [.ref 1, .int (h 4 g), .int (pu_suits (h 6 j) (h 7 j) (h 2 g) (h 3 g) (h 4 g) (h 1 12)), .ref 14]) rfl ?_
  refine wp_geti (h 1 12) rfl rfl rfl rfl ?_
  refine wp_run 1 (pc' := 24) (ls' := [.ref 1, .int (nI j), .int (nI g)]) (st' := [.int 7, .int (h 1 12), .int (h 4 g), .int (pu_suits (h 6 j) (h 7 j) (h 2 g) (h 3 g) (h 4 g) (h 1 12)), .ref 14]) rfl ?_
  refine wp_irem rfl (by decide) ?_
  refine wp_callV (o := 14) (as := [.int (pu_suits (h 6 j) (h 7 j) (h 2 g) (h 3 g) (h 4 g) (h 1 12)), .int (h 4 g), .int (am_rem (h 1 12) 7)]) (rest := []) (els := [.ref 14, .int (pu_suits (h 6 j) (h 7 j) (h 2 g) (h 3 g) (h 4 g) (h 1 12)), .int (h 4 g), .int (am_rem (h 1 12) 7), am_du, am_du, am_du]) rfl rfl rfl rfl rfl rfl rfl rfl (by omega) ?_
  refine sp_gives14 H.2.2.2.2.2.2.1.1 H.2.2.2.2.2.2.1.2.1 H.2.2.2.2.2.2.1.2.2.1 H.2.2.2.2.2.2.1.2.2.2.1 H.2.2.2.2.2.2.1.2.2.2.2.1 (by decide) H.2.2.2.2.2.2.1.2.2.2.2.2.1 H.2.2.2.2.2.2.1.2.2.2.2.2.2 (by omega) (fun gz => ?_)
  show am_wp L xs _ _ _ _ 28 [.ref 1, .int (nI j), .int (nI g)] [.int (pu_gv s0 p0 (pu_suits (h 6 j) (h 7 j) (h 2 g) (h 3 g) (h 4 g) (h 1 12)) (h 4 g) (am_rem (h 1 12) 7) 0 99)] (am_S b) (am_ov h [17, 18] gz) _
  refine wp_ret rfl ?_
  exact kk gz
theorem sp_making {L : Nat} {xs : Nat → Int32} {d ms b : Nat} {h : am_HI} {Q : am_Q} {n c t : Nat} {s0 s1 : Int32} {p0 p1 : List Int32} (H : am_hs h n c t s0 s1 p0 p1) {j g : Nat} (hj : j < c) (hg : g < n) (hd : 3 ≤ d) (kk : ∀ gz, Q (some (.int (hs_mk h s1 p1 j g))) (am_S b) (am_ov h [22, 23] gz)) :
    am_wp L xs d 0 ms 18 0 [.ref 1, .int (nI j), .int (nI g)] [] (am_S b) h Q := by
  have hn7 := H.2.2.2.1
  have hc7 := H.2.2.2.2.1
  refine wp_run 1 (pc' := 1) (ls' := [.ref 1, .int (nI j), .int (nI g)]) (st' := [.ref 1]) rfl ?_
  refine wp_getr 13 rfl rfl rfl ?_
  refine wp_run 1 (pc' := 5) (ls' := [.ref 1, .int (nI j), .int (nI g)]) (st' := [.int 1, .ref 13]) rfl ?_
  refine wp_aald (r := 19) rfl rfl (Or.inl rfl) rfl (by decide) rfl rfl ?_
  refine wp_run 3 (pc' := 9) (ls' := [.ref 1, .int (nI j), .int (nI g)]) (st' := [.int (nI g), .int (nI j), .ref 1, .ref 19]) rfl ?_
  refine wp_callV (o := 1) (as := [.int (nI j), .int (nI g)]) (rest := [.ref 19]) (els := [.ref 1, .int (nI j), .int (nI g), am_du]) rfl rfl rfl rfl rfl rfl rfl rfl (by omega) ?_
  refine sp_yielding H.2.2.2.1 H.2.2.2.2.1 hj hg (by omega) ?_
  show am_wp L xs _ _ _ _ 12 [.ref 1, .int (nI j), .int (nI g)] [.int (pu_makes (h 6 j) (h 7 j) (h 2 g) (h 1 12)), .ref 19] (am_S b) h _
  refine wp_run 1 (pc' := 13) (ls' := [.ref 1, .int (nI j), .int (nI g)]) (st' := [.ref 1, .int (pu_makes (h 6 j) (h 7 j) (h 2 g) (h 1 12)), .ref 19]) rfl ?_
  refine wp_getr 2 rfl rfl rfl ?_
  refine wp_run 1 (pc' := 17) (ls' := [.ref 1, .int (nI j), .int (nI g)]) (st' := [.int (nI g), .ref 2, .int (pu_makes (h 6 j) (h 7 j) (h 2 g) (h 1 12)), .ref 19]) rfl ?_
  refine wp_ald (h 2 g) rfl rfl rfl rfl (by omega) rfl ?_
  refine wp_run 3 (pc' := 21) (ls' := [.ref 1, .int (nI j), .int (nI g)]) (st' := [.int (nI g), .int (nI j), .ref 1, .int (h 2 g), .int (pu_makes (h 6 j) (h 7 j) (h 2 g) (h 1 12)), .ref 19]) rfl ?_
  refine wp_callV (o := 1) (as := [.int (nI j), .int (nI g)]) (rest := [.int (h 2 g), .int (pu_makes (h 6 j) (h 7 j) (h 2 g) (h 1 12)), .ref 19]) (els := [.ref 1, .int (nI j), .int (nI g)]) rfl rfl rfl rfl rfl rfl rfl rfl (by omega) ?_
  refine sp_isOwn (c := c) H.2.1 hc7 (by omega) ?_ ?_
  · skip
    intro j2 hj2 ej2 eow
    have ej2 : j = j2 := pu_inj (by omega) (by omega) ej2
    subst ej2
    have eif : (if h 8 j = nI g then (1 : Int32) else 0) = 1 := if_pos eow
    show am_wp L xs _ _ _ _ 24 [.ref 1, .int (nI j), .int (nI g)] [.int 1, .int (h 2 g), .int (pu_makes (h 6 j) (h 7 j) (h 2 g) (h 1 12)), .ref 19] (am_S b) h _
    refine wp_if_f rfl (show ¬ ((1 : Int32) = 0) from by decide) ?_
    refine wp_run 2 (pc' := 32) (ls' := [.ref 1, .int (nI j), .int (nI g)]) (st' := [.int 1, .int (h 2 g), .int (pu_makes (h 6 j) (h 7 j) (h 2 g) (h 1 12)), .ref 19]) rfl ?_
    refine wp_callV (o := 19) (as := [.int (pu_makes (h 6 j) (h 7 j) (h 2 g) (h 1 12)), .int (h 2 g), .int 1]) (rest := []) (els := [.ref 19, .int (pu_makes (h 6 j) (h 7 j) (h 2 g) (h 1 12)), .int (h 2 g), .int 1, am_du, am_du, am_du]) rfl rfl rfl rfl rfl rfl rfl rfl (by omega) ?_
    refine sp_gives19 H.2.2.2.2.2.2.2.1.1 H.2.2.2.2.2.2.2.1.2.1 H.2.2.2.2.2.2.2.1.2.2.1 H.2.2.2.2.2.2.2.1.2.2.2.1 H.2.2.2.2.2.2.2.1.2.2.2.2.1 (by decide) H.2.2.2.2.2.2.2.1.2.2.2.2.2.1 H.2.2.2.2.2.2.2.1.2.2.2.2.2.2 (by omega) (fun gz => ?_)
    show am_wp L xs _ _ _ _ 35 [.ref 1, .int (nI j), .int (nI g)] [.int (pu_gv s1 p1 (pu_makes (h 6 j) (h 7 j) (h 2 g) (h 1 12)) (h 2 g) 1 (-99) 99)] (am_S b) (am_ov h [22, 23] gz) _
    refine wp_ret rfl ?_
    have := kk gz
    unfold hs_mk at this
    rw [eif] at this
    exact this
  · skip
    intro eow
    have eif : (if h 8 j = nI g then (1 : Int32) else 0) = 0 := if_neg (eow j hj rfl)
    show am_wp L xs _ _ _ _ 24 [.ref 1, .int (nI j), .int (nI g)] [.int 0, .int (h 2 g), .int (pu_makes (h 6 j) (h 7 j) (h 2 g) (h 1 12)), .ref 19] (am_S b) h _
    refine wp_if_t rfl (show (0 : Int32) = 0 from by decide) ?_
    refine wp_run 1 (pc' := 32) (ls' := [.ref 1, .int (nI j), .int (nI g)]) (st' := [.int 0, .int (h 2 g), .int (pu_makes (h 6 j) (h 7 j) (h 2 g) (h 1 12)), .ref 19]) rfl ?_
    refine wp_callV (o := 19) (as := [.int (pu_makes (h 6 j) (h 7 j) (h 2 g) (h 1 12)), .int (h 2 g), .int 0]) (rest := []) (els := [.ref 19, .int (pu_makes (h 6 j) (h 7 j) (h 2 g) (h 1 12)), .int (h 2 g), .int 0, am_du, am_du, am_du]) rfl rfl rfl rfl rfl rfl rfl rfl (by omega) ?_
    refine sp_gives19 H.2.2.2.2.2.2.2.1.1 H.2.2.2.2.2.2.2.1.2.1 H.2.2.2.2.2.2.2.1.2.2.1 H.2.2.2.2.2.2.2.1.2.2.2.1 H.2.2.2.2.2.2.2.1.2.2.2.2.1 (by decide) H.2.2.2.2.2.2.2.1.2.2.2.2.2.1 H.2.2.2.2.2.2.2.1.2.2.2.2.2.2 (by omega) (fun gz => ?_)
    show am_wp L xs _ _ _ _ 35 [.ref 1, .int (nI j), .int (nI g)] [.int (pu_gv s1 p1 (pu_makes (h 6 j) (h 7 j) (h 2 g) (h 1 12)) (h 2 g) 0 (-99) 99)] (am_S b) (am_ov h [22, 23] gz) _
    refine wp_ret rfl ?_
    have := kk gz
    unfold hs_mk at this
    rw [eif] at this
    exact this
theorem sp_makingNow {L : Nat} {xs : Nat → Int32} {d ms b : Nat} {h : am_HI} {Q : am_Q} {n c t : Nat} {s0 s1 : Int32} {p0 p1 : List Int32} (H : am_hs h n c t s0 s1 p0 p1) {g : Nat} (hg : g < n) (hd : 4 ≤ d) (kk : ∀ gz, Q (some (.int (hs_mkn h s1 p1 g))) (am_S b) (am_ov h [22, 23] gz)) :
    am_wp L xs d 0 ms 16 0 [.ref 1, .int (nI g)] [] (am_S b) h Q := by
  have hn7 := H.2.2.2.1
  have hc7 := H.2.2.2.2.1
  refine wp_run 2 (pc' := 2) (ls' := [.ref 1, .int (nI g)]) (st' := [.ref 1, .ref 1]) rfl ?_
  refine wp_getr 5 rfl rfl rfl ?_
  refine wp_run 1 (pc' := 6) (ls' := [.ref 1, .int (nI g)]) (st' := [.int (nI g), .ref 5, .ref 1]) rfl ?_
  refine wp_ald (h 5 g) rfl rfl rfl rfl (by omega) rfl ?_
  refine wp_callV (o := 1) (as := [.int (h 5 g)]) (rest := []) (els := [.ref 1, .int (h 5 g)]) rfl rfl rfl rfl rfl rfl rfl rfl (by omega) ?_
  refine sp_hasCoat (c := c) H.2.1 hc7 (by omega) ?_ ?_
  · skip
    intro j hj ej
    show am_wp L xs _ _ _ _ 10 [.ref 1, .int (nI g)] [.int 1] (am_S b) h _
    refine wp_if_f rfl (show ¬ ((1 : Int32) = 0) from by decide) ?_
    refine wp_run 2 (pc' := 15) (ls' := [.ref 1, .int (nI g)]) (st' := [.ref 1, .ref 1]) rfl ?_
    refine wp_getr 5 rfl rfl rfl ?_
    refine wp_run 1 (pc' := 19) (ls' := [.ref 1, .int (nI g)]) (st' := [.int (nI g), .ref 5, .ref 1]) rfl ?_
    refine wp_ald (nI j) ej rfl rfl rfl (by omega) rfl ?_
    refine wp_run 1 (pc' := 21) (ls' := [.ref 1, .int (nI g)]) (st' := [.int (nI g), .int (nI j), .ref 1]) rfl ?_
    refine wp_callV (o := 1) (as := [.int (nI j), .int (nI g)]) (rest := []) (els := [.ref 1, .int (nI j), .int (nI g)]) rfl rfl rfl rfl rfl rfl rfl rfl (by omega) ?_
    refine sp_making H hj hg (by omega) (fun gz => ?_)
    show am_wp L xs _ _ _ _ 24 [.ref 1, .int (nI g)] [.int (hs_mk h s1 p1 j g)] (am_S b) (am_ov h [22, 23] gz) _
    refine wp_run 1 (pc' := 28) (ls' := [.ref 1, .int (nI g)]) (st' := [.int (hs_mk h s1 p1 j g)]) rfl ?_
    refine wp_ret rfl ?_
    have := kk gz
    unfold hs_mkn at this
    rw [ej, if_neg (pu_ne1 (by omega)), nI_clamp (by omega)] at this
    exact this
  · skip
    intro hno
    show am_wp L xs _ _ _ _ 10 [.ref 1, .int (nI g)] [.int 0] (am_S b) h _
    refine wp_if_t rfl (show (0 : Int32) = 0 from by decide) ?_
    refine wp_run 1 (pc' := 28) (ls' := [.ref 1, .int (nI g)]) (st' := [.int 0]) rfl ?_
    refine wp_ret rfl ?_
    have e5 : h 5 g = -1 := by rcases H.2.2.2.2.2.2.2.2.2.2 g hg with q | ⟨j, hj, q⟩; exact q; exact absurd q (hno j hj)
    have := kk h
    unfold hs_mkn at this
    rw [if_pos e5, ← am_ov_self] at this
    exact this
