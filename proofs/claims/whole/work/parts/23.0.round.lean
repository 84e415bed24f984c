/-! leaving in a round, thought: the class's side -/
def ab_nx (P : Nat) (v : Int32) : Nat := if v = -1 then P else pu_clr P v.toNatClampNeg
def ab_P (LK : Nat → Nat → Int32) (c n f : Nat) : Nat → Nat
  | 0 => 2 ^ c - 1
  | k + 1 => ab_nx (ab_P LK c n f k) (pu_pk (fun j => (ab_P LK c n f k).testBit j) (fun j => LK j ((f + k) % n)) c)
/-- what the k-th who leaves gets -/
def ab_G (LK : Nat → Nat → Int32) (c n f k : Nat) : Int32 := pu_pk (fun j => (ab_P LK c n f k).testBit j) (fun j => LK j ((f + k) % n)) c
def ab_got (LK : Nat → Nat → Int32) (c n f g : Nat) : Int32 := ab_G LK c n f ((g + n - f) % n)
theorem ab_G_or {LK : Nat → Nat → Int32} {c n f k : Nat} (hc : c ≤ 7) : ab_G LK c n f k = -1 ∨ ∃ j, j < c ∧ ab_G LK c n f k = nI j := pu_pick_or (pu_pk_ok _ _ c hc)
theorem ab_P_s {LK : Nat → Nat → Int32} {c n f k : Nat} : ab_P LK c n f (k + 1) = ab_nx (ab_P LK c n f k) (ab_G LK c n f k) := rfl
theorem ab_P_s1 {LK : Nat → Nat → Int32} {c n f k j : Nat} (h : ab_G LK c n f k = nI j) (hj : j < 7) : ab_P LK c n f (k + 1) = pu_clr (ab_P LK c n f k) j := by
  rw [ab_P_s, h]
  unfold ab_nx
  rw [if_neg (pu_ne1 (by omega)), nI_clamp (by omega)]
theorem ab_P_s0 {LK : Nat → Nat → Int32} {c n f k : Nat} (h : ab_G LK c n f k = -1) : ab_P LK c n f (k + 1) = ab_P LK c n f k := by
  rw [ab_P_s, h]
  exact if_pos rfl
theorem ab_P_lt {LK : Nat → Nat → Int32} {c n f : Nat} (hc : c ≤ 7) : ∀ k, ab_P LK c n f k < 128
  | 0 => pu_all_lt c (by omega)
  | k + 1 => by
    have ih := ab_P_lt (LK := LK) (n := n) (f := f) hc k
    rcases ab_G_or (LK := LK) (n := n) (f := f) (k := k) hc with e | ⟨j, hj, e⟩
    · rw [ab_P_s0 e]; exact ih
    · rw [ab_P_s1 e (by omega)]; exact pu_clr_lt _ ih j (by omega)
theorem ab_rd_ne : ∀ n, n < 8 → ∀ f, f < n → ∀ i, i < n → ∀ k, k < i → (f + k) % n ≠ (f + i) % n := by decide +kernel
theorem ab_rd_on : ∀ n, n < 8 → ∀ f, f < n → ∀ g, g < n → (g + n - f) % n < n ∧ (f + (g + n - f) % n) % n = g := by decide +kernel
/-- the rows that are filled in a round -/
def ab_rr (LK : Nat → Nat → Int32) (c n f i : Nat) (r : Nat → Int32) : Prop := ∀ k, k < i → r ((f + k) % n) = ab_G LK c n f k
theorem ab_rr_s {LK : Nat → Nat → Int32} {c n f i g : Nat} {r : Nat → Int32} (hn : n ≤ 7) (hf : f < n) (hi : i < n) (h : ab_rr LK c n f i r) (hg : g = (f + i) % n) : ab_rr LK c n f (i + 1) (upd r g (ab_G LK c n f i)) := by
  intro k hk
  rcases Nat.lt_succ_iff_lt_or_eq.mp hk with q | q
  · rw [pk_un (by rw [hg]; exact ab_rd_ne n (by omega) f hf i hi k q)]
    exact h k q
  · rw [q, hg, pk_us]
theorem ab_rr_n {LK : Nat → Nat → Int32} {c n f : Nat} {r : Nat → Int32} (hn : n ≤ 7) (hf : f < n) (h : ab_rr LK c n f n r) {g : Nat} (hg : g < n) : r g = ab_got LK c n f g := by
  have q := ab_rd_on n (by omega) f hf g hg
  have e := h _ q.1
  rw [q.2] at e
  exact e
theorem am_ur_ur (h : am_HI) (a : Nat) (f g : Nat → Int32) : am_ur (am_ur h a f) a g = am_ur h a g := by
  funext q j
  unfold am_ur
  by_cases e : q = a <;> simp [e]
theorem pu_and_m1 (x : Int32) : x &&& -1 = x := Int32.and_neg_one
theorem lp_round {L : Nat} {xs : Nat → Int32} {d ms b : Nat} {h : am_HI} {Q : am_Q} {X : am_HI} {n c f : Nat} {LK : Nat → Nat → Int32} (hn : X 1 10 = nI n) (hn7 : n ≤ 7) (hc : X 1 11 = nI c) (hc7 : c ≤ 7) (hf : f < n) (hb : X 47 1 = nI c) (hl : ∀ g, g < n → ∀ j, j < c → X 48 (g * 7 + j) = LK j g) (hl0 : ∀ j g, 0 ≤ LK j g) (hd : 2 ≤ d) (kk : ∀ r, (∀ g, g < n → r g = ab_got LK c n f g) → Q none (am_S b) (am_ur X 53 r)) :
    ∀ (m i : Nat) (r : Nat → Int32) (u6 : Value) (hr : ab_rr LK c n f i r), i + m = n → am_wp L xs d 0 ms 94 9 [.ref 49, .ref 1, .ref 47, .int (nI f), .int (nI (ab_P LK c n f i)), .int (nI i), u6] [] (am_S b) (am_ur X 53 r) Q := by
  intro m
  induction m with
  | zero =>
    intro i r u6 hr hi
    refine wp_run 2 (pc' := 12) (ls' := [.ref 49, .ref 1, .ref 47, .int (nI f), .int (nI (ab_P LK c n f i)), .int (nI i), u6]) (st' := [.ref 1, .int (nI i)]) rfl ?_
    refine wp_geti (a := 10) (nI n) hn rfl rfl rfl ?_
    refine wp_icmp_t rfl (show (nI n) ≤ (nI i) from (nI_leI (a := n) (b := i) (by omega) (by omega)).mpr (by omega)) ?_
    refine wp_retv rfl ?_
    have e9 : i = n := by omega
    rw [e9] at hr
    exact kk r (fun g hg => ab_rr_n hn7 hf hr hg)
  | succ m ih =>
    intro i r u6 hr hi
    refine wp_run 2 (pc' := 12) (ls' := [.ref 49, .ref 1, .ref 47, .int (nI f), .int (nI (ab_P LK c n f i)), .int (nI i), u6]) (st' := [.ref 1, .int (nI i)]) rfl ?_
    refine wp_geti (a := 10) (nI n) hn rfl rfl rfl ?_
    refine wp_icmp_f rfl (show ¬ ((nI n) ≤ (nI i)) from mt (nI_leI (a := n) (b := i) (by omega) (by omega)).mp (by omega)) ?_
    refine wp_run 4 (pc' := 23) (ls' := [.ref 49, .ref 1, .ref 47, .int (nI f), .int (nI (ab_P LK c n f i)), .int (nI i), u6]) (st' := [.ref 1, .int ((nI f) + (nI i))]) rfl ?_
    rw [show (((nI f) + (nI i)) : Int32) = (nI (f + i)) from nI_add f i]
    refine wp_geti (a := 10) (nI n) hn rfl rfl rfl ?_
    refine wp_irem rfl (nI_ne0 (by omega) (by omega)) ?_
    obtain ⟨g, hg, hge⟩ : ∃ g, g < n ∧ g = (f + i) % n := ⟨_, Nat.mod_lt _ (by omega), rfl⟩
    rw [show ((am_rem (nI (f + i)) (nI n)) : Int32) = nI g from (pk_rem (by omega) (by omega) (by omega)).trans (by rw [hge])]
    refine wp_run 2 (pc' := 30) (ls' := [.ref 49, .ref 1, .ref 47, .int (nI f), .int (nI (ab_P LK c n f i)), .int (nI i), .int (nI g)]) (st' := [.ref 49]) rfl ?_
    refine wp_getr 53 rfl rfl rfl ?_
    refine wp_run 4 (pc' := 40) (ls' := [.ref 49, .ref 1, .ref 47, .int (nI f), .int (nI (ab_P LK c n f i)), .int (nI i), .int (nI g)]) (st' := [.int (nI (ab_P LK c n f i)), .int (nI g), .ref 47, .int (nI g), .ref 53]) rfl ?_
    refine wp_callV (o := 47) (as := [.int (nI g), .int (nI (ab_P LK c n f i))]) (rest := [.int (nI g), .ref 53]) (els := [.ref 47, .int (nI g), .int (nI (ab_P LK c n f i)), am_du, am_du, am_du, am_du]) rfl rfl rfl rfl rfl rfl rfl rfl (by omega) ?_
    refine sp_pick (h := (am_ur X 53 r)) (P := (ab_P LK c n f i)) (g := g) (c := c) hb hc7 (by omega) (ab_P_lt hc7 i) (fun j hj => (show 0 ≤ X 48 (g * 7 + j) from by rw [hl g hg j hj]; exact hl0 j g)) (fun v1 hp1 => ?_)
    have ev : ab_G LK c n f i = v1 := pu_pk_of hc7 hp1 (fun k hk => rfl) (fun k hk => by rw [← hge]; exact (hl g hg k hk).symm)
    subst ev
    show am_wp L xs _ _ _ _ 43 [.ref 49, .ref 1, .ref 47, .int (nI f), .int (nI (ab_P LK c n f i)), .int (nI i), .int (nI g)] [.int (ab_G LK c n f i), .int (nI g), .ref 53] (am_S b) (am_ur X 53 r) _
    rcases ab_G_or (LK := LK) (n := n) (f := f) (k := i) hc7 with e5 | ⟨j, hj, e5⟩
    · skip
      rw [e5]
      refine wp_ast rfl rfl rfl (by omega) rfl ?_
      refine wp_run 2 (pc' := 47) (ls' := [.ref 49, .ref 1, .ref 47, .int (nI f), .int (nI (ab_P LK c n f i)), .int (nI i), .int (nI g)]) (st' := [.ref 49, .int (nI (ab_P LK c n f i))]) rfl ?_
      refine wp_getr 53 rfl rfl rfl ?_
      refine wp_run 1 (pc' := 52) (ls' := [.ref 49, .ref 1, .ref 47, .int (nI f), .int (nI (ab_P LK c n f i)), .int (nI i), .int (nI g)]) (st' := [.int (nI g), .ref 53, .int (nI (ab_P LK c n f i))]) rfl ?_
      refine wp_ald (i := g) (-1) (am_u_at _ _ _ _) rfl rfl rfl (by omega) rfl ?_
      refine wp_callS (as := [.int (-1)]) (rest := [.int (nI (ab_P LK c n f i))]) (els := [.int (-1)]) rfl rfl rfl rfl rfl rfl rfl rfl (by omega) ?_
      refine wp_run 1 (pc' := 1) (ls' := [.int (-1)]) (st' := [.int (-1)]) rfl ?_
      refine wp_if_f rfl (show ¬ (0 ≤ ((-1) : Int32)) from by decide) ?_
      refine wp_run 2 (pc' := 11) (ls' := [.int (-1)]) (st' := [.int 0]) rfl ?_
      refine wp_ret rfl ?_
      show am_wp L xs _ _ _ _ 56 [.ref 49, .ref 1, .ref 47, .int (nI f), .int (nI (ab_P LK c n f i)), .int (nI i), .int (nI g)] [.int 0, .int (nI (ab_P LK c n f i))] (am_S b) (am_u (am_ur X 53 r) 53 g (-1)) _
      refine wp_run 6 (pc' := 9) (ls' := [.ref 49, .ref 1, .ref 47, .int (nI f), .int ((nI (ab_P LK c n f i)) &&& (0 ^^^ (-1))), .int ((nI i) + 1), .int (nI g)]) (st' := []) rfl ?_
      rw [show ((0 ^^^ (-1)) : Int32) = (-1) from by decide]
      rw [show (((nI i) + 1) : Int32) = (nI (i + 1)) from nI_add i 1]
      rw [show (((nI (ab_P LK c n f i)) &&& (-1)) : Int32) = nI (ab_P LK c n f (i + 1)) from by rw [pu_and_m1, ab_P_s0 e5]]
      rw [am_ur_u]
      refine ih (i + 1) _ _ ?_ (by omega)
      have q := ab_rr_s hn7 hf (by omega) hr hge
      rw [e5] at q
      exact q
    · skip
      rw [e5]
      refine wp_ast rfl rfl rfl (by omega) rfl ?_
      refine wp_run 2 (pc' := 47) (ls' := [.ref 49, .ref 1, .ref 47, .int (nI f), .int (nI (ab_P LK c n f i)), .int (nI i), .int (nI g)]) (st' := [.ref 49, .int (nI (ab_P LK c n f i))]) rfl ?_
      refine wp_getr 53 rfl rfl rfl ?_
      refine wp_run 1 (pc' := 52) (ls' := [.ref 49, .ref 1, .ref 47, .int (nI f), .int (nI (ab_P LK c n f i)), .int (nI i), .int (nI g)]) (st' := [.int (nI g), .ref 53, .int (nI (ab_P LK c n f i))]) rfl ?_
      refine wp_ald (i := g) (nI j) (am_u_at _ _ _ _) rfl rfl rfl (by omega) rfl ?_
      refine wp_callS (as := [.int (nI j)]) (rest := [.int (nI (ab_P LK c n f i))]) (els := [.int (nI j)]) rfl rfl rfl rfl rfl rfl rfl rfl (by omega) ?_
      refine wp_run 1 (pc' := 1) (ls' := [.int (nI j)]) (st' := [.int (nI j)]) rfl ?_
      refine wp_if_t rfl (show 0 ≤ (nI j) from (nI_leI (a := 0) (b := j) (by omega) (by omega)).mpr (by omega)) ?_
      refine wp_run 1 (pc' := 9) (ls' := [.int (nI j)]) (st' := [.int 1]) rfl ?_
      refine wp_run 2 (pc' := 11) (ls' := [.int (nI j)]) (st' := [.int (1 <<< ((nI j) &&& 31))]) rfl ?_
      refine wp_ret rfl ?_
      show am_wp L xs _ _ _ _ 56 [.ref 49, .ref 1, .ref 47, .int (nI f), .int (nI (ab_P LK c n f i)), .int (nI i), .int (nI g)] [.int (1 <<< ((nI j) &&& 31)), .int (nI (ab_P LK c n f i))] (am_S b) (am_u (am_ur X 53 r) 53 g (nI j)) _
      refine wp_run 6 (pc' := 9) (ls' := [.ref 49, .ref 1, .ref 47, .int (nI f), .int ((nI (ab_P LK c n f i)) &&& ((1 <<< ((nI j) &&& 31)) ^^^ (-1))), .int ((nI i) + 1), .int (nI g)]) (st' := []) rfl ?_
      rw [show (((nI i) + 1) : Int32) = (nI (i + 1)) from nI_add i 1]
      rw [show (((nI (ab_P LK c n f i)) &&& ((1 <<< ((nI j) &&& 31)) ^^^ (-1))) : Int32) = nI (ab_P LK c n f (i + 1)) from by rw [pu_clr_i _ (ab_P_lt hc7 i) j (by omega), ab_P_s1 e5 (by omega)]]
      rw [am_ur_u]
      refine ih (i + 1) _ _ ?_ (by omega)
      have q := ab_rr_s hn7 hf (by omega) hr hge
      rw [e5] at q
      exact q
theorem sp_round {L : Nat} {xs : Nat → Int32} {d ms b : Nat} {h : am_HI} {Q : am_Q} {X : am_HI} {n c f : Nat} {LK : Nat → Nat → Int32} (hn : X 1 10 = nI n) (hn7 : n ≤ 7) (hc : X 1 11 = nI c) (hc7 : c ≤ 7) (hf : f < n) (hb : X 47 1 = nI c) (hl : ∀ g, g < n → ∀ j, j < c → X 48 (g * 7 + j) = LK j g) (hl0 : ∀ j g, 0 ≤ LK j g) (hd : 2 ≤ d) (kk : ∀ r, (∀ g, g < n → r g = ab_got LK c n f g) → Q none (am_S b) (am_ur X 53 r)) :
    am_wp L xs d 0 ms 94 0 [.ref 49, .ref 1, .ref 47, .int (nI f), am_du, am_du, am_du] [] (am_S b) X Q := by
  refine wp_run 1 (pc' := 1) (ls' := [.ref 49, .ref 1, .ref 47, .int (nI f), am_du, am_du, am_du]) (st' := [.ref 1]) rfl ?_
  refine wp_callV (o := 1) (as := []) (rest := []) (els := [.ref 1]) rfl rfl rfl rfl rfl rfl rfl rfl (by omega) ?_
  refine sp_allCoats (h := X) hc hc7 ?_
  show am_wp L xs _ _ _ _ 4 [.ref 49, .ref 1, .ref 47, .int (nI f), am_du, am_du, am_du] [.int (nI (2 ^ c - 1))] (am_S b) X _
  refine wp_run 3 (pc' := 9) (ls' := [.ref 49, .ref 1, .ref 47, .int (nI f), .int (nI (2 ^ c - 1)), .int 0, am_du]) (st' := []) rfl ?_
  have hp := lp_round (L := L) (xs := xs) (ms := ms) (b := b) (h := h) hn hn7 hc hc7 hf hb hl hl0 hd kk n 0 (X 53) am_du (fun k hk => by omega) (by omega)
  rw [← am_ur_self] at hp
  exact hp
def ab_o1 (U : Nat → Int32) (g : Nat) (v : Int32) : Nat := if v = -1 then 0 else if U v.toNatClampNeg = nI g then 1 else 0
def ab_ct (F : Nat → Nat) : Nat → Nat
  | 0 => 0
  | i + 1 => ab_ct F i + F i
theorem ab_o1_le (U : Nat → Int32) (g : Nat) (v : Int32) : ab_o1 U g v ≤ 1 := by
  unfold ab_o1
  split
  · omega
  · split <;> omega
theorem ab_ct_le {F : Nat → Nat} (h : ∀ i, F i ≤ 1) : ∀ i, ab_ct F i ≤ i
  | 0 => Nat.le_refl _
  | i + 1 => by
    have := ab_ct_le h i
    have := h i
    show ab_ct F i + F i ≤ _
    omega
theorem lp_own {L : Nat} {xs : Nat → Int32} {d ms b : Nat} {h : am_HI} {Q : am_Q} {X : am_HI} {n c g : Nat} {LK : Nat → Nat → Int32} (hn : X 1 10 = nI n) (hn7 : n ≤ 7) (hc : X 1 11 = nI c) (hc7 : c ≤ 7) (hg : g < n) (hb : X 47 1 = nI c) (hl : ∀ g, g < n → ∀ j, j < c → X 48 (g * 7 + j) = LK j g) (hl0 : ∀ j g, 0 ≤ LK j g) (hd : 4 ≤ d) (kk : ∀ r, Q (some (.int (nI (ab_ct (fun i => ab_o1 (X 8) g (ab_got LK c n i g)) n)))) (am_S b) (am_ur X 53 r)) :
    ∀ (m i : Nat) (r : Nat → Int32), i + m = n → am_wp L xs d 0 ms 93 11 [.ref 49, .ref 1, .ref 47, .int (nI g), .int (nI (ab_ct (fun i => ab_o1 (X 8) g (ab_got LK c n i g)) i)), .int (nI i)] [] (am_S b) (am_ur X 53 r) Q := by
  intro m
  induction m with
  | zero =>
    intro i r hi
    have e9 : i = n := by omega
    rw [e9]
    refine wp_run 2 (pc' := 14) (ls' := [.ref 49, .ref 1, .ref 47, .int (nI g), .int (nI (ab_ct (fun i => ab_o1 (X 8) g (ab_got LK c n i g)) n)), .int (nI n)]) (st' := [.ref 1, .int (nI n)]) rfl ?_
    refine wp_geti (a := 10) (nI n) hn rfl rfl rfl ?_
    refine wp_icmp_t rfl (show (nI n) ≤ (nI n) from (nI_leI (a := n) (b := n) (by omega) (by omega)).mpr (by omega)) ?_
    refine wp_run 1 (pc' := 53) (ls' := [.ref 49, .ref 1, .ref 47, .int (nI g), .int (nI (ab_ct (fun i => ab_o1 (X 8) g (ab_got LK c n i g)) n)), .int (nI n)]) (st' := [.int (nI (ab_ct (fun i => ab_o1 (X 8) g (ab_got LK c n i g)) n))]) rfl ?_
    refine wp_ret rfl ?_
    exact kk r
  | succ m ih =>
    intro i r hi
    refine wp_run 2 (pc' := 14) (ls' := [.ref 49, .ref 1, .ref 47, .int (nI g), .int (nI (ab_ct (fun i => ab_o1 (X 8) g (ab_got LK c n i g)) i)), .int (nI i)]) (st' := [.ref 1, .int (nI i)]) rfl ?_
    refine wp_geti (a := 10) (nI n) hn rfl rfl rfl ?_
    refine wp_icmp_f rfl (show ¬ ((nI n) ≤ (nI i)) from mt (nI_leI (a := n) (b := i) (by omega) (by omega)).mp (by omega)) ?_
    refine wp_run 4 (pc' := 25) (ls' := [.ref 49, .ref 1, .ref 47, .int (nI g), .int (nI (ab_ct (fun i => ab_o1 (X 8) g (ab_got LK c n i g)) i)), .int (nI i)]) (st' := [.int (nI i), .ref 47, .ref 1, .ref 49]) rfl ?_
    refine wp_callV (o := 49) (as := [.ref 1, .ref 47, .int (nI i)]) (rest := []) (els := [.ref 49, .ref 1, .ref 47, .int (nI i), am_du, am_du, am_du]) rfl rfl rfl rfl rfl rfl rfl rfl (by omega) ?_
    refine sp_round (h := h) (X := am_ur X 53 r) (n := n) (c := c) (f := i) (LK := LK) hn hn7 hc hc7 (by omega) hb hl hl0 (by omega) (fun r2 hr2 => ?_)
    rw [am_ur_ur]
    show am_wp L xs _ _ _ _ 28 [.ref 49, .ref 1, .ref 47, .int (nI g), .int (nI (ab_ct (fun i => ab_o1 (X 8) g (ab_got LK c n i g)) i)), .int (nI i)] [] (am_S b) (am_ur X 53 r2) _
    refine wp_run 2 (pc' := 30) (ls' := [.ref 49, .ref 1, .ref 47, .int (nI g), .int (nI (ab_ct (fun i => ab_o1 (X 8) g (ab_got LK c n i g)) i)), .int (nI i)]) (st' := [.ref 49, .ref 1]) rfl ?_
    refine wp_getr 53 rfl rfl rfl ?_
    refine wp_run 1 (pc' := 34) (ls' := [.ref 49, .ref 1, .ref 47, .int (nI g), .int (nI (ab_ct (fun i => ab_o1 (X 8) g (ab_got LK c n i g)) i)), .int (nI i)]) (st' := [.int (nI g), .ref 53, .ref 1]) rfl ?_
    refine wp_ald (i := g) (r2 g) rfl rfl rfl rfl (by omega) rfl ?_
    refine wp_run 1 (pc' := 36) (ls' := [.ref 49, .ref 1, .ref 47, .int (nI g), .int (nI (ab_ct (fun i => ab_o1 (X 8) g (ab_got LK c n i g)) i)), .int (nI i)]) (st' := [.int (nI g), .int (r2 g), .ref 1]) rfl ?_
    refine wp_callV (o := 1) (as := [.int (r2 g), .int (nI g)]) (rest := []) (els := [.ref 1, .int (r2 g), .int (nI g)]) rfl rfl rfl rfl rfl rfl rfl rfl (by omega) ?_
    refine sp_isOwn (h := am_ur X 53 r2) (v := r2 g) (w := nI g) (c := c) hc hc7 (by omega) ?_ ?_
    · skip
      intro j1 hj1 ej1 eo1
      have eo : ab_o1 (X 8) g (ab_got LK c n i g) = 1 := by rw [← hr2 g hg, ej1]; unfold ab_o1; rw [if_neg (pu_ne1 (by omega)), nI_clamp (by omega)]; exact if_pos eo1
      show am_wp L xs _ _ _ _ 39 [.ref 49, .ref 1, .ref 47, .int (nI g), .int (nI (ab_ct (fun i => ab_o1 (X 8) g (ab_got LK c n i g)) i)), .int (nI i)] [.int 1] (am_S b) (am_ur X 53 r2) _
      refine wp_if_f rfl (show ¬ ((1 : Int32) = 0) from by decide) ?_
      refine wp_run 3 (pc' := 11) (ls' := [.ref 49, .ref 1, .ref 47, .int (nI g), .int ((nI (ab_ct (fun i => ab_o1 (X 8) g (ab_got LK c n i g)) i)) + 1), .int ((nI i) + 1)]) (st' := []) rfl ?_
      rw [show (((nI (ab_ct (fun i => ab_o1 (X 8) g (ab_got LK c n i g)) i)) + 1) : Int32) = (nI ((ab_ct (fun i => ab_o1 (X 8) g (ab_got LK c n i g)) i) + 1)) from nI_add (ab_ct (fun i => ab_o1 (X 8) g (ab_got LK c n i g)) i) 1]
      rw [show (((nI i) + 1) : Int32) = (nI (i + 1)) from nI_add i 1]
      rw [show ((ab_ct (fun i => ab_o1 (X 8) g (ab_got LK c n i g)) i) + 1) = (ab_ct (fun i => ab_o1 (X 8) g (ab_got LK c n i g)) (i + 1)) from by have q : (ab_ct (fun i => ab_o1 (X 8) g (ab_got LK c n i g)) (i + 1)) = (ab_ct (fun i => ab_o1 (X 8) g (ab_got LK c n i g)) i) + ab_o1 (X 8) g (ab_got LK c n i g) := rfl; omega]
      exact ih (i + 1) _ (by omega)
    · skip
      intro ho1
      have eo : ab_o1 (X 8) g (ab_got LK c n i g) = 0 := by
        rcases ab_G_or (LK := LK) (n := n) (f := i) (k := (g + n - i) % n) hc7 with e5 | ⟨j, hj, e5⟩
        · unfold ab_o1; exact if_pos e5
        · have e6 : ab_got LK c n i g = nI j := e5
          rw [e6]; unfold ab_o1; rw [if_neg (pu_ne1 (by omega)), nI_clamp (by omega)]; exact if_neg (ho1 j hj ((hr2 g hg).trans e6))
      show am_wp L xs _ _ _ _ 39 [.ref 49, .ref 1, .ref 47, .int (nI g), .int (nI (ab_ct (fun i => ab_o1 (X 8) g (ab_got LK c n i g)) i)), .int (nI i)] [.int 0] (am_S b) (am_ur X 53 r2) _
      refine wp_if_t rfl (show (0 : Int32) = 0 from by decide) ?_
      refine wp_run 2 (pc' := 11) (ls' := [.ref 49, .ref 1, .ref 47, .int (nI g), .int (nI (ab_ct (fun i => ab_o1 (X 8) g (ab_got LK c n i g)) i)), .int ((nI i) + 1)]) (st' := []) rfl ?_
      rw [show (((nI i) + 1) : Int32) = (nI (i + 1)) from nI_add i 1]
      rw [show (ab_ct (fun i => ab_o1 (X 8) g (ab_got LK c n i g)) i) = (ab_ct (fun i => ab_o1 (X 8) g (ab_got LK c n i g)) (i + 1)) from by have q : (ab_ct (fun i => ab_o1 (X 8) g (ab_got LK c n i g)) (i + 1)) = (ab_ct (fun i => ab_o1 (X 8) g (ab_got LK c n i g)) i) + ab_o1 (X 8) g (ab_got LK c n i g) := rfl; omega]
      exact ih (i + 1) _ (by omega)
theorem sp_own {L : Nat} {xs : Nat → Int32} {d ms b : Nat} {h : am_HI} {Q : am_Q} {n c t g : Nat} {s0 s1 : Int32} {p0 p1 : List Int32} (HS : am_hs h n c t s0 s1 p0 p1) (hg : g < n) (hd : 6 ≤ d) (kk : ∀ gz, Q (some (.int (nI (ab_ct (fun i => ab_o1 (h 8) g (ab_got (fun j g => hs_lk h s0 p0 j g) c n i g)) n)))) (am_S b) (am_ov h [17, 18, 47, 48, 53] gz)) :
    am_wp L xs d 0 ms 93 0 [.ref 49, .ref 1, .ref 47, .int (nI g), am_du, am_du] [] (am_S b) h Q := by
  refine wp_run 2 (pc' := 2) (ls' := [.ref 49, .ref 1, .ref 47, .int (nI g), am_du, am_du]) (st' := [.ref 1, .ref 47]) rfl ?_
  refine wp_callV (o := 47) (as := [.ref 1]) (rest := []) (els := [.ref 47, .ref 1, am_du]) rfl rfl rfl rfl rfl rfl rfl rfl (by omega) ?_
  refine sp_learnAll HS (by omega) (fun gz f47 f48 => ?_)
  show am_wp L xs _ _ _ _ 5 [.ref 49, .ref 1, .ref 47, .int (nI g), am_du, am_du] [] (am_S b) (am_ov h [17, 18, 47, 48] gz) _
  refine wp_run 4 (pc' := 11) (ls' := [.ref 49, .ref 1, .ref 47, .int (nI g), .int 0, .int 0]) (st' := []) rfl ?_
  have hp := fun kq => lp_own (L := L) (xs := xs) (d := d) (ms := ms) (b := b) (h := h) (Q := Q) (X := (am_ov h [17, 18, 47, 48] gz)) (n := n) (c := c) (g := g) (LK := fun j g => hs_lk h s0 p0 j g) HS.1 HS.2.2.2.1 HS.2.1 HS.2.2.2.2.1 hg (f47 (by omega)) f48 (fun j g => hs_lk_0 h s0 p0 j g) (by omega) kq n 0 ((am_ov h [17, 18, 47, 48] gz) 53) (by omega)
  rw [← am_ur_self] at hp
  refine hp (fun r => ?_)
  have eX : am_ur (am_ov h [17, 18, 47, 48] gz) 53 r = am_ov h [17, 18, 47, 48, 53] (am_ur (am_ov h [17, 18, 47, 48] gz) 53 r) := am_ov_of (fun a ha => by rw [am_ur_off _ _ (am_nel ha rfl), am_ov_off (am_sub ha rfl)])
  rw [eX]
  exact kk _
def ab_ft (S : Nat → Int32) (l n : Nat) (gt : Nat → Int32) : Bool := decide (l ≤ n ∧ ∀ k, k < l → S k = gt k)
def ab_fs (F : Nat → Bool) : Nat → Nat
  | 0 => 0
  | i + 1 => if F i = true then pu_set (ab_fs F i) i else ab_fs F i
theorem ab_fs_lt (F : Nat → Bool) : ∀ i, i ≤ 7 → ab_fs F i < 128
  | 0, _ => by show 0 < 128; decide
  | i + 1, h => by
    have ih := ab_fs_lt F i (by omega)
    unfold ab_fs
    split
    · exact pu_set_lt _ ih i (by omega)
    · exact ih
theorem ab_ft_ro {S gt gt2 : Nat → Int32} {l n r : Nat} (h : pu_ro S gt l n r) (e : ∀ g, g < n → gt g = gt2 g) : r = l ↔ ab_ft S l n gt2 = true := by
  obtain ⟨h1, h2, h3⟩ := h
  unfold ab_ft
  rw [decide_eq_true_iff]
  constructor
  · rintro rfl
    have hln : r ≤ n := by
      by_cases h0 : r = 0
      · omega
      · have := (h2 (r - 1) (by omega)).1
        omega
    exact ⟨hln, fun k hk => (h2 k hk).2.trans (e k (by omega))⟩
  · rintro ⟨q1, q2⟩
    rcases h3 with q | q
    · exact q
    · by_cases hr : r < l
      · exact absurd ⟨by omega, (q2 r hr).trans (e r (by omega)).symm⟩ q
      · omega
theorem lp_fit0 {L : Nat} {xs : Nat → Int32} {d ms b : Nat} {h : am_HI} {Q : am_Q} {X : am_HI} {n c l : Nat} {LK : Nat → Nat → Int32} (hn : X 1 10 = nI n) (hn7 : n ≤ 7) (hc : X 1 11 = nI c) (hc7 : c ≤ 7) (ho2 : X 65 2 = nI l) (hl24 : l ≤ 24) (hb : 0 < n → X 47 1 = nI c) (hl : ∀ g, g < n → ∀ j, j < c → X 48 (g * 7 + j) = LK j g) (hl0 : ∀ j g, 0 ≤ LK j g) (hd : 4 ≤ d) (kk : ∀ r, Q (some (.int (nI (ab_fs (fun i => ab_ft (X 66) l n (ab_got LK c n i)) n)))) (am_S b) (am_ur X 53 r)) :
    ∀ (m i : Nat) (r : Nat → Int32), i + m = n → am_wp L xs d 0 ms 99 11 [.ref 49, .ref 1, .ref 47, .ref 65, .int (nI (ab_fs (fun i => ab_ft (X 66) l n (ab_got LK c n i)) i)), .int (nI i)] [] (am_S b) (am_ur X 53 r) Q := by
  intro m
  induction m with
  | zero =>
    intro i r hi
    have e9 : i = n := by omega
    rw [e9]
    refine wp_run 2 (pc' := 14) (ls' := [.ref 49, .ref 1, .ref 47, .ref 65, .int (nI (ab_fs (fun i => ab_ft (X 66) l n (ab_got LK c n i)) n)), .int (nI n)]) (st' := [.ref 1, .int (nI n)]) rfl ?_
    refine wp_geti (a := 10) (nI n) hn rfl rfl rfl ?_
    refine wp_icmp_t rfl (show (nI n) ≤ (nI n) from (nI_leI (a := n) (b := n) (by omega) (by omega)).mpr (by omega)) ?_
    refine wp_run 1 (pc' := 64) (ls' := [.ref 49, .ref 1, .ref 47, .ref 65, .int (nI (ab_fs (fun i => ab_ft (X 66) l n (ab_got LK c n i)) n)), .int (nI n)]) (st' := [.int (nI (ab_fs (fun i => ab_ft (X 66) l n (ab_got LK c n i)) n))]) rfl ?_
    refine wp_ret rfl ?_
    exact kk r
  | succ m ih =>
    intro i r hi
    refine wp_run 2 (pc' := 14) (ls' := [.ref 49, .ref 1, .ref 47, .ref 65, .int (nI (ab_fs (fun i => ab_ft (X 66) l n (ab_got LK c n i)) i)), .int (nI i)]) (st' := [.ref 1, .int (nI i)]) rfl ?_
    refine wp_geti (a := 10) (nI n) hn rfl rfl rfl ?_
    refine wp_icmp_f rfl (show ¬ ((nI n) ≤ (nI i)) from mt (nI_leI (a := n) (b := i) (by omega) (by omega)).mp (by omega)) ?_
    refine wp_run 4 (pc' := 25) (ls' := [.ref 49, .ref 1, .ref 47, .ref 65, .int (nI (ab_fs (fun i => ab_ft (X 66) l n (ab_got LK c n i)) i)), .int (nI i)]) (st' := [.int (nI i), .ref 47, .ref 1, .ref 49]) rfl ?_
    refine wp_callV (o := 49) (as := [.ref 1, .ref 47, .int (nI i)]) (rest := []) (els := [.ref 49, .ref 1, .ref 47, .int (nI i), am_du, am_du, am_du]) rfl rfl rfl rfl rfl rfl rfl rfl (by omega) ?_
    refine sp_round (h := h) (X := am_ur X 53 r) (n := n) (c := c) (f := i) (LK := LK) hn hn7 hc hc7 (by omega) (hb (by omega)) hl hl0 (by omega) (fun r2 hr2 => ?_)
    rw [am_ur_ur]
    show am_wp L xs _ _ _ _ 28 [.ref 49, .ref 1, .ref 47, .ref 65, .int (nI (ab_fs (fun i => ab_ft (X 66) l n (ab_got LK c n i)) i)), .int (nI i)] [] (am_S b) (am_ur X 53 r2) _
    refine wp_run 2 (pc' := 30) (ls' := [.ref 49, .ref 1, .ref 47, .ref 65, .int (nI (ab_fs (fun i => ab_ft (X 66) l n (ab_got LK c n i)) i)), .int (nI i)]) (st' := [.ref 49, .ref 65]) rfl ?_
    refine wp_getr 53 rfl rfl rfl ?_
    refine wp_run 1 (pc' := 34) (ls' := [.ref 49, .ref 1, .ref 47, .ref 65, .int (nI (ab_fs (fun i => ab_ft (X 66) l n (ab_got LK c n i)) i)), .int (nI i)]) (st' := [.ref 1, .ref 53, .ref 65]) rfl ?_
    refine wp_geti (a := 10) (nI n) hn rfl rfl rfl ?_
    refine wp_callV (o := 65) (as := [.ref 53, .int (nI n)]) (rest := []) (els := [.ref 65, .ref 53, .int (nI n), am_du]) rfl rfl rfl rfl rfl rfl rfl rfl (by omega) ?_
    refine sp_rightOnes (h := am_ur X 53 r2) (o := 65) (e := 53) (l := l) (n := n) rfl rfl rfl rfl ho2 hl24 hn7 (fun r3 hr3 => ?_)
    have hft := ab_ft_ro hr3 hr2
    have hr3l := hr3.1
    show am_wp L xs _ _ _ _ 40 [.ref 49, .ref 1, .ref 47, .ref 65, .int (nI (ab_fs (fun i => ab_ft (X 66) l n (ab_got LK c n i)) i)), .int (nI i)] [.int (nI r3)] (am_S b) (am_ur X 53 r2) _
    refine wp_run 1 (pc' := 41) (ls' := [.ref 49, .ref 1, .ref 47, .ref 65, .int (nI (ab_fs (fun i => ab_ft (X 66) l n (ab_got LK c n i)) i)), .int (nI i)]) (st' := [.ref 65, .int (nI r3)]) rfl ?_
    refine wp_geti (a := 2) (nI l) ho2 rfl rfl rfl ?_
    refine wp_icmp rfl (fun (cq44 : ¬ (nI r3) = (nI l)) => ?_) (fun (cq44 : ¬ (¬ (nI r3) = (nI l))) => ?_)
    · skip
      have cq44n : ¬ (r3 = l) := fun q => cq44 ((nI_eq (a := r3) (b := l) (by omega) (by omega)).mpr q)
      refine wp_run 2 (pc' := 11) (ls' := [.ref 49, .ref 1, .ref 47, .ref 65, .int (nI (ab_fs (fun i => ab_ft (X 66) l n (ab_got LK c n i)) i)), .int ((nI i) + 1)]) (st' := []) rfl ?_
      rw [show (((nI i) + 1) : Int32) = (nI (i + 1)) from nI_add i 1]
      rw [show ((nI (ab_fs (fun i => ab_ft (X 66) l n (ab_got LK c n i)) i)) : Int32) = nI (ab_fs (fun i => ab_ft (X 66) l n (ab_got LK c n i)) (i + 1)) from (congrArg nI (if_neg (fun q => cq44n (hft.mpr q)))).symm]
      exact ih (i + 1) _ (by omega)
    · skip
      replace cq44 := Decidable.not_not.mp cq44
      have cq44n : r3 = l := (nI_eq (a := r3) (b := l) (by omega) (by omega)).mp cq44
      refine wp_run 8 (pc' := 11) (ls' := [.ref 49, .ref 1, .ref 47, .ref 65, .int ((nI (ab_fs (fun i => ab_ft (X 66) l n (ab_got LK c n i)) i)) ||| (1 <<< ((nI i) &&& 31))), .int ((nI i) + 1)]) (st' := []) rfl ?_
      rw [show (((nI i) + 1) : Int32) = (nI (i + 1)) from nI_add i 1]
      rw [show (((nI (ab_fs (fun i => ab_ft (X 66) l n (ab_got LK c n i)) i)) ||| (1 <<< ((nI i) &&& 31))) : Int32) = nI (ab_fs (fun i => ab_ft (X 66) l n (ab_got LK c n i)) (i + 1)) from by rw [pu_set_i _ (ab_fs_lt _ i (by omega)) i (by omega)]; exact (congrArg nI (if_pos (hft.mp cq44n))).symm]
      exact ih (i + 1) _ (by omega)
theorem sp_fit0 {L : Nat} {xs : Nat → Int32} {d ms b : Nat} {h : am_HI} {Q : am_Q} {n c t l : Nat} {s0 s1 : Int32} {p0 p1 : List Int32} (HS : am_hs h n c t s0 s1 p0 p1) (ho2 : h 65 2 = nI l) (hl24 : l ≤ 24) (hd : 6 ≤ d) (kk : ∀ gz, Q (some (.int (nI (ab_fs (fun i => ab_ft (h 66) l n (ab_got (fun j g => hs_lk h s0 p0 j g) c n i)) n)))) (am_S b) (am_ov h [17, 18, 47, 48, 53] gz)) :
    am_wp L xs d 0 ms 99 0 [.ref 49, .ref 1, .ref 47, .ref 65, am_du, am_du] [] (am_S b) h Q := by
  refine wp_run 2 (pc' := 2) (ls' := [.ref 49, .ref 1, .ref 47, .ref 65, am_du, am_du]) (st' := [.ref 1, .ref 47]) rfl ?_
  refine wp_callV (o := 47) (as := [.ref 1]) (rest := []) (els := [.ref 47, .ref 1, am_du]) rfl rfl rfl rfl rfl rfl rfl rfl (by omega) ?_
  refine sp_learnAll HS (by omega) (fun gz f47 f48 => ?_)
  show am_wp L xs _ _ _ _ 5 [.ref 49, .ref 1, .ref 47, .ref 65, am_du, am_du] [] (am_S b) (am_ov h [17, 18, 47, 48] gz) _
  refine wp_run 4 (pc' := 11) (ls' := [.ref 49, .ref 1, .ref 47, .ref 65, .int 0, .int 0]) (st' := []) rfl ?_
  have hp := fun kq => lp_fit0 (L := L) (xs := xs) (d := d) (ms := ms) (b := b) (h := h) (Q := Q) (X := (am_ov h [17, 18, 47, 48] gz)) (n := n) (c := c) (l := l) (LK := fun j g => hs_lk h s0 p0 j g) HS.1 HS.2.2.2.1 HS.2.1 HS.2.2.2.2.1 ho2 hl24 f47 f48 (fun j g => hs_lk_0 h s0 p0 j g) (by omega) kq n 0 ((am_ov h [17, 18, 47, 48] gz) 53) (by omega)
  rw [← am_ur_self] at hp
  refine hp (fun r => ?_)
  have eX : am_ur (am_ov h [17, 18, 47, 48] gz) 53 r = am_ov h [17, 18, 47, 48, 53] (am_ur (am_ov h [17, 18, 47, 48] gz) 53 r) := am_ov_of (fun a ha => by rw [am_ur_off _ _ (am_nel ha rfl), am_ov_off (am_sub ha rfl)])
  rw [eX]
  exact kk _
theorem lp_fit1 {L : Nat} {xs : Nat → Int32} {d ms b : Nat} {h : am_HI} {Q : am_Q} {X : am_HI} {n c l : Nat} {LK : Nat → Nat → Int32} (hn : X 1 10 = nI n) (hn7 : n ≤ 7) (hc : X 1 11 = nI c) (hc7 : c ≤ 7) (ho2 : X 67 2 = nI l) (hl24 : l ≤ 24) (hb : 0 < n → X 47 1 = nI c) (hl : ∀ g, g < n → ∀ j, j < c → X 48 (g * 7 + j) = LK j g) (hl0 : ∀ j g, 0 ≤ LK j g) (hd : 4 ≤ d) (kk : ∀ r, Q (some (.int (nI (ab_fs (fun i => ab_ft (X 68) l n (ab_got LK c n i)) n)))) (am_S b) (am_ur X 53 r)) :
    ∀ (m i : Nat) (r : Nat → Int32), i + m = n → am_wp L xs d 0 ms 99 11 [.ref 49, .ref 1, .ref 47, .ref 67, .int (nI (ab_fs (fun i => ab_ft (X 68) l n (ab_got LK c n i)) i)), .int (nI i)] [] (am_S b) (am_ur X 53 r) Q := by
  intro m
  induction m with
  | zero =>
    intro i r hi
    have e9 : i = n := by omega
    rw [e9]
    refine wp_run 2 (pc' := 14) (ls' := [.ref 49, .ref 1, .ref 47, .ref 67, .int (nI (ab_fs (fun i => ab_ft (X 68) l n (ab_got LK c n i)) n)), .int (nI n)]) (st' := [.ref 1, .int (nI n)]) rfl ?_
    refine wp_geti (a := 10) (nI n) hn rfl rfl rfl ?_
    refine wp_icmp_t rfl (show (nI n) ≤ (nI n) from (nI_leI (a := n) (b := n) (by omega) (by omega)).mpr (by omega)) ?_
    refine wp_run 1 (pc' := 64) (ls' := [.ref 49, .ref 1, .ref 47, .ref 67, .int (nI (ab_fs (fun i => ab_ft (X 68) l n (ab_got LK c n i)) n)), .int (nI n)]) (st' := [.int (nI (ab_fs (fun i => ab_ft (X 68) l n (ab_got LK c n i)) n))]) rfl ?_
    refine wp_ret rfl ?_
    exact kk r
  | succ m ih =>
    intro i r hi
    refine wp_run 2 (pc' := 14) (ls' := [.ref 49, .ref 1, .ref 47, .ref 67, .int (nI (ab_fs (fun i => ab_ft (X 68) l n (ab_got LK c n i)) i)), .int (nI i)]) (st' := [.ref 1, .int (nI i)]) rfl ?_
    refine wp_geti (a := 10) (nI n) hn rfl rfl rfl ?_
    refine wp_icmp_f rfl (show ¬ ((nI n) ≤ (nI i)) from mt (nI_leI (a := n) (b := i) (by omega) (by omega)).mp (by omega)) ?_
    refine wp_run 4 (pc' := 25) (ls' := [.ref 49, .ref 1, .ref 47, .ref 67, .int (nI (ab_fs (fun i => ab_ft (X 68) l n (ab_got LK c n i)) i)), .int (nI i)]) (st' := [.int (nI i), .ref 47, .ref 1, .ref 49]) rfl ?_
    refine wp_callV (o := 49) (as := [.ref 1, .ref 47, .int (nI i)]) (rest := []) (els := [.ref 49, .ref 1, .ref 47, .int (nI i), am_du, am_du, am_du]) rfl rfl rfl rfl rfl rfl rfl rfl (by omega) ?_
    refine sp_round (h := h) (X := am_ur X 53 r) (n := n) (c := c) (f := i) (LK := LK) hn hn7 hc hc7 (by omega) (hb (by omega)) hl hl0 (by omega) (fun r2 hr2 => ?_)
    rw [am_ur_ur]
    show am_wp L xs _ _ _ _ 28 [.ref 49, .ref 1, .ref 47, .ref 67, .int (nI (ab_fs (fun i => ab_ft (X 68) l n (ab_got LK c n i)) i)), .int (nI i)] [] (am_S b) (am_ur X 53 r2) _
    refine wp_run 2 (pc' := 30) (ls' := [.ref 49, .ref 1, .ref 47, .ref 67, .int (nI (ab_fs (fun i => ab_ft (X 68) l n (ab_got LK c n i)) i)), .int (nI i)]) (st' := [.ref 49, .ref 67]) rfl ?_
    refine wp_getr 53 rfl rfl rfl ?_
    refine wp_run 1 (pc' := 34) (ls' := [.ref 49, .ref 1, .ref 47, .ref 67, .int (nI (ab_fs (fun i => ab_ft (X 68) l n (ab_got LK c n i)) i)), .int (nI i)]) (st' := [.ref 1, .ref 53, .ref 67]) rfl ?_
    refine wp_geti (a := 10) (nI n) hn rfl rfl rfl ?_
    refine wp_callV (o := 67) (as := [.ref 53, .int (nI n)]) (rest := []) (els := [.ref 67, .ref 53, .int (nI n), am_du]) rfl rfl rfl rfl rfl rfl rfl rfl (by omega) ?_
    refine sp_rightOnes (h := am_ur X 53 r2) (o := 67) (e := 53) (l := l) (n := n) rfl rfl rfl rfl ho2 hl24 hn7 (fun r3 hr3 => ?_)
    have hft := ab_ft_ro hr3 hr2
    have hr3l := hr3.1
    show am_wp L xs _ _ _ _ 40 [.ref 49, .ref 1, .ref 47, .ref 67, .int (nI (ab_fs (fun i => ab_ft (X 68) l n (ab_got LK c n i)) i)), .int (nI i)] [.int (nI r3)] (am_S b) (am_ur X 53 r2) _
    refine wp_run 1 (pc' := 41) (ls' := [.ref 49, .ref 1, .ref 47, .ref 67, .int (nI (ab_fs (fun i => ab_ft (X 68) l n (ab_got LK c n i)) i)), .int (nI i)]) (st' := [.ref 67, .int (nI r3)]) rfl ?_
    refine wp_geti (a := 2) (nI l) ho2 rfl rfl rfl ?_
    refine wp_icmp rfl (fun (cq44 : ¬ (nI r3) = (nI l)) => ?_) (fun (cq44 : ¬ (¬ (nI r3) = (nI l))) => ?_)
    · skip
      have cq44n : ¬ (r3 = l) := fun q => cq44 ((nI_eq (a := r3) (b := l) (by omega) (by omega)).mpr q)
      refine wp_run 2 (pc' := 11) (ls' := [.ref 49, .ref 1, .ref 47, .ref 67, .int (nI (ab_fs (fun i => ab_ft (X 68) l n (ab_got LK c n i)) i)), .int ((nI i) + 1)]) (st' := []) rfl ?_
      rw [show (((nI i) + 1) : Int32) = (nI (i + 1)) from nI_add i 1]
      rw [show ((nI (ab_fs (fun i => ab_ft (X 68) l n (ab_got LK c n i)) i)) : Int32) = nI (ab_fs (fun i => ab_ft (X 68) l n (ab_got LK c n i)) (i + 1)) from (congrArg nI (if_neg (fun q => cq44n (hft.mpr q)))).symm]
      exact ih (i + 1) _ (by omega)
    · skip
      replace cq44 := Decidable.not_not.mp cq44
      have cq44n : r3 = l := (nI_eq (a := r3) (b := l) (by omega) (by omega)).mp cq44
      refine wp_run 8 (pc' := 11) (ls' := [.ref 49, .ref 1, .ref 47, .ref 67, .int ((nI (ab_fs (fun i => ab_ft (X 68) l n (ab_got LK c n i)) i)) ||| (1 <<< ((nI i) &&& 31))), .int ((nI i) + 1)]) (st' := []) rfl ?_
      rw [show (((nI i) + 1) : Int32) = (nI (i + 1)) from nI_add i 1]
      rw [show (((nI (ab_fs (fun i => ab_ft (X 68) l n (ab_got LK c n i)) i)) ||| (1 <<< ((nI i) &&& 31))) : Int32) = nI (ab_fs (fun i => ab_ft (X 68) l n (ab_got LK c n i)) (i + 1)) from by rw [pu_set_i _ (ab_fs_lt _ i (by omega)) i (by omega)]; exact (congrArg nI (if_pos (hft.mp cq44n))).symm]
      exact ih (i + 1) _ (by omega)
theorem sp_fit1 {L : Nat} {xs : Nat → Int32} {d ms b : Nat} {h : am_HI} {Q : am_Q} {n c t l : Nat} {s0 s1 : Int32} {p0 p1 : List Int32} (HS : am_hs h n c t s0 s1 p0 p1) (ho2 : h 67 2 = nI l) (hl24 : l ≤ 24) (hd : 6 ≤ d) (kk : ∀ gz, Q (some (.int (nI (ab_fs (fun i => ab_ft (h 68) l n (ab_got (fun j g => hs_lk h s0 p0 j g) c n i)) n)))) (am_S b) (am_ov h [17, 18, 47, 48, 53] gz)) :
    am_wp L xs d 0 ms 99 0 [.ref 49, .ref 1, .ref 47, .ref 67, am_du, am_du] [] (am_S b) h Q := by
  refine wp_run 2 (pc' := 2) (ls' := [.ref 49, .ref 1, .ref 47, .ref 67, am_du, am_du]) (st' := [.ref 1, .ref 47]) rfl ?_
  refine wp_callV (o := 47) (as := [.ref 1]) (rest := []) (els := [.ref 47, .ref 1, am_du]) rfl rfl rfl rfl rfl rfl rfl rfl (by omega) ?_
  refine sp_learnAll HS (by omega) (fun gz f47 f48 => ?_)
  show am_wp L xs _ _ _ _ 5 [.ref 49, .ref 1, .ref 47, .ref 67, am_du, am_du] [] (am_S b) (am_ov h [17, 18, 47, 48] gz) _
  refine wp_run 4 (pc' := 11) (ls' := [.ref 49, .ref 1, .ref 47, .ref 67, .int 0, .int 0]) (st' := []) rfl ?_
  have hp := fun kq => lp_fit1 (L := L) (xs := xs) (d := d) (ms := ms) (b := b) (h := h) (Q := Q) (X := (am_ov h [17, 18, 47, 48] gz)) (n := n) (c := c) (l := l) (LK := fun j g => hs_lk h s0 p0 j g) HS.1 HS.2.2.2.1 HS.2.1 HS.2.2.2.2.1 ho2 hl24 f47 f48 (fun j g => hs_lk_0 h s0 p0 j g) (by omega) kq n 0 ((am_ov h [17, 18, 47, 48] gz) 53) (by omega)
  rw [← am_ur_self] at hp
  refine hp (fun r => ?_)
  have eX : am_ur (am_ov h [17, 18, 47, 48] gz) 53 r = am_ov h [17, 18, 47, 48, 53] (am_ur (am_ov h [17, 18, 47, 48] gz) 53 r) := am_ov_of (fun a ha => by rw [am_ur_off _ _ (am_nel ha rfl), am_ov_off (am_sub ha rfl)])
  rw [eX]
  exact kk _
theorem lp_fit2 {L : Nat} {xs : Nat → Int32} {d ms b : Nat} {h : am_HI} {Q : am_Q} {X : am_HI} {n c l : Nat} {LK : Nat → Nat → Int32} (hn : X 1 10 = nI n) (hn7 : n ≤ 7) (hc : X 1 11 = nI c) (hc7 : c ≤ 7) (ho2 : X 69 2 = nI l) (hl24 : l ≤ 24) (hb : 0 < n → X 47 1 = nI c) (hl : ∀ g, g < n → ∀ j, j < c → X 48 (g * 7 + j) = LK j g) (hl0 : ∀ j g, 0 ≤ LK j g) (hd : 4 ≤ d) (kk : ∀ r, Q (some (.int (nI (ab_fs (fun i => ab_ft (X 70) l n (ab_got LK c n i)) n)))) (am_S b) (am_ur X 53 r)) :
    ∀ (m i : Nat) (r : Nat → Int32), i + m = n → am_wp L xs d 0 ms 99 11 [.ref 49, .ref 1, .ref 47, .ref 69, .int (nI (ab_fs (fun i => ab_ft (X 70) l n (ab_got LK c n i)) i)), .int (nI i)] [] (am_S b) (am_ur X 53 r) Q := by
  intro m
  induction m with
  | zero =>
    intro i r hi
    have e9 : i = n := by omega
    rw [e9]
    refine wp_run 2 (pc' := 14) (ls' := [.ref 49, .ref 1, .ref 47, .ref 69, .int (nI (ab_fs (fun i => ab_ft (X 70) l n (ab_got LK c n i)) n)), .int (nI n)]) (st' := [.ref 1, .int (nI n)]) rfl ?_
    refine wp_geti (a := 10) (nI n) hn rfl rfl rfl ?_
    refine wp_icmp_t rfl (show (nI n) ≤ (nI n) from (nI_leI (a := n) (b := n) (by omega) (by omega)).mpr (by omega)) ?_
    refine wp_run 1 (pc' := 64) (ls' := [.ref 49, .ref 1, .ref 47, .ref 69, .int (nI (ab_fs (fun i => ab_ft (X 70) l n (ab_got LK c n i)) n)), .int (nI n)]) (st' := [.int (nI (ab_fs (fun i => ab_ft (X 70) l n (ab_got LK c n i)) n))]) rfl ?_
    refine wp_ret rfl ?_
    exact kk r
  | succ m ih =>
    intro i r hi
    refine wp_run 2 (pc' := 14) (ls' := [.ref 49, .ref 1, .ref 47, .ref 69, .int (nI (ab_fs (fun i => ab_ft (X 70) l n (ab_got LK c n i)) i)), .int (nI i)]) (st' := [.ref 1, .int (nI i)]) rfl ?_
    refine wp_geti (a := 10) (nI n) hn rfl rfl rfl ?_
    refine wp_icmp_f rfl (show ¬ ((nI n) ≤ (nI i)) from mt (nI_leI (a := n) (b := i) (by omega) (by omega)).mp (by omega)) ?_
    refine wp_run 4 (pc' := 25) (ls' := [.ref 49, .ref 1, .ref 47, .ref 69, .int (nI (ab_fs (fun i => ab_ft (X 70) l n (ab_got LK c n i)) i)), .int (nI i)]) (st' := [.int (nI i), .ref 47, .ref 1, .ref 49]) rfl ?_
    refine wp_callV (o := 49) (as := [.ref 1, .ref 47, .int (nI i)]) (rest := []) (els := [.ref 49, .ref 1, .ref 47, .int (nI i), am_du, am_du, am_du]) rfl rfl rfl rfl rfl rfl rfl rfl (by omega) ?_
    refine sp_round (h := h) (X := am_ur X 53 r) (n := n) (c := c) (f := i) (LK := LK) hn hn7 hc hc7 (by omega) (hb (by omega)) hl hl0 (by omega) (fun r2 hr2 => ?_)
    rw [am_ur_ur]
    show am_wp L xs _ _ _ _ 28 [.ref 49, .ref 1, .ref 47, .ref 69, .int (nI (ab_fs (fun i => ab_ft (X 70) l n (ab_got LK c n i)) i)), .int (nI i)] [] (am_S b) (am_ur X 53 r2) _
    refine wp_run 2 (pc' := 30) (ls' := [.ref 49, .ref 1, .ref 47, .ref 69, .int (nI (ab_fs (fun i => ab_ft (X 70) l n (ab_got LK c n i)) i)), .int (nI i)]) (st' := [.ref 49, .ref 69]) rfl ?_
    refine wp_getr 53 rfl rfl rfl ?_
    refine wp_run 1 (pc' := 34) (ls' := [.ref 49, .ref 1, .ref 47, .ref 69, .int (nI (ab_fs (fun i => ab_ft (X 70) l n (ab_got LK c n i)) i)), .int (nI i)]) (st' := [.ref 1, .ref 53, .ref 69]) rfl ?_
    refine wp_geti (a := 10) (nI n) hn rfl rfl rfl ?_
    refine wp_callV (o := 69) (as := [.ref 53, .int (nI n)]) (rest := []) (els := [.ref 69, .ref 53, .int (nI n), am_du]) rfl rfl rfl rfl rfl rfl rfl rfl (by omega) ?_
    refine sp_rightOnes (h := am_ur X 53 r2) (o := 69) (e := 53) (l := l) (n := n) rfl rfl rfl rfl ho2 hl24 hn7 (fun r3 hr3 => ?_)
    have hft := ab_ft_ro hr3 hr2
    have hr3l := hr3.1
    show am_wp L xs _ _ _ _ 40 [.ref 49, .ref 1, .ref 47, .ref 69, .int (nI (ab_fs (fun i => ab_ft (X 70) l n (ab_got LK c n i)) i)), .int (nI i)] [.int (nI r3)] (am_S b) (am_ur X 53 r2) _
    refine wp_run 1 (pc' := 41) (ls' := [.ref 49, .ref 1, .ref 47, .ref 69, .int (nI (ab_fs (fun i => ab_ft (X 70) l n (ab_got LK c n i)) i)), .int (nI i)]) (st' := [.ref 69, .int (nI r3)]) rfl ?_
    refine wp_geti (a := 2) (nI l) ho2 rfl rfl rfl ?_
    refine wp_icmp rfl (fun (cq44 : ¬ (nI r3) = (nI l)) => ?_) (fun (cq44 : ¬ (¬ (nI r3) = (nI l))) => ?_)
    · skip
      have cq44n : ¬ (r3 = l) := fun q => cq44 ((nI_eq (a := r3) (b := l) (by omega) (by omega)).mpr q)
      refine wp_run 2 (pc' := 11) (ls' := [.ref 49, .ref 1, .ref 47, .ref 69, .int (nI (ab_fs (fun i => ab_ft (X 70) l n (ab_got LK c n i)) i)), .int ((nI i) + 1)]) (st' := []) rfl ?_
      rw [show (((nI i) + 1) : Int32) = (nI (i + 1)) from nI_add i 1]
      rw [show ((nI (ab_fs (fun i => ab_ft (X 70) l n (ab_got LK c n i)) i)) : Int32) = nI (ab_fs (fun i => ab_ft (X 70) l n (ab_got LK c n i)) (i + 1)) from (congrArg nI (if_neg (fun q => cq44n (hft.mpr q)))).symm]
      exact ih (i + 1) _ (by omega)
    · skip
      replace cq44 := Decidable.not_not.mp cq44
      have cq44n : r3 = l := (nI_eq (a := r3) (b := l) (by omega) (by omega)).mp cq44
      refine wp_run 8 (pc' := 11) (ls' := [.ref 49, .ref 1, .ref 47, .ref 69, .int ((nI (ab_fs (fun i => ab_ft (X 70) l n (ab_got LK c n i)) i)) ||| (1 <<< ((nI i) &&& 31))), .int ((nI i) + 1)]) (st' := []) rfl ?_
      rw [show (((nI i) + 1) : Int32) = (nI (i + 1)) from nI_add i 1]
      rw [show (((nI (ab_fs (fun i => ab_ft (X 70) l n (ab_got LK c n i)) i)) ||| (1 <<< ((nI i) &&& 31))) : Int32) = nI (ab_fs (fun i => ab_ft (X 70) l n (ab_got LK c n i)) (i + 1)) from by rw [pu_set_i _ (ab_fs_lt _ i (by omega)) i (by omega)]; exact (congrArg nI (if_pos (hft.mp cq44n))).symm]
      exact ih (i + 1) _ (by omega)
theorem sp_fit2 {L : Nat} {xs : Nat → Int32} {d ms b : Nat} {h : am_HI} {Q : am_Q} {n c t l : Nat} {s0 s1 : Int32} {p0 p1 : List Int32} (HS : am_hs h n c t s0 s1 p0 p1) (ho2 : h 69 2 = nI l) (hl24 : l ≤ 24) (hd : 6 ≤ d) (kk : ∀ gz, Q (some (.int (nI (ab_fs (fun i => ab_ft (h 70) l n (ab_got (fun j g => hs_lk h s0 p0 j g) c n i)) n)))) (am_S b) (am_ov h [17, 18, 47, 48, 53] gz)) :
    am_wp L xs d 0 ms 99 0 [.ref 49, .ref 1, .ref 47, .ref 69, am_du, am_du] [] (am_S b) h Q := by
  refine wp_run 2 (pc' := 2) (ls' := [.ref 49, .ref 1, .ref 47, .ref 69, am_du, am_du]) (st' := [.ref 1, .ref 47]) rfl ?_
  refine wp_callV (o := 47) (as := [.ref 1]) (rest := []) (els := [.ref 47, .ref 1, am_du]) rfl rfl rfl rfl rfl rfl rfl rfl (by omega) ?_
  refine sp_learnAll HS (by omega) (fun gz f47 f48 => ?_)
  show am_wp L xs _ _ _ _ 5 [.ref 49, .ref 1, .ref 47, .ref 69, am_du, am_du] [] (am_S b) (am_ov h [17, 18, 47, 48] gz) _
  refine wp_run 4 (pc' := 11) (ls' := [.ref 49, .ref 1, .ref 47, .ref 69, .int 0, .int 0]) (st' := []) rfl ?_
  have hp := fun kq => lp_fit2 (L := L) (xs := xs) (d := d) (ms := ms) (b := b) (h := h) (Q := Q) (X := (am_ov h [17, 18, 47, 48] gz)) (n := n) (c := c) (l := l) (LK := fun j g => hs_lk h s0 p0 j g) HS.1 HS.2.2.2.1 HS.2.1 HS.2.2.2.2.1 ho2 hl24 f47 f48 (fun j g => hs_lk_0 h s0 p0 j g) (by omega) kq n 0 ((am_ov h [17, 18, 47, 48] gz) 53) (by omega)
  rw [← am_ur_self] at hp
  refine hp (fun r => ?_)
  have eX : am_ur (am_ov h [17, 18, 47, 48] gz) 53 r = am_ov h [17, 18, 47, 48, 53] (am_ur (am_ov h [17, 18, 47, 48] gz) 53 r) := am_ov_of (fun a ha => by rw [am_ur_off _ _ (am_nel ha rfl), am_ov_off (am_sub ha rfl)])
  rw [eX]
  exact kk _
theorem lp_fit3 {L : Nat} {xs : Nat → Int32} {d ms b : Nat} {h : am_HI} {Q : am_Q} {X : am_HI} {n c l : Nat} {LK : Nat → Nat → Int32} (hn : X 1 10 = nI n) (hn7 : n ≤ 7) (hc : X 1 11 = nI c) (hc7 : c ≤ 7) (ho2 : X 71 2 = nI l) (hl24 : l ≤ 24) (hb : 0 < n → X 47 1 = nI c) (hl : ∀ g, g < n → ∀ j, j < c → X 48 (g * 7 + j) = LK j g) (hl0 : ∀ j g, 0 ≤ LK j g) (hd : 4 ≤ d) (kk : ∀ r, Q (some (.int (nI (ab_fs (fun i => ab_ft (X 72) l n (ab_got LK c n i)) n)))) (am_S b) (am_ur X 53 r)) :
    ∀ (m i : Nat) (r : Nat → Int32), i + m = n → am_wp L xs d 0 ms 99 11 [.ref 49, .ref 1, .ref 47, .ref 71, .int (nI (ab_fs (fun i => ab_ft (X 72) l n (ab_got LK c n i)) i)), .int (nI i)] [] (am_S b) (am_ur X 53 r) Q := by
  intro m
  induction m with
  | zero =>
    intro i r hi
    have e9 : i = n := by omega
    rw [e9]
    refine wp_run 2 (pc' := 14) (ls' := [.ref 49, .ref 1, .ref 47, .ref 71, .int (nI (ab_fs (fun i => ab_ft (X 72) l n (ab_got LK c n i)) n)), .int (nI n)]) (st' := [.ref 1, .int (nI n)]) rfl ?_
    refine wp_geti (a := 10) (nI n) hn rfl rfl rfl ?_
    refine wp_icmp_t rfl (show (nI n) ≤ (nI n) from (nI_leI (a := n) (b := n) (by omega) (by omega)).mpr (by omega)) ?_
    refine wp_run 1 (pc' := 64) (ls' := [.ref 49, .ref 1, .ref 47, .ref 71, .int (nI (ab_fs (fun i => ab_ft (X 72) l n (ab_got LK c n i)) n)), .int (nI n)]) (st' := [.int (nI (ab_fs (fun i => ab_ft (X 72) l n (ab_got LK c n i)) n))]) rfl ?_
    refine wp_ret rfl ?_
    exact kk r
  | succ m ih =>
    intro i r hi
    refine wp_run 2 (pc' := 14) (ls' := [.ref 49, .ref 1, .ref 47, .ref 71, .int (nI (ab_fs (fun i => ab_ft (X 72) l n (ab_got LK c n i)) i)), .int (nI i)]) (st' := [.ref 1, .int (nI i)]) rfl ?_
    refine wp_geti (a := 10) (nI n) hn rfl rfl rfl ?_
    refine wp_icmp_f rfl (show ¬ ((nI n) ≤ (nI i)) from mt (nI_leI (a := n) (b := i) (by omega) (by omega)).mp (by omega)) ?_
    refine wp_run 4 (pc' := 25) (ls' := [.ref 49, .ref 1, .ref 47, .ref 71, .int (nI (ab_fs (fun i => ab_ft (X 72) l n (ab_got LK c n i)) i)), .int (nI i)]) (st' := [.int (nI i), .ref 47, .ref 1, .ref 49]) rfl ?_
    refine wp_callV (o := 49) (as := [.ref 1, .ref 47, .int (nI i)]) (rest := []) (els := [.ref 49, .ref 1, .ref 47, .int (nI i), am_du, am_du, am_du]) rfl rfl rfl rfl rfl rfl rfl rfl (by omega) ?_
    refine sp_round (h := h) (X := am_ur X 53 r) (n := n) (c := c) (f := i) (LK := LK) hn hn7 hc hc7 (by omega) (hb (by omega)) hl hl0 (by omega) (fun r2 hr2 => ?_)
    rw [am_ur_ur]
    show am_wp L xs _ _ _ _ 28 [.ref 49, .ref 1, .ref 47, .ref 71, .int (nI (ab_fs (fun i => ab_ft (X 72) l n (ab_got LK c n i)) i)), .int (nI i)] [] (am_S b) (am_ur X 53 r2) _
    refine wp_run 2 (pc' := 30) (ls' := [.ref 49, .ref 1, .ref 47, .ref 71, .int (nI (ab_fs (fun i => ab_ft (X 72) l n (ab_got LK c n i)) i)), .int (nI i)]) (st' := [.ref 49, .ref 71]) rfl ?_
    refine wp_getr 53 rfl rfl rfl ?_
    refine wp_run 1 (pc' := 34) (ls' := [.ref 49, .ref 1, .ref 47, .ref 71, .int (nI (ab_fs (fun i => ab_ft (X 72) l n (ab_got LK c n i)) i)), .int (nI i)]) (st' := [.ref 1, .ref 53, .ref 71]) rfl ?_
    refine wp_geti (a := 10) (nI n) hn rfl rfl rfl ?_
    refine wp_callV (o := 71) (as := [.ref 53, .int (nI n)]) (rest := []) (els := [.ref 71, .ref 53, .int (nI n), am_du]) rfl rfl rfl rfl rfl rfl rfl rfl (by omega) ?_
    refine sp_rightOnes (h := am_ur X 53 r2) (o := 71) (e := 53) (l := l) (n := n) rfl rfl rfl rfl ho2 hl24 hn7 (fun r3 hr3 => ?_)
    have hft := ab_ft_ro hr3 hr2
    have hr3l := hr3.1
    show am_wp L xs _ _ _ _ 40 [.ref 49, .ref 1, .ref 47, .ref 71, .int (nI (ab_fs (fun i => ab_ft (X 72) l n (ab_got LK c n i)) i)), .int (nI i)] [.int (nI r3)] (am_S b) (am_ur X 53 r2) _
    refine wp_run 1 (pc' := 41) (ls' := [.ref 49, .ref 1, .ref 47, .ref 71, .int (nI (ab_fs (fun i => ab_ft (X 72) l n (ab_got LK c n i)) i)), .int (nI i)]) (st' := [.ref 71, .int (nI r3)]) rfl ?_
    refine wp_geti (a := 2) (nI l) ho2 rfl rfl rfl ?_
    refine wp_icmp rfl (fun (cq44 : ¬ (nI r3) = (nI l)) => ?_) (fun (cq44 : ¬ (¬ (nI r3) = (nI l))) => ?_)
    · skip
      have cq44n : ¬ (r3 = l) := fun q => cq44 ((nI_eq (a := r3) (b := l) (by omega) (by omega)).mpr q)
      refine wp_run 2 (pc' := 11) (ls' := [.ref 49, .ref 1, .ref 47, .ref 71, .int (nI (ab_fs (fun i => ab_ft (X 72) l n (ab_got LK c n i)) i)), .int ((nI i) + 1)]) (st' := []) rfl ?_
      rw [show (((nI i) + 1) : Int32) = (nI (i + 1)) from nI_add i 1]
      rw [show ((nI (ab_fs (fun i => ab_ft (X 72) l n (ab_got LK c n i)) i)) : Int32) = nI (ab_fs (fun i => ab_ft (X 72) l n (ab_got LK c n i)) (i + 1)) from (congrArg nI (if_neg (fun q => cq44n (hft.mpr q)))).symm]
      exact ih (i + 1) _ (by omega)
    · skip
      replace cq44 := Decidable.not_not.mp cq44
      have cq44n : r3 = l := (nI_eq (a := r3) (b := l) (by omega) (by omega)).mp cq44
      refine wp_run 8 (pc' := 11) (ls' := [.ref 49, .ref 1, .ref 47, .ref 71, .int ((nI (ab_fs (fun i => ab_ft (X 72) l n (ab_got LK c n i)) i)) ||| (1 <<< ((nI i) &&& 31))), .int ((nI i) + 1)]) (st' := []) rfl ?_
      rw [show (((nI i) + 1) : Int32) = (nI (i + 1)) from nI_add i 1]
      rw [show (((nI (ab_fs (fun i => ab_ft (X 72) l n (ab_got LK c n i)) i)) ||| (1 <<< ((nI i) &&& 31))) : Int32) = nI (ab_fs (fun i => ab_ft (X 72) l n (ab_got LK c n i)) (i + 1)) from by rw [pu_set_i _ (ab_fs_lt _ i (by omega)) i (by omega)]; exact (congrArg nI (if_pos (hft.mp cq44n))).symm]
      exact ih (i + 1) _ (by omega)
theorem sp_fit3 {L : Nat} {xs : Nat → Int32} {d ms b : Nat} {h : am_HI} {Q : am_Q} {n c t l : Nat} {s0 s1 : Int32} {p0 p1 : List Int32} (HS : am_hs h n c t s0 s1 p0 p1) (ho2 : h 71 2 = nI l) (hl24 : l ≤ 24) (hd : 6 ≤ d) (kk : ∀ gz, Q (some (.int (nI (ab_fs (fun i => ab_ft (h 72) l n (ab_got (fun j g => hs_lk h s0 p0 j g) c n i)) n)))) (am_S b) (am_ov h [17, 18, 47, 48, 53] gz)) :
    am_wp L xs d 0 ms 99 0 [.ref 49, .ref 1, .ref 47, .ref 71, am_du, am_du] [] (am_S b) h Q := by
  refine wp_run 2 (pc' := 2) (ls' := [.ref 49, .ref 1, .ref 47, .ref 71, am_du, am_du]) (st' := [.ref 1, .ref 47]) rfl ?_
  refine wp_callV (o := 47) (as := [.ref 1]) (rest := []) (els := [.ref 47, .ref 1, am_du]) rfl rfl rfl rfl rfl rfl rfl rfl (by omega) ?_
  refine sp_learnAll HS (by omega) (fun gz f47 f48 => ?_)
  show am_wp L xs _ _ _ _ 5 [.ref 49, .ref 1, .ref 47, .ref 71, am_du, am_du] [] (am_S b) (am_ov h [17, 18, 47, 48] gz) _
  refine wp_run 4 (pc' := 11) (ls' := [.ref 49, .ref 1, .ref 47, .ref 71, .int 0, .int 0]) (st' := []) rfl ?_
  have hp := fun kq => lp_fit3 (L := L) (xs := xs) (d := d) (ms := ms) (b := b) (h := h) (Q := Q) (X := (am_ov h [17, 18, 47, 48] gz)) (n := n) (c := c) (l := l) (LK := fun j g => hs_lk h s0 p0 j g) HS.1 HS.2.2.2.1 HS.2.1 HS.2.2.2.2.1 ho2 hl24 f47 f48 (fun j g => hs_lk_0 h s0 p0 j g) (by omega) kq n 0 ((am_ov h [17, 18, 47, 48] gz) 53) (by omega)
  rw [← am_ur_self] at hp
  refine hp (fun r => ?_)
  have eX : am_ur (am_ov h [17, 18, 47, 48] gz) 53 r = am_ov h [17, 18, 47, 48, 53] (am_ur (am_ov h [17, 18, 47, 48] gz) 53 r) := am_ov_of (fun a ha => by rw [am_ur_off _ _ (am_nel ha rfl), am_ov_off (am_sub ha rfl)])
  rw [eX]
  exact kk _
