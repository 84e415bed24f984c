/-! calls tied: odds, fits -/
theorem lp_gcd {L : Nat} {xs : Nat → Int32} {d ms b : Nat} {h : am_HI} {Q : am_Q} (u0 u1 : Int32) :
    ∀ (N b2 a s : Nat) (u5 : Value), b2 < N → b2 < 100 → a < 100 → s + b2 < 64 → (kk : Q (some (.int (nI (Nat.gcd b2 a)))) (am_S b) h) → am_wp L xs d 0 ms 95 7 [.int u0, .int u1, .int (nI a), .int (nI b2), .int (nI s), u5] [] (am_S b) h Q := by
  intro N
  induction N with
  | zero =>
    intro b2 a s u5 h1
    omega
  | succ N ih =>
    intro b2 a s u5 h1 h2 h3 h4 kk
    refine wp_run 2 (pc' := 11) (ls' := [.int u0, .int u1, .int (nI a), .int (nI b2), .int (nI s), u5]) (st' := [.int 64, .int (nI s)]) rfl ?_
    refine wp_icmp_f rfl (show ¬ (64 ≤ (nI s)) from mt (nI_leI (a := 64) (b := s) (by omega) (by omega)).mp (by omega)) ?_
    refine wp_run 1 (pc' := 15) (ls' := [.int u0, .int u1, .int (nI a), .int (nI b2), .int (nI s), u5]) (st' := [.int (nI b2)]) rfl ?_
    refine wp_if rfl (fun (cq15 : (nI b2) = 0) => ?_) (fun (cq15 : ¬ ((nI b2) = 0)) => ?_)
    · skip
      have cq15n : b2 = 0 := (nI_eq (a := b2) (b := 0) (by omega) (by omega)).mp cq15
      refine wp_run 1 (pc' := 35) (ls' := [.int u0, .int u1, .int (nI a), .int (nI b2), .int (nI s), u5]) (st' := [.int (nI a)]) rfl ?_
      refine wp_ret rfl ?_
      rw [cq15n, Nat.gcd_zero_left] at kk
      exact kk
    · skip
      have cq15n : ¬ (b2 = 0) := fun q => cq15 ((nI_eq (a := b2) (b := 0) (by omega) (by omega)).mpr q)
      refine wp_run 2 (pc' := 20) (ls' := [.int u0, .int u1, .int (nI a), .int (nI b2), .int (nI s), u5]) (st' := [.int (nI b2), .int (nI a)]) rfl ?_
      refine wp_irem rfl (nI_ne0 (by omega) (by omega)) ?_
      have hlt := Nat.mod_lt a (show 0 < b2 by omega)
      rw [show ((am_rem (nI a) (nI b2)) : Int32) = nI (a % b2) from pk_rem (by omega) (by omega) (by omega)]
      refine wp_run 7 (pc' := 7) (ls' := [.int u0, .int u1, .int (nI b2), .int (nI (a % b2)), .int ((nI s) + 1), .int (nI (a % b2))]) (st' := []) rfl ?_
      rw [show (((nI s) + 1) : Int32) = (nI (s + 1)) from nI_add s 1]
      refine ih _ _ _ _ (by omega) (by omega) (by omega) (by omega) ?_
      rw [Nat.gcd_rec] at kk
      exact kk
theorem sp_gcd {L : Nat} {xs : Nat → Int32} {d ms b : Nat} {h : am_HI} {Q : am_Q} {a b2 : Nat} (ha : a < 60) (hb : b2 < 60) (kk : Q (some (.int (nI (Nat.gcd b2 a)))) (am_S b) h) : am_wp L xs d 0 ms 95 0 [.int (nI a), .int (nI b2), am_du, am_du, am_du, am_du] [] (am_S b) h Q := by
  refine wp_run 6 (pc' := 7) (ls' := [.int (nI a), .int (nI b2), .int (nI a), .int (nI b2), .int 0, am_du]) (st' := []) rfl ?_
  exact lp_gcd _ _ (b2 + 1) b2 a 0 _ (by omega) (by omega) (by omega) (by omega) kk
def od_r : Nat → Nat → Nat → Nat × Nat
  | 0, a, b => (a, b)
  | k + 1, a, b => if 1 < k + 1 ∧ a % (k + 1) = 0 ∧ b % (k + 1) = 0 then od_r k (a / (k + 1)) (b / (k + 1)) else od_r k a b
theorem od_gcd : ∀ n, n < 8 → 0 < n → ∀ a, a < n + 1 → od_r n a n = (a / Nat.gcd n a, n / Nat.gcd n a) ∧ 0 < Nat.gcd n a := by decide +kernel
theorem lp_odr {L : Nat} {xs : Nat → Int32} {d ms b : Nat} {h : am_HI} {Q : am_Q} {u1 u2 : Int32} :
    ∀ (k a b2 : Nat), k < 8 → a < 8 → b2 < 8 → (kk : ∀ u5, am_wp L xs d 0 ms 192 139 [.ref 74, .int u1, .int u2, .int (nI (od_r k a b2).1), .int (nI (od_r k a b2).2), u5] [] (am_S b) h Q) → am_wp L xs d 0 ms 192 100 [.ref 74, .int u1, .int u2, .int (nI a), .int (nI b2), .int (nI k)] [] (am_S b) h Q := by
  intro k
  induction k with
  | zero =>
    intro a b2 h1 h2 h3 kk
    refine wp_run 2 (pc' := 103) (ls' := [.ref 74, .int u1, .int u2, .int (nI a), .int (nI b2), .int (nI 0)]) (st' := [.int 1, .int (nI 0)]) rfl ?_
    refine wp_icmp_t rfl (show (nI 0) ≤ 1 from (nI_leI (a := 0) (b := 1) (by omega) (by omega)).mpr (by omega)) ?_
    exact kk _
  | succ k ih =>
    intro a b2 h1 h2 h3 kk
    refine wp_run 2 (pc' := 103) (ls' := [.ref 74, .int u1, .int u2, .int (nI a), .int (nI b2), .int (nI (k + 1))]) (st' := [.int 1, .int (nI (k + 1))]) rfl ?_
    refine wp_icmp rfl (fun (cq103 : (nI (k + 1)) ≤ 1) => ?_) (fun (cq103 : ¬ ((nI (k + 1)) ≤ 1)) => ?_)
    · skip
      have cq103n : (k + 1) ≤ 1 := (nI_leI (a := (k + 1)) (b := 1) (by omega) (by omega)).mp cq103
      have ek : od_r (k + 1) a b2 = (a, b2) := by
        have k0 : k = 0 := by omega
        subst k0
        rfl
      rw [ek] at kk
      exact kk _
    · skip
      have cq103n : ¬ ((k + 1) ≤ 1) := fun q => cq103 ((nI_leI (a := (k + 1)) (b := 1) (by omega) (by omega)).mpr q)
      refine wp_run 2 (pc' := 109) (ls' := [.ref 74, .int u1, .int u2, .int (nI a), .int (nI b2), .int (nI (k + 1))]) (st' := [.int (nI (k + 1)), .int (nI a)]) rfl ?_
      refine wp_irem rfl (nI_ne0 (by omega) (by omega)) ?_
      rw [show ((am_rem (nI a) (nI (k + 1))) : Int32) = nI (a % (k + 1)) from pk_rem (by omega) (by omega) (by omega)]
      have hd110 := Nat.mod_lt a (show 0 < k + 1 by omega)
      refine wp_if rfl (fun (cq110 : ¬ (nI (a % (k + 1))) = 0) => ?_) (fun (cq110 : ¬ (¬ (nI (a % (k + 1))) = 0)) => ?_)
      · skip
        have cq110n : ¬ ((a % (k + 1)) = 0) := fun q => cq110 ((nI_eq (a := (a % (k + 1))) (b := 0) (by omega) (by omega)).mpr q)
        refine wp_run 2 (pc' := 100) (ls' := [.ref 74, .int u1, .int u2, .int (nI a), .int (nI b2), .int ((nI (k + 1)) + (-1))]) (st' := []) rfl ?_
        rw [show (((nI (k + 1)) + (-1)) : Int32) = (nI k) from pk_m1 k]
        have ek : od_r (k + 1) a b2 = od_r k a b2 := if_neg (fun q => cq110n q.2.1)
        rw [ek] at kk
        exact ih _ _ (by omega) (by omega) (by omega) kk
      · skip
        replace cq110 := Decidable.not_not.mp cq110
        have cq110n : (a % (k + 1)) = 0 := (nI_eq (a := (a % (k + 1))) (b := 0) (by omega) (by omega)).mp cq110
        refine wp_run 2 (pc' := 117) (ls' := [.ref 74, .int u1, .int u2, .int (nI a), .int (nI b2), .int (nI (k + 1))]) (st' := [.int (nI (k + 1)), .int (nI b2)]) rfl ?_
        refine wp_irem rfl (nI_ne0 (by omega) (by omega)) ?_
        rw [show ((am_rem (nI b2) (nI (k + 1))) : Int32) = nI (b2 % (k + 1)) from pk_rem (by omega) (by omega) (by omega)]
        have hd118 := Nat.mod_lt b2 (show 0 < k + 1 by omega)
        refine wp_if rfl (fun (cq118 : ¬ (nI (b2 % (k + 1))) = 0) => ?_) (fun (cq118 : ¬ (¬ (nI (b2 % (k + 1))) = 0)) => ?_)
        · skip
          have cq118n : ¬ ((b2 % (k + 1)) = 0) := fun q => cq118 ((nI_eq (a := (b2 % (k + 1))) (b := 0) (by omega) (by omega)).mpr q)
          refine wp_run 2 (pc' := 100) (ls' := [.ref 74, .int u1, .int u2, .int (nI a), .int (nI b2), .int ((nI (k + 1)) + (-1))]) (st' := []) rfl ?_
          rw [show (((nI (k + 1)) + (-1)) : Int32) = (nI k) from pk_m1 k]
          have ek : od_r (k + 1) a b2 = od_r k a b2 := if_neg (fun q => cq118n q.2.2)
          rw [ek] at kk
          exact ih _ _ (by omega) (by omega) (by omega) kk
        · skip
          replace cq118 := Decidable.not_not.mp cq118
          have cq118n : (b2 % (k + 1)) = 0 := (nI_eq (a := (b2 % (k + 1))) (b := 0) (by omega) (by omega)).mp cq118
          refine wp_run 2 (pc' := 124) (ls' := [.ref 74, .int u1, .int u2, .int (nI a), .int (nI b2), .int (nI (k + 1))]) (st' := [.int (nI (k + 1)), .int (nI a)]) rfl ?_
          refine wp_idiv rfl (nI_ne0 (by omega) (by omega)) ?_
          rw [show (((nI a) / (nI (k + 1))) : Int32) = nI (a / (k + 1)) from pk_div (by omega) (by omega) (by omega)]
          have hd125 := Nat.div_le_self a (k + 1)
          refine wp_run 3 (pc' := 130) (ls' := [.ref 74, .int u1, .int u2, .int (nI (a / (k + 1))), .int (nI b2), .int (nI (k + 1))]) (st' := [.int (nI (k + 1)), .int (nI b2)]) rfl ?_
          refine wp_idiv rfl (nI_ne0 (by omega) (by omega)) ?_
          rw [show (((nI b2) / (nI (k + 1))) : Int32) = nI (b2 / (k + 1)) from pk_div (by omega) (by omega) (by omega)]
          have hd131 := Nat.div_le_self b2 (k + 1)
          refine wp_run 3 (pc' := 100) (ls' := [.ref 74, .int u1, .int u2, .int (nI (a / (k + 1))), .int (nI (b2 / (k + 1))), .int ((nI (k + 1)) + (-1))]) (st' := []) rfl ?_
          rw [show (((nI (k + 1)) + (-1)) : Int32) = (nI k) from pk_m1 k]
          have ek : od_r (k + 1) a b2 = od_r k (a / (k + 1)) (b2 / (k + 1)) := if_pos ⟨by omega, cq110n, cq118n⟩
          rw [ek] at kk
          exact ih _ _ (by omega) (by omega) (by omega) kk
theorem lp_m_own {L : Nat} {xs : Nat → Int32} {d ms b : Nat} {h : am_HI} {Q : am_Q} {X : am_HI} {n c g : Nat} {LK : Nat → Nat → Int32} {U : Nat → Int32} {p2 : Int32} (hm2 : X 75 2 = nI n) (hn7 : n ≤ 7) (hm3 : X 75 3 = nI c) (hc7 : c ≤ 7) (hg : g < n) (hl : ∀ g, g < n → ∀ j, j < c → X 87 (7 * g + j) = LK j g) (hU : ∀ j, j < c → X 75 (35 + 3 * j + 2) = U j) (hd : 4 ≤ d) (kk : ∀ r, am_wp L xs d 0 ms 192 96 [.ref 74, .int (nI g), .int p2, .int (nI (ab_ct (fun i => ab_o1 U g (ab_got LK c n i g)) n)), .int (nI n), .int (nI n)] [] (am_S b) (am_ur X 88 r) Q) :
    ∀ (m i : Nat) (r : Nat → Int32), i + m = n → am_wp L xs d 0 ms 192 41 [.ref 74, .int (nI g), .int p2, .int (nI (ab_ct (fun i => ab_o1 U g (ab_got LK c n i g)) i)), .int (nI n), .int (nI i)] [] (am_S b) (am_ur X 88 r) Q := by
  intro m
  induction m with
  | zero =>
    intro i r hi
    have e9 : i = n := by omega
    rw [e9]
    refine wp_run 2 (pc' := 44) (ls' := [.ref 74, .int (nI g), .int p2, .int (nI (ab_ct (fun i => ab_o1 U g (ab_got LK c n i g)) n)), .int (nI n), .int (nI n)]) (st' := [.ref 74, .int (nI n)]) rfl ?_
    refine wp_getr 75 rfl rfl rfl ?_
    refine wp_run 1 (pc' := 48) (ls' := [.ref 74, .int (nI g), .int p2, .int (nI (ab_ct (fun i => ab_o1 U g (ab_got LK c n i g)) n)), .int (nI n), .int (nI n)]) (st' := [.int 2, .ref 75, .int (nI n)]) rfl ?_
    refine wp_ald (i := 2) (nI n) hm2 rfl rfl rfl (by decide) rfl ?_
    refine wp_icmp_t rfl (show (nI n) ≤ (nI n) from (nI_leI (a := n) (b := n) (by omega) (by omega)).mpr (by omega)) ?_
    exact kk r
  | succ m ih =>
    intro i r hi
    refine wp_run 2 (pc' := 44) (ls' := [.ref 74, .int (nI g), .int p2, .int (nI (ab_ct (fun i => ab_o1 U g (ab_got LK c n i g)) i)), .int (nI n), .int (nI i)]) (st' := [.ref 74, .int (nI i)]) rfl ?_
    refine wp_getr 75 rfl rfl rfl ?_
    refine wp_run 1 (pc' := 48) (ls' := [.ref 74, .int (nI g), .int p2, .int (nI (ab_ct (fun i => ab_o1 U g (ab_got LK c n i g)) i)), .int (nI n), .int (nI i)]) (st' := [.int 2, .ref 75, .int (nI i)]) rfl ?_
    refine wp_ald (i := 2) (nI n) hm2 rfl rfl rfl (by decide) rfl ?_
    refine wp_icmp_f rfl (show ¬ ((nI n) ≤ (nI i)) from mt (nI_leI (a := n) (b := i) (by omega) (by omega)).mp (by omega)) ?_
    refine wp_run 2 (pc' := 55) (ls' := [.ref 74, .int (nI g), .int p2, .int (nI (ab_ct (fun i => ab_o1 U g (ab_got LK c n i g)) i)), .int (nI n), .int (nI i)]) (st' := [.int (nI i), .ref 74]) rfl ?_
    refine wp_callV (o := 74) (as := [.int (nI i)]) (rest := []) (els := [.ref 74, .int (nI i), am_du, am_du, am_du, am_du]) rfl rfl rfl rfl rfl rfl rfl rfl (by omega) ?_
    refine sp_allGet (h := h) (X := am_ur X 88 r) (n := n) (c := c) (f := i) (LK := LK) hm2 hn7 hm3 hc7 (by omega) hl (by omega) (fun r2 hr2 => ?_)
    rw [am_ur_ur]
    show am_wp L xs _ _ _ _ 58 [.ref 74, .int (nI g), .int p2, .int (nI (ab_ct (fun i => ab_o1 U g (ab_got LK c n i g)) i)), .int (nI n), .int (nI i)] [] (am_S b) (am_ur X 88 r2) _
    rcases ab_G_or (LK := LK) (n := n) (f := i) (k := (g + n - i) % n) hc7 with e5 | ⟨j, hj, e5⟩
    · skip
      have e6 : ab_got LK c n i g = -1 := e5
      have e7 : r2 g = -1 := (hr2 g hg).trans e6
      refine wp_run 2 (pc' := 60) (ls' := [.ref 74, .int (nI g), .int p2, .int (nI (ab_ct (fun i => ab_o1 U g (ab_got LK c n i g)) i)), .int (nI n), .int (nI i)]) (st' := [.ref 74, .int (nI (ab_ct (fun i => ab_o1 U g (ab_got LK c n i g)) i))]) rfl ?_
      refine wp_getr 88 rfl rfl rfl ?_
      refine wp_run 1 (pc' := 64) (ls' := [.ref 74, .int (nI g), .int p2, .int (nI (ab_ct (fun i => ab_o1 U g (ab_got LK c n i g)) i)), .int (nI n), .int (nI i)]) (st' := [.int (nI g), .ref 88, .int (nI (ab_ct (fun i => ab_o1 U g (ab_got LK c n i g)) i))]) rfl ?_
      refine wp_ald (i := g) (-1) e7 rfl rfl rfl (by omega) rfl ?_
      refine wp_if_t rfl (show ((-1) : Int32) < 0 from by decide) ?_
      refine wp_run 5 (pc' := 41) (ls' := [.ref 74, .int (nI g), .int p2, .int ((nI (ab_ct (fun i => ab_o1 U g (ab_got LK c n i g)) i)) + 0), .int (nI n), .int ((nI i) + 1)]) (st' := []) rfl ?_
      rw [show (((nI (ab_ct (fun i => ab_o1 U g (ab_got LK c n i g)) i)) + 0) : Int32) = (nI ((ab_ct (fun i => ab_o1 U g (ab_got LK c n i g)) i) + 0)) from nI_add (ab_ct (fun i => ab_o1 U g (ab_got LK c n i g)) i) 0]
      rw [show (((nI i) + 1) : Int32) = (nI (i + 1)) from nI_add i 1]
      have eo : ab_o1 U g (ab_got LK c n i g) = 0 := by rw [e6]; exact if_pos rfl
      rw [show ((ab_ct (fun i => ab_o1 U g (ab_got LK c n i g)) i) + 0) = (ab_ct (fun i => ab_o1 U g (ab_got LK c n i g)) (i + 1)) from by have q : (ab_ct (fun i => ab_o1 U g (ab_got LK c n i g)) (i + 1)) = (ab_ct (fun i => ab_o1 U g (ab_got LK c n i g)) i) + ab_o1 U g (ab_got LK c n i g) := rfl; omega]
      exact ih (i + 1) _ (by omega)
    · skip
      have e6 : ab_got LK c n i g = nI j := e5
      have e7 : r2 g = nI j := (hr2 g hg).trans e6
      refine wp_run 2 (pc' := 60) (ls' := [.ref 74, .int (nI g), .int p2, .int (nI (ab_ct (fun i => ab_o1 U g (ab_got LK c n i g)) i)), .int (nI n), .int (nI i)]) (st' := [.ref 74, .int (nI (ab_ct (fun i => ab_o1 U g (ab_got LK c n i g)) i))]) rfl ?_
      refine wp_getr 88 rfl rfl rfl ?_
      refine wp_run 1 (pc' := 64) (ls' := [.ref 74, .int (nI g), .int p2, .int (nI (ab_ct (fun i => ab_o1 U g (ab_got LK c n i g)) i)), .int (nI n), .int (nI i)]) (st' := [.int (nI g), .ref 88, .int (nI (ab_ct (fun i => ab_o1 U g (ab_got LK c n i g)) i))]) rfl ?_
      refine wp_ald (i := g) (nI j) e7 rfl rfl rfl (by omega) rfl ?_
      refine wp_if_f rfl (show ¬ ((nI j) < 0) from mt (nI_ltI (a := j) (b := 0) (by omega) (by omega)).mp (by omega)) ?_
      refine wp_run 2 (pc' := 70) (ls' := [.ref 74, .int (nI g), .int p2, .int (nI (ab_ct (fun i => ab_o1 U g (ab_got LK c n i g)) i)), .int (nI n), .int (nI i)]) (st' := [.ref 74, .ref 74, .int (nI (ab_ct (fun i => ab_o1 U g (ab_got LK c n i g)) i))]) rfl ?_
      refine wp_getr 88 rfl rfl rfl ?_
      refine wp_run 1 (pc' := 74) (ls' := [.ref 74, .int (nI g), .int p2, .int (nI (ab_ct (fun i => ab_o1 U g (ab_got LK c n i g)) i)), .int (nI n), .int (nI i)]) (st' := [.int (nI g), .ref 88, .ref 74, .int (nI (ab_ct (fun i => ab_o1 U g (ab_got LK c n i g)) i))]) rfl ?_
      refine wp_ald (i := g) (nI j) e7 rfl rfl rfl (by omega) rfl ?_
      refine wp_run 1 (pc' := 76) (ls' := [.ref 74, .int (nI g), .int p2, .int (nI (ab_ct (fun i => ab_o1 U g (ab_got LK c n i g)) i)), .int (nI n), .int (nI i)]) (st' := [.int 2, .int (nI j), .ref 74, .int (nI (ab_ct (fun i => ab_o1 U g (ab_got LK c n i g)) i))]) rfl ?_
      refine wp_callV (o := 74) (as := [.int (nI j), .int 2]) (rest := [.int (nI (ab_ct (fun i => ab_o1 U g (ab_got LK c n i g)) i))]) (els := [.ref 74, .int (nI j), .int 2]) rfl rfl rfl rfl rfl rfl rfl rfl (by omega) ?_
      refine sp_of (w := 2) (U j) (hU j hj) (by omega) (by omega) ?_
      show am_wp L xs _ _ _ _ 79 [.ref 74, .int (nI g), .int p2, .int (nI (ab_ct (fun i => ab_o1 U g (ab_got LK c n i g)) i)), .int (nI n), .int (nI i)] [.int (U j), .int (nI (ab_ct (fun i => ab_o1 U g (ab_got LK c n i g)) i))] (am_S b) (am_ur X 88 r2) _
      refine wp_run 1 (pc' := 80) (ls' := [.ref 74, .int (nI g), .int p2, .int (nI (ab_ct (fun i => ab_o1 U g (ab_got LK c n i g)) i)), .int (nI n), .int (nI i)]) (st' := [.int (nI g), .int (U j), .int (nI (ab_ct (fun i => ab_o1 U g (ab_got LK c n i g)) i))]) rfl ?_
      refine wp_icmp rfl (fun (cq80 : ¬ (U j) = (nI g)) => ?_) (fun (cq80 : ¬ (¬ (U j) = (nI g))) => ?_)
      · skip
        refine wp_run 5 (pc' := 41) (ls' := [.ref 74, .int (nI g), .int p2, .int ((nI (ab_ct (fun i => ab_o1 U g (ab_got LK c n i g)) i)) + 0), .int (nI n), .int ((nI i) + 1)]) (st' := []) rfl ?_
        rw [show (((nI (ab_ct (fun i => ab_o1 U g (ab_got LK c n i g)) i)) + 0) : Int32) = (nI ((ab_ct (fun i => ab_o1 U g (ab_got LK c n i g)) i) + 0)) from nI_add (ab_ct (fun i => ab_o1 U g (ab_got LK c n i g)) i) 0]
        rw [show (((nI i) + 1) : Int32) = (nI (i + 1)) from nI_add i 1]
        have eo : ab_o1 U g (ab_got LK c n i g) = 0 := by rw [e6]; unfold ab_o1; rw [if_neg (pu_ne1 (by omega)), nI_clamp (by omega)]; exact if_neg cq80
        rw [show ((ab_ct (fun i => ab_o1 U g (ab_got LK c n i g)) i) + 0) = (ab_ct (fun i => ab_o1 U g (ab_got LK c n i g)) (i + 1)) from by have q : (ab_ct (fun i => ab_o1 U g (ab_got LK c n i g)) (i + 1)) = (ab_ct (fun i => ab_o1 U g (ab_got LK c n i g)) i) + ab_o1 U g (ab_got LK c n i g) := rfl; omega]
        exact ih (i + 1) _ (by omega)
      · skip
        replace cq80 := Decidable.not_not.mp cq80
        refine wp_run 6 (pc' := 41) (ls' := [.ref 74, .int (nI g), .int p2, .int ((nI (ab_ct (fun i => ab_o1 U g (ab_got LK c n i g)) i)) + 1), .int (nI n), .int ((nI i) + 1)]) (st' := []) rfl ?_
        rw [show (((nI (ab_ct (fun i => ab_o1 U g (ab_got LK c n i g)) i)) + 1) : Int32) = (nI ((ab_ct (fun i => ab_o1 U g (ab_got LK c n i g)) i) + 1)) from nI_add (ab_ct (fun i => ab_o1 U g (ab_got LK c n i g)) i) 1]
        rw [show (((nI i) + 1) : Int32) = (nI (i + 1)) from nI_add i 1]
        have eo : ab_o1 U g (ab_got LK c n i g) = 1 := by rw [e6]; unfold ab_o1; rw [if_neg (pu_ne1 (by omega)), nI_clamp (by omega)]; exact if_pos cq80
        rw [show ((ab_ct (fun i => ab_o1 U g (ab_got LK c n i g)) i) + 1) = (ab_ct (fun i => ab_o1 U g (ab_got LK c n i g)) (i + 1)) from by have q : (ab_ct (fun i => ab_o1 U g (ab_got LK c n i g)) (i + 1)) = (ab_ct (fun i => ab_o1 U g (ab_got LK c n i g)) i) + ab_o1 U g (ab_got LK c n i g) := rfl; omega]
        exact ih (i + 1) _ (by omega)
theorem am_ov2 {h g g2 : am_HI} {l l2 l3 : List Nat} {r : Nat → Int32} {k : Nat} {A : Nat} (hA : re_scr.elem A = true) (h1 : (l.all fun x => re_scr.elem x) = true) (h2 : (l2.all fun x => re_scr.elem x) = true) : ∀ a, re_scr.elem a = false → am_ur (am_ov (am_ov h l g) l2 g2) A r a = h a := fun a ha => by
  rw [am_ur_off _ _ (am_nel ha hA), am_ov_off (am_sub ha h2), am_ov_off (am_sub ha h1)]
theorem ab_got_c {LK LK2 : Nat → Nat → Int32} {c n f : Nat} (hn : 0 < n) (e : ∀ j g, j < c → g < n → LK j g = LK2 j g) (hc : c ≤ 7) (k : Nat) : ab_P LK c n f k = ab_P LK2 c n f k ∧ ab_G LK c n f k = ab_G LK2 c n f k := by
  have hG : ∀ k, ab_P LK c n f k = ab_P LK2 c n f k → ab_G LK c n f k = ab_G LK2 c n f k := fun k hk => by
    refine pu_pk_of hc (pu_pk_ok _ _ c hc) (fun j hj => ?_) (fun j hj => e j _ hj (Nat.mod_lt _ hn))
    show (ab_P LK c n f k).testBit j = (ab_P LK2 c n f k).testBit j
    rw [hk]
  induction k with
  | zero => exact ⟨rfl, hG 0 rfl⟩
  | succ k ih =>
    have hP : ab_P LK c n f (k + 1) = ab_P LK2 c n f (k + 1) := by
      rw [ab_P_s, ab_P_s, ih.1, ih.2]
    exact ⟨hP, hG _ hP⟩
theorem op_odds {L : Nat} {xs : Nat → Int32} {d ms b N : Nat} {h : am_HI} {Q : am_Q} {x1 : Int32} {x2 : Int32} (hd : 30 ≤ d) (hR : am_Rel N h) (hN : N < 100000)
    (kk : ∀ v b1 h1, (∀ ms2 Q2, (∀ b2 h2, am_Rel (N + 1) h2 → Q2 (some (.int v)) (am_S b2) h2) → am_wp L xs d 0 ms2 192 0 [.ref 74, .int x1, .int x2, am_du, am_du, am_du] [] (am_S b1) h1 Q2) → Q (some (.int v)) (am_S b1) h1) :
    am_wp L xs d 0 ms 92 0 [.ref 0, .int x1, .int x2, am_du, am_du, am_du] [] (am_S b) h Q := by
  obtain ⟨⟨n, c, t, tp, wt, s0, s1, p0, p1, H⟩, hI, hE, hS0, hS1, hS2, hS3, hT⟩ := id hR
  have hn := H.1.1
  have hm2 := H.1.2.1
  have hn7 := H.1.2.2
  have hc := H.2.1.1
  have hm3 := H.2.1.2.1
  have hc7 := H.2.1.2.2
  have ht := H.2.2.1.1
  have hm0 := H.2.2.1.2.1
  have ht9 := H.2.2.1.2.2
  have HS := re_hs H
  have HM := re_ms H
  refine wp_run 1 (pc' := 1) (ls' := [.ref 0, .int x1, .int x2, am_du, am_du, am_du]) (st' := [.ref 0]) rfl ?_
  refine wp_getr 1 rfl rfl rfl ?_
  refine wp_run 1 (pc' := 5) (ls' := [.ref 0, .int x1, .int x2, am_du, am_du, am_du]) (st' := [.int x1, .ref 1]) rfl ?_
  refine wp_callV (o := 1) (as := [.int x1]) (rest := []) (els := [.ref 1, .int x1]) rfl rfl rfl rfl rfl rfl rfl rfl (by omega) ?_
  refine sp_hasGuest hn hn7 (by omega) ?_ ?_
  · skip
    intro kx1 hkx1 ex1
    subst ex1
    show am_wp L xs _ _ _ _ 8 [.ref 0, .int (nI kx1), .int x2, am_du, am_du, am_du] [.int 1] (am_S b) h _
    refine wp_if_f rfl (show ¬ ((1 : Int32) = 0) from by decide) ?_
    refine wp_run 3 (pc' := 14) (ls' := [.ref 0, .int (nI kx1), .int x2, am_du, am_du, am_du]) (st' := [.int 1, .int 0, .int x2]) rfl ?_
    refine wp_callS (as := [.int x2, .int 0, .int 1]) (rest := []) (els := [.int x2, .int 0, .int 1]) rfl rfl rfl rfl rfl rfl rfl rfl (by omega) ?_
    refine sp_x_within0 (m := 1) rfl rfl (pu_two ?_ ?_) ?_
    · skip
      intro ex2
      subst ex2
      show am_wp L xs _ _ _ _ 17 [.ref 0, .int (nI kx1), .int 0, am_du, am_du, am_du] [.int 1] (am_S b) h _
      refine wp_if_t rfl (show ¬ (1 : Int32) = 0 from by decide) ?_
      refine wp_run 1 (pc' := 27) (ls' := [.ref 0, .int (nI kx1), .int 0, am_du, am_du, am_du]) (st' := [.ref 0]) rfl ?_
      refine wp_getr 49 rfl rfl rfl ?_
      refine wp_run 1 (pc' := 31) (ls' := [.ref 0, .int (nI kx1), .int 0, am_du, am_du, am_du]) (st' := [.ref 0, .ref 49]) rfl ?_
      refine wp_getr 1 rfl rfl rfl ?_
      refine wp_run 1 (pc' := 35) (ls' := [.ref 0, .int (nI kx1), .int 0, am_du, am_du, am_du]) (st' := [.ref 0, .ref 1, .ref 49]) rfl ?_
      refine wp_getr 47 rfl rfl rfl ?_
      refine wp_run 1 (pc' := 39) (ls' := [.ref 0, .int (nI kx1), .int 0, am_du, am_du, am_du]) (st' := [.int (nI kx1), .ref 47, .ref 1, .ref 49]) rfl ?_
      refine wp_callV (o := 49) (as := [.ref 1, .ref 47, .int (nI kx1)]) (rest := []) (els := [.ref 49, .ref 1, .ref 47, .int (nI kx1), am_du, am_du]) rfl rfl rfl rfl rfl rfl rfl rfl (by omega) ?_
      refine sp_own HS (g := kx1) (by omega) (by omega) (fun gz1 => ?_)
      have hct : (ab_ct (fun i => ab_o1 (h 8) kx1 (ab_got (fun j g => hs_lk h s0 p0 j g) c n i kx1)) n) ≤ n := ab_ct_le (fun i => ab_o1_le _ _ _) n
      have hgc := od_gcd n (by omega) (by omega) (ab_ct (fun i => ab_o1 (h 8) kx1 (ab_got (fun j g => hs_lk h s0 p0 j g) c n i kx1)) n) (by omega)
      show am_wp L xs _ _ _ _ 42 [.ref 0, .int (nI kx1), .int 0, am_du, am_du, am_du] [.int (nI (ab_ct (fun i => ab_o1 (h 8) kx1 (ab_got (fun j g => hs_lk h s0 p0 j g) c n i kx1)) n))] (am_S b) (am_ov h [17, 18, 47, 48, 53] gz1) _
      refine wp_run 2 (pc' := 44) (ls' := [.ref 0, .int (nI kx1), .int 0, .int (nI (ab_ct (fun i => ab_o1 (h 8) kx1 (ab_got (fun j g => hs_lk h s0 p0 j g) c n i kx1)) n)), am_du, am_du]) (st' := [.ref 0]) rfl ?_
      refine wp_getr 1 rfl rfl rfl ?_
      refine wp_geti (a := 10) (nI n) hn rfl rfl rfl ?_
      refine wp_run 3 (pc' := 55) (ls' := [.ref 0, .int (nI kx1), .int 0, .int (nI (ab_ct (fun i => ab_o1 (h 8) kx1 (ab_got (fun j g => hs_lk h s0 p0 j g) c n i kx1)) n)), .int (nI n), am_du]) (st' := [.int (nI n), .int (nI (ab_ct (fun i => ab_o1 (h 8) kx1 (ab_got (fun j g => hs_lk h s0 p0 j g) c n i kx1)) n))]) rfl ?_
      refine wp_callS (as := [.int (nI (ab_ct (fun i => ab_o1 (h 8) kx1 (ab_got (fun j g => hs_lk h s0 p0 j g) c n i kx1)) n)), .int (nI n)]) (rest := []) (els := [.int (nI (ab_ct (fun i => ab_o1 (h 8) kx1 (ab_got (fun j g => hs_lk h s0 p0 j g) c n i kx1)) n)), .int (nI n), am_du, am_du, am_du, am_du]) rfl rfl rfl rfl rfl rfl rfl rfl (by omega) ?_
      refine sp_gcd (by omega) (by omega) ?_
      have hgl : Nat.gcd n (ab_ct (fun i => ab_o1 (h 8) kx1 (ab_got (fun j g => hs_lk h s0 p0 j g) c n i kx1)) n) ≤ n := Nat.gcd_le_left _ (by omega)
      show am_wp L xs _ _ _ _ 58 [.ref 0, .int (nI kx1), .int 0, .int (nI (ab_ct (fun i => ab_o1 (h 8) kx1 (ab_got (fun j g => hs_lk h s0 p0 j g) c n i kx1)) n)), .int (nI n), am_du] [.int (nI (Nat.gcd n (ab_ct (fun i => ab_o1 (h 8) kx1 (ab_got (fun j g => hs_lk h s0 p0 j g) c n i kx1)) n)))] (am_S b) (am_ov h [17, 18, 47, 48, 53] gz1) _
      refine wp_run 2 (pc' := 62) (ls' := [.ref 0, .int (nI kx1), .int 0, .int (nI (ab_ct (fun i => ab_o1 (h 8) kx1 (ab_got (fun j g => hs_lk h s0 p0 j g) c n i kx1)) n)), .int (nI n), .int (nI (Nat.gcd n (ab_ct (fun i => ab_o1 (h 8) kx1 (ab_got (fun j g => hs_lk h s0 p0 j g) c n i kx1)) n)))]) (st' := [.int (nI (Nat.gcd n (ab_ct (fun i => ab_o1 (h 8) kx1 (ab_got (fun j g => hs_lk h s0 p0 j g) c n i kx1)) n)))]) rfl ?_
      refine wp_if_t rfl (show ¬ (nI (Nat.gcd n (ab_ct (fun i => ab_o1 (h 8) kx1 (ab_got (fun j g => hs_lk h s0 p0 j g) c n i kx1)) n))) = 0 from mt (nI_eq (a := (Nat.gcd n (ab_ct (fun i => ab_o1 (h 8) kx1 (ab_got (fun j g => hs_lk h s0 p0 j g) c n i kx1)) n))) (b := 0) (by omega) (by omega)).mp (by omega)) ?_
      refine wp_run 1 (pc' := 68) (ls' := [.ref 0, .int (nI kx1), .int 0, .int (nI (ab_ct (fun i => ab_o1 (h 8) kx1 (ab_got (fun j g => hs_lk h s0 p0 j g) c n i kx1)) n)), .int (nI n), .int (nI (Nat.gcd n (ab_ct (fun i => ab_o1 (h 8) kx1 (ab_got (fun j g => hs_lk h s0 p0 j g) c n i kx1)) n)))]) (st' := [.int 0]) rfl ?_
      refine wp_if_f rfl (show ¬ (¬ (0 : Int32) = 0) from by decide) ?_
      refine wp_run 2 (pc' := 74) (ls' := [.ref 0, .int (nI kx1), .int 0, .int (nI (ab_ct (fun i => ab_o1 (h 8) kx1 (ab_got (fun j g => hs_lk h s0 p0 j g) c n i kx1)) n)), .int (nI n), .int (nI (Nat.gcd n (ab_ct (fun i => ab_o1 (h 8) kx1 (ab_got (fun j g => hs_lk h s0 p0 j g) c n i kx1)) n)))]) (st' := [.int (nI (Nat.gcd n (ab_ct (fun i => ab_o1 (h 8) kx1 (ab_got (fun j g => hs_lk h s0 p0 j g) c n i kx1)) n))), .int (nI (ab_ct (fun i => ab_o1 (h 8) kx1 (ab_got (fun j g => hs_lk h s0 p0 j g) c n i kx1)) n))]) rfl ?_
      refine wp_idiv rfl (nI_ne0 hgc.2 (by omega)) ?_
      rw [show (((nI (ab_ct (fun i => ab_o1 (h 8) kx1 (ab_got (fun j g => hs_lk h s0 p0 j g) c n i kx1)) n)) / (nI (Nat.gcd n (ab_ct (fun i => ab_o1 (h 8) kx1 (ab_got (fun j g => hs_lk h s0 p0 j g) c n i kx1)) n)))) : Int32) = nI ((ab_ct (fun i => ab_o1 (h 8) kx1 (ab_got (fun j g => hs_lk h s0 p0 j g) c n i kx1)) n) / Nat.gcd n (ab_ct (fun i => ab_o1 (h 8) kx1 (ab_got (fun j g => hs_lk h s0 p0 j g) c n i kx1)) n)) from pk_div (by omega) hgc.2 (by omega)]
      refine wp_run 1 (pc' := 83) (ls' := [.ref 0, .int (nI kx1), .int 0, .int (nI (ab_ct (fun i => ab_o1 (h 8) kx1 (ab_got (fun j g => hs_lk h s0 p0 j g) c n i kx1)) n)), .int (nI n), .int (nI (Nat.gcd n (ab_ct (fun i => ab_o1 (h 8) kx1 (ab_got (fun j g => hs_lk h s0 p0 j g) c n i kx1)) n)))]) (st' := [.int (nI ((ab_ct (fun i => ab_o1 (h 8) kx1 (ab_got (fun j g => hs_lk h s0 p0 j g) c n i kx1)) n) / Nat.gcd n (ab_ct (fun i => ab_o1 (h 8) kx1 (ab_got (fun j g => hs_lk h s0 p0 j g) c n i kx1)) n)))]) rfl ?_
      refine wp_ret rfl ?_
      refine kk _ _ _ (fun ms2 Q2 kk2 => ?_)
      refine wp_run 2 (pc' := 2) (ls' := [.ref 74, .int (nI kx1), .int 0, am_du, am_du, am_du]) (st' := [.int (nI kx1), .ref 74]) rfl ?_
      refine wp_callV (o := 74) (as := [.int (nI kx1)]) (rest := []) (els := [.ref 74, .int (nI kx1)]) rfl rfl rfl rfl rfl rfl rfl rfl (by omega) ?_
      refine sp_m_isGuest hm2 hn7 (by omega) (fun _ _ _ => ?_) (fun q => absurd rfl (q kx1 (by omega)))
      show am_wp L xs _ _ _ _ 5 [.ref 74, .int (nI kx1), .int 0, am_du, am_du, am_du] [.int 1] (am_S b) (am_ov h [17, 18, 47, 48, 53] gz1) _
      refine wp_if_f rfl (show ¬ ((1 : Int32) = 0) from by decide) ?_
      refine wp_run 3 (pc' := 11) (ls' := [.ref 74, .int (nI kx1), .int 0, am_du, am_du, am_du]) (st' := [.int 1, .int 0, .int 0]) rfl ?_
      refine wp_callS (as := [.int 0, .int 0, .int 1]) (rest := []) (els := [.int 0, .int 0, .int 1]) rfl rfl rfl rfl rfl rfl rfl rfl (by omega) ?_
      refine sp_m_in0 (m := 1) rfl rfl (fun _ _ _ => ?_) (fun q => absurd rfl (q 0 (by omega)))
      show am_wp L xs _ _ _ _ 14 [.ref 74, .int (nI kx1), .int 0, am_du, am_du, am_du] [.int 1] (am_S b) (am_ov h [17, 18, 47, 48, 53] gz1) _
      refine wp_if_t rfl (show ¬ (1 : Int32) = 0 from by decide) ?_
      refine wp_run 1 (pc' := 25) (ls' := [.ref 74, .int (nI kx1), .int 0, am_du, am_du, am_du]) (st' := [.ref 74]) rfl ?_
      refine wp_callV (o := 74) (as := []) (rest := []) (els := [.ref 74, am_du, am_du]) rfl rfl rfl rfl rfl rfl rfl rfl (by omega) ?_
      refine sp_findWorths (h := (am_ov h [17, 18, 47, 48, 53] gz1)) (n := n) (c := c) (t := t) (s0 := s0) (s1 := s1) (p0 := p0) (p1 := p1) HM (by omega) (fun gz2 f86 f87 => ?_)
      show am_wp L xs _ _ _ _ 28 [.ref 74, .int (nI kx1), .int 0, am_du, am_du, am_du] [] (am_S b) (am_ov (am_ov h [17, 18, 47, 48, 53] gz1) [83, 84, 86, 87] gz2) _
      refine wp_run 3 (pc' := 31) (ls' := [.ref 74, .int (nI kx1), .int 0, .int 0, am_du, am_du]) (st' := [.ref 74]) rfl ?_
      refine wp_getr 75 rfl rfl rfl ?_
      refine wp_run 1 (pc' := 35) (ls' := [.ref 74, .int (nI kx1), .int 0, .int 0, am_du, am_du]) (st' := [.int 2, .ref 75]) rfl ?_
      refine wp_ald (i := 2) (nI n) hm2 rfl rfl rfl (by decide) rfl ?_
      refine wp_run 3 (pc' := 41) (ls' := [.ref 74, .int (nI kx1), .int 0, .int 0, .int (nI n), .int 0]) (st' := []) rfl ?_
      have hp := fun kq => lp_m_own (L := L) (xs := xs) (d := d) (ms := ms2) (b := b) (h := h) (Q := Q2) (X := (am_ov (am_ov h [17, 18, 47, 48, 53] gz1) [83, 84, 86, 87] gz2)) (n := n) (c := c) (g := kx1) (LK := (fun j g => hs_lk h s0 p0 j g)) (U := h 8) (p2 := 0) hm2 hn7 hm3 hc7 (by omega) (fun g hg j hj => (f87 g hg j hj).trans (re_lk H hj hg)) (fun j hj => (H.2.2.2.2.2.1 j (by omega)).2.2.symm) (by omega) kq n 0 ((am_ov (am_ov h [17, 18, 47, 48, 53] gz1) [83, 84, 86, 87] gz2) 88) (by omega)
      rw [← am_ur_self] at hp
      refine hp (fun r9 => ?_)
      refine wp_run 2 (pc' := 100) (ls' := [.ref 74, .int (nI kx1), .int 0, .int (nI (ab_ct (fun i => ab_o1 (h 8) kx1 (ab_got (fun j g => hs_lk h s0 p0 j g) c n i kx1)) n)), .int (nI n), .int (nI n)]) (st' := []) rfl ?_
      refine lp_odr n (ab_ct (fun i => ab_o1 (h 8) kx1 (ab_got (fun j g => hs_lk h s0 p0 j g) c n i kx1)) n) n (by omega) (by omega) (by omega) (fun u9 => ?_)
      rw [hgc.1]
      refine wp_run 1 (pc' := 140) (ls' := [.ref 74, .int (nI kx1), .int 0, .int (nI ((ab_ct (fun i => ab_o1 (h 8) kx1 (ab_got (fun j g => hs_lk h s0 p0 j g) c n i kx1)) n) / Nat.gcd n (ab_ct (fun i => ab_o1 (h 8) kx1 (ab_got (fun j g => hs_lk h s0 p0 j g) c n i kx1)) n))), .int (nI (n / Nat.gcd n (ab_ct (fun i => ab_o1 (h 8) kx1 (ab_got (fun j g => hs_lk h s0 p0 j g) c n i kx1)) n))), u9]) (st' := [.int 0]) rfl ?_
      refine wp_if_f rfl (show ¬ (¬ (0 : Int32) = 0) from by decide) ?_
      refine wp_run 2 (pc' := 149) (ls' := [.ref 74, .int (nI kx1), .int 0, .int (nI ((ab_ct (fun i => ab_o1 (h 8) kx1 (ab_got (fun j g => hs_lk h s0 p0 j g) c n i kx1)) n) / Nat.gcd n (ab_ct (fun i => ab_o1 (h 8) kx1 (ab_got (fun j g => hs_lk h s0 p0 j g) c n i kx1)) n))), .int (nI (n / Nat.gcd n (ab_ct (fun i => ab_o1 (h 8) kx1 (ab_got (fun j g => hs_lk h s0 p0 j g) c n i kx1)) n))), u9]) (st' := [.int (nI ((ab_ct (fun i => ab_o1 (h 8) kx1 (ab_got (fun j g => hs_lk h s0 p0 j g) c n i kx1)) n) / Nat.gcd n (ab_ct (fun i => ab_o1 (h 8) kx1 (ab_got (fun j g => hs_lk h s0 p0 j g) c n i kx1)) n)))]) rfl ?_
      refine wp_ret rfl ?_
      exact kk2 _ _ (re_keep hR (am_ov2 (l3 := []) (k := 0) rfl rfl rfl) ⟨n, c, t, tp, wt, s0, s1, p0, p1, H⟩)
    · skip
      intro ex2
      subst ex2
      show am_wp L xs _ _ _ _ 17 [.ref 0, .int (nI kx1), .int 1, am_du, am_du, am_du] [.int 1] (am_S b) h _
      refine wp_if_t rfl (show ¬ (1 : Int32) = 0 from by decide) ?_
      refine wp_run 1 (pc' := 27) (ls' := [.ref 0, .int (nI kx1), .int 1, am_du, am_du, am_du]) (st' := [.ref 0]) rfl ?_
      refine wp_getr 49 rfl rfl rfl ?_
      refine wp_run 1 (pc' := 31) (ls' := [.ref 0, .int (nI kx1), .int 1, am_du, am_du, am_du]) (st' := [.ref 0, .ref 49]) rfl ?_
      refine wp_getr 1 rfl rfl rfl ?_
      refine wp_run 1 (pc' := 35) (ls' := [.ref 0, .int (nI kx1), .int 1, am_du, am_du, am_du]) (st' := [.ref 0, .ref 1, .ref 49]) rfl ?_
      refine wp_getr 47 rfl rfl rfl ?_
      refine wp_run 1 (pc' := 39) (ls' := [.ref 0, .int (nI kx1), .int 1, am_du, am_du, am_du]) (st' := [.int (nI kx1), .ref 47, .ref 1, .ref 49]) rfl ?_
      refine wp_callV (o := 49) (as := [.ref 1, .ref 47, .int (nI kx1)]) (rest := []) (els := [.ref 49, .ref 1, .ref 47, .int (nI kx1), am_du, am_du]) rfl rfl rfl rfl rfl rfl rfl rfl (by omega) ?_
      refine sp_own HS (g := kx1) (by omega) (by omega) (fun gz1 => ?_)
      have hct : (ab_ct (fun i => ab_o1 (h 8) kx1 (ab_got (fun j g => hs_lk h s0 p0 j g) c n i kx1)) n) ≤ n := ab_ct_le (fun i => ab_o1_le _ _ _) n
      have hgc := od_gcd n (by omega) (by omega) (ab_ct (fun i => ab_o1 (h 8) kx1 (ab_got (fun j g => hs_lk h s0 p0 j g) c n i kx1)) n) (by omega)
      show am_wp L xs _ _ _ _ 42 [.ref 0, .int (nI kx1), .int 1, am_du, am_du, am_du] [.int (nI (ab_ct (fun i => ab_o1 (h 8) kx1 (ab_got (fun j g => hs_lk h s0 p0 j g) c n i kx1)) n))] (am_S b) (am_ov h [17, 18, 47, 48, 53] gz1) _
      refine wp_run 2 (pc' := 44) (ls' := [.ref 0, .int (nI kx1), .int 1, .int (nI (ab_ct (fun i => ab_o1 (h 8) kx1 (ab_got (fun j g => hs_lk h s0 p0 j g) c n i kx1)) n)), am_du, am_du]) (st' := [.ref 0]) rfl ?_
      refine wp_getr 1 rfl rfl rfl ?_
      refine wp_geti (a := 10) (nI n) hn rfl rfl rfl ?_
      refine wp_run 3 (pc' := 55) (ls' := [.ref 0, .int (nI kx1), .int 1, .int (nI (ab_ct (fun i => ab_o1 (h 8) kx1 (ab_got (fun j g => hs_lk h s0 p0 j g) c n i kx1)) n)), .int (nI n), am_du]) (st' := [.int (nI n), .int (nI (ab_ct (fun i => ab_o1 (h 8) kx1 (ab_got (fun j g => hs_lk h s0 p0 j g) c n i kx1)) n))]) rfl ?_
      refine wp_callS (as := [.int (nI (ab_ct (fun i => ab_o1 (h 8) kx1 (ab_got (fun j g => hs_lk h s0 p0 j g) c n i kx1)) n)), .int (nI n)]) (rest := []) (els := [.int (nI (ab_ct (fun i => ab_o1 (h 8) kx1 (ab_got (fun j g => hs_lk h s0 p0 j g) c n i kx1)) n)), .int (nI n), am_du, am_du, am_du, am_du]) rfl rfl rfl rfl rfl rfl rfl rfl (by omega) ?_
      refine sp_gcd (by omega) (by omega) ?_
      have hgl : Nat.gcd n (ab_ct (fun i => ab_o1 (h 8) kx1 (ab_got (fun j g => hs_lk h s0 p0 j g) c n i kx1)) n) ≤ n := Nat.gcd_le_left _ (by omega)
      show am_wp L xs _ _ _ _ 58 [.ref 0, .int (nI kx1), .int 1, .int (nI (ab_ct (fun i => ab_o1 (h 8) kx1 (ab_got (fun j g => hs_lk h s0 p0 j g) c n i kx1)) n)), .int (nI n), am_du] [.int (nI (Nat.gcd n (ab_ct (fun i => ab_o1 (h 8) kx1 (ab_got (fun j g => hs_lk h s0 p0 j g) c n i kx1)) n)))] (am_S b) (am_ov h [17, 18, 47, 48, 53] gz1) _
      refine wp_run 2 (pc' := 62) (ls' := [.ref 0, .int (nI kx1), .int 1, .int (nI (ab_ct (fun i => ab_o1 (h 8) kx1 (ab_got (fun j g => hs_lk h s0 p0 j g) c n i kx1)) n)), .int (nI n), .int (nI (Nat.gcd n (ab_ct (fun i => ab_o1 (h 8) kx1 (ab_got (fun j g => hs_lk h s0 p0 j g) c n i kx1)) n)))]) (st' := [.int (nI (Nat.gcd n (ab_ct (fun i => ab_o1 (h 8) kx1 (ab_got (fun j g => hs_lk h s0 p0 j g) c n i kx1)) n)))]) rfl ?_
      refine wp_if_t rfl (show ¬ (nI (Nat.gcd n (ab_ct (fun i => ab_o1 (h 8) kx1 (ab_got (fun j g => hs_lk h s0 p0 j g) c n i kx1)) n))) = 0 from mt (nI_eq (a := (Nat.gcd n (ab_ct (fun i => ab_o1 (h 8) kx1 (ab_got (fun j g => hs_lk h s0 p0 j g) c n i kx1)) n))) (b := 0) (by omega) (by omega)).mp (by omega)) ?_
      refine wp_run 1 (pc' := 68) (ls' := [.ref 0, .int (nI kx1), .int 1, .int (nI (ab_ct (fun i => ab_o1 (h 8) kx1 (ab_got (fun j g => hs_lk h s0 p0 j g) c n i kx1)) n)), .int (nI n), .int (nI (Nat.gcd n (ab_ct (fun i => ab_o1 (h 8) kx1 (ab_got (fun j g => hs_lk h s0 p0 j g) c n i kx1)) n)))]) (st' := [.int 1]) rfl ?_
      refine wp_if_t rfl (show ¬ (1 : Int32) = 0 from by decide) ?_
      refine wp_run 2 (pc' := 82) (ls' := [.ref 0, .int (nI kx1), .int 1, .int (nI (ab_ct (fun i => ab_o1 (h 8) kx1 (ab_got (fun j g => hs_lk h s0 p0 j g) c n i kx1)) n)), .int (nI n), .int (nI (Nat.gcd n (ab_ct (fun i => ab_o1 (h 8) kx1 (ab_got (fun j g => hs_lk h s0 p0 j g) c n i kx1)) n)))]) (st' := [.int (nI (Nat.gcd n (ab_ct (fun i => ab_o1 (h 8) kx1 (ab_got (fun j g => hs_lk h s0 p0 j g) c n i kx1)) n))), .int (nI n)]) rfl ?_
      refine wp_idiv rfl (nI_ne0 hgc.2 (by omega)) ?_
      rw [show (((nI n) / (nI (Nat.gcd n (ab_ct (fun i => ab_o1 (h 8) kx1 (ab_got (fun j g => hs_lk h s0 p0 j g) c n i kx1)) n)))) : Int32) = nI (n / Nat.gcd n (ab_ct (fun i => ab_o1 (h 8) kx1 (ab_got (fun j g => hs_lk h s0 p0 j g) c n i kx1)) n)) from pk_div (by omega) hgc.2 (by omega)]
      refine wp_ret rfl ?_
      refine kk _ _ _ (fun ms2 Q2 kk2 => ?_)
      refine wp_run 2 (pc' := 2) (ls' := [.ref 74, .int (nI kx1), .int 1, am_du, am_du, am_du]) (st' := [.int (nI kx1), .ref 74]) rfl ?_
      refine wp_callV (o := 74) (as := [.int (nI kx1)]) (rest := []) (els := [.ref 74, .int (nI kx1)]) rfl rfl rfl rfl rfl rfl rfl rfl (by omega) ?_
      refine sp_m_isGuest hm2 hn7 (by omega) (fun _ _ _ => ?_) (fun q => absurd rfl (q kx1 (by omega)))
      show am_wp L xs _ _ _ _ 5 [.ref 74, .int (nI kx1), .int 1, am_du, am_du, am_du] [.int 1] (am_S b) (am_ov h [17, 18, 47, 48, 53] gz1) _
      refine wp_if_f rfl (show ¬ ((1 : Int32) = 0) from by decide) ?_
      refine wp_run 3 (pc' := 11) (ls' := [.ref 74, .int (nI kx1), .int 1, am_du, am_du, am_du]) (st' := [.int 1, .int 0, .int 1]) rfl ?_
      refine wp_callS (as := [.int 1, .int 0, .int 1]) (rest := []) (els := [.int 1, .int 0, .int 1]) rfl rfl rfl rfl rfl rfl rfl rfl (by omega) ?_
      refine sp_m_in0 (m := 1) rfl rfl (fun _ _ _ => ?_) (fun q => absurd rfl (q 1 (by omega)))
      show am_wp L xs _ _ _ _ 14 [.ref 74, .int (nI kx1), .int 1, am_du, am_du, am_du] [.int 1] (am_S b) (am_ov h [17, 18, 47, 48, 53] gz1) _
      refine wp_if_t rfl (show ¬ (1 : Int32) = 0 from by decide) ?_
      refine wp_run 1 (pc' := 25) (ls' := [.ref 74, .int (nI kx1), .int 1, am_du, am_du, am_du]) (st' := [.ref 74]) rfl ?_
      refine wp_callV (o := 74) (as := []) (rest := []) (els := [.ref 74, am_du, am_du]) rfl rfl rfl rfl rfl rfl rfl rfl (by omega) ?_
      refine sp_findWorths (h := (am_ov h [17, 18, 47, 48, 53] gz1)) (n := n) (c := c) (t := t) (s0 := s0) (s1 := s1) (p0 := p0) (p1 := p1) HM (by omega) (fun gz2 f86 f87 => ?_)
      show am_wp L xs _ _ _ _ 28 [.ref 74, .int (nI kx1), .int 1, am_du, am_du, am_du] [] (am_S b) (am_ov (am_ov h [17, 18, 47, 48, 53] gz1) [83, 84, 86, 87] gz2) _
      refine wp_run 3 (pc' := 31) (ls' := [.ref 74, .int (nI kx1), .int 1, .int 0, am_du, am_du]) (st' := [.ref 74]) rfl ?_
      refine wp_getr 75 rfl rfl rfl ?_
      refine wp_run 1 (pc' := 35) (ls' := [.ref 74, .int (nI kx1), .int 1, .int 0, am_du, am_du]) (st' := [.int 2, .ref 75]) rfl ?_
      refine wp_ald (i := 2) (nI n) hm2 rfl rfl rfl (by decide) rfl ?_
      refine wp_run 3 (pc' := 41) (ls' := [.ref 74, .int (nI kx1), .int 1, .int 0, .int (nI n), .int 0]) (st' := []) rfl ?_
      have hp := fun kq => lp_m_own (L := L) (xs := xs) (d := d) (ms := ms2) (b := b) (h := h) (Q := Q2) (X := (am_ov (am_ov h [17, 18, 47, 48, 53] gz1) [83, 84, 86, 87] gz2)) (n := n) (c := c) (g := kx1) (LK := (fun j g => hs_lk h s0 p0 j g)) (U := h 8) (p2 := 1) hm2 hn7 hm3 hc7 (by omega) (fun g hg j hj => (f87 g hg j hj).trans (re_lk H hj hg)) (fun j hj => (H.2.2.2.2.2.1 j (by omega)).2.2.symm) (by omega) kq n 0 ((am_ov (am_ov h [17, 18, 47, 48, 53] gz1) [83, 84, 86, 87] gz2) 88) (by omega)
      rw [← am_ur_self] at hp
      refine hp (fun r9 => ?_)
      refine wp_run 2 (pc' := 100) (ls' := [.ref 74, .int (nI kx1), .int 1, .int (nI (ab_ct (fun i => ab_o1 (h 8) kx1 (ab_got (fun j g => hs_lk h s0 p0 j g) c n i kx1)) n)), .int (nI n), .int (nI n)]) (st' := []) rfl ?_
      refine lp_odr n (ab_ct (fun i => ab_o1 (h 8) kx1 (ab_got (fun j g => hs_lk h s0 p0 j g) c n i kx1)) n) n (by omega) (by omega) (by omega) (fun u9 => ?_)
      rw [hgc.1]
      refine wp_run 1 (pc' := 140) (ls' := [.ref 74, .int (nI kx1), .int 1, .int (nI ((ab_ct (fun i => ab_o1 (h 8) kx1 (ab_got (fun j g => hs_lk h s0 p0 j g) c n i kx1)) n) / Nat.gcd n (ab_ct (fun i => ab_o1 (h 8) kx1 (ab_got (fun j g => hs_lk h s0 p0 j g) c n i kx1)) n))), .int (nI (n / Nat.gcd n (ab_ct (fun i => ab_o1 (h 8) kx1 (ab_got (fun j g => hs_lk h s0 p0 j g) c n i kx1)) n))), u9]) (st' := [.int 1]) rfl ?_
      refine wp_if_t rfl (show ¬ (1 : Int32) = 0 from by decide) ?_
      refine wp_run 1 (pc' := 149) (ls' := [.ref 74, .int (nI kx1), .int 1, .int (nI ((ab_ct (fun i => ab_o1 (h 8) kx1 (ab_got (fun j g => hs_lk h s0 p0 j g) c n i kx1)) n) / Nat.gcd n (ab_ct (fun i => ab_o1 (h 8) kx1 (ab_got (fun j g => hs_lk h s0 p0 j g) c n i kx1)) n))), .int (nI (n / Nat.gcd n (ab_ct (fun i => ab_o1 (h 8) kx1 (ab_got (fun j g => hs_lk h s0 p0 j g) c n i kx1)) n))), u9]) (st' := [.int (nI (n / Nat.gcd n (ab_ct (fun i => ab_o1 (h 8) kx1 (ab_got (fun j g => hs_lk h s0 p0 j g) c n i kx1)) n)))]) rfl ?_
      refine wp_ret rfl ?_
      exact kk2 _ _ (re_keep hR (am_ov2 (l3 := []) (k := 0) rfl rfl rfl) ⟨n, c, t, tp, wt, s0, s1, p0, p1, H⟩)
    · skip
      intro hnx2
      show am_wp L xs _ _ _ _ 17 [.ref 0, .int (nI kx1), .int x2, am_du, am_du, am_du] [.int 0] (am_S b) h _
      refine wp_if_f rfl (show ¬ (¬ (0 : Int32) = 0) from by decide) ?_
      refine wp_run 2 (pc' := 22) (ls' := [.ref 0, .int (nI kx1), .int x2, am_du, am_du, am_du]) (st' := [.int 1, .ref 0]) rfl ?_
      refine wp_callV (o := 0) (as := [.int 1]) (rest := []) (els := [.ref 0, .int 1]) rfl rfl rfl rfl rfl rfl rfl rfl (by omega) ?_
      refine sp_refuse1 (by omega) ?_
      show am_wp L xs _ _ _ _ 25 [.ref 0, .int (nI kx1), .int x2, am_du, am_du, am_du] [.int (-1000000001)] (am_S b) (am_u h 73 1 (h 73 1 + 1)) _
      refine wp_ret rfl ?_
      refine kk _ _ _ (fun ms2 Q2 kk2 => ?_)
      refine wp_run 2 (pc' := 2) (ls' := [.ref 74, .int (nI kx1), .int x2, am_du, am_du, am_du]) (st' := [.int (nI kx1), .ref 74]) rfl ?_
      refine wp_callV (o := 74) (as := [.int (nI kx1)]) (rest := []) (els := [.ref 74, .int (nI kx1)]) rfl rfl rfl rfl rfl rfl rfl rfl (by omega) ?_
      refine sp_m_isGuest hm2 hn7 (by omega) (fun _ _ _ => ?_) (fun q => absurd rfl (q kx1 (by omega)))
      show am_wp L xs _ _ _ _ 5 [.ref 74, .int (nI kx1), .int x2, am_du, am_du, am_du] [.int 1] (am_S b) (am_u h 73 1 (h 73 1 + 1)) _
      refine wp_if_f rfl (show ¬ ((1 : Int32) = 0) from by decide) ?_
      refine wp_run 3 (pc' := 11) (ls' := [.ref 74, .int (nI kx1), .int x2, am_du, am_du, am_du]) (st' := [.int 1, .int 0, .int x2]) rfl ?_
      refine wp_callS (as := [.int x2, .int 0, .int 1]) (rest := []) (els := [.int x2, .int 0, .int 1]) rfl rfl rfl rfl rfl rfl rfl rfl (by omega) ?_
      refine sp_m_in0 (m := 1) rfl rfl (fun k hk e => absurd e (hnx2 k hk)) (fun _ => ?_)
      show am_wp L xs _ _ _ _ 14 [.ref 74, .int (nI kx1), .int x2, am_du, am_du, am_du] [.int 0] (am_S b) (am_u h 73 1 (h 73 1 + 1)) _
      refine wp_if_f rfl (show ¬ (¬ (0 : Int32) = 0) from by decide) ?_
      refine wp_run 2 (pc' := 20) (ls' := [.ref 74, .int (nI kx1), .int x2, am_du, am_du, am_du]) (st' := [.int (-1000000001), .ref 74]) rfl ?_
      refine wp_callV (o := 74) (as := [.int (-1000000001)]) (rest := []) (els := [.ref 74, .int (-1000000001)]) rfl rfl rfl rfl rfl rfl rfl rfl (by omega) ?_
      refine sp_error1 ?_
      show am_wp L xs _ _ _ _ 23 [.ref 74, .int (nI kx1), .int x2, am_du, am_du, am_du] [.int (-1000000001)] (am_S b) (am_u (am_u h 73 1 (h 73 1 + 1)) 77 1 ((am_u h 73 1 (h 73 1 + 1)) 77 1 + 1)) _
      refine wp_ret rfl ?_
      exact kk2 _ _ (re_err1 hR)
  · skip
    intro hnx1
    show am_wp L xs _ _ _ _ 8 [.ref 0, .int x1, .int x2, am_du, am_du, am_du] [.int 0] (am_S b) h _
    refine wp_if_t rfl (show (0 : Int32) = 0 from by decide) ?_
    refine wp_run 2 (pc' := 22) (ls' := [.ref 0, .int x1, .int x2, am_du, am_du, am_du]) (st' := [.int 1, .ref 0]) rfl ?_
    refine wp_callV (o := 0) (as := [.int 1]) (rest := []) (els := [.ref 0, .int 1]) rfl rfl rfl rfl rfl rfl rfl rfl (by omega) ?_
    refine sp_refuse1 (by omega) ?_
    show am_wp L xs _ _ _ _ 25 [.ref 0, .int x1, .int x2, am_du, am_du, am_du] [.int (-1000000001)] (am_S b) (am_u h 73 1 (h 73 1 + 1)) _
    refine wp_ret rfl ?_
    refine kk _ _ _ (fun ms2 Q2 kk2 => ?_)
    refine wp_run 2 (pc' := 2) (ls' := [.ref 74, .int x1, .int x2, am_du, am_du, am_du]) (st' := [.int x1, .ref 74]) rfl ?_
    refine wp_callV (o := 74) (as := [.int x1]) (rest := []) (els := [.ref 74, .int x1]) rfl rfl rfl rfl rfl rfl rfl rfl (by omega) ?_
    refine sp_m_isGuest hm2 hn7 (by omega) (fun k hk e => absurd e (hnx1 k hk)) (fun _ => ?_)
    show am_wp L xs _ _ _ _ 5 [.ref 74, .int x1, .int x2, am_du, am_du, am_du] [.int 0] (am_S b) (am_u h 73 1 (h 73 1 + 1)) _
    refine wp_if_t rfl (show (0 : Int32) = 0 from by decide) ?_
    refine wp_run 2 (pc' := 20) (ls' := [.ref 74, .int x1, .int x2, am_du, am_du, am_du]) (st' := [.int (-1000000001), .ref 74]) rfl ?_
    refine wp_callV (o := 74) (as := [.int (-1000000001)]) (rest := []) (els := [.ref 74, .int (-1000000001)]) rfl rfl rfl rfl rfl rfl rfl rfl (by omega) ?_
    refine sp_error1 ?_
    show am_wp L xs _ _ _ _ 23 [.ref 74, .int x1, .int x2, am_du, am_du, am_du] [.int (-1000000001)] (am_S b) (am_u (am_u h 73 1 (h 73 1 + 1)) 77 1 ((am_u h 73 1 (h 73 1 + 1)) 77 1 + 1)) _
    refine wp_ret rfl ?_
    exact kk2 _ _ (re_err1 hR)
