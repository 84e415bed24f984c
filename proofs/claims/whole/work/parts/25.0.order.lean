/-! the best order: what both come to, and the class's side -/
abbrev od_S : Type := Bool × Int32 × (Nat → Int32)
def od_kp (sum : Int32) (path : Nat → Int32) (s : od_S) : od_S := if s.1 = true ∧ sum ≤ s.2.1 then s else (true, sum, path)
def od_fold (f : Nat → od_S → od_S) : Nat → od_S → od_S
  | 0, s => s
  | i + 1, s => f i (od_fold f i s)
def od_pk (LK : Nat → Nat → Int32) (c P g : Nat) : Int32 := pu_pk (fun j => P.testBit j) (fun j => LK j g) c
def od_mr (MK : Nat → Nat → Int32) (v : Int32) (g : Nat) (sum : Int32) : Int32 := if v = -1 then sum else sum + MK v.toNatClampNeg g
/-- all orders, from where so many are left -/
def od_go (LK MK : Nat → Nat → Int32) (c n : Nat) : Nat → Nat → Nat → Nat → Int32 → (Nat → Int32) → od_S → od_S
  | 0, _, _, _, sum, path, s => od_kp sum path s
  | k + 1, dp, G, P, sum, path, s => od_fold (fun g s => if G.testBit g = true then s else od_go LK MK c n k (dp + 1) (pu_set G g) (ab_nx P (od_pk LK c P g)) (od_mr MK (od_pk LK c P g) g sum) (upd path dp (nI g)) s) n s
theorem od_pk_or {LK : Nat → Nat → Int32} {c P g : Nat} (hc : c ≤ 7) : od_pk LK c P g = -1 ∨ ∃ j, j < c ∧ od_pk LK c P g = nI j := pu_pick_or (pu_pk_ok _ _ c hc)
theorem od_mr_0 {MK : Nat → Nat → Int32} {v : Int32} {g : Nat} {sum : Int32} (h : v = -1) : od_mr MK v g sum = sum := if_pos h
theorem od_mr_1 {MK : Nat → Nat → Int32} {v : Int32} {g j : Nat} {sum : Int32} (h : v = nI j) (hj : j < 7) : od_mr MK v g sum = sum + MK j g := by
  unfold od_mr
  rw [h, if_neg (pu_ne1 (by omega)), nI_clamp (by omega)]
theorem od_nx_0 {P : Nat} {v : Int32} (h : v = -1) : ab_nx P v = P := if_pos h
theorem od_nx_1 {P j : Nat} {v : Int32} (h : v = nI j) (hj : j < 7) : ab_nx P v = pu_clr P j := by
  unfold ab_nx
  rw [h, if_neg (pu_ne1 (by omega)), nI_clamp (by omega)]
theorem od_kp_k {sum : Int32} {path : Nat → Int32} {s : od_S} (h : s.1 = true) (h2 : sum ≤ s.2.1) : od_kp sum path s = s := if_pos ⟨h, h2⟩
theorem od_kp_n {sum : Int32} {path : Nat → Int32} {s : od_S} (h : s.1 = true → ¬ sum ≤ s.2.1) : od_kp sum path s = (true, sum, path) := if_neg (fun q => h q.1 q.2)
/-- the class's cells while it tries -/
def od_st (h X : am_HI) (n : Nat) (s : od_S) (dp : Nat) (path : Nat → Int32) : Prop :=
  (∀ a, [49, 51, 52].elem a = false → X a = h a) ∧ X 49 5 = nI n ∧ X 49 4 = (if s.1 = true then 1 else 0) ∧ X 49 3 = s.2.1 ∧ (s.1 = true → ∀ i, i < n → X 51 i = s.2.2 i) ∧ (∀ i, i < dp → X 52 i = path i)
theorem od_st_up {h X : am_HI} {n : Nat} {s : od_S} {dp : Nat} {path : Nat → Int32} {v : Int32} (hX : od_st h X n s dp path) : od_st h (am_u X 52 dp v) n s (dp + 1) (upd path dp v) := by
  obtain ⟨h1, h2, h3, h4, h5, h6⟩ := hX
  refine ⟨fun a ha => (am_u_off _ _ _ (am_nel ha rfl)).trans (h1 a ha), h2, h3, h4, h5, fun i hi => ?_⟩
  show upd (X 52) dp v i = upd path dp v i
  unfold upd
  by_cases e : i = dp
  · rw [if_pos e, if_pos e]
  · rw [if_neg e, if_neg e]
    exact h6 i (by omega)
theorem od_st_dn {h X : am_HI} {n : Nat} {s : od_S} {dp : Nat} {path : Nat → Int32} {v : Int32} (hX : od_st h X n s (dp + 1) (upd path dp v)) : od_st h X n s dp path := by
  obtain ⟨h1, h2, h3, h4, h5, h6⟩ := hX
  refine ⟨h1, h2, h3, h4, h5, fun i hi => ?_⟩
  rw [h6 i (by omega)]
  exact pk_un (by omega)
theorem lp_keep {L : Nat} {xs : Nat → Int32} {d ms b : Nat} {Q : am_Q} {Z : am_HI} {n : Nat} {sum : Int32} (hn7 : n ≤ 7) (h5 : Z 49 5 = nI n) (kk : ∀ r, (∀ k, k < n → r k = Z 52 k) → Q none (am_S b) (am_ur Z 51 r)) :
    ∀ (m i : Nat) (r : Nat → Int32) (hr : ∀ k, k < i → r k = Z 52 k), i + m = n → am_wp L xs d 0 ms 87 28 [.ref 49, .int sum, .int (nI i)] [] (am_S b) (am_ur Z 51 r) Q := by
  intro m
  induction m with
  | zero =>
    intro i r hr hi
    refine wp_run 2 (pc' := 30) (ls' := [.ref 49, .int sum, .int (nI i)]) (st' := [.ref 49, .int (nI i)]) rfl ?_
    refine wp_geti (a := 5) (nI n) h5 rfl rfl rfl ?_
    refine wp_icmp_t rfl (show (nI n) ≤ (nI i) from (nI_leI (a := n) (b := i) (by omega) (by omega)).mpr (by omega)) ?_
    refine wp_retv rfl ?_
    have e9 : i = n := by omega
    rw [e9] at hr
    exact kk r hr
  | succ m ih =>
    intro i r hr hi
    refine wp_run 2 (pc' := 30) (ls' := [.ref 49, .int sum, .int (nI i)]) (st' := [.ref 49, .int (nI i)]) rfl ?_
    refine wp_geti (a := 5) (nI n) h5 rfl rfl rfl ?_
    refine wp_icmp_f rfl (show ¬ ((nI n) ≤ (nI i)) from mt (nI_leI (a := n) (b := i) (by omega) (by omega)).mp (by omega)) ?_
    refine wp_run 1 (pc' := 37) (ls' := [.ref 49, .int sum, .int (nI i)]) (st' := [.ref 49]) rfl ?_
    refine wp_getr 51 rfl rfl rfl ?_
    refine wp_run 2 (pc' := 42) (ls' := [.ref 49, .int sum, .int (nI i)]) (st' := [.ref 49, .int (nI i), .ref 51]) rfl ?_
    refine wp_getr 52 rfl rfl rfl ?_
    refine wp_run 1 (pc' := 46) (ls' := [.ref 49, .int sum, .int (nI i)]) (st' := [.int (nI i), .ref 52, .int (nI i), .ref 51]) rfl ?_
    refine wp_ald (i := i) (Z 52 i) rfl rfl rfl rfl (by omega) rfl ?_
    refine wp_ast rfl rfl rfl (by omega) rfl ?_
    refine wp_run 2 (pc' := 28) (ls' := [.ref 49, .int sum, .int ((nI i) + 1)]) (st' := []) rfl ?_
    rw [show (((nI i) + 1) : Int32) = (nI (i + 1)) from nI_add i 1]
    rw [am_ur_u]
    refine ih (i + 1) _ (fun k hk => ?_) (by omega)
    rcases Nat.lt_succ_iff_lt_or_eq.mp hk with q | q
    · rw [pk_un (by omega)]; exact hr k q
    · rw [q, pk_us]
theorem sp_keep {L : Nat} {xs : Nat → Int32} {d ms b : Nat} {h X : am_HI} {Q : am_Q} {n : Nat} {sum : Int32} {path : Nat → Int32} {s : od_S} (hn7 : n ≤ 7) (hX : od_st h X n s n path) (kk : ∀ X2, od_st h X2 n (od_kp sum path s) n path → Q none (am_S b) X2) :
    am_wp L xs d 0 ms 87 0 [.ref 49, .int sum, am_du] [] (am_S b) X Q := by
  obtain ⟨h1, h2, h3, h4, h5, h6⟩ := id hX
  by_cases hf : s.1 = true
  · skip
    rw [if_pos hf] at h3
    refine wp_run 1 (pc' := 1) (ls' := [.ref 49, .int sum, am_du]) (st' := [.ref 49]) rfl ?_
    refine wp_geti (a := 4) 1 h3 rfl rfl rfl ?_
    refine wp_if_f rfl (show ¬ ((1 : Int32) = 0) from by decide) ?_
    refine wp_run 2 (pc' := 9) (ls' := [.ref 49, .int sum, am_du]) (st' := [.ref 49, .int sum]) rfl ?_
    refine wp_geti (a := 3) s.2.1 h4 rfl rfl rfl ?_
    refine wp_icmp rfl (fun (cq12 : s.2.1 < sum) => ?_) (fun (cq12 : ¬ (s.2.1 < sum)) => ?_)
    · skip
      have hno : s.1 = true → ¬ sum ≤ s.2.1 := fun _ => Int32.not_le.mpr cq12
      refine wp_run 2 (pc' := 18) (ls' := [.ref 49, .int sum, am_du]) (st' := [.int 1, .ref 49]) rfl ?_
      refine wp_putz rfl (Or.inr rfl) rfl ?_
      refine wp_run 2 (pc' := 23) (ls' := [.ref 49, .int sum, am_du]) (st' := [.int sum, .ref 49]) rfl ?_
      refine wp_puti rfl rfl ?_
      refine wp_run 2 (pc' := 28) (ls' := [.ref 49, .int sum, .int 0]) (st' := []) rfl ?_
      have hp := fun kq => lp_keep (L := L) (xs := xs) (d := d) (ms := ms) (b := b) (Q := Q) (Z := (am_u (am_u X 49 4 1) 49 3 sum)) (n := n) (sum := sum) hn7 h2 kq n 0 ((am_u (am_u X 49 4 1) 49 3 sum) 51) (fun k hk => by omega) (by omega)
      rw [← am_ur_self] at hp
      refine hp (fun r hr => kk _ ?_)
      rw [od_kp_n hno]
      refine ⟨fun a ha => ?_, h2, rfl, rfl, fun _ i hi => (hr i hi).trans (h6 i hi), h6⟩
      rw [am_ur_off _ _ (am_nel ha rfl), am_u_off _ _ _ (am_nel ha rfl), am_u_off _ _ _ (am_nel ha rfl)]
      exact h1 a ha
    · skip
      have hle : sum ≤ s.2.1 := Int32.not_lt.mp cq12
      refine wp_retv rfl ?_
      refine kk X ?_
      rw [od_kp_k hf hle]
      exact hX
  · skip
    rw [if_neg hf] at h3
    have hno : s.1 = true → ¬ sum ≤ s.2.1 := fun q => absurd q hf
    refine wp_run 1 (pc' := 1) (ls' := [.ref 49, .int sum, am_du]) (st' := [.ref 49]) rfl ?_
    refine wp_geti (a := 4) 0 h3 rfl rfl rfl ?_
    refine wp_if_t rfl (show (0 : Int32) = 0 from by decide) ?_
    refine wp_run 2 (pc' := 18) (ls' := [.ref 49, .int sum, am_du]) (st' := [.int 1, .ref 49]) rfl ?_
    refine wp_putz rfl (Or.inr rfl) rfl ?_
    refine wp_run 2 (pc' := 23) (ls' := [.ref 49, .int sum, am_du]) (st' := [.int sum, .ref 49]) rfl ?_
    refine wp_puti rfl rfl ?_
    refine wp_run 2 (pc' := 28) (ls' := [.ref 49, .int sum, .int 0]) (st' := []) rfl ?_
    have hp := fun kq => lp_keep (L := L) (xs := xs) (d := d) (ms := ms) (b := b) (Q := Q) (Z := (am_u (am_u X 49 4 1) 49 3 sum)) (n := n) (sum := sum) hn7 h2 kq n 0 ((am_u (am_u X 49 4 1) 49 3 sum) 51) (fun k hk => by omega) (by omega)
    rw [← am_ur_self] at hp
    refine hp (fun r hr => kk _ ?_)
    rw [od_kp_n hno]
    refine ⟨fun a ha => ?_, h2, rfl, rfl, fun _ i hi => (hr i hi).trans (h6 i hi), h6⟩
    rw [am_ur_off _ _ (am_nel ha rfl), am_u_off _ _ _ (am_nel ha rfl), am_u_off _ _ _ (am_nel ha rfl)]
    exact h1 a ha
def od_is (L : Nat) (xs : Nat → Int32) (h : am_HI) (LK MK : Nat → Nat → Int32) (c n k : Nat) : Prop := ∀ (d ms b dp G P : Nat) (sum : Int32) (path : Nat → Int32) (s : od_S) (X : am_HI) (Q : am_Q), 2 * k + 3 ≤ d → k + dp = n → G < 128 → P < 128 → od_st h X n s dp path → (∀ X2, od_st h X2 n (od_go LK MK c n k dp G P sum path s) dp path → Q none (am_S b) X2) → am_wp L xs d 0 ms 86 0 [.ref 49, .ref 47, .int (nI dp), .int (nI G), .int (nI P), .int sum, am_du] [] (am_S b) X Q
theorem sp_leaveNext {L : Nat} {xs : Nat → Int32} {d ms b : Nat} {h : am_HI} {n c : Nat} {LK MK : Nat → Nat → Int32} (hn7 : n ≤ 7) (hc7 : c ≤ 7) (hb : 0 < n → h 47 1 = nI c) (hl : ∀ g, g < n → ∀ j, j < c → h 48 (g * 7 + j) = LK j g) (hm : ∀ g, g < n → ∀ j, j < c → h 54 (g * 7 + j) = MK j g) (hl0 : ∀ j g, 0 ≤ LK j g) {k : Nat} (ih : od_is L xs h LK MK c n k) {dp G P g : Nat} {sum : Int32} {path : Nat → Int32} {s : od_S} {X : am_HI} {Q : am_Q} (hd : 2 * k + 4 ≤ d) (hk : k + dp + 1 = n) (hg : g < n) (hG : G < 128) (hP : P < 128) (hX : od_st h X n s (dp + 1) (upd path dp (nI g))) (kk : ∀ X2, od_st h X2 n (od_go LK MK c n k (dp + 1) (pu_set G g) (ab_nx P (od_pk LK c P g)) (od_mr MK (od_pk LK c P g) g sum) (upd path dp (nI g)) s) dp path → Q none (am_S b) X2) :
    am_wp L xs d 0 ms 88 0 [.ref 49, .ref 47, .int (nI dp), .int (nI G), .int (nI P), .int sum, am_du, am_du, am_du] [] (am_S b) X Q := by
  have e47 := hX.1 47 rfl
  have e48 := hX.1 48 rfl
  have e54 := hX.1 54 rfl
  have e52 : X 52 dp = nI g := (hX.2.2.2.2.2 dp (by omega)).trans pk_us
  refine wp_run 1 (pc' := 1) (ls' := [.ref 49, .ref 47, .int (nI dp), .int (nI G), .int (nI P), .int sum, am_du, am_du, am_du]) (st' := [.ref 49]) rfl ?_
  refine wp_getr 52 rfl rfl rfl ?_
  refine wp_run 1 (pc' := 5) (ls' := [.ref 49, .ref 47, .int (nI dp), .int (nI G), .int (nI P), .int sum, am_du, am_du, am_du]) (st' := [.int (nI dp), .ref 52]) rfl ?_
  refine wp_ald (i := dp) (nI g) e52 rfl rfl rfl (by omega) rfl ?_
  refine wp_run 4 (pc' := 13) (ls' := [.ref 49, .ref 47, .int (nI dp), .int (nI G), .int (nI P), .int sum, .int (nI g), am_du, am_du]) (st' := [.int (nI P), .int (nI g), .ref 47]) rfl ?_
  refine wp_callV (o := 47) (as := [.int (nI g), .int (nI P)]) (rest := []) (els := [.ref 47, .int (nI g), .int (nI P), am_du, am_du, am_du, am_du]) rfl rfl rfl rfl rfl rfl rfl rfl (by omega) ?_
  refine sp_pick (h := X) (P := P) (g := g) (c := c) (by rw [e47]; exact hb (by omega)) hc7 (by omega) hP (fun j hj => by rw [e48, hl g hg j hj]; exact hl0 j g) (fun v1 hp1 => ?_)
  have ev : (od_pk LK c P g) = v1 := pu_pk_of hc7 hp1 (fun k hk => rfl) (fun k hk => by rw [e48]; exact (hl g hg k hk).symm)
  subst ev
  show am_wp L xs _ _ _ _ 16 [.ref 49, .ref 47, .int (nI dp), .int (nI G), .int (nI P), .int sum, .int (nI g), am_du, am_du] [.int (od_pk LK c P g)] (am_S b) X _
  rcases od_pk_or (LK := LK) (P := P) (g := g) hc7 with e5 | ⟨j, hj, e5⟩
  · skip
    rw [e5]
    refine wp_run 2 (pc' := 20) (ls' := [.ref 49, .ref 47, .int (nI dp), .int (nI G), .int (nI P), .int sum, .int (nI g), .int (-1), am_du]) (st' := [.int (-1)]) rfl ?_
    refine wp_if_f rfl (show ¬ (0 ≤ ((-1) : Int32)) from by decide) ?_
    refine wp_run 13 (pc' := 53) (ls' := [.ref 49, .ref 47, .int (nI dp), .int (nI G), .int (nI P), .int sum, .int (nI g), .int (-1), .int 0]) (st' := [.int ((nI G) ||| (1 <<< ((nI g) &&& 31))), .int ((nI dp) + 1), .ref 47, .ref 49]) rfl ?_
    rw [show (((nI dp) + 1) : Int32) = (nI (dp + 1)) from nI_add dp 1]
    rw [show (((nI G) ||| (1 <<< ((nI g) &&& 31))) : Int32) = nI (pu_set G g) from pu_set_i G hG g (by omega)]
    refine wp_run 2 (pc' := 57) (ls' := [.ref 49, .ref 47, .int (nI dp), .int (nI G), .int (nI P), .int sum, .int (nI g), .int (-1), .int 0]) (st' := [.int (-1), .int (nI P), .int (nI (pu_set G g)), .int (nI (dp + 1)), .ref 47, .ref 49]) rfl ?_
    refine wp_callS (as := [.int (-1)]) (rest := [.int (nI P), .int (nI (pu_set G g)), .int (nI (dp + 1)), .ref 47, .ref 49]) (els := [.int (-1)]) rfl rfl rfl rfl rfl rfl rfl rfl (by omega) ?_
    refine wp_run 1 (pc' := 1) (ls' := [.int (-1)]) (st' := [.int (-1)]) rfl ?_
    refine wp_if_f rfl (show ¬ (0 ≤ ((-1) : Int32)) from by decide) ?_
    refine wp_run 2 (pc' := 11) (ls' := [.int (-1)]) (st' := [.int 0]) rfl ?_
    refine wp_ret rfl ?_
    show am_wp L xs _ _ _ _ 60 [.ref 49, .ref 47, .int (nI dp), .int (nI G), .int (nI P), .int sum, .int (nI g), .int (-1), .int 0] [.int 0, .int (nI P), .int (nI (pu_set G g)), .int (nI (dp + 1)), .ref 47, .ref 49] (am_S b) X _
    refine wp_run 3 (pc' := 63) (ls' := [.ref 49, .ref 47, .int (nI dp), .int (nI G), .int (nI P), .int sum, .int (nI g), .int (-1), .int 0]) (st' := [.int ((nI P) &&& (0 ^^^ (-1))), .int (nI (pu_set G g)), .int (nI (dp + 1)), .ref 47, .ref 49]) rfl ?_
    rw [show ((0 ^^^ (-1)) : Int32) = (-1) from by decide]
    rw [show (((nI P) &&& (-1)) : Int32) = nI P from pu_and_m1 _]
    refine wp_run 3 (pc' := 68) (ls' := [.ref 49, .ref 47, .int (nI dp), .int (nI G), .int (nI P), .int sum, .int (nI g), .int (-1), .int 0]) (st' := [.int (sum + 0), .int (nI P), .int (nI (pu_set G g)), .int (nI (dp + 1)), .ref 47, .ref 49]) rfl ?_
    have es : ((sum + 0) : Int32) = od_mr MK (od_pk LK c P g) g sum := (Int32.add_zero _).trans (od_mr_0 e5).symm
    have ep : P = ab_nx P (od_pk LK c P g) := (od_nx_0 e5).symm
    have hP2 : P < 128 := hP
    refine wp_callV (o := 49) (as := [.ref 47, .int (nI (dp + 1)), .int (nI (pu_set G g)), .int (nI P), .int (sum + 0)]) (rest := []) (els := [.ref 49, .ref 47, .int (nI (dp + 1)), .int (nI (pu_set G g)), .int (nI P), .int (sum + 0), am_du]) rfl rfl rfl rfl rfl rfl rfl rfl (by omega) ?_
    refine ih _ _ _ _ _ _ _ _ _ _ _ (by omega) (by omega) (pu_set_lt G hG g (by omega)) hP2 hX (fun X2 hX2 => ?_)
    rw [ep, es] at hX2
    show am_wp L xs _ _ _ _ 71 [.ref 49, .ref 47, .int (nI dp), .int (nI G), .int (nI P), .int sum, .int (nI g), .int (-1), .int 0] [] (am_S b) X2 _
    refine wp_retv rfl ?_
    exact kk X2 (od_st_dn hX2)
  · skip
    rw [e5]
    refine wp_run 2 (pc' := 20) (ls' := [.ref 49, .ref 47, .int (nI dp), .int (nI G), .int (nI P), .int sum, .int (nI g), .int (nI j), am_du]) (st' := [.int (nI j)]) rfl ?_
    refine wp_if_t rfl (show 0 ≤ (nI j) from (nI_leI (a := 0) (b := j) (by omega) (by omega)).mpr (by omega)) ?_
    refine wp_run 1 (pc' := 28) (ls' := [.ref 49, .ref 47, .int (nI dp), .int (nI G), .int (nI P), .int sum, .int (nI g), .int (nI j), am_du]) (st' := [.ref 49]) rfl ?_
    refine wp_getr 54 rfl rfl rfl ?_
    refine wp_run 5 (pc' := 39) (ls' := [.ref 49, .ref 47, .int (nI dp), .int (nI G), .int (nI P), .int sum, .int (nI g), .int (nI j), am_du]) (st' := [.int (((nI g) * 7) + (nI j)), .ref 54]) rfl ?_
    rw [show (((nI g) * 7) : Int32) = (nI (g * 7)) from pk_mul g 7]
    rw [show (((nI (g * 7)) + (nI j)) : Int32) = (nI ((g * 7) + j)) from nI_add (g * 7) j]
    refine wp_ald (i := ((g * 7) + j)) (MK j g) (by rw [e54]; exact hm g hg j hj) rfl rfl rfl (by omega) rfl ?_
    refine wp_run 11 (pc' := 53) (ls' := [.ref 49, .ref 47, .int (nI dp), .int (nI G), .int (nI P), .int sum, .int (nI g), .int (nI j), .int (MK j g)]) (st' := [.int ((nI G) ||| (1 <<< ((nI g) &&& 31))), .int ((nI dp) + 1), .ref 47, .ref 49]) rfl ?_
    rw [show (((nI dp) + 1) : Int32) = (nI (dp + 1)) from nI_add dp 1]
    rw [show (((nI G) ||| (1 <<< ((nI g) &&& 31))) : Int32) = nI (pu_set G g) from pu_set_i G hG g (by omega)]
    refine wp_run 2 (pc' := 57) (ls' := [.ref 49, .ref 47, .int (nI dp), .int (nI G), .int (nI P), .int sum, .int (nI g), .int (nI j), .int (MK j g)]) (st' := [.int (nI j), .int (nI P), .int (nI (pu_set G g)), .int (nI (dp + 1)), .ref 47, .ref 49]) rfl ?_
    refine wp_callS (as := [.int (nI j)]) (rest := [.int (nI P), .int (nI (pu_set G g)), .int (nI (dp + 1)), .ref 47, .ref 49]) (els := [.int (nI j)]) rfl rfl rfl rfl rfl rfl rfl rfl (by omega) ?_
    refine wp_run 1 (pc' := 1) (ls' := [.int (nI j)]) (st' := [.int (nI j)]) rfl ?_
    refine wp_if_t rfl (show 0 ≤ (nI j) from (nI_leI (a := 0) (b := j) (by omega) (by omega)).mpr (by omega)) ?_
    refine wp_run 3 (pc' := 11) (ls' := [.int (nI j)]) (st' := [.int (1 <<< ((nI j) &&& 31))]) rfl ?_
    refine wp_ret rfl ?_
    show am_wp L xs _ _ _ _ 60 [.ref 49, .ref 47, .int (nI dp), .int (nI G), .int (nI P), .int sum, .int (nI g), .int (nI j), .int (MK j g)] [.int (1 <<< ((nI j) &&& 31)), .int (nI P), .int (nI (pu_set G g)), .int (nI (dp + 1)), .ref 47, .ref 49] (am_S b) X _
    refine wp_run 3 (pc' := 63) (ls' := [.ref 49, .ref 47, .int (nI dp), .int (nI G), .int (nI P), .int sum, .int (nI g), .int (nI j), .int (MK j g)]) (st' := [.int ((nI P) &&& ((1 <<< ((nI j) &&& 31)) ^^^ (-1))), .int (nI (pu_set G g)), .int (nI (dp + 1)), .ref 47, .ref 49]) rfl ?_
    rw [show (((nI P) &&& ((1 <<< ((nI j) &&& 31)) ^^^ (-1))) : Int32) = nI (pu_clr P j) from pu_clr_i P hP j (by omega)]
    refine wp_run 3 (pc' := 68) (ls' := [.ref 49, .ref 47, .int (nI dp), .int (nI G), .int (nI P), .int sum, .int (nI g), .int (nI j), .int (MK j g)]) (st' := [.int (sum + (MK j g)), .int (nI (pu_clr P j)), .int (nI (pu_set G g)), .int (nI (dp + 1)), .ref 47, .ref 49]) rfl ?_
    have es : ((sum + (MK j g)) : Int32) = od_mr MK (od_pk LK c P g) g sum := (od_mr_1 e5 (by omega)).symm
    have ep : (pu_clr P j) = ab_nx P (od_pk LK c P g) := (od_nx_1 e5 (by omega)).symm
    have hP2 : (pu_clr P j) < 128 := pu_clr_lt P hP j (by omega)
    refine wp_callV (o := 49) (as := [.ref 47, .int (nI (dp + 1)), .int (nI (pu_set G g)), .int (nI (pu_clr P j)), .int (sum + (MK j g))]) (rest := []) (els := [.ref 49, .ref 47, .int (nI (dp + 1)), .int (nI (pu_set G g)), .int (nI (pu_clr P j)), .int (sum + (MK j g)), am_du]) rfl rfl rfl rfl rfl rfl rfl rfl (by omega) ?_
    refine ih _ _ _ _ _ _ _ _ _ _ _ (by omega) (by omega) (pu_set_lt G hG g (by omega)) hP2 hX (fun X2 hX2 => ?_)
    rw [ep, es] at hX2
    show am_wp L xs _ _ _ _ 71 [.ref 49, .ref 47, .int (nI dp), .int (nI G), .int (nI P), .int sum, .int (nI g), .int (nI j), .int (MK j g)] [] (am_S b) X2 _
    refine wp_retv rfl ?_
    exact kk X2 (od_st_dn hX2)
theorem sp_goOn (L : Nat) (xs : Nat → Int32) {h : am_HI} {n c : Nat} {LK MK : Nat → Nat → Int32} (hn7 : n ≤ 7) (hc7 : c ≤ 7) (hb : 0 < n → h 47 1 = nI c) (hl : ∀ g, g < n → ∀ j, j < c → h 48 (g * 7 + j) = LK j g) (hm : ∀ g, g < n → ∀ j, j < c → h 54 (g * 7 + j) = MK j g) (hl0 : ∀ j g, 0 ≤ LK j g) : ∀ k, od_is L xs h LK MK c n k := by
  intro k
  induction k with
  | zero =>
    intro d ms b dp G P sum path s X Q hd hk hG hP hX kk
    have hdp : dp = n := by omega
    subst hdp
    refine wp_run 2 (pc' := 2) (ls' := [.ref 49, .ref 47, .int (nI dp), .int (nI G), .int (nI P), .int sum, am_du]) (st' := [.ref 49, .int (nI dp)]) rfl ?_
    refine wp_geti (a := 5) (nI dp) hX.2.1 rfl rfl rfl ?_
    refine wp_icmp_t rfl (show (nI dp) ≤ (nI dp) from (nI_leI (a := dp) (b := dp) (by omega) (by omega)).mpr (by omega)) ?_
    refine wp_run 2 (pc' := 17) (ls' := [.ref 49, .ref 47, .int (nI dp), .int (nI G), .int (nI P), .int sum, am_du]) (st' := [.int sum, .ref 49]) rfl ?_
    refine wp_callV (o := 49) (as := [.int sum]) (rest := []) (els := [.ref 49, .int sum, am_du]) rfl rfl rfl rfl rfl rfl rfl rfl (by omega) ?_
    refine sp_keep hn7 hX (fun X2 hX2 => ?_)
    show am_wp L xs _ _ _ _ 20 [.ref 49, .ref 47, .int (nI dp), .int (nI G), .int (nI P), .int sum, am_du] [] (am_S b) X2 _
    refine wp_retv rfl ?_
    exact kk X2 hX2
  | succ k ih =>
    intro d ms b dp G P sum path s X Q hd hk hG hP hX kk
    have hlp : ∀ (m i : Nat) (X : am_HI), i + m = n → od_st h X n (od_fold (fun g s => if G.testBit g = true then s else od_go LK MK c n k (dp + 1) (pu_set G g) (ab_nx P (od_pk LK c P g)) (od_mr MK (od_pk LK c P g) g sum) (upd path dp (nI g)) s) i s) dp path → am_wp L xs d 0 ms 86 24 [.ref 49, .ref 47, .int (nI dp), .int (nI G), .int (nI P), .int sum, .int (nI i)] [] (am_S b) X Q := by
      intro m
      induction m with
      | zero =>
        intro i X hi hX
        refine wp_run 2 (pc' := 27) (ls' := [.ref 49, .ref 47, .int (nI dp), .int (nI G), .int (nI P), .int sum, .int (nI i)]) (st' := [.ref 49, .int (nI i)]) rfl ?_
        refine wp_geti (a := 5) (nI n) hX.2.1 rfl rfl rfl ?_
        refine wp_icmp_t rfl (show (nI n) ≤ (nI i) from (nI_leI (a := n) (b := i) (by omega) (by omega)).mpr (by omega)) ?_
        refine wp_retv rfl ?_
        have e9 : i = n := by omega
        rw [e9] at hX
        exact kk X hX
      | succ m ih2 =>
        intro i X hi hX
        refine wp_run 2 (pc' := 27) (ls' := [.ref 49, .ref 47, .int (nI dp), .int (nI G), .int (nI P), .int sum, .int (nI i)]) (st' := [.ref 49, .int (nI i)]) rfl ?_
        refine wp_geti (a := 5) (nI n) hX.2.1 rfl rfl rfl ?_
        refine wp_icmp_f rfl (show ¬ ((nI n) ≤ (nI i)) from mt (nI_leI (a := n) (b := i) (by omega) (by omega)).mp (by omega)) ?_
        refine wp_run 5 (pc' := 39) (ls' := [.ref 49, .ref 47, .int (nI dp), .int (nI G), .int (nI P), .int sum, .int (nI i)]) (st' := [.int ((nI G) &&& (1 <<< ((nI i) &&& 31)))]) rfl ?_
        refine wp_if rfl (fun (cq39 : ¬ ((nI G) &&& (1 <<< ((nI i) &&& 31))) = 0) => ?_) (fun (cq39 : ¬ (¬ ((nI G) &&& (1 <<< ((nI i) &&& 31))) = 0)) => ?_)
        · skip
          have hbit : G.testBit i = true := by
            cases q : G.testBit i
            · exact absurd ((bs_bit hG (by omega)).mpr q) cq39
            · rfl
          refine wp_run 2 (pc' := 24) (ls' := [.ref 49, .ref 47, .int (nI dp), .int (nI G), .int (nI P), .int sum, .int ((nI i) + 1)]) (st' := []) rfl ?_
          rw [show (((nI i) + 1) : Int32) = (nI (i + 1)) from nI_add i 1]
          refine ih2 (i + 1) X (by omega) ?_
          rw [show od_fold (fun g s => if G.testBit g = true then s else od_go LK MK c n k (dp + 1) (pu_set G g) (ab_nx P (od_pk LK c P g)) (od_mr MK (od_pk LK c P g) g sum) (upd path dp (nI g)) s) (i + 1) s = od_fold (fun g s => if G.testBit g = true then s else od_go LK MK c n k (dp + 1) (pu_set G g) (ab_nx P (od_pk LK c P g)) (od_mr MK (od_pk LK c P g) g sum) (upd path dp (nI g)) s) i s from if_pos hbit]
          exact hX
        · skip
          replace cq39 := Decidable.not_not.mp cq39
          have hbit : G.testBit i = false := (bs_bit hG (by omega)).mp cq39
          refine wp_run 1 (pc' := 43) (ls' := [.ref 49, .ref 47, .int (nI dp), .int (nI G), .int (nI P), .int sum, .int (nI i)]) (st' := [.ref 49]) rfl ?_
          refine wp_getr 52 rfl rfl rfl ?_
          refine wp_run 2 (pc' := 49) (ls' := [.ref 49, .ref 47, .int (nI dp), .int (nI G), .int (nI P), .int sum, .int (nI i)]) (st' := [.int (nI i), .int (nI dp), .ref 52]) rfl ?_
          refine wp_ast rfl rfl rfl (by omega) rfl ?_
          refine wp_run 6 (pc' := 58) (ls' := [.ref 49, .ref 47, .int (nI dp), .int (nI G), .int (nI P), .int sum, .int (nI i)]) (st' := [.int sum, .int (nI P), .int (nI G), .int (nI dp), .ref 47, .ref 49]) rfl ?_
          refine wp_callV (o := 49) (as := [.ref 47, .int (nI dp), .int (nI G), .int (nI P), .int sum]) (rest := []) (els := [.ref 49, .ref 47, .int (nI dp), .int (nI G), .int (nI P), .int sum, am_du, am_du, am_du]) rfl rfl rfl rfl rfl rfl rfl rfl (by omega) ?_
          refine sp_leaveNext hn7 hc7 hb hl hm hl0 ih (g := i) (by omega) (by omega) (by omega) hG hP (od_st_up hX) (fun X2 hX2 => ?_)
          show am_wp L xs _ _ _ _ 61 [.ref 49, .ref 47, .int (nI dp), .int (nI G), .int (nI P), .int sum, .int (nI i)] [] (am_S b) X2 _
          refine wp_run 2 (pc' := 24) (ls' := [.ref 49, .ref 47, .int (nI dp), .int (nI G), .int (nI P), .int sum, .int ((nI i) + 1)]) (st' := []) rfl ?_
          rw [show (((nI i) + 1) : Int32) = (nI (i + 1)) from nI_add i 1]
          refine ih2 (i + 1) X2 (by omega) ?_
          rw [show od_fold (fun g s => if G.testBit g = true then s else od_go LK MK c n k (dp + 1) (pu_set G g) (ab_nx P (od_pk LK c P g)) (od_mr MK (od_pk LK c P g) g sum) (upd path dp (nI g)) s) (i + 1) s = od_go LK MK c n k (dp + 1) (pu_set G i) (ab_nx P (od_pk LK c P i)) (od_mr MK (od_pk LK c P i) i sum) (upd path dp (nI i)) (od_fold (fun g s => if G.testBit g = true then s else od_go LK MK c n k (dp + 1) (pu_set G g) (ab_nx P (od_pk LK c P g)) (od_mr MK (od_pk LK c P g) g sum) (upd path dp (nI g)) s) i s) from if_neg (by rw [hbit]; decide)]
          exact hX2
    refine wp_run 2 (pc' := 2) (ls' := [.ref 49, .ref 47, .int (nI dp), .int (nI G), .int (nI P), .int sum, am_du]) (st' := [.ref 49, .int (nI dp)]) rfl ?_
    refine wp_geti (a := 5) (nI n) hX.2.1 rfl rfl rfl ?_
    refine wp_icmp_f rfl (show ¬ ((nI n) ≤ (nI dp)) from mt (nI_leI (a := n) (b := dp) (by omega) (by omega)).mp (by omega)) ?_
    refine wp_run 2 (pc' := 11) (ls' := [.ref 49, .ref 47, .int (nI dp), .int (nI G), .int (nI P), .int sum, am_du]) (st' := [.int 7, .int (nI dp)]) rfl ?_
    refine wp_icmp_t rfl (show (nI dp) < 7 from (nI_ltI (a := dp) (b := 7) (by omega) (by omega)).mpr (by omega)) ?_
    refine wp_run 2 (pc' := 24) (ls' := [.ref 49, .ref 47, .int (nI dp), .int (nI G), .int (nI P), .int sum, .int 0]) (st' := []) rfl ?_
    exact hlp n 0 X (by omega) hX
