/-! the constructors, run on first-order data -/
def am_lg : List (Nat × Nat × Int32) → am_HI
  | [] => fun _ _ => 0
  | (a, i, v) :: r => am_u (am_lg r) a i v
theorem am_lg_0 {a : Nat} : ∀ (l : List (Nat × Nat × Int32)), (l.all fun e => !(Nat.beq e.1 a)) = true → ∀ j, am_lg l a j = 0
  | [], _, _ => rfl
  | (b, i, v) :: r, h, j => by
    simp only [List.all_cons, Bool.and_eq_true] at h
    have hb : ¬ a = b := fun e => by
      have h1 := h.1
      rw [e] at h1
      simp at h1
    show am_u (am_lg r) b i v a j = 0
    unfold am_u
    rw [if_neg hb]
    exact am_lg_0 r h.2 j
def am_ex : Nat → Nat → Nat → Nat → List Value → List Value → am_SH → List (Nat × Nat × Int32) → Option (am_SH × List (Nat × Nat × Int32) × Nat × Nat)
  | 0, _, _, _, _, _, _, _ => none
  | f + 1, d, M, pc, ls, st, sh, lg => match am_ins M pc with
    | none => none
    | some (i, nx, a, b, c, k, _) => match i with
      | .putfield _ => match st with
        | .int x :: .ref o :: r => if am_objb sh o c = true ∧ b = 0 then am_ex f d M nx ls r sh ((o, a, x) :: lg) else none
        | .ref q :: .ref o :: r => if am_objb sh o c = true ∧ b = 2 then am_ex f d M nx ls r (am_sr sh o a (q + 1)) lg else none
        | _ => none
      | .getfield _ => match st with
        | .ref o :: r => if am_objb sh o c = true ∧ b = 2 then match am_rf sh o a with
            | q + 1 => am_ex f d M nx ls (.ref q :: r) sh lg
            | 0 => none
          else none
        | _ => none
      | .iastore => match st with
        | .int x :: .int j :: .ref o :: r => match sh[o]? with
          | some (20, n, _) => if ¬ (j < 0 ∨ n ≤ j.toNatClampNeg) then am_ex f d M nx ls r sh ((o, j.toNatClampNeg, x) :: lg) else none
          | _ => none
        | _ => none
      | .aastore => match st with
        | .ref q :: .int j :: .ref o :: r => match sh[o]? with
          | some (t, n, z) => if (t = 21 ∧ am_objb sh q 3 = true ∨ t = 22 ∧ am_objb sh q 5 = true) ∧ n = z.length ∧ ¬ (j < 0 ∨ n ≤ j.toNatClampNeg) then am_ex f d M nx ls r (am_sr sh o j.toNatClampNeg (q + 1)) lg else none
          | none => none
        | _ => none
      | .newarray _ => match st with
        | .int n :: r => if ¬ n < 0 ∧ n.toNatClampNeg ≤ 100000 ∧ sh.length < 900 ∧ (lg.all fun e => !(Nat.beq e.1 sh.length)) = true then match am_ex f d M nx ls (.ref sh.length :: r) (sh ++ [(20, n.toNatClampNeg, [])]) lg with
            | some (sh', lg', c1, s1) => some (sh', lg', c1 + 1, s1 + n.toNatClampNeg)
            | none => none
          else none
        | _ => none
      | .anewarray _ => match st with
        | .int n :: r => if ¬ n < 0 ∧ n.toNatClampNeg ≤ 100000 ∧ sh.length < 900 then match am_ex f d M nx ls (.ref sh.length :: r) (sh ++ [(a, n.toNatClampNeg, List.replicate n.toNatClampNeg 0)]) lg with
            | some (sh', lg', c1, s1) => some (sh', lg', c1 + 1, s1 + n.toNatClampNeg)
            | none => none
          else none
        | _ => none
      | .new _ => if sh.length < 900 ∧ (lg.all fun e => !(Nat.beq e.1 sh.length)) = true ∧ am_cats st ≤ 8 then match am_ex f d M nx ls (.ref sh.length :: st) (sh ++ [(a, am_nf a, List.replicate (am_nf a) 0)]) lg with
            | some (sh', lg', c1, s1) => some (sh', lg', c1 + 1, s1 + am_nf a)
            | none => none
          else none
      | .invokespecial _ => if c = 9 then match st with
          | .ref _ :: r => if 1 ≤ d ∧ am_cats r ≤ 8 then am_ex f d M nx ls r sh lg else none
          | _ => none
        else match (st.take b).reverse with
          | .ref o :: as => if b ≤ st.length ∧ am_cats (st.drop b) ≤ 8 ∧ (am_en (c / 256) (.ref o :: as)).length = c / 256 ∧ 1 ≤ d then match am_ex f (d - 1) a 0 (am_en (c / 256) (.ref o :: as)) [] sh lg with
              | some (sh1, lg1, c1, s1) => match am_ex f d M nx ls (st.drop b) sh1 lg1 with
                | some (sh2, lg2, c2, s2) => some (sh2, lg2, c1 + c2, s1 + s2)
                | none => none
              | none => none
            else none
          | _ => none
      | .invokestatic _ => if c = 10 then match st with
          | .int y :: .int x :: r => if 1 ≤ d ∧ am_cats r ≤ 8 then am_ex f d M nx ls (.int (am_imax x y) :: r) sh lg else none
          | _ => none
        else none
      | .return_ => match st with
        | [] => some (sh, lg, 0, 0)
        | _ => none
      | _ => match am_b i a k ls st with
        | some (ls', st') => am_ex f d M nx ls' st' sh lg
        | none => none
set_option maxHeartbeats 4000000 in
theorem am_ex_ok {L : Nat} {xs : Nat → Int32} : ∀ (f d M pc : Nat) (ls st : List Value) (sh : am_SH) (lg : List (Nat × Nat × Int32)) (sh' : am_SH) (lg' : List (Nat × Nat × Int32)) (c s : Nat), am_ex f d M pc ls st sh lg = some (sh', lg', c, s) →
    ∀ (ms : Nat) (Q : am_Q), s ≤ ms → Q none sh' (am_lg lg') → am_wp L xs d c ms M pc ls st sh (am_lg lg) Q
  | 0, _, _, _, _, _, _, _, _, _, _, _, h, _, _, _, _ => by cases h
  | f + 1, d, M, pc, ls, st, sh, lg, sh', lg', cc, s, h, ms, Q, hs, hQ => by
    apply am_fold
    unfold am_F
    unfold am_ex at h
    cases hins : am_ins M pc with
    | none => rw [hins] at h; cases h
    | some e0 =>
      obtain ⟨i, nx, a, b, c, k, sw⟩ := e0
      rw [hins] at h
      cases i <;> dsimp only at h ⊢
      case putfield =>
        split at h
        · split at h
          · rename_i hc
            exact ⟨am_objb_ok hc.1, by omega, (fun e => by omega), am_ex_ok f d M nx ls _ sh (_ :: lg) sh' lg' cc s h ms Q hs hQ⟩
          · cases h
        · split at h
          · rename_i hc
            exact ⟨am_objb_ok hc.1, hc.2, am_ex_ok f d M nx ls _ _ lg sh' lg' cc s h ms Q hs hQ⟩
          · cases h
        · cases h
      case getfield =>
        split at h
        · split at h
          · rename_i hc
            split at h
            · rename_i q hq
              refine ⟨am_objb_ok hc.1, ?_⟩
              rw [if_pos hc.2, hq]
              exact am_ex_ok f d M nx ls _ sh lg sh' lg' cc s h ms Q hs hQ
            · cases h
          · cases h
        · cases h
      case iastore =>
        split at h
        · split at h
          · rename_i n z hz
            split at h
            · rename_i hc
              exact ⟨n, z, hz, hc, am_ex_ok f d M nx ls _ sh (_ :: lg) sh' lg' cc s h ms Q hs hQ⟩
            · cases h
          · cases h
        · cases h
      case aastore =>
        split at h
        · split at h
          · rename_i t n z hz
            split at h
            · rename_i hc
              refine ⟨t, n, z, hz, ?_, hc.2.1, hc.2.2, am_ex_ok f d M nx ls _ _ lg sh' lg' cc s h ms Q hs hQ⟩
              rcases hc.1 with q | q
              · exact Or.inl ⟨q.1, am_objb_ok q.2⟩
              · exact Or.inr ⟨q.1, am_objb_ok q.2⟩
            · cases h
          · cases h
        · cases h
      case newarray =>
        split at h
        · split at h
          · rename_i hc
            split at h
            · rename_i sh1 lg1 c1 s1 h1
              cases h
              refine ⟨hc.1, hc.2.1, hc.2.2.1, am_lg_0 lg hc.2.2.2, by omega, by omega, ?_⟩
              exact am_ex_ok f d M nx ls _ _ lg _ _ _ _ h1 _ Q (by omega) hQ
            · cases h
          · cases h
        · cases h
      case anewarray =>
        split at h
        · split at h
          · rename_i hc
            split at h
            · rename_i sh1 lg1 c1 s1 h1
              cases h
              refine ⟨hc.1, hc.2.1, hc.2.2, by omega, by omega, ?_⟩
              exact am_ex_ok f d M nx ls _ _ lg _ _ _ _ h1 _ Q (by omega) hQ
            · cases h
          · cases h
        · cases h
      case new =>
        split at h
        · rename_i hc
          split at h
          · rename_i sh1 lg1 c1 s1 h1
            cases h
            refine ⟨hc.1, am_lg_0 lg hc.2.1, by omega, by omega, hc.2.2, ?_⟩
            exact am_ex_ok f d M nx ls _ _ lg _ _ _ _ h1 _ Q (by omega) hQ
          · cases h
        · cases h
      case invokespecial =>
        split at h
        · rename_i h9
          rw [if_pos h9]
          split at h
          · split at h
            · rename_i hc
              exact ⟨hc.1, hc.2, am_ex_ok f d M nx ls _ sh lg sh' lg' cc s h ms Q hs hQ⟩
            · cases h
          · cases h
        · rename_i h9
          rw [if_neg h9]
          split at h
          · rename_i o as has
            split at h
            · rename_i hc
              split at h
              · rename_i sh1 lg1 c1 s1 h1
                split at h
                · rename_i sh2 lg2 c2 s2 h2
                  cases h
                  refine ⟨hc.1, ⟨o, by rw [has]; rfl⟩, ?_⟩
                  rw [has]
                  refine ⟨hc.2.1, hc.2.2.1, d - 1, c1, c2, s1, s2, fun r sh9 hi9 => r = none ∧ sh9 = sh1 ∧ hi9 = am_lg lg1, by have := hc.2.2.2; omega, rfl, by omega, am_ex_ok f (d - 1) a 0 _ [] sh lg sh1 lg1 c1 s1 h1 s1 _ (Nat.le_refl _) ⟨rfl, rfl, rfl⟩, fun r sh9 hi9 hr => ?_⟩
                  obtain ⟨rfl, rfl, rfl⟩ := hr
                  exact am_ex_ok f d M nx ls _ _ lg1 _ _ c2 s2 h2 s2 Q (Nat.le_refl _) hQ
                · cases h
              · cases h
            · cases h
          · cases h
      case invokestatic =>
        split at h
        · rename_i h10
          rw [if_neg (by omega), if_pos h10]
          split at h
          · split at h
            · rename_i hc
              exact ⟨hc.1, hc.2, am_ex_ok f d M nx ls _ sh lg sh' lg' cc s h ms Q hs hQ⟩
            · cases h
          · cases h
        · cases h
      case return_ =>
        split at h
        · cases h
          exact ⟨rfl, hQ⟩
        · cases h
      all_goals first
        | (split at h
           · rename_i ls1 st1 hb1
             rw [hb1]
             exact am_ex_ok f d M nx ls1 st1 sh lg sh' lg' cc s h ms Q hs hQ
           · cases h)
        | (dsimp only [am_b] at h; cases h)
