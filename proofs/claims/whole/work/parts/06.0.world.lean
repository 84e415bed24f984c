/-! the abstract machine's world in the machine's heap; lemmas on it -/
abbrev am_CS : Type := ClassId × ClassId × ClassId
def am_cv (ad : Nat → Nat) (v : Value) : Value := match v with
  | .ref a => .ref (ad a)
  | v => v
def am_ro (ad : Nat → Nat) : Nat → Option Nat
  | 0 => none
  | k + 1 => some (ad k)
def am_fv (ad : Nat → Nat) (t : Nat) (z : List Nat) (f : Nat → Int32) (j : Nat) : Value := if am_fk t j = 2 then am_cv ad (am_rv (z.getD j 0)) else .int (f j)
def am_ce (ad : Nat → Nat) (cs : am_CS) (sh : am_SH) (hi : am_HI) (k : Nat) : va_E := match sh[k]? with
  | some (t, n, z) => if t = 20 then .inl (cs.1, n, .inl (hi k)) else if t = 21 then .inl (cs.2.1, n, .inr (.inr (.inr (.inr (fun j => am_ro ad (z.getD j 0)))))) else if t = 22 then .inl (cs.2.2, n, .inr (.inr (.inr (.inr (fun j => am_ro ad (z.getD j 0)))))) else .inr (t, (List.range n).map (am_fv ad t z (hi k)))
  | none => .inr (0, [])
def am_ws (ad : Nat → Nat) (cs : am_CS) (sh : am_SH) (hi : am_HI) : va_W := (List.range sh.length).map fun k => (ad k, am_ce ad cs sh hi k)
def am_tl (cs : am_CS) : List (ClassId × FieldType) := [(cs.1, .int), (cs.2.1, .object "WrongCoats$Law"), (cs.2.2, .object "WrongCoats$Sheet")]
theorem am_ws_at {ad : Nat → Nat} {cs : am_CS} {sh : am_SH} {hi : am_HI} {k : Nat} (h : k < sh.length) : (am_ws ad cs sh hi)[k]? = some (ad k, am_ce ad cs sh hi k) := by
  simp [am_ws, h]
theorem am_ws_len {ad : Nat → Nat} {cs : am_CS} {sh : am_SH} {hi : am_HI} : (am_ws ad cs sh hi).length = sh.length := by
  simp [am_ws]
theorem am_lt {sh : am_SH} {k : Nat} {x : Nat × Nat × List Nat} (h : sh[k]? = some x) : k < sh.length := (List.getElem?_eq_some_iff.mp h).1
theorem am_ws_of {ad : Nat → Nat} {cs : am_CS} {sh : am_SH} {hi : am_HI} {k : Nat} {q : Nat × va_E} (h : (am_ws ad cs sh hi)[k]? = some q) : k < sh.length ∧ q = (ad k, am_ce ad cs sh hi k) := by
  have hl : k < sh.length := by
    have := (List.getElem?_eq_some_iff.mp h).1
    rwa [am_ws_len] at this
  rw [am_ws_at hl] at h
  exact ⟨hl, (Option.some.inj h).symm⟩
theorem am_ws_ia {ad : Nat → Nat} {cs : am_CS} {sh : am_SH} {hi : am_HI} {k n : Nat} {z : List Nat} (h : sh[k]? = some (20, n, z)) : (am_ws ad cs sh hi)[k]? = some (ad k, .inl (cs.1, n, .inl (hi k))) := by
  rw [am_ws_at (am_lt h)]
  simp only [am_ce, h, if_true]
theorem am_ws_ra {ad : Nat → Nat} {cs : am_CS} {sh : am_SH} {hi : am_HI} {k n : Nat} {z : List Nat} (h : sh[k]? = some (21, n, z)) : (am_ws ad cs sh hi)[k]? = some (ad k, .inl (cs.2.1, n, .inr (.inr (.inr (.inr (fun j => am_ro ad (z.getD j 0))))))) := by
  rw [am_ws_at (am_lt h)]
  simp [am_ce, h]
theorem am_ws_rb {ad : Nat → Nat} {cs : am_CS} {sh : am_SH} {hi : am_HI} {k n : Nat} {z : List Nat} (h : sh[k]? = some (22, n, z)) : (am_ws ad cs sh hi)[k]? = some (ad k, .inl (cs.2.2, n, .inr (.inr (.inr (.inr (fun j => am_ro ad (z.getD j 0))))))) := by
  rw [am_ws_at (am_lt h)]
  simp [am_ce, h]
theorem am_ws_ob {ad : Nat → Nat} {cs : am_CS} {sh : am_SH} {hi : am_HI} {k t n : Nat} {z : List Nat} (h : sh[k]? = some (t, n, z)) (ht : t < 10) : (am_ws ad cs sh hi)[k]? = some (ad k, .inr (t, (List.range n).map (am_fv ad t z (hi k)))) := by
  rw [am_ws_at (am_lt h)]
  have h1 : ¬ t = 20 := by omega
  have h2 : ¬ t = 21 := by omega
  have h3 : ¬ t = 22 := by omega
  simp [am_ce, h, h1, h2, h3]
/-- a world that differs in one cell alone -/
theorem am_ws_set {ad : Nat → Nat} {cs : am_CS} {sh sh' : am_SH} {hi hi' : am_HI} {k : Nat} (hl : sh'.length = sh.length) (hk : k < sh.length) (ho : ∀ j, j ≠ k → sh'[j]? = sh[j]? ∧ hi' j = hi j) :
    (am_ws ad cs sh hi).set k (ad k, am_ce ad cs sh' hi' k) = am_ws ad cs sh' hi' := by
  apply List.ext_getElem?
  intro j
  by_cases hjk : j = k
  · subst hjk
    rw [List.getElem?_set_self (by rw [am_ws_len]; exact hk), am_ws_at (by rw [hl]; exact hk)]
  · rw [List.getElem?_set_ne (Ne.symm hjk)]
    by_cases hj : j < sh.length
    · rw [am_ws_at hj, am_ws_at (by rw [hl]; exact hj)]
      obtain ⟨h1, h2⟩ := ho j hjk
      simp only [am_ce, h1, h2]
    · rw [List.getElem?_eq_none (by rw [am_ws_len]; omega), List.getElem?_eq_none (by rw [am_ws_len, hl]; omega)]
theorem am_ws_push {ad : Nat → Nat} {cs : am_CS} {sh : am_SH} {hi : am_HI} {x : Nat × Nat × List Nat} : am_ws ad cs (sh ++ [x]) hi = am_ws ad cs sh hi ++ [(ad sh.length, am_ce ad cs (sh ++ [x]) hi sh.length)] := by
  apply List.ext_getElem?
  intro j
  by_cases hj : j < sh.length
  · rw [am_ws_at (by simp; omega), List.getElem?_append_left (by rw [am_ws_len]; exact hj), am_ws_at hj]
    simp only [am_ce, List.getElem?_append_left hj]
  · by_cases hj2 : j = sh.length
    · subst hj2
      rw [am_ws_at (by simp), List.getElem?_append_right (by rw [am_ws_len]; omega), am_ws_len, Nat.sub_self]
      rfl
    · rw [List.getElem?_eq_none (by rw [am_ws_len]; simp; omega), List.getElem?_eq_none (by simp [am_ws_len]; omega)]
theorem am_u_row (h : am_HI) (a i : Nat) (v : Int32) : am_u h a i v a = upd (h a) i v := by simp [am_u]
theorem am_u_off (h : am_HI) {a b : Nat} (i : Nat) (v : Int32) (hb : b ≠ a) : am_u h a i v b = h b := by simp [am_u, hb]
theorem am_ur_row (h : am_HI) (a : Nat) (f : Nat → Int32) : am_ur h a f a = f := by simp [am_ur]
theorem am_ur_off (h : am_HI) {a b : Nat} (f : Nat → Int32) (hb : b ≠ a) : am_ur h a f b = h b := by simp [am_ur, hb]
theorem am_sr_len {sh : am_SH} {r k v : Nat} : (am_sr sh r k v).length = sh.length := by
  unfold am_sr
  split <;> simp
theorem am_sr_off {sh : am_SH} {r k v j : Nat} (hj : j ≠ r) : (am_sr sh r k v)[j]? = sh[j]? := by
  unfold am_sr
  split
  · rw [List.getElem?_set_ne (Ne.symm hj)]
  · rfl
theorem am_sr_at {sh : am_SH} {r k v t n : Nat} {z : List Nat} (h : sh[r]? = some (t, n, z)) : (am_sr sh r k v)[r]? = some (t, n, z.set k v) := by
  unfold am_sr
  rw [h]
  dsimp only
  rw [List.getElem?_set_self (am_lt h)]
theorem am_cv_cat (ad : Nat → Nat) (v : Value) : (am_cv ad v).category = v.category := by cases v <;> rfl
theorem am_cats_cv (ad : Nat → Nat) (st : List Value) : ((st.map (am_cv ad)).map fun v => v.category).sum = am_cats st := by
  unfold am_cats
  rw [List.map_map]
  congr 1
  apply List.map_congr_left
  intro v _
  exact am_cv_cat ad v
/-- the locals -/
def am_LR (ad : Nat → Nat) (lsr : Array Slot) (n : Nat) (ls : List Value) : Prop := ls.length = n ∧ ∃ lv, lv_has lsr n lv ∧ ∀ i v, ls[i]? = some v → v ≠ am_du → (i, am_cv ad v) ∈ lv
theorem am_LR.at {ad : Nat → Nat} {lsr : Array Slot} {n : Nat} {ls : List Value} (h : am_LR ad lsr n ls) {i : Nat} {v : Value} (hi : ls[i]? = some v) (hv : v ≠ am_du) : lsr[i]? = some (.val (am_cv ad v)) := by
  obtain ⟨-, lv, h1, h2⟩ := h
  exact h1.2.2 _ (h2 i v hi hv)
theorem am_LR.size {ad : Nat → Nat} {lsr : Array Slot} {n : Nat} {ls : List Value} (h : am_LR ad lsr n ls) : lsr.size = n := by
  obtain ⟨-, lv, h1, h2⟩ := h
  exact h1.1
/-- a store: what am_st says, and what the kit's row needs -/
theorem am_st_ok {ad : Nat → Nat} {lsr : Array Slot} {n a : Nat} {ls ls' st st' : List Value} {v : Value} (h : am_LR ad lsr n ls) (hs : am_st ls a v st = some (ls', st')) :
    st' = st ∧ a < n ∧ ∃ lv, lv_has lsr n lv ∧ ∀ ls2 : Array Slot, lv_has ls2 n ((a, am_cv ad v) :: lv.filter (fun q => !(q.1 == a) && !(q.1 + 1 == a && q.2.category == 2))) → am_LR ad ls2 n ls' := by
  obtain ⟨h0, lv, h1, h2⟩ := h
  unfold am_st at hs
  split at hs
  · rename_i ha
    have key : ls' = ls.set a v ∧ st' = st ∧ ∀ b w, a = b + 1 → ls[b]? = some w → w.category ≠ 2 := by
      cases a with
      | zero =>
        dsimp only at hs
        cases hs
        exact ⟨rfl, rfl, fun b w hb => by omega⟩
      | succ b =>
        dsimp only at hs
        split at hs
        · cases hs
        · cases hs
        · rename_i hn1 hn2
          cases hs
          refine ⟨rfl, rfl, fun b' w hb hw => ?_⟩
          have hbb : b' = b := by omega
          subst hbb
          rw [hw] at hn1 hn2
          cases w <;> simp [Value.category] at hn1 hn2 ⊢
    obtain ⟨rfl, rfl, hcat⟩ := key
    refine ⟨rfl, by omega, lv, h1, fun ls2 hls2 => ⟨by simp [h0], _, hls2, fun i w hi hw => ?_⟩⟩
    by_cases hia : i = a
    · subst hia
      rw [List.getElem?_set_self ha] at hi
      cases hi
      exact List.mem_cons_self
    · rw [List.getElem?_set_ne (Ne.symm hia)] at hi
      refine List.mem_cons_of_mem _ (List.mem_filter.mpr ⟨h2 i w hi hw, ?_⟩)
      dsimp only
      rw [am_cv_cat]
      have e1 : (i == a) = false := by simp [hia]
      rw [e1]
      by_cases hi2 : i + 1 = a
      · have := hcat i w hi2.symm hi
        simp [this]
      · simp [hi2]
  · cases hs
theorem am_en_args {ad : Nat → Nat} : ∀ (as : List Value) (k : Nat) (i : Nat) (v : Value), (as.flatMap fun v => if v.category = 2 then [v, am_du] else [v])[i]? = some v → v ≠ am_du → (k + i, am_cv ad v) ∈ lv_args k (as.map (am_cv ad))
  | [], k, i, v, h, hv => by simp at h
  | w :: as, k, i, v, h, hv => by
    rw [List.flatMap_cons] at h
    show (k + i, am_cv ad v) ∈ (k, am_cv ad w) :: lv_args (if (am_cv ad w).category = 2 then k + 2 else k + 1) (as.map (am_cv ad))
    rw [am_cv_cat]
    by_cases hc : w.category = 2
    · rw [if_pos hc] at h ⊢
      match i, h with
      | 0, h => simp at h; subst h; exact List.mem_cons_self
      | 1, h => simp at h; exact absurd h.symm hv
      | i + 2, h =>
        have h' : (as.flatMap fun v => if v.category = 2 then [v, am_du] else [v])[i]? = some v := by simpa using h
        have := am_en_args (ad := ad) as (k + 2) i v h' hv
        rw [show k + (i + 2) = k + 2 + i by omega]
        exact List.mem_cons_of_mem _ this
    · rw [if_neg hc] at h ⊢
      match i, h with
      | 0, h => simp at h; subst h; exact List.mem_cons_self
      | i + 1, h =>
        have h' : (as.flatMap fun v => if v.category = 2 then [v, am_du] else [v])[i]? = some v := by simpa using h
        have := am_en_args (ad := ad) as (k + 1) i v h' hv
        rw [show k + (i + 1) = k + 1 + i by omega]
        exact List.mem_cons_of_mem _ this
theorem am_sl_len (ad : Nat → Nat) (as : List Value) : (lg_sl (as.map (am_cv ad))).length = (as.flatMap fun v => if v.category = 2 then [v, am_du] else [v]).length := by
  unfold lg_sl
  induction as with
  | nil => rfl
  | cons w as ih =>
    rw [List.map_cons, List.flatMap_cons, List.flatMap_cons, List.length_append, List.length_append, ih, am_cv_cat]
    congr 1
    by_cases hc : w.category = 2 <;> simp [hc]
theorem am_LR_entry {ad : Nat → Nat} {n : Nat} {as : List Value} (hl : (am_en n as).length = n) : am_LR ad (lg_sl (as.map (am_cv ad)) ++ List.replicate (n - (lg_sl (as.map (am_cv ad))).length) Slot.unset).toArray n (am_en n as) := by
  have hle : (lg_sl (as.map (am_cv ad))).length ≤ n := by
    rw [am_sl_len]
    have : (am_en n as).length = (as.flatMap fun v => if v.category = 2 then [v, am_du] else [v]).length + (n - (as.flatMap fun v => if v.category = 2 then [v, am_du] else [v]).length) := by
      simp [am_en]
    omega
  refine ⟨hl, _, lv_entry (as.map (am_cv ad)) hle, fun i v hi hv => ?_⟩
  unfold am_en at hi
  dsimp only at hi
  by_cases hj : i < (as.flatMap fun v => if v.category = 2 then [v, am_du] else [v]).length
  · rw [List.getElem?_append_left hj] at hi
    have := am_en_args (ad := ad) as 0 i v hi hv
    rwa [Nat.zero_add] at this
  · rw [List.getElem?_append_right (by omega)] at hi
    exact absurd (List.eq_of_mem_replicate (List.mem_of_getElem? hi)) hv
