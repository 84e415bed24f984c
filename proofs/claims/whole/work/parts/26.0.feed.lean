/-! calls tied: feed -/
def fe_b (w : Int64) (i : Nat) : Int32 := Int64.toInt32 (am_lushr w (nI (8 * i))) &&& 255
theorem fe_bits (w : BitVec 64) (k : Nat) (hk : k ≤ 56) : BitVec.setWidth 32 (w >>> k) &&& 255#32 = BitVec.setWidth 32 (w.sshiftRight k &&& 255#64) := by
  apply BitVec.eq_of_getLsbD_eq
  intro j hj
  by_cases h8 : j < 8
  · have h1 : k + j < 64 := by omega
    have h2 : (255#32).getLsbD j = (255#64).getLsbD j := by
      have : ∀ j, j < 8 → (255#32).getLsbD j = (255#64).getLsbD j := by decide
      exact this j h8
    simp only [BitVec.getLsbD_and, BitVec.getLsbD_setWidth, BitVec.getLsbD_ushiftRight, BitVec.getLsbD_sshiftRight]
    rw [h2]
    simp [hj, h1, show ¬ 64 ≤ j by omega]
  · have h2 : (255#32).getLsbD j = false := by
      have : ∀ j, j < 32 → ¬ j < 8 → (255#32).getLsbD j = false := by decide
      exact this j hj h8
    have h3 : (255#64).getLsbD j = false := by
      have : ∀ j, j < 32 → ¬ j < 8 → (255#64).getLsbD j = false := by decide
      exact this j hj h8
    simp only [BitVec.getLsbD_and, BitVec.getLsbD_setWidth]
    rw [h2, h3, Bool.and_false, Bool.and_false, Bool.and_false]
theorem fe_eq (w : Int64) : ∀ i, i < 8 → Int64.toInt32 ((w >>> (Int32.toInt64 (nI (8 * i)) &&& 63)) &&& Int64.ofNat 255) = fe_b w i := by
  intro i hi
  have h : i = 0 ∨ i = 1 ∨ i = 2 ∨ i = 3 ∨ i = 4 ∨ i = 5 ∨ i = 6 ∨ i = 7 := by omega
  apply Int32.toBitVec_inj.mp
  rcases h with e | e | e | e | e | e | e | e <;> subst e
  · have hL : Int32.toBitVec (Int64.toInt32 ((w >>> (Int32.toInt64 (nI (8 * 0)) &&& 63)) &&& Int64.ofNat 255)) = BitVec.setWidth 32 (w.toBitVec.sshiftRight 0 &&& 255#64) := by
      have e1 : ((nI (8 * 0)).toInt64 &&& 63).toBitVec.smod 64 = 0#64 := by decide
      rw [Int64.toBitVec_toInt32, Int64.toBitVec_and, Int64.toBitVec_shiftRight, e1, BitVec.signExtend_eq_setWidth_of_le _ (by decide)]
      rfl
    have hR : Int32.toBitVec (fe_b w 0) = BitVec.setWidth 32 (w.toBitVec >>> 0) &&& 255#32 := by
      unfold fe_b
      rw [Int32.toBitVec_and, Int64.toBitVec_toInt32, BitVec.signExtend_eq_setWidth_of_le _ (by decide)]
      rfl
    rw [hL, hR]
    exact (fe_bits w.toBitVec 0 (by decide)).symm
  · have hL : Int32.toBitVec (Int64.toInt32 ((w >>> (Int32.toInt64 (nI (8 * 1)) &&& 63)) &&& Int64.ofNat 255)) = BitVec.setWidth 32 (w.toBitVec.sshiftRight 8 &&& 255#64) := by
      have e1 : ((nI (8 * 1)).toInt64 &&& 63).toBitVec.smod 64 = 8#64 := by decide
      rw [Int64.toBitVec_toInt32, Int64.toBitVec_and, Int64.toBitVec_shiftRight, e1, BitVec.signExtend_eq_setWidth_of_le _ (by decide)]
      rfl
    have hR : Int32.toBitVec (fe_b w 1) = BitVec.setWidth 32 (w.toBitVec >>> 8) &&& 255#32 := by
      unfold fe_b
      rw [Int32.toBitVec_and, Int64.toBitVec_toInt32, BitVec.signExtend_eq_setWidth_of_le _ (by decide)]
      rfl
    rw [hL, hR]
    exact (fe_bits w.toBitVec 8 (by decide)).symm
  · have hL : Int32.toBitVec (Int64.toInt32 ((w >>> (Int32.toInt64 (nI (8 * 2)) &&& 63)) &&& Int64.ofNat 255)) = BitVec.setWidth 32 (w.toBitVec.sshiftRight 16 &&& 255#64) := by
      have e1 : ((nI (8 * 2)).toInt64 &&& 63).toBitVec.smod 64 = 16#64 := by decide
      rw [Int64.toBitVec_toInt32, Int64.toBitVec_and, Int64.toBitVec_shiftRight, e1, BitVec.signExtend_eq_setWidth_of_le _ (by decide)]
      rfl
    have hR : Int32.toBitVec (fe_b w 2) = BitVec.setWidth 32 (w.toBitVec >>> 16) &&& 255#32 := by
      unfold fe_b
      rw [Int32.toBitVec_and, Int64.toBitVec_toInt32, BitVec.signExtend_eq_setWidth_of_le _ (by decide)]
      rfl
    rw [hL, hR]
    exact (fe_bits w.toBitVec 16 (by decide)).symm
  · have hL : Int32.toBitVec (Int64.toInt32 ((w >>> (Int32.toInt64 (nI (8 * 3)) &&& 63)) &&& Int64.ofNat 255)) = BitVec.setWidth 32 (w.toBitVec.sshiftRight 24 &&& 255#64) := by
      have e1 : ((nI (8 * 3)).toInt64 &&& 63).toBitVec.smod 64 = 24#64 := by decide
      rw [Int64.toBitVec_toInt32, Int64.toBitVec_and, Int64.toBitVec_shiftRight, e1, BitVec.signExtend_eq_setWidth_of_le _ (by decide)]
      rfl
    have hR : Int32.toBitVec (fe_b w 3) = BitVec.setWidth 32 (w.toBitVec >>> 24) &&& 255#32 := by
      unfold fe_b
      rw [Int32.toBitVec_and, Int64.toBitVec_toInt32, BitVec.signExtend_eq_setWidth_of_le _ (by decide)]
      rfl
    rw [hL, hR]
    exact (fe_bits w.toBitVec 24 (by decide)).symm
  · have hL : Int32.toBitVec (Int64.toInt32 ((w >>> (Int32.toInt64 (nI (8 * 4)) &&& 63)) &&& Int64.ofNat 255)) = BitVec.setWidth 32 (w.toBitVec.sshiftRight 32 &&& 255#64) := by
      have e1 : ((nI (8 * 4)).toInt64 &&& 63).toBitVec.smod 64 = 32#64 := by decide
      rw [Int64.toBitVec_toInt32, Int64.toBitVec_and, Int64.toBitVec_shiftRight, e1, BitVec.signExtend_eq_setWidth_of_le _ (by decide)]
      rfl
    have hR : Int32.toBitVec (fe_b w 4) = BitVec.setWidth 32 (w.toBitVec >>> 32) &&& 255#32 := by
      unfold fe_b
      rw [Int32.toBitVec_and, Int64.toBitVec_toInt32, BitVec.signExtend_eq_setWidth_of_le _ (by decide)]
      rfl
    rw [hL, hR]
    exact (fe_bits w.toBitVec 32 (by decide)).symm
  · have hL : Int32.toBitVec (Int64.toInt32 ((w >>> (Int32.toInt64 (nI (8 * 5)) &&& 63)) &&& Int64.ofNat 255)) = BitVec.setWidth 32 (w.toBitVec.sshiftRight 40 &&& 255#64) := by
      have e1 : ((nI (8 * 5)).toInt64 &&& 63).toBitVec.smod 64 = 40#64 := by decide
      rw [Int64.toBitVec_toInt32, Int64.toBitVec_and, Int64.toBitVec_shiftRight, e1, BitVec.signExtend_eq_setWidth_of_le _ (by decide)]
      rfl
    have hR : Int32.toBitVec (fe_b w 5) = BitVec.setWidth 32 (w.toBitVec >>> 40) &&& 255#32 := by
      unfold fe_b
      rw [Int32.toBitVec_and, Int64.toBitVec_toInt32, BitVec.signExtend_eq_setWidth_of_le _ (by decide)]
      rfl
    rw [hL, hR]
    exact (fe_bits w.toBitVec 40 (by decide)).symm
  · have hL : Int32.toBitVec (Int64.toInt32 ((w >>> (Int32.toInt64 (nI (8 * 6)) &&& 63)) &&& Int64.ofNat 255)) = BitVec.setWidth 32 (w.toBitVec.sshiftRight 48 &&& 255#64) := by
      have e1 : ((nI (8 * 6)).toInt64 &&& 63).toBitVec.smod 64 = 48#64 := by decide
      rw [Int64.toBitVec_toInt32, Int64.toBitVec_and, Int64.toBitVec_shiftRight, e1, BitVec.signExtend_eq_setWidth_of_le _ (by decide)]
      rfl
    have hR : Int32.toBitVec (fe_b w 6) = BitVec.setWidth 32 (w.toBitVec >>> 48) &&& 255#32 := by
      unfold fe_b
      rw [Int32.toBitVec_and, Int64.toBitVec_toInt32, BitVec.signExtend_eq_setWidth_of_le _ (by decide)]
      rfl
    rw [hL, hR]
    exact (fe_bits w.toBitVec 48 (by decide)).symm
  · have hL : Int32.toBitVec (Int64.toInt32 ((w >>> (Int32.toInt64 (nI (8 * 7)) &&& 63)) &&& Int64.ofNat 255)) = BitVec.setWidth 32 (w.toBitVec.sshiftRight 56 &&& 255#64) := by
      have e1 : ((nI (8 * 7)).toInt64 &&& 63).toBitVec.smod 64 = 56#64 := by decide
      rw [Int64.toBitVec_toInt32, Int64.toBitVec_and, Int64.toBitVec_shiftRight, e1, BitVec.signExtend_eq_setWidth_of_le _ (by decide)]
      rfl
    have hR : Int32.toBitVec (fe_b w 7) = BitVec.setWidth 32 (w.toBitVec >>> 56) &&& 255#32 := by
      unfold fe_b
      rw [Int32.toBitVec_and, Int64.toBitVec_toInt32, BitVec.signExtend_eq_setWidth_of_le _ (by decide)]
      rfl
    rw [hL, hR]
    exact (fe_bits w.toBitVec 56 (by decide)).symm
