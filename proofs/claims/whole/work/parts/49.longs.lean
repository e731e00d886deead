/-! LONGS cut to a sort's bits -/
theorem bv_cut (x : BitVec 64) {k w : Nat} (hw : w + k = 64) (h0 : 0 < w) : (x <<< k).sshiftRight k = (x.setWidth w).signExtend 64 := by
  apply BitVec.eq_of_getLsbD_eq
  intro i hi
  rw [BitVec.getLsbD_sshiftRight, BitVec.getLsbD_signExtend, BitVec.getLsbD_setWidth, BitVec.msb_eq_getLsbD_last, BitVec.msb_eq_getLsbD_last, BitVec.getLsbD_shiftLeft, BitVec.getLsbD_shiftLeft, BitVec.getLsbD_setWidth]
  rw [decide_eq_false (show ¬ 64 ≤ i by omega), decide_eq_true hi]
  by_cases e : i < w
  · rw [if_pos (show k + i < 64 by omega), if_pos e, decide_eq_true (show k + i < 64 by omega), decide_eq_false (show ¬ k + i < k by omega), show k + i - k = i by omega, decide_eq_true e]
    rfl
  · rw [if_neg (show ¬ k + i < 64 by omega), if_neg e, decide_eq_true (show 64 - 1 < 64 by omega), decide_eq_false (show ¬ 64 - 1 < k by omega), decide_eq_true (show w - 1 < w by omega), show 64 - 1 - k = w - 1 by omega]
    rfl
def cut (q v : Int) : Int := b_lshr (b_lshl v (64 - b_shl 8 q)) (64 - b_shl 8 q)
theorem cut_bv {v : Int} {s : Int} {k w : Nat} (hs : s = k) (hk : k = 56 ∨ k = 48 ∨ k = 32) (hw : w + k = 64) : b_lshr (b_lshl v s) s = ((Int64.ofInt v).toBitVec.setWidth w).toInt := by
  unfold b_lshr b_lshl
  rw [Int64.ofInt_toInt]
  generalize Int64.ofInt v = x
  have e : (x <<< ((Int32.ofInt s).toInt64 &&& 63) >>> ((Int32.ofInt s).toInt64 &&& 63)).toBitVec = (x.toBitVec <<< k).sshiftRight k := by
    subst hs
    rcases hk with rfl | rfl | rfl <;> rfl
  show BitVec.toInt _ = _
  rw [e, bv_cut _ hw (by omega), BitVec.toInt_signExtend_of_le (by omega)]
theorem l2i_bv (v : Int) : (Int64.ofInt v).toInt32.toBitVec = (Int64.ofInt v).toBitVec.setWidth 32 := by
  rw [Int64.toBitVec_toInt32]
  apply BitVec.eq_of_getLsbD_eq
  intro i hi
  rw [BitVec.getLsbD_signExtend, BitVec.getLsbD_setWidth, if_pos (show i < 64 by omega)]
theorem cut_0 (v : Int) : cut 0 v = b_i2b (b_l2i v) := by
  unfold cut
  rw [cut_bv (k := 56) (w := 8) (by decide +kernel) (by omega) (by omega)]
  unfold b_i2b b_l2i
  rw [Int32.ofInt_toInt, Int8.toInt_toInt32, i8_bv, l2i_bv]
  congr 1
  exact (BitVec.setWidth_setWidth_of_le _ (by omega)).symm
theorem i16_bv (y : Int32) : y.toInt16.toInt = (y.toBitVec.setWidth 16).toInt := by
  show y.toInt16.toBitVec.toInt = _
  rw [Int32.toBitVec_toInt16]
  congr 1
  apply BitVec.eq_of_getLsbD_eq
  intro i hi
  rw [BitVec.getLsbD_signExtend, BitVec.getLsbD_setWidth, if_pos (show i < 32 by omega)]
theorem cut_1 (v : Int) : cut 1 v = b_i2s (b_l2i v) := by
  unfold cut
  rw [cut_bv (k := 48) (w := 16) (by decide +kernel) (by omega) (by omega)]
  unfold b_i2s b_l2i
  rw [Int32.ofInt_toInt, Int16.toInt_toInt32, i16_bv, l2i_bv]
  congr 1
  exact (BitVec.setWidth_setWidth_of_le _ (by omega)).symm
theorem cut_2 (v : Int) : cut 2 v = b_l2i v := by
  unfold cut
  rw [cut_bv (k := 32) (w := 32) (by decide +kernel) (by omega) (by omega)]
  unfold b_l2i
  show _ = (Int64.ofInt v).toInt32.toBitVec.toInt
  rw [l2i_bv]
theorem cut_3 {v : Int} (h : -9223372036854775808 ≤ v ∧ v ≤ 9223372036854775807) : cut 3 v = v := by
  unfold cut b_lshr b_lshl
  rw [Int64.ofInt_toInt]
  have e : ∀ x : Int64, (x <<< ((Int32.ofInt (64 - b_shl 8 3)).toInt64 &&& 63) >>> ((Int32.ofInt (64 - b_shl 8 3)).toInt64 &&& 63)) = x := fun x => by
    rw [show ((Int32.ofInt (64 - b_shl 8 3)).toInt64 &&& 63) = 0 by decide +kernel]
    apply Int64.toBitVec_inj.mp
    show (x.toBitVec <<< 0).sshiftRight 0 = x.toBitVec
    apply BitVec.eq_of_getLsbD_eq
    intro i hi
    rw [BitVec.getLsbD_sshiftRight, BitVec.getLsbD_shiftLeft, decide_eq_false (show ¬ 64 ≤ i by omega), if_pos (show 0 + i < 64 by omega)]
    simp [hi]
  rw [e]
  exact Int64.toInt_ofInt_of_le h.1 (by omega)
theorem b_l2i_id {v : Int} (h : -2147483648 ≤ v ∧ v ≤ 2147483647) : b_l2i v = v := by
  unfold b_l2i
  rw [Int64.toInt_toInt32, Int64.toInt_ofInt_of_le (by omega) (by omega)]
  exact Int.bmod_eq_of_le (by omega) (by omega)
