/-! BYTES of a word -/
def bys (w s : Int) : Int := b_and (b_ushr w s) 255
theorem bv_ss (b : BitVec 32) {k : Nat} (hk : k ≤ 24) : (b.sshiftRight k).setWidth 8 = (b >>> k).setWidth 8 := by
  apply BitVec.eq_of_getLsbD_eq
  intro i hi
  rw [BitVec.getLsbD_setWidth, BitVec.getLsbD_setWidth, BitVec.getLsbD_sshiftRight, BitVec.getLsbD_ushiftRight]
  rw [decide_eq_false (show ¬ 32 ≤ i by omega), if_pos (show k + i < 32 by omega)]
  simp
theorem bv_255 (b : BitVec 32) : (b &&& 255#32).toNat = (b.setWidth 8).toNat := by
  rw [BitVec.toNat_and, BitVec.toNat_setWidth]
  exact Nat.and_two_pow_sub_one_eq_mod b.toNat 8
theorem bys_eq {w s : Int} {k : Nat} (hs : s = k) (hk : k = 0 ∨ k = 8 ∨ k = 16 ∨ k = 24) : bys w s = ((((Int32.ofInt w).toBitVec >>> k).setWidth 8).toNat : Int) := by
  unfold bys b_and b_ushr
  rw [Int32.ofInt_toInt, ← bv_255]
  generalize Int32.ofInt w = x
  have e : (((x.toUInt32 >>> ((Int32.ofInt s).toUInt32 &&& Int32.toUInt32 31)).toInt32) &&& Int32.ofInt 255).toBitVec = (x.toBitVec >>> k) &&& 255#32 := by
    subst hs
    rcases hk with rfl | rfl | rfl | rfl <;> rfl
  show BitVec.toInt _ = _
  rw [e, BitVec.toInt_eq_toNat_of_lt]
  rw [bv_255]
  have := ((x.toBitVec >>> k).setWidth 8).isLt
  omega
theorem i8_bv (y : Int32) : y.toInt8.toInt = (y.toBitVec.setWidth 8).toInt := by
  show y.toInt8.toBitVec.toInt = _
  rw [Int32.toBitVec_toInt8]
  congr 1
  apply BitVec.eq_of_getLsbD_eq
  intro i hi
  rw [BitVec.getLsbD_signExtend, BitVec.getLsbD_setWidth, if_pos (show i < 32 by omega)]
theorem i2b_eq {w s : Int} {k : Nat} (hs : s = k) (hk : k = 0 ∨ k = 8 ∨ k = 16 ∨ k = 24) : b_i2b (b_shr w s) = (((Int32.ofInt w).toBitVec >>> k).setWidth 8).toInt := by
  unfold b_i2b b_shr
  rw [Int32.ofInt_toInt, ← bv_ss _ (show k ≤ 24 by omega)]
  generalize Int32.ofInt w = x
  have e : (x >>> (Int32.ofInt s &&& 31)).toBitVec = x.toBitVec.sshiftRight k := by
    subst hs
    rcases hk with rfl | rfl | rfl | rfl <;> rfl
  rw [← e]
  generalize x >>> (Int32.ofInt s &&& 31) = y
  rw [Int8.toInt_toInt32]
  exact i8_bv y
theorem bys_r {w s : Int} {k : Nat} (hs : s = k) (hk : k = 0 ∨ k = 8 ∨ k = 16 ∨ k = 24) : 0 ≤ bys w s ∧ bys w s ≤ 255 := by
  rw [bys_eq hs hk]
  have := (((Int32.ofInt w).toBitVec >>> k).setWidth 8).isLt
  omega
theorem bys_sgn {w s : Int} {k : Nat} (hs : s = k) (hk : k = 0 ∨ k = 8 ∨ k = 16 ∨ k = 24) : b_i2b (b_shr w s) = sgn8 (bys w s) := by
  rw [i2b_eq hs hk, bys_eq hs hk, BitVec.toInt_eq_toNat_cond]
  unfold sgn8
  split <;> split <;> omega
theorem b_i2b_r (a : Int) : -128 ≤ b_i2b a ∧ b_i2b a ≤ 127 := by
  unfold b_i2b
  generalize Int32.ofInt a = y
  rw [Int8.toInt_toInt32]
  exact ⟨Int8.le_toInt _, Int8.toInt_le _⟩
