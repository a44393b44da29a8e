/-! ===== SHIFTS AND BITS AS NUMBERS ===== -/
theorem rd_shl5 {n : Int32} : n <<< 5 = n * 32 := by
  apply Int32.toBitVec_inj.mp
  show n.toBitVec <<< ((5 : Int32).toBitVec.smod 32) = n.toBitVec * (32 : Int32).toBitVec
  rw [show (5 : Int32).toBitVec.smod 32 = 5#32 by decide, BitVec.shiftLeft_eq', BitVec.shiftLeft_eq_mul_twoPow]
  rfl
theorem rd_bit5 {x : Int32} (x0 : 0 ≤ x.toInt) (x1 : x.toInt < 32) {i : Nat} (hi : 5 ≤ i) : x.toBitVec.getLsbD i = false := by
  have hx : x.toBitVec.toNat < 32 := by
    have h1 : x.toInt = x.toBitVec.toInt := rfl
    have h2 := BitVec.toInt_eq_toNat_cond x.toBitVec
    have h3 := x.toBitVec.isLt
    split at h2 <;> omega
  show x.toBitVec.toNat.testBit i = false
  exact Nat.testBit_lt_two_pow (Nat.lt_of_lt_of_le hx (Nat.pow_le_pow_right (n := 2) (by decide) hi))
theorem rd_or5 {n x : Int32} (x0 : 0 ≤ x.toInt) (x1 : x.toInt < 32) : n <<< 5 ||| x = n * 32 + x := by
  rw [← rd_shl5]
  apply Int32.toBitVec_inj.mp
  show (n <<< 5).toBitVec ||| x.toBitVec = (n <<< 5).toBitVec + x.toBitVec
  rw [BitVec.add_eq_or_of_and_eq_zero]
  apply BitVec.eq_of_getLsbD_eq
  intro i hi
  rw [BitVec.getLsbD_and, BitVec.getLsbD_zero]
  by_cases h5 : 5 ≤ i
  · rw [rd_bit5 x0 x1 h5, Bool.and_false]
  · have : (n <<< 5).toBitVec.getLsbD i = false := by
      show (n.toBitVec <<< ((5 : Int32).toBitVec.smod 32)).getLsbD i = false
      rw [show (5 : Int32).toBitVec.smod 32 = 5#32 by decide, BitVec.shiftLeft_eq', BitVec.getLsbD_shiftLeft]
      simp only [BitVec.toNat_ofNat, Bool.and_eq_false_iff, Bool.not_eq_false', decide_eq_true_eq]
      omega
    rw [this, Bool.false_and]
theorem rd_pack1 {n x : Int32} (n0 : 0 ≤ n.toInt) (n1 : n.toInt ≤ 33554431) (x0 : 0 ≤ x.toInt) (x1 : x.toInt < 32) : (n <<< 5 ||| x).toInt = 32 * n.toInt + x.toInt := by
  have z32 : (32 : Int32).toInt = 32 := by decide
  have e : (n * 32).toInt = n.toInt * 32 := by
    rw [Int32.toInt_mul, z32]
    exact ab_bm (by omega) (by omega)
  rw [rd_or5 x0 x1, ab_iadd (by omega) (by omega), e]
  omega
/-- a byte of a number -/
def rd_by (x : Int32) (s : Nat) : Int32 := Int32.ofBitVec ((x.toBitVec >>> s) &&& 255#32)
theorem rd_255 {i : Nat} (hi : 8 ≤ i) : (255#32).getLsbD i = false := by
  show (255#32 : BitVec 32).toNat.testBit i = false
  exact Nat.testBit_lt_two_pow (Nat.lt_of_lt_of_le (by decide : (255#32 : BitVec 32).toNat < 2 ^ 8) (Nat.pow_le_pow_right (n := 2) (by decide) hi))
/-- by the sign's shift, the same byte -/
theorem rd_sshr {x : BitVec 32} {s : Nat} (hs : s ≤ 24) : (x.sshiftRight s) &&& 255#32 = (x >>> s) &&& 255#32 := by
  apply BitVec.eq_of_getLsbD_eq
  intro i hi
  rw [BitVec.getLsbD_and, BitVec.getLsbD_and]
  by_cases h8 : 8 ≤ i
  · rw [rd_255 h8, Bool.and_false, Bool.and_false]
  · rw [BitVec.getLsbD_sshiftRight, BitVec.getLsbD_ushiftRight]
    have h1 : ¬ 32 ≤ i := by omega
    have h2 : s + i < 32 := by omega
    simp only [h1, h2, decide_false, Bool.not_false, Bool.true_and, if_true]
