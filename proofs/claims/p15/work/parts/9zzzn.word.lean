/-! The reckoning: words of 31 bits. -/
theorem even_w (x : Int32) : (x * 2).toBitVec.toNat % 2 = 0 := by
  show (x.toBitVec * (2 : Int32).toBitVec).toNat % 2 = 0
  rw [BitVec.toNat_mul, show (2 : Int32).toBitVec.toNat = 2 from rfl]
  omega
theorem nat_1 (y : Int32) (h : y.toBitVec.toNat % 2 = 0) : (y + 1).toBitVec.toNat = y.toBitVec.toNat + 1 := by
  show (y.toBitVec + (1 : Int32).toBitVec).toNat = _
  have h1 := y.toBitVec.isLt
  rw [BitVec.toNat_add, show (1 : Int32).toBitVec.toNat = 1 from rfl, Nat.mod_eq_of_lt (by omega)]
/-- a word holds its number in 31 bits -/
theorem sr_w (x : Int32) : sr (x * 2 + 1) = x <<< ((1 : Int32) &&& 31) >>> ((1 : Int32) &&& 31) := by
  rw [shl1]
  apply Int32.toInt_inj.mp
  have e1 : (sr (x * 2 + 1)).toInt = (x * 2 + 1).toInt >>> 1 := pk_shr _ _ 1 (by decide)
  have e2 : (x * 2 >>> ((1 : Int32) &&& 31)).toInt = (x * 2 >>> ((1 : Int32) &&& 31)).toInt := rfl
  have e3 : ((x * 2) >>> ((1 : Int32) &&& 31)).toInt = (x * 2).toInt >>> 1 := pk_shr _ _ 1 (by decide)
  rw [e1, e3, Int.shiftRight_eq_div_pow, Int.shiftRight_eq_div_pow, int_nat, int_nat (x * 2), nat_1 _ (even_w x)]
  have h := even_w x
  have h1 := (x * 2).toBitVec.isLt
  generalize (x * 2).toBitVec.toNat = y at h h1
  split <;> split <;> omega
