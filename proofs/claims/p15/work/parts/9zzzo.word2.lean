/-! The reckoning: sums and differences of words. -/
theorem ow_add (x b : Int32) : (x * 2 + 1) + (b * 2 + 1) - 1 = (x + b) * 2 + 1 := by
  rw [Int32.sub_eq_add_neg, Int32.add_mul, Int32.add_assoc, Int32.add_assoc, Int32.add_assoc, Int32.add_right_neg, Int32.add_zero]
  rw [Int32.add_comm 1 (b * 2), ← Int32.add_assoc]
theorem ow_mul (x b : Int32) : (x * 2 + 1 - 1) * b + 1 = x * b * 2 + 1 := by
  rw [Int32.add_sub_cancel, Int32.mul_assoc, Int32.mul_comm 2 b, ← Int32.mul_assoc]
/-- the number cut to 31 bits has the same word -/
theorem ow_cut (x : Int32) : (x <<< ((1 : Int32) &&& 31) >>> ((1 : Int32) &&& 31)) * 2 = x * 2 := by
  rw [shl1]
  apply Int32.toInt_inj.mp
  have e3 : ((x * 2) >>> ((1 : Int32) &&& 31)).toInt = (x * 2).toInt >>> 1 := pk_shr _ _ 1 (by decide)
  have h := even_w x
  have h1 := (x * 2).toBitVec.isLt
  have h2 := int_nat (x * 2)
  rw [Int32.toInt_mul, e3, Int.shiftRight_eq_div_pow, show (2 : Int32).toInt = 2 from rfl]
  have h3 : (x * 2).toInt / 2 ^ 1 * 2 = (x * 2).toInt := by
    rw [h2]
    generalize (x * 2).toBitVec.toNat = y at h h1
    split <;> omega
  rw [show ((2 : Nat) ^ 1 : Nat) = 2 from rfl] at *
  rw [show (x * 2).toInt / ((2 ^ 1 : Nat) : Int) * 2 = (x * 2).toInt from h3]
  exact Int.bmod_eq_of_le (by have := Int32.le_toInt (x * 2); omega) (by have := Int32.toInt_lt (x * 2); omega)
