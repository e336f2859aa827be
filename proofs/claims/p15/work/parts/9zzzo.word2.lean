/-! The reckoning: sums and differences of words. -/
theorem ow_add (x b : Int32) : (x * 2 + 1) + (b * 2 + 1) - 1 = (x + b) * 2 + 1 := by
  rw [Int32.sub_eq_add_neg, Int32.add_mul, Int32.add_assoc, Int32.add_assoc, Int32.add_assoc, Int32.add_right_neg, Int32.add_zero]
  rw [Int32.add_comm 1 (b * 2), ← Int32.add_assoc]
theorem ow_mul (x b : Int32) : (x * 2 + 1 - 1) * b + 1 = x * b * 2 + 1 := by
  rw [Int32.add_sub_cancel, Int32.mul_assoc, Int32.mul_comm 2 b, ← Int32.mul_assoc]
