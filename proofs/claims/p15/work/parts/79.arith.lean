/-! Numbers: sums and products of places. -/
theorem nA0 {a : Nat} : nI a + 0 = nI a := by show nI a + nI 0 = _; rw [nI_add]; rfl
theorem nA1 {a : Nat} : nI a + 1 = nI (a + 1) := nI_add a 1
theorem nA2 {a : Nat} : nI a + 2 = nI (a + 2) := nI_add a 2
theorem nA3 {a : Nat} : nI a + 3 = nI (a + 3) := nI_add a 3
theorem nA4 {a : Nat} : nI a + 4 = nI (a + 4) := nI_add a 4
theorem nA5 {a : Nat} : nI a + 5 = nI (a + 5) := nI_add a 5
theorem nM5 {a : Nat} : nI a * 5 = nI (a * 5) := by show Int32.ofNat a * Int32.ofNat 5 = Int32.ofNat (a * 5); rw [Int32.ofNat_mul]
theorem nM6 {a : Nat} : nI a * 6 = nI (a * 6) := by show Int32.ofNat a * Int32.ofNat 6 = Int32.ofNat (a * 6); rw [Int32.ofNat_mul]
theorem nS1 {a : Nat} : nI (a + 1) - 1 = nI a := by
  rw [← nA1]
  exact Int32.add_sub_cancel _ _
theorem nS2 {a : Nat} : nI (a + 2) - 2 = nI a := by
  rw [← nA2]
  exact Int32.add_sub_cancel _ _
theorem nS21 {a : Nat} : nI (a + 2) - 1 = nI (a + 1) := nS1
theorem nD1 {a : Nat} : nI (a + 1) + (-1) = nI a := by
  rw [← Int32.sub_eq_add_neg]; exact nS1
theorem nS5 {a : Nat} : nI (a + 5) - 5 = nI a := by
  rw [← nA5]
  exact Int32.add_sub_cancel _ _
theorem sh_0 : (0 : Int32) >>> ((1 : Int32) &&& 31) = 0 := by decide
theorem sh_2 : (2 : Int32) >>> ((1 : Int32) &&& 31) = 1 := by decide
theorem sh_3 : (3 : Int32) >>> ((1 : Int32) &&& 31) = 1 := by decide
theorem an_0 : (0 : Int32) &&& 1 = 0 := by decide
theorem an_1 : (1 : Int32) &&& 1 = 1 := by decide
theorem an_3 : (3 : Int32) &&& 1 = 1 := by decide
theorem or_2 : (2 : Int32) ||| 1 = 3 := by decide
