/-! nest links -/
theorem in_of {k : Int32} {n : Nat} (h0 : ¬ k < 0) (h1 : ¬ nI n ≤ k) (hn : n < 2 ^ 31) : vp_in k n := by
  obtain ⟨j, hj, rfl⟩ := nI_of h0
  rcases Nat.lt_or_ge j n with q | q
  · exact vp_in_nI q hn
  · exact absurd (nI_le q hj) h1
def nestM : List (String × Nat × MethodName × String) := [(RX12, 32, yX10_init, RX12), (RX0, 62, yX12_put, RX12), (RX0, 66, yX12_at, RX12), (RX1, 113, yX12_put, RX12), (RX1, 74, yX12_at, RX12), (RX2, 78, yX12_put, RX12), (RX2, 86, yX12_at, RX12), (RX3, 108, yX12_at, RX12), (RX3, 147, yX12_put, RX12), (RX4, 34, yX12_put, RX12), (RX4, 50, yX12_putByte, RX12), (RX4, 89, yX12_at, RX12), (RX4, 93, yX12_byteIn, RX12), (RX6, 174, yX12_byteIn, RX12), (RX6, 181, yX12_putByte, RX12), (RX6, 69, yX12_put, RX12), (RX6, 80, yX12_at, RX12), (RX7, 111, yX12_at, RX12), (RX7, 89, yX12_put, RX12), (RX8, 18, yX12_put, RX12), (RX8, 39, yX12_at, RX12), (RX9, 105, yX12_at, RX12), (RX9, 42, yX12_put, RX12), (RX10, 59, yX12_put, RX12), (RX10, 67, yX12_at, RX12), (RX11, 102, yX12_put, RX12), (RX11, 34, yX12_byteIn, RX12), (RX11, 49, yX12_putByte, RX12), (RX11, 89, yX12_at, RX12)]
