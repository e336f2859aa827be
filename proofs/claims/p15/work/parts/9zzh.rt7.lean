/-! Words of MIPS as whole numbers. -/
theorem n_nat {N : Nat} (h : N < 2 ^ 32) : (nI N).toBitVec.toNat = N := by
  show (BitVec.ofNat 32 N).toNat = N
  rw [BitVec.toNat_ofNat, Nat.mod_eq_of_lt h]
theorem n_int {N : Nat} (h : N < 2 ^ 32) : (nI N).toInt = if N < 2147483648 then (N : Int) else (N : Int) - 4294967296 := by
  show (nI N).toBitVec.toInt = _
  rw [BitVec.toInt_eq_toNat_cond, n_nat h]
  by_cases q : N < 2147483648
  · rw [if_pos (by omega), if_pos q]
  · rw [if_neg (by omega), if_neg q]; rfl
theorem n_all (x : Int32) : nI x.toBitVec.toNat = x := by
  apply Int32.toBitVec_inj.mp
  apply BitVec.eq_of_toNat_eq
  exact n_nat x.toBitVec.isLt
theorem int_nat (x : Int32) : x.toInt = if x.toBitVec.toNat < 2147483648 then (x.toBitVec.toNat : Int) else (x.toBitVec.toNat : Int) - 4294967296 := by
  have := n_int x.toBitVec.isLt
  rw [n_all] at this
  exact this
theorem n_sh (x s : Int32) (k : Nat) (hs : (s.toBitVec.smod 32).toNat = k) (hk : k ≤ 21) (N : Nat) (h : N < 2 ^ 32) (hx : x = nI N) : (x >>> s).toBitVec.toNat % 32 = N / 2 ^ k % 32 := by
  have h1 := pk_shr x s k hs
  rw [Int.shiftRight_eq_div_pow, hx, n_int h] at h1
  have h2 := int_nat (nI N >>> s)
  have h3 := (nI N >>> s).toBitVec.isLt
  rw [hx]
  rw [h2] at h1
  generalize (nI N >>> s).toBitVec.toNat = y at h1 h3 ⊢
  have hk' : k = 0 ∨ k = 1 ∨ k = 2 ∨ k = 3 ∨ k = 4 ∨ k = 5 ∨ k = 6 ∨ k = 7 ∨ k = 8 ∨ k = 9 ∨ k = 10 ∨ k = 11 ∨ k = 12 ∨ k = 13 ∨ k = 14 ∨ k = 15 ∨ k = 16 ∨ k = 17 ∨ k = 18 ∨ k = 19 ∨ k = 20 ∨ k = 21 := by omega
  rcases hk' with rfl | rfl | rfl | rfl | rfl | rfl | rfl | rfl | rfl | rfl | rfl | rfl | rfl | rfl | rfl | rfl | rfl | rfl | rfl | rfl | rfl | rfl <;> split at h1 <;> split at h1 <;> omega
section
variable {N : Nat}
theorem n_K (h : N < 2 ^ 32) : asK (nI N) = nI (N / 67108864) := pk_ushrN h _ 26 (by decide)
theorem n_A (h : N < 2 ^ 32) : asA (nI N) = nI (N / 2097152 % 32) := (pk_and _ 5 (by decide)).trans (congrArg nI (n_sh _ _ 21 (by decide) (by decide) N h rfl))
theorem n_B (h : N < 2 ^ 32) : asB (nI N) = nI (N / 65536 % 32) := (pk_and _ 5 (by decide)).trans (congrArg nI (n_sh _ _ 16 (by decide) (by decide) N h rfl))
theorem n_C (h : N < 2 ^ 32) : asC (nI N) = nI (N / 2048 % 32) := (pk_and _ 5 (by decide)).trans (congrArg nI (n_sh _ _ 11 (by decide) (by decide) N h rfl))
theorem n_lo (h : N < 2 ^ 32) : nI N &&& 65535 = nI (N % 65536) := pk_andN h 16 (by decide)
theorem n_J (h : N < 2 ^ 32) : nI N &&& 67108863 = nI (N % 67108864) := pk_andN h 26 (by decide)
theorem n_S (h : N < 2 ^ 32) {s : Int32} (hs : s.toInt = Int.bmod N 65536) : asS (nI N) = s := by
  apply Int32.toInt_inj.mp
  show (nI N).toInt16.toInt32.toInt = _
  rw [Int16.toInt_toInt32, Int32.toInt_toInt16, hs, n_int h]
  split
  · rfl
  · show Int.bmod ((N : Int) - 4294967296) 65536 = Int.bmod (N : Int) 65536
    have e : ((N : Int) - 4294967296) % ((65536 : Nat) : Int) = (N : Int) % ((65536 : Nat) : Int) := by omega
    rw [Int.bmod_def, Int.bmod_def, e]
theorem n_Sp (h : N < 2 ^ 32) (hs : N % 65536 < 32768) : asS (nI N) = nI (N % 65536) := by
  refine n_S h ?_
  rw [n_int (by omega), if_pos (by omega), Int.bmod_def]
  rw [if_pos (by omega)]
  omega
end
theorem nI_orK {k c y : Nat} (hy : y < 2 ^ k) (hN : 2 ^ k * c + y < 2 ^ 32) : nI (2 ^ k * c) ||| nI y = nI (2 ^ k * c + y) := by
  apply Int32.toBitVec_inj.mp
  apply BitVec.eq_of_toNat_eq
  show ((nI (2 ^ k * c)).toBitVec ||| (nI y).toBitVec).toNat = _
  rw [BitVec.toNat_or, n_nat (by omega), n_nat (by omega), n_nat hN, Nat.two_pow_add_eq_or_of_lt hy]
theorem or16 {C y : Nat} {c : Int32} (hc : c = nI C) (h1 : C % 65536 = 0) (h2 : C < 2 ^ 32) (hy : y < 65536) : c ||| nI y = nI (C + y) := by
  have e : C = 2 ^ 16 * (C / 65536) := by omega
  rw [hc, e]
  exact nI_orK (k := 16) hy (by omega)
theorem or26 {C y : Nat} {c : Int32} (hc : c = nI C) (h1 : C % 67108864 = 0) (h2 : C < 2 ^ 32) (hy : y < 67108864) : c ||| nI y = nI (C + y) := by
  have e : C = 2 ^ 26 * (C / 67108864) := by omega
  rw [hc, e]
  exact nI_orK (k := 26) hy (by omega)
theorem lo_p {p : Nat} (hp : p < 8192) : nI p * 4 &&& 65535 = nI (4 * p) := by
  have e : nI p * 4 = nI (4 * p) := by rw [Nat.mul_comm]; exact pk_mul p 4
  rw [e, n_lo (by omega), Nat.mod_eq_of_lt (by omega)]
theorem wLw4_n {p : Nat} (hp : p < 8192) : wLw 4 (nI p * 4) 17 = nI (2384723968 + 4 * p) := by
  unfold wLw
  rw [lo_p hp]
  exact or16 (C := 2384723968) (by decide) (by decide) (by decide) (by omega)
theorem wLw8_n {p : Nat} (hp : p < 8192) : wLw 8 (nI p * 4) 17 = nI (2384986112 + 4 * p) := by
  unfold wLw
  rw [lo_p hp]
  exact or16 (C := 2384986112) (by decide) (by decide) (by decide) (by omega)
theorem wSet4_n (s : Int32) : wSet 4 s = nI (604241920 + s.toBitVec.toNat % 65536) := by
  unfold wSet
  rw [pk_and s 16 (by decide)]
  exact or16 (C := 604241920) (by decide) (by decide) (by decide) (Nat.mod_lt _ (by decide))
theorem wOri4_n (s : Int32) : wOri 4 s = nI (881065984 + s.toBitVec.toNat % 65536) := by
  unfold wOri
  rw [pk_and s 16 (by decide)]
  exact or16 (C := 881065984) (by decide) (by decide) (by decide) (Nat.mod_lt _ (by decide))
theorem wLui4_n (s : Int32) : wLui 4 s = nI (1006895104 + s.toBitVec.toNat / 65536) := by
  have h := s.toBitVec.isLt
  have e : (s.toUInt32 >>> ((16 : Int32).toUInt32 &&& Int32.toUInt32 31)).toInt32 = nI (s.toBitVec.toNat / 65536) := by
    have := pk_ushrN h (16 : Int32) 16 (by decide)
    rw [n_all] at this
    exact this
  unfold wLui
  rw [e]
  exact or16 (C := 1006895104) (by decide) (by decide) (by decide) (by omega)
theorem wJ_n {L : Nat} (hL : L < 67108864) : wJ ||| nI L = nI (134217728 + L) := or26 (C := 134217728) (by decide) (by decide) (by decide) hL
theorem wJal_n {L : Nat} (hL : L < 67108864) : wJal ||| nI L = nI (201326592 + L) := or26 (C := 201326592) (by decide) (by decide) (by decide) hL
/-- a number that fits is the short of its word -/
theorem set_S {s : Int32} (h1 : ¬ s < (-32768)) (h2 : ¬ 32767 < s) : asS (nI (604241920 + s.toBitVec.toNat % 65536)) = s := by
  have h := s.toBitVec.isLt
  refine n_S (by omega) ?_
  have e1 : ¬ s.toInt < -32768 := fun q => h1 (Int32.lt_iff_toInt_lt.mpr q)
  have e2 : ¬ 32767 < s.toInt := fun q => h2 (Int32.lt_iff_toInt_lt.mpr q)
  have e3 := int_nat s
  rw [Int.bmod_def]
  split at e3 <;> split <;> omega
theorem lui_sh {C y : Nat} (hC : C % 65536 = 0) (hy : y < 65536) (hN : C + y < 2 ^ 32) : nI (C + y) <<< ((16 : Int32) &&& 31) = nI (65536 * y) := by
  apply Int32.toBitVec_inj.mp
  apply BitVec.eq_of_toNat_eq
  rw [pk_shl _ _ 16 (by decide), n_nat hN, n_nat (by omega)]
  omega
