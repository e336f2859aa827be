/-! Words of 64 bits as natural numbers; bytes out of words. -/
theorem lN_nat {n : Nat} (h : n < 2 ^ 64) : (lN n).toBitVec.toNat = n := by
  show (BitVec.ofNat 64 n).toNat = n
  rw [BitVec.toNat_ofNat, Nat.mod_eq_of_lt h]
theorem int64_nat (x : Int64) : x.toInt = if x.toBitVec.toNat < 9223372036854775808 then (x.toBitVec.toNat : Int) else (x.toBitVec.toNat : Int) - 18446744073709551616 := by
  have h := x.toBitVec.isLt
  have e : x.toInt = x.toBitVec.toInt := rfl
  rw [e, BitVec.toInt_eq_toNat_cond]
  split <;> split <;> omega
theorem asr64 (a s : Int64) (k : Nat) (hs : (s.toBitVec.smod 64).toNat = k) : (a >>> s).toInt = a.toInt >>> k := by
  show (a.toBitVec.sshiftRight (s.toBitVec.smod 64).toNat).toInt = _
  rw [hs, BitVec.toInt_sshiftRight]
  rfl
theorem sm64 : ∀ k, k < 64 → (((nI k).toInt64 &&& 63).toBitVec.smod 64).toNat = k := by decide +kernel
theorem asr_n {n k : Nat} (hn : n < 2 ^ 63) (hk : k < 64) : lN n >>> ((nI k).toInt64 &&& 63) = lN (n / 2 ^ k) := by
  apply Int64.toInt_inj.mp
  have h2 : n / 2 ^ k ≤ n := Nat.div_le_self _ _
  rw [asr64 _ _ k (sm64 k hk), pk_lT hn, pk_lT (by omega), Int.shiftRight_eq_div_pow]
  rfl
theorem and255l {n : Nat} (hn : n < 2 ^ 64) : lN n &&& 255 = lN (n % 256) := by
  apply Int64.toBitVec_inj.mp
  apply BitVec.eq_of_toNat_eq
  have h2 : n % 256 < 2 ^ 64 := by omega
  rw [lN_nat h2]
  show ((lN n).toBitVec &&& (255 : Int64).toBitVec).toNat = _
  rw [BitVec.toNat_and, lN_nat hn, show (255 : Int64).toBitVec.toNat = 2 ^ 8 - 1 from rfl, Nat.and_two_pow_sub_one_eq_mod]
theorem bmod32 (x : Int) : Int.bmod x (2 ^ 32) = if x % 4294967296 < 2147483648 then x % 4294967296 else x % 4294967296 - 4294967296 := by
  rw [Int.bmod_def]
  rfl
theorem hi32 (x : Int64) : (x >>> ((32 : Int32).toInt64 &&& 63)).toInt32.toBitVec.toNat = x.toBitVec.toNat / 4294967296 := by
  have e1 : (x >>> ((32 : Int32).toInt64 &&& 63)).toInt = x.toInt >>> 32 := asr64 _ _ 32 (sm64 32 (by decide))
  have e2 := Int64.toInt_toInt32 (x >>> ((32 : Int32).toInt64 &&& 63))
  rw [e1, Int.shiftRight_eq_div_pow, int64_nat, bmod32, int_nat] at e2
  have h1 := x.toBitVec.isLt
  have h2 := (x >>> ((32 : Int32).toInt64 &&& 63)).toInt32.toBitVec.isLt
  rw [show ((2 ^ 32 : Nat) : Int) = 4294967296 from rfl] at e2
  generalize (x >>> ((32 : Int32).toInt64 &&& 63)).toInt32.toBitVec.toNat = q at *
  generalize x.toBitVec.toNat = y at *
  split at e2 <;> split at e2 <;> split at e2 <;> omega
theorem lo32 (x : Int64) : x.toInt32.toBitVec.toNat = x.toBitVec.toNat % 4294967296 := by
  have e2 := Int64.toInt_toInt32 x
  rw [int64_nat, bmod32, int_nat] at e2
  have h1 := x.toBitVec.isLt
  have h2 := x.toInt32.toBitVec.isLt
  generalize x.toInt32.toBitVec.toNat = q at *
  generalize x.toBitVec.toNat = y at *
  split at e2 <;> split at e2 <;> split at e2 <;> omega
/-- a byte behind the bytes of a word -/
theorem shb (x : Int64) {b : Nat} (hb : b < 256) : (x <<< ((8 : Int32).toInt64 &&& 63) ||| lN b).toBitVec.toNat = x.toBitVec.toNat % 72057594037927936 * 256 + b := by
  show ((x.toBitVec <<< (((8 : Int32).toInt64 &&& 63).toBitVec.smod 64)) ||| (lN b).toBitVec).toNat = _
  have e : ((8 : Int32).toInt64 &&& 63).toBitVec.smod 64 = 8#64 := by decide
  rw [e, BitVec.toNat_or, lN_nat (by omega)]
  have e2 : (x.toBitVec <<< 8#64).toNat = x.toBitVec.toNat % 72057594037927936 * 256 := by
    show (x.toBitVec <<< 8).toNat = _
    rw [BitVec.toNat_shiftLeft, Nat.shiftLeft_eq]
    omega
  rw [e2, Nat.mul_comm _ 256]
  exact (Nat.two_pow_add_eq_or_of_lt (i := 8) hb _).symm
theorem nar_bn {x : Int32} {b : Nat} (h : x.toInt % 256 = b) (hb : b < 128) : vp_nar .byte x.toInt8.toInt32 = nI b := by
  have e : x.toInt8 = (nI b).toInt8 := by
    apply Int8.toInt_inj.mp
    rw [Int32.toInt_toInt8, Int32.toInt_toInt8, nI_toInt (by omega)]
    rw [Int.bmod_def, Int.bmod_def]
    rw [show x.toInt % ((2 ^ 8 : Nat) : Int) = b from h, show ((b : Nat) : Int) % ((2 ^ 8 : Nat) : Int) = b by omega]
  rw [e]
  exact nar_b b hb
theorem byt24 {v : Int32} {b : Nat} (h : v.toBitVec.toNat / 16777216 % 256 = b) (hb : b < 128) : vp_nar .byte (v >>> ((24 : Int32) &&& 31)).toInt8.toInt32 = nI b := by
  refine nar_bn ?_ hb
  have e : (v >>> ((24 : Int32) &&& 31)).toInt = v.toInt >>> 24 := pk_shr _ _ 24 (by decide)
  have h1 := v.toBitVec.isLt
  rw [e, Int.shiftRight_eq_div_pow, int_nat, show ((2 ^ 24 : Nat) : Int) = 16777216 from rfl]
  generalize v.toBitVec.toNat = y at *
  split <;> omega
theorem byt16 {v : Int32} {b : Nat} (h : v.toBitVec.toNat / 65536 % 256 = b) (hb : b < 128) : vp_nar .byte (v >>> ((16 : Int32) &&& 31)).toInt8.toInt32 = nI b := by
  refine nar_bn ?_ hb
  have e : (v >>> ((16 : Int32) &&& 31)).toInt = v.toInt >>> 16 := pk_shr _ _ 16 (by decide)
  have h1 := v.toBitVec.isLt
  rw [e, Int.shiftRight_eq_div_pow, int_nat, show ((2 ^ 16 : Nat) : Int) = 65536 from rfl]
  generalize v.toBitVec.toNat = y at *
  split <;> omega
theorem byt8 {v : Int32} {b : Nat} (h : v.toBitVec.toNat / 256 % 256 = b) (hb : b < 128) : vp_nar .byte (v >>> ((8 : Int32) &&& 31)).toInt8.toInt32 = nI b := by
  refine nar_bn ?_ hb
  have e : (v >>> ((8 : Int32) &&& 31)).toInt = v.toInt >>> 8 := pk_shr _ _ 8 (by decide)
  have h1 := v.toBitVec.isLt
  rw [e, Int.shiftRight_eq_div_pow, int_nat, show ((2 ^ 8 : Nat) : Int) = 256 from rfl]
  generalize v.toBitVec.toNat = y at *
  split <;> omega
theorem byt0 {v : Int32} {b : Nat} (h : v.toBitVec.toNat % 256 = b) (hb : b < 128) : vp_nar .byte (v >>> ((0 : Int32) &&& 31)).toInt8.toInt32 = nI b := by
  refine nar_bn ?_ hb
  have e : (v >>> ((0 : Int32) &&& 31)).toInt = v.toInt >>> 0 := pk_shr _ _ 0 (by decide)
  have h1 := v.toBitVec.isLt
  rw [e, Int.shiftRight_eq_div_pow, int_nat, show ((2 ^ 0 : Nat) : Int) = 1 from rfl]
  generalize v.toBitVec.toNat = y at *
  split <;> omega
