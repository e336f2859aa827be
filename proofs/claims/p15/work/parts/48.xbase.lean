/-! XF: plain rows for the walks; the four methods on rows of numbers. -/
theorem in_of {k : Int32} {n : Nat} (h0 : ¬ k < 0) (h1 : ¬ nI n ≤ k) (hn : n < 2 ^ 31) : vp_in k n := by
  obtain ⟨j, hj, rfl⟩ := nI_of h0
  rcases Nat.lt_or_ge j n with q | q
  · exact vp_in_nI q hn
  · exact absurd (nI_le q hj) h1
theorem xarg_nil : xarg [] = [] := rfl
theorem xsum_nil : xsum [] = 0 := rfl
theorem xsum_int {x : Int32} {as : List Value} : xsum (.int x :: as) = 1 + xsum as := by unfold xsum; rw [List.map_cons, List.sum_cons]; rfl
theorem xsum_ref {x : Nat} {as : List Value} : xsum (.ref x :: as) = 1 + xsum as := by unfold xsum; rw [List.map_cons, List.sum_cons]; rfl
theorem xsum_long {x : Int64} {as : List Value} : xsum (.long x :: as) = 2 + xsum as := by unfold xsum; rw [List.map_cons, List.sum_cons]; rfl
theorem xsI {S : xS} {i k a b : Nat} {x : Int32} : (xsetI S i k x).1 a b = if a = i ∧ b = k then x else S.1 a b := rfl
/-- a row's place, 0 outside -/
def xat (S : xS) (a n : Nat) (k : Int32) : Int32 := if k < 0 then 0 else if nI n ≤ k then 0 else S.1 a k.toNatClampNeg
def xput (S : xS) (a n : Nat) (k v : Int32) : xS := if k < 0 then S else if nI n ≤ k then S else xsetI S a k.toNatClampNeg v
def xbyte (S : xS) (a n : Nat) (k : Int32) : Int32 := if k < 0 then 0 else if nI n ≤ k then 0 else S.1 a k.toNatClampNeg &&& 255
def xputb (S : xS) (a n : Nat) (k v : Int32) : xS := if k < 0 then S else if nI n ≤ k then S else xsetI S a k.toNatClampNeg (vp_nar .byte v.toInt8.toInt32)
theorem xin_of {k : Int32} {n : Nat} (hn : n < 2 ^ 31) (h0 : ¬ k < 0) (h1 : ¬ nI n ≤ k) : xin k n = true := by
  have := vp_in_iff.mp (in_of h0 h1 hn)
  unfold xin
  rw [Bool.and_eq_true, decide_eq_true_eq, decide_eq_true_eq]
  exact this
theorem s_at {d a n : Nat} {k : Int32} {S : xS} (hs : SK[a]? = some (.inl (0, n))) (hn : n < 2 ^ 31) : XC SK MT (d + 1) 303 [.ref a, .int k] S = some (some (.int (xat S a n k)), S) := by
  rw [XC_iff]
  refine ⟨Nat.le_of_ble_eq_true rfl, ?_⟩
  show XL SK MT d 303 (0, [some (.ref a), some (.int k)], [], S) _
  unfold xat
  simp only [rX12_at_0, rX12_at_1, rX12_at_4, rX12_at_5, rX12_at_6, rX12_at_7, rX12_at_10, rX12_at_11, rX12_at_13, rX12_at_16, rX12_at_17, rX12_at_12 hs, ↓reduceIte, m1_le, m1_lt, m1_eq, ofInt_m1, ex_ret, Int32.reduceAdd, Int32.reduceSub, Int32.reduceMul, Int32.reduceLT, Int32.reduceLE, xsI, Nat.reduceEqDiff, and_false, false_and, and_true, true_and, if_true, if_false, ite_true, ite_false, xlook_0, xlook_s, xI_int, xA_ref, xJ_long, xK_some, xRow_row, xTo_some, xst1, xclr, List.set_cons_zero, List.set_cons_succ, xsum_nil, xsum_int, xsum_ref, xsum_long, Option.toList_some, Option.toList_none, List.nil_append, List.cons_append, hs]
  by_cases h0 : k < 0
  · simp only [if_pos h0]
  · simp only [if_neg h0]
    by_cases h1 : nI n ≤ k
    · simp only [show Int32.ofNat n ≤ k from h1, h1, if_true]
    · simp only [show ¬ Int32.ofNat n ≤ k from h1, h1, if_false, xin_of hn h0 h1, true_and]
theorem s_put {d a n : Nat} {k v : Int32} {S : xS} (hs : SK[a]? = some (.inl (0, n))) (hn : n < 2 ^ 31) : XC SK MT (d + 1) 304 [.ref a, .int k, .int v] S = some (none, xput S a n k v) := by
  rw [XC_iff]
  refine ⟨Nat.le_of_ble_eq_true rfl, ?_⟩
  show XL SK MT d 304 (0, [some (.ref a), some (.int k), some (.int v)], [], S) _
  unfold xput
  simp only [rX12_put_0, rX12_put_1, rX12_put_4, rX12_put_5, rX12_put_6, rX12_put_7, rX12_put_10, rX12_put_11, rX12_put_12, rX12_put_14, rX12_put_13 hs, ↓reduceIte, m1_le, m1_lt, m1_eq, ofInt_m1, ex_ret, Int32.reduceAdd, Int32.reduceSub, Int32.reduceMul, Int32.reduceLT, Int32.reduceLE, xsI, Nat.reduceEqDiff, and_false, false_and, and_true, true_and, if_true, if_false, ite_true, ite_false, xlook_0, xlook_s, xI_int, xA_ref, xJ_long, xK_some, xRow_row, xTo_some, xst1, xclr, List.set_cons_zero, List.set_cons_succ, xsum_nil, xsum_int, xsum_ref, xsum_long, Option.toList_some, Option.toList_none, List.nil_append, List.cons_append, hs]
  by_cases h0 : k < 0
  · simp only [if_pos h0]
  · simp only [if_neg h0]
    by_cases h1 : nI n ≤ k
    · simp only [show Int32.ofNat n ≤ k from h1, h1, if_true]
    · simp only [show ¬ Int32.ofNat n ≤ k from h1, h1, if_false, xin_of hn h0 h1, true_and]
theorem s_byteIn {d a n : Nat} {k : Int32} {S : xS} (hs : SK[a]? = some (.inl (1, n))) (hn : n < 2 ^ 31) : XC SK MT (d + 1) 305 [.ref a, .int k] S = some (some (.int (xbyte S a n k)), S) := by
  rw [XC_iff]
  refine ⟨Nat.le_of_ble_eq_true rfl, ?_⟩
  show XL SK MT d 305 (0, [some (.ref a), some (.int k)], [], S) _
  unfold xbyte
  simp only [rX12_byteIn_0, rX12_byteIn_1, rX12_byteIn_4, rX12_byteIn_5, rX12_byteIn_6, rX12_byteIn_7, rX12_byteIn_10, rX12_byteIn_11, rX12_byteIn_13, rX12_byteIn_16, rX12_byteIn_17, rX12_byteIn_20, rX12_byteIn_21, rX12_byteIn_12 hs, ↓reduceIte, m1_le, m1_lt, m1_eq, ofInt_m1, ex_ret, Int32.reduceAdd, Int32.reduceSub, Int32.reduceMul, Int32.reduceLT, Int32.reduceLE, xsI, Nat.reduceEqDiff, and_false, false_and, and_true, true_and, if_true, if_false, ite_true, ite_false, xlook_0, xlook_s, xI_int, xA_ref, xJ_long, xK_some, xRow_row, xTo_some, xst1, xclr, List.set_cons_zero, List.set_cons_succ, xsum_nil, xsum_int, xsum_ref, xsum_long, Option.toList_some, Option.toList_none, List.nil_append, List.cons_append, hs]
  by_cases h0 : k < 0
  · simp only [if_pos h0]
  · simp only [if_neg h0]
    by_cases h1 : nI n ≤ k
    · simp only [show Int32.ofNat n ≤ k from h1, h1, if_true]
    · simp only [show ¬ Int32.ofNat n ≤ k from h1, h1, if_false, xin_of hn h0 h1, true_and]
theorem s_putByte {d a n : Nat} {k v : Int32} {S : xS} (hs : SK[a]? = some (.inl (1, n))) (hn : n < 2 ^ 31) : XC SK MT (d + 1) 306 [.ref a, .int k, .int v] S = some (none, xputb S a n k v) := by
  rw [XC_iff]
  refine ⟨Nat.le_of_ble_eq_true rfl, ?_⟩
  show XL SK MT d 306 (0, [some (.ref a), some (.int k), some (.int v)], [], S) _
  unfold xputb
  simp only [rX12_putByte_0, rX12_putByte_1, rX12_putByte_4, rX12_putByte_5, rX12_putByte_6, rX12_putByte_7, rX12_putByte_10, rX12_putByte_11, rX12_putByte_12, rX12_putByte_13, rX12_putByte_15, rX12_putByte_14 hs, ↓reduceIte, m1_le, m1_lt, m1_eq, ofInt_m1, ex_ret, Int32.reduceAdd, Int32.reduceSub, Int32.reduceMul, Int32.reduceLT, Int32.reduceLE, xsI, Nat.reduceEqDiff, and_false, false_and, and_true, true_and, if_true, if_false, ite_true, ite_false, xlook_0, xlook_s, xI_int, xA_ref, xJ_long, xK_some, xRow_row, xTo_some, xst1, xclr, List.set_cons_zero, List.set_cons_succ, xsum_nil, xsum_int, xsum_ref, xsum_long, Option.toList_some, Option.toList_none, List.nil_append, List.cons_append, hs]
  by_cases h0 : k < 0
  · simp only [if_pos h0]
  · simp only [if_neg h0]
    by_cases h1 : nI n ≤ k
    · simp only [show Int32.ofNat n ≤ k from h1, h1, if_true]
    · simp only [show ¬ Int32.ofNat n ≤ k from h1, h1, if_false, xin_of hn h0 h1, true_and]
