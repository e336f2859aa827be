/-! Lexer: what a byte is, a look at a byte. -/
def lpk (ts : Int32) (row : Nat → Int32) (k : Int32) : Int32 := if k < 0 then -1 else if ts ≤ k then -1 else if nI 8192 ≤ k then -1 else row k.toNatClampNeg &&& 255
theorem xsR {S : xS} {i k a : Nat} {x : Int32} (h : ¬ a = i) : (xsetI S i k x).1 a = S.1 a := xsetI_row h
theorem s_peek {d : Nat} {k : Int32} {S : xS} : XC SK MT (d + 1) 120 [.ref 1, .int k] S = some (some (.int (lpk (S.1 1 10) (S.1 13) k)), S) := by
  rw [XC_iff]
  refine ⟨Nat.le_of_ble_eq_true rfl, ?_⟩
  show XL SK MT d 120 (0, [some (.ref 1), some (.int k)], [], S) _
  unfold lpk
  simp only [rX4_peek_0, rX4_peek_1, rX4_peek_4, rX4_peek_5, rX4_peek_6, rX4_peek_9, rX4_peek_12, rX4_peek_13, rX4_peek_14, rX4_peek_17, rX4_peek_18, rX4_peek_21, rX4_peek_22, rX4_peek_25, rX4_peek_27, rX4_peek_30, rX4_peek_31, rX4_peek_34, rX4_peek_35, rX4_peek_26 (show SK[13]? = some (.inl (1, 8192)) from rfl), ↓reduceIte, m1_le, m1_lt, m1_eq, ofInt_m1, ex_ret, Int32.reduceAdd, Int32.reduceSub, Int32.reduceMul, Int32.reduceLT, Int32.reduceLE, xsI, Nat.reduceEqDiff, and_false, false_and, and_true, true_and, if_true, if_false, ite_true, ite_false, xlook_0, xlook_s, xI_int, xA_ref, xJ_long, xK_some, xRow_row, xTo_some, xst1, xclr, List.set_cons_zero, List.set_cons_succ, xsum_nil, xsum_int, xsum_ref, xsum_long, Option.toList_some, Option.toList_none, List.nil_append, List.cons_append, show SK[13]? = some (.inl (1, 8192)) from rfl]
  by_cases h0 : k < 0
  · simp only [if_pos h0]
  · simp only [if_neg h0]
    by_cases h1 : S.1 1 10 ≤ k
    · simp only [h1, if_true]
    · simp only [h1, if_false]
      by_cases h2 : nI 8192 ≤ k
      · simp only [show Int32.ofNat 8192 ≤ k from h2, h2, if_true]
      · simp only [show ¬ Int32.ofNat 8192 ≤ k from h2, h2, if_false, xin_of (by decide) h0 h2, true_and]
def lLetter (b : Int32) : Bool := if b < 97 then (if b < 65 then false else if 90 < b then false else true) else if b ≤ 122 then true else if b < 65 then false else if 90 < b then false else true
def lDigit (b : Int32) : Bool := if b < 48 then false else if 57 < b then false else true
def xb01 (b : Bool) : Int32 := if b = true then 1 else 0
theorem s_isLetter {d : Nat} {b : Int32} {S : xS} : XC SK MT (d + 1) 121 [.int b] S = some (some (.int (xb01 (lLetter b))), S) := by
  rw [XC_iff]
  refine ⟨Nat.le_of_ble_eq_true rfl, ?_⟩
  show XL SK MT d 121 (0, [some (.int b)], [], S) _
  simp only [rX4_isLetter_0, rX4_isLetter_1, rX4_isLetter_3, rX4_isLetter_6, rX4_isLetter_7, rX4_isLetter_9, rX4_isLetter_12, rX4_isLetter_13, rX4_isLetter_15, rX4_isLetter_18, rX4_isLetter_19, rX4_isLetter_21, rX4_isLetter_24, rX4_isLetter_25, rX4_isLetter_28, r0X4_isLetter_29, r1X4_isLetter_29, rX4_isLetter_29, ↓reduceIte, m1_le, m1_lt, m1_eq, ofInt_m1, ex_ret, Int32.reduceAdd, Int32.reduceSub, Int32.reduceMul, Int32.reduceLT, Int32.reduceLE, xsI, Nat.reduceEqDiff, and_false, false_and, and_true, true_and, if_true, if_false, ite_true, ite_false, xlook_0, xlook_s, xI_int, xA_ref, xJ_long, xK_some, xRow_row, xTo_some, xst1, xclr, List.set_cons_zero, List.set_cons_succ, xsum_nil, xsum_int, xsum_ref, xsum_long, Option.toList_some, Option.toList_none, List.nil_append, List.cons_append]
  unfold lLetter
  by_cases h1 : b < 97 <;> by_cases h2 : b < 65 <;> by_cases h3 : 90 < b <;> by_cases h4 : b ≤ 122 <;> simp only [h1, h2, h3, h4, if_true, if_false, xb01, reduceCtorEq]
theorem s_isDigit {d : Nat} {b : Int32} {S : xS} : XC SK MT (d + 1) 122 [.int b] S = some (some (.int (xb01 (lDigit b))), S) := by
  rw [XC_iff]
  refine ⟨Nat.le_of_ble_eq_true rfl, ?_⟩
  show XL SK MT d 122 (0, [some (.int b)], [], S) _
  simp only [rX4_isDigit_0, rX4_isDigit_1, rX4_isDigit_3, rX4_isDigit_6, rX4_isDigit_7, rX4_isDigit_9, rX4_isDigit_12, rX4_isDigit_13, rX4_isDigit_16, r0X4_isDigit_17, r1X4_isDigit_17, rX4_isDigit_17, ↓reduceIte, m1_le, m1_lt, m1_eq, ofInt_m1, ex_ret, Int32.reduceAdd, Int32.reduceSub, Int32.reduceMul, Int32.reduceLT, Int32.reduceLE, xsI, Nat.reduceEqDiff, and_false, false_and, and_true, true_and, if_true, if_false, ite_true, ite_false, xlook_0, xlook_s, xI_int, xA_ref, xJ_long, xK_some, xRow_row, xTo_some, xst1, xclr, List.set_cons_zero, List.set_cons_succ, xsum_nil, xsum_int, xsum_ref, xsum_long, Option.toList_some, Option.toList_none, List.nil_append, List.cons_append]
  unfold lDigit
  by_cases h1 : b < 48 <;> by_cases h2 : 57 < b <;> simp only [h1, h2, if_true, if_false, xb01, reduceCtorEq]
def lPart (b : Int32) : Bool := if lLetter b = true then true else if lDigit b = true then true else if b = 95 then true else if b = 39 then true else false
theorem s_isNamePart {d : Nat} {b : Int32} {S : xS} : XC SK MT (d + 1) 123 [.int b] S = some (some (.int (xb01 (lPart b))), S) := by
  rw [XC_iff]
  refine ⟨Nat.le_of_ble_eq_true rfl, ?_⟩
  show XL SK MT d 123 (0, [some (.int b)], [], S) _
  simp only [rX4_isNamePart_0, rX4_isNamePart_1, rX4_isNamePart_3, rX4_isNamePart_6, rX4_isNamePart_7, rX4_isNamePart_9, rX4_isNamePart_12, rX4_isNamePart_13, rX4_isNamePart_15, rX4_isNamePart_18, rX4_isNamePart_19, rX4_isNamePart_21, rX4_isNamePart_24, rX4_isNamePart_25, rX4_isNamePart_27, rX4_isNamePart_30, rX4_isNamePart_31, rX4_isNamePart_33, rX4_isNamePart_36, rX4_isNamePart_37, rX4_isNamePart_39, rX4_isNamePart_42, rX4_isNamePart_43, rX4_isNamePart_45, rX4_isNamePart_48, rX4_isNamePart_49, rX4_isNamePart_52, r0X4_isNamePart_53, r1X4_isNamePart_53, rX4_isNamePart_53, ↓reduceIte, m1_le, m1_lt, m1_eq, ofInt_m1, ex_ret, Int32.reduceAdd, Int32.reduceSub, Int32.reduceMul, Int32.reduceLT, Int32.reduceLE, xsI, Nat.reduceEqDiff, and_false, false_and, and_true, true_and, if_true, if_false, ite_true, ite_false, xlook_0, xlook_s, xI_int, xA_ref, xJ_long, xK_some, xRow_row, xTo_some, xst1, xclr, List.set_cons_zero, List.set_cons_succ, xsum_nil, xsum_int, xsum_ref, xsum_long, Option.toList_some, Option.toList_none, List.nil_append, List.cons_append]
  unfold lPart lLetter lDigit
  by_cases h7 : b = 95
  · subst h7; simp (config := { decide := true }) only [if_true, if_false, xb01]
  by_cases h8 : b = 39
  · subst h8; simp (config := { decide := true }) only [if_true, if_false, xb01]
  simp only [← Int32.not_le]
  by_cases h1 : 97 ≤ b <;> simp only [h1, h7, h8, if_true, if_false, xb01, not_true, not_false_iff] <;>
  by_cases h2 : 65 ≤ b <;> (try simp only [h2, if_true, if_false, xb01, not_true, not_false_iff]) <;>
  by_cases h5 : 48 ≤ b <;> (try simp only [h5, if_true, if_false, xb01, not_true, not_false_iff]) <;>
  by_cases h4 : b ≤ 122 <;> (try simp only [h4, if_true, if_false, xb01, not_true, not_false_iff]) <;>
  by_cases h9 : b ≤ 90 <;> (try simp only [h9, if_true, if_false, xb01, not_true, not_false_iff]) <;>
  by_cases h6 : b ≤ 57 <;> (try simp only [h6, if_true, if_false, xb01, not_true, not_false_iff]) <;>
  first | rfl | trace_state
