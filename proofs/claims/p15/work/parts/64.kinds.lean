/-! Parser: what a token's kind is good for. -/
/-- kinds that come here -/
def kEnd (k : Int32) : Prop := k = 31 ∨ k = 12 ∨ k = 23 ∨ k = 14 ∨ k = 54 ∨ k = -1
def kOp8 (k : Int32) : Prop := k = 5 ∨ k = 16 ∨ k = 41
def kOp7 (k : Int32) : Prop := k = 42 ∨ k = 43
set_option maxHeartbeats 4000000 in
set_option maxRecDepth 100000 in
theorem str_end {d : Nat} {S : xS} {k : Int32} (h : kEnd k) : XC SK MT (d + 1) 215 [.int k] S = some (some (.int 0), S) := by
  rw [XC_iff]
  refine ⟨Nat.le_of_ble_eq_true rfl, ?_⟩
  show XL SK MT d 215 (0, [some (.int k)], [], S) _
  rcases h with rfl | rfl | rfl | rfl | rfl | rfl <;> simp (config := { decide := true }) only [rX7_strength_0, rX7_strength_1k1, rX7_strength_1k2, rX7_strength_1k3, rX7_strength_1k4, rX7_strength_1k5, rX7_strength_1k6, rX7_strength_1k7, rX7_strength_1k8, rX7_strength_1k9, rX7_strength_1k10, rX7_strength_1k11, rX7_strength_1k12, rX7_strength_1k13, rX7_strength_1k14, rX7_strength_1k15, rX7_strength_1k16, rX7_strength_1k17, rX7_strength_1k18, rX7_strength_1k19, rX7_strength_1k20, rX7_strength_1k21, rX7_strength_1k22, rX7_strength_1k23, rX7_strength_1k24, rX7_strength_1k25, rX7_strength_1k26, rX7_strength_1k27, rX7_strength_1k28, rX7_strength_1k29, rX7_strength_1k30, rX7_strength_1k31, rX7_strength_1k32, rX7_strength_1k33, rX7_strength_1k34, rX7_strength_1k35, rX7_strength_1k36, rX7_strength_1k37, rX7_strength_1k38, rX7_strength_1k39, rX7_strength_1k40, rX7_strength_1k41, rX7_strength_1k42, rX7_strength_1k43, rX7_strength_1k44, rX7_strength_1k45, rX7_strength_1k46, rX7_strength_1k47, rX7_strength_1k48, rX7_strength_1k49, rX7_strength_1k50, rX7_strength_1k51, rX7_strength_1km1, rX7_strength_1k0, rX7_strength_1k52, rX7_strength_1k53, rX7_strength_1k54, rX7_strength_1k55, rX7_strength_1k56, rX7_strength_1k57, rX7_strength_1k58, rX7_strength_1k59, rX7_strength_1k60, rX7_strength_1k61, rX7_strength_1k62, rX7_strength_1k63, rX7_strength_1k64, rX7_strength_1k65, rX7_strength_1k66, rX7_strength_1k67, rX7_strength_1k68, rX7_strength_1k69, rX7_strength_1k70, rX7_strength_1k71, rX7_strength_220, rX7_strength_221, rX7_strength_222, rX7_strength_223, rX7_strength_224, rX7_strength_225, rX7_strength_226, rX7_strength_227, rX7_strength_228, rX7_strength_229, rX7_strength_230, rX7_strength_232, rX7_strength_233, rX7_strength_235, rX7_strength_236, rX7_strength_238, rX7_strength_239, rX7_strength_240, ↓reduceIte, m1_le, m1_lt, m1_eq, ofInt_m1, ex_ret, Int32.reduceAdd, Int32.reduceSub, Int32.reduceMul, Int32.reduceLT, Int32.reduceLE, xsI, Nat.reduceEqDiff, and_false, false_and, and_true, true_and, if_true, if_false, ite_true, ite_false, xlook_0, xlook_s, xI_int, xA_ref, xJ_long, xK_some, xRow_row, xTo_some, xst1, xclr, List.set_cons_zero, List.set_cons_succ, xsum_nil, xsum_int, xsum_ref, xsum_long, Option.toList_some, Option.toList_none, List.nil_append, List.cons_append]
set_option maxHeartbeats 4000000 in
set_option maxRecDepth 100000 in
theorem str_8 {d : Nat} {S : xS} {k : Int32} (h : kOp8 k) : XC SK MT (d + 1) 215 [.int k] S = some (some (.int 8), S) := by
  rw [XC_iff]
  refine ⟨Nat.le_of_ble_eq_true rfl, ?_⟩
  show XL SK MT d 215 (0, [some (.int k)], [], S) _
  rcases h with rfl | rfl | rfl <;> simp (config := { decide := true }) only [rX7_strength_0, rX7_strength_1k1, rX7_strength_1k2, rX7_strength_1k3, rX7_strength_1k4, rX7_strength_1k5, rX7_strength_1k6, rX7_strength_1k7, rX7_strength_1k8, rX7_strength_1k9, rX7_strength_1k10, rX7_strength_1k11, rX7_strength_1k12, rX7_strength_1k13, rX7_strength_1k14, rX7_strength_1k15, rX7_strength_1k16, rX7_strength_1k17, rX7_strength_1k18, rX7_strength_1k19, rX7_strength_1k20, rX7_strength_1k21, rX7_strength_1k22, rX7_strength_1k23, rX7_strength_1k24, rX7_strength_1k25, rX7_strength_1k26, rX7_strength_1k27, rX7_strength_1k28, rX7_strength_1k29, rX7_strength_1k30, rX7_strength_1k31, rX7_strength_1k32, rX7_strength_1k33, rX7_strength_1k34, rX7_strength_1k35, rX7_strength_1k36, rX7_strength_1k37, rX7_strength_1k38, rX7_strength_1k39, rX7_strength_1k40, rX7_strength_1k41, rX7_strength_1k42, rX7_strength_1k43, rX7_strength_1k44, rX7_strength_1k45, rX7_strength_1k46, rX7_strength_1k47, rX7_strength_1k48, rX7_strength_1k49, rX7_strength_1k50, rX7_strength_1k51, rX7_strength_1km1, rX7_strength_1k0, rX7_strength_1k52, rX7_strength_1k53, rX7_strength_1k54, rX7_strength_1k55, rX7_strength_1k56, rX7_strength_1k57, rX7_strength_1k58, rX7_strength_1k59, rX7_strength_1k60, rX7_strength_1k61, rX7_strength_1k62, rX7_strength_1k63, rX7_strength_1k64, rX7_strength_1k65, rX7_strength_1k66, rX7_strength_1k67, rX7_strength_1k68, rX7_strength_1k69, rX7_strength_1k70, rX7_strength_1k71, rX7_strength_220, rX7_strength_221, rX7_strength_222, rX7_strength_223, rX7_strength_224, rX7_strength_225, rX7_strength_226, rX7_strength_227, rX7_strength_228, rX7_strength_229, rX7_strength_230, rX7_strength_232, rX7_strength_233, rX7_strength_235, rX7_strength_236, rX7_strength_238, rX7_strength_239, rX7_strength_240, ↓reduceIte, m1_le, m1_lt, m1_eq, ofInt_m1, ex_ret, Int32.reduceAdd, Int32.reduceSub, Int32.reduceMul, Int32.reduceLT, Int32.reduceLE, xsI, Nat.reduceEqDiff, and_false, false_and, and_true, true_and, if_true, if_false, ite_true, ite_false, xlook_0, xlook_s, xI_int, xA_ref, xJ_long, xK_some, xRow_row, xTo_some, xst1, xclr, List.set_cons_zero, List.set_cons_succ, xsum_nil, xsum_int, xsum_ref, xsum_long, Option.toList_some, Option.toList_none, List.nil_append, List.cons_append]
set_option maxHeartbeats 4000000 in
set_option maxRecDepth 100000 in
theorem str_7 {d : Nat} {S : xS} {k : Int32} (h : kOp7 k) : XC SK MT (d + 1) 215 [.int k] S = some (some (.int 7), S) := by
  rw [XC_iff]
  refine ⟨Nat.le_of_ble_eq_true rfl, ?_⟩
  show XL SK MT d 215 (0, [some (.int k)], [], S) _
  rcases h with rfl | rfl <;> simp (config := { decide := true }) only [rX7_strength_0, rX7_strength_1k1, rX7_strength_1k2, rX7_strength_1k3, rX7_strength_1k4, rX7_strength_1k5, rX7_strength_1k6, rX7_strength_1k7, rX7_strength_1k8, rX7_strength_1k9, rX7_strength_1k10, rX7_strength_1k11, rX7_strength_1k12, rX7_strength_1k13, rX7_strength_1k14, rX7_strength_1k15, rX7_strength_1k16, rX7_strength_1k17, rX7_strength_1k18, rX7_strength_1k19, rX7_strength_1k20, rX7_strength_1k21, rX7_strength_1k22, rX7_strength_1k23, rX7_strength_1k24, rX7_strength_1k25, rX7_strength_1k26, rX7_strength_1k27, rX7_strength_1k28, rX7_strength_1k29, rX7_strength_1k30, rX7_strength_1k31, rX7_strength_1k32, rX7_strength_1k33, rX7_strength_1k34, rX7_strength_1k35, rX7_strength_1k36, rX7_strength_1k37, rX7_strength_1k38, rX7_strength_1k39, rX7_strength_1k40, rX7_strength_1k41, rX7_strength_1k42, rX7_strength_1k43, rX7_strength_1k44, rX7_strength_1k45, rX7_strength_1k46, rX7_strength_1k47, rX7_strength_1k48, rX7_strength_1k49, rX7_strength_1k50, rX7_strength_1k51, rX7_strength_1km1, rX7_strength_1k0, rX7_strength_1k52, rX7_strength_1k53, rX7_strength_1k54, rX7_strength_1k55, rX7_strength_1k56, rX7_strength_1k57, rX7_strength_1k58, rX7_strength_1k59, rX7_strength_1k60, rX7_strength_1k61, rX7_strength_1k62, rX7_strength_1k63, rX7_strength_1k64, rX7_strength_1k65, rX7_strength_1k66, rX7_strength_1k67, rX7_strength_1k68, rX7_strength_1k69, rX7_strength_1k70, rX7_strength_1k71, rX7_strength_220, rX7_strength_221, rX7_strength_222, rX7_strength_223, rX7_strength_224, rX7_strength_225, rX7_strength_226, rX7_strength_227, rX7_strength_228, rX7_strength_229, rX7_strength_230, rX7_strength_232, rX7_strength_233, rX7_strength_235, rX7_strength_236, rX7_strength_238, rX7_strength_239, rX7_strength_240, ↓reduceIte, m1_le, m1_lt, m1_eq, ofInt_m1, ex_ret, Int32.reduceAdd, Int32.reduceSub, Int32.reduceMul, Int32.reduceLT, Int32.reduceLE, xsI, Nat.reduceEqDiff, and_false, false_and, and_true, true_and, if_true, if_false, ite_true, ite_false, xlook_0, xlook_s, xI_int, xA_ref, xJ_long, xK_some, xRow_row, xTo_some, xst1, xclr, List.set_cons_zero, List.set_cons_succ, xsum_nil, xsum_int, xsum_ref, xsum_long, Option.toList_some, Option.toList_none, List.nil_append, List.cons_append]
set_option maxHeartbeats 4000000 in
set_option maxRecDepth 100000 in
theorem s_fromRight {d : Nat} {S : xS} {k : Int32} (h : kEnd k ∨ kOp8 k ∨ kOp7 k) : XC SK MT (d + 1) 216 [.int k] S = some (some (.int 0), S) := by
  rw [XC_iff]
  refine ⟨Nat.le_of_ble_eq_true rfl, ?_⟩
  show XL SK MT d 216 (0, [some (.int k)], [], S) _
  rcases h with (rfl | rfl | rfl | rfl | rfl | rfl) | (rfl | rfl | rfl) | (rfl | rfl) <;> simp (config := { decide := true }) only [rX7_fromRight_0, rX7_fromRight_1, rX7_fromRight_3, rX7_fromRight_6, rX7_fromRight_7, rX7_fromRight_8, rX7_fromRight_11, rX7_fromRight_12, rX7_fromRight_14, rX7_fromRight_17, rX7_fromRight_18, rX7_fromRight_21, r0X7_fromRight_22, r1X7_fromRight_22, rX7_fromRight_22, ↓reduceIte, m1_le, m1_lt, m1_eq, ofInt_m1, ex_ret, Int32.reduceAdd, Int32.reduceSub, Int32.reduceMul, Int32.reduceLT, Int32.reduceLE, xsI, Nat.reduceEqDiff, and_false, false_and, and_true, true_and, if_true, if_false, ite_true, ite_false, xlook_0, xlook_s, xI_int, xA_ref, xJ_long, xK_some, xRow_row, xTo_some, xst1, xclr, List.set_cons_zero, List.set_cons_succ, xsum_nil, xsum_int, xsum_ref, xsum_long, Option.toList_some, Option.toList_none, List.nil_append, List.cons_append]
def kAtom (k : Int32) : Bool := if k = 25 then true else if k = 27 then true else if k = 28 then true else if k = 53 then true else if k = 52 then true else if k = 21 then true else if k = 30 then true else if k = 32 then true else if k = 15 then true else false
def kWide (k : Int32) : Bool := if k = 10 then true else if k = 3 then true else if k = 13 then true else if k = 24 then true else if k = 19 then true else false
def kAtpat (k : Int32) : Bool := if k = 29 then true else if k = 25 then true else if k = 27 then true else if k = 30 then true else if k = 32 then true else false
theorem s_beginsAtom {d : Nat} {S : xS} {k : Int32} : XC SK MT (d + 1) 188 [.int k] S = some (some (.int (xb01 (kAtom k))), S) := by
  rw [XC_iff]
  refine ⟨Nat.le_of_ble_eq_true rfl, ?_⟩
  show XL SK MT d 188 (0, [some (.int k)], [], S) _
  simp only [rX7_beginsAtom_0, rX7_beginsAtom_1, rX7_beginsAtom_3, rX7_beginsAtom_6, rX7_beginsAtom_7, rX7_beginsAtom_9, rX7_beginsAtom_12, rX7_beginsAtom_13, rX7_beginsAtom_15, rX7_beginsAtom_18, rX7_beginsAtom_19, rX7_beginsAtom_21, rX7_beginsAtom_24, rX7_beginsAtom_25, rX7_beginsAtom_27, rX7_beginsAtom_30, rX7_beginsAtom_31, rX7_beginsAtom_33, rX7_beginsAtom_36, rX7_beginsAtom_37, rX7_beginsAtom_39, rX7_beginsAtom_42, rX7_beginsAtom_43, rX7_beginsAtom_45, rX7_beginsAtom_48, rX7_beginsAtom_49, rX7_beginsAtom_51, rX7_beginsAtom_54, rX7_beginsAtom_55, rX7_beginsAtom_58, r0X7_beginsAtom_59, r1X7_beginsAtom_59, rX7_beginsAtom_59, ↓reduceIte, m1_le, m1_lt, m1_eq, ofInt_m1, ex_ret, Int32.reduceAdd, Int32.reduceSub, Int32.reduceMul, Int32.reduceLT, Int32.reduceLE, xsI, Nat.reduceEqDiff, and_false, false_and, and_true, true_and, if_true, if_false, ite_true, ite_false, xlook_0, xlook_s, xI_int, xA_ref, xJ_long, xK_some, xRow_row, xTo_some, xst1, xclr, List.set_cons_zero, List.set_cons_succ, xsum_nil, xsum_int, xsum_ref, xsum_long, Option.toList_some, Option.toList_none, List.nil_append, List.cons_append]
  unfold kAtom
  by_cases h1 : k = 25
  · simp (config := { decide := true }) only [h1, if_true, if_false, xb01]
  by_cases h2 : k = 27
  · simp (config := { decide := true }) only [h2, if_true, if_false, xb01]
  by_cases h3 : k = 28
  · simp (config := { decide := true }) only [h3, if_true, if_false, xb01]
  by_cases h4 : k = 53
  · simp (config := { decide := true }) only [h4, if_true, if_false, xb01]
  by_cases h5 : k = 52
  · simp (config := { decide := true }) only [h5, if_true, if_false, xb01]
  by_cases h6 : k = 21
  · simp (config := { decide := true }) only [h6, if_true, if_false, xb01]
  by_cases h7 : k = 30
  · simp (config := { decide := true }) only [h7, if_true, if_false, xb01]
  by_cases h8 : k = 32
  · simp (config := { decide := true }) only [h8, if_true, if_false, xb01]
  by_cases h9 : k = 15
  · simp (config := { decide := true }) only [h9, if_true, if_false, xb01]
  simp (config := { decide := true }) only [h1, h2, h3, h4, h5, h6, h7, h8, h9, if_true, if_false, xb01]
theorem s_beginsWide {d : Nat} {S : xS} {k : Int32} : XC SK MT (d + 1) 187 [.int k] S = some (some (.int (xb01 (kWide k))), S) := by
  rw [XC_iff]
  refine ⟨Nat.le_of_ble_eq_true rfl, ?_⟩
  show XL SK MT d 187 (0, [some (.int k)], [], S) _
  simp only [rX7_beginsWide_0, rX7_beginsWide_1, rX7_beginsWide_3, rX7_beginsWide_6, rX7_beginsWide_7, rX7_beginsWide_8, rX7_beginsWide_11, rX7_beginsWide_12, rX7_beginsWide_14, rX7_beginsWide_17, rX7_beginsWide_18, rX7_beginsWide_20, rX7_beginsWide_23, rX7_beginsWide_24, rX7_beginsWide_26, rX7_beginsWide_29, rX7_beginsWide_30, rX7_beginsWide_33, r0X7_beginsWide_34, r1X7_beginsWide_34, rX7_beginsWide_34, ↓reduceIte, m1_le, m1_lt, m1_eq, ofInt_m1, ex_ret, Int32.reduceAdd, Int32.reduceSub, Int32.reduceMul, Int32.reduceLT, Int32.reduceLE, xsI, Nat.reduceEqDiff, and_false, false_and, and_true, true_and, if_true, if_false, ite_true, ite_false, xlook_0, xlook_s, xI_int, xA_ref, xJ_long, xK_some, xRow_row, xTo_some, xst1, xclr, List.set_cons_zero, List.set_cons_succ, xsum_nil, xsum_int, xsum_ref, xsum_long, Option.toList_some, Option.toList_none, List.nil_append, List.cons_append]
  unfold kWide
  by_cases h1 : k = 10
  · simp (config := { decide := true }) only [h1, if_true, if_false, xb01]
  by_cases h2 : k = 3
  · simp (config := { decide := true }) only [h2, if_true, if_false, xb01]
  by_cases h3 : k = 13
  · simp (config := { decide := true }) only [h3, if_true, if_false, xb01]
  by_cases h4 : k = 24
  · simp (config := { decide := true }) only [h4, if_true, if_false, xb01]
  by_cases h5 : k = 19
  · simp (config := { decide := true }) only [h5, if_true, if_false, xb01]
  simp (config := { decide := true }) only [h1, h2, h3, h4, h5, if_true, if_false, xb01]
theorem s_beginsAtpat {d : Nat} {S : xS} {k : Int32} : XC SK MT (d + 1) 189 [.int k] S = some (some (.int (xb01 (kAtpat k))), S) := by
  rw [XC_iff]
  refine ⟨Nat.le_of_ble_eq_true rfl, ?_⟩
  show XL SK MT d 189 (0, [some (.int k)], [], S) _
  simp only [rX7_beginsAtpat_0, rX7_beginsAtpat_1, rX7_beginsAtpat_3, rX7_beginsAtpat_6, rX7_beginsAtpat_7, rX7_beginsAtpat_9, rX7_beginsAtpat_12, rX7_beginsAtpat_13, rX7_beginsAtpat_15, rX7_beginsAtpat_18, rX7_beginsAtpat_19, rX7_beginsAtpat_21, rX7_beginsAtpat_24, rX7_beginsAtpat_25, rX7_beginsAtpat_27, rX7_beginsAtpat_30, rX7_beginsAtpat_31, rX7_beginsAtpat_34, r0X7_beginsAtpat_35, r1X7_beginsAtpat_35, rX7_beginsAtpat_35, ↓reduceIte, m1_le, m1_lt, m1_eq, ofInt_m1, ex_ret, Int32.reduceAdd, Int32.reduceSub, Int32.reduceMul, Int32.reduceLT, Int32.reduceLE, xsI, Nat.reduceEqDiff, and_false, false_and, and_true, true_and, if_true, if_false, ite_true, ite_false, xlook_0, xlook_s, xI_int, xA_ref, xJ_long, xK_some, xRow_row, xTo_some, xst1, xclr, List.set_cons_zero, List.set_cons_succ, xsum_nil, xsum_int, xsum_ref, xsum_long, Option.toList_some, Option.toList_none, List.nil_append, List.cons_append]
  unfold kAtpat
  by_cases h1 : k = 29
  · simp (config := { decide := true }) only [h1, if_true, if_false, xb01]
  by_cases h2 : k = 25
  · simp (config := { decide := true }) only [h2, if_true, if_false, xb01]
  by_cases h3 : k = 27
  · simp (config := { decide := true }) only [h3, if_true, if_false, xb01]
  by_cases h4 : k = 30
  · simp (config := { decide := true }) only [h4, if_true, if_false, xb01]
  by_cases h5 : k = 32
  · simp (config := { decide := true }) only [h5, if_true, if_false, xb01]
  simp (config := { decide := true }) only [h1, h2, h3, h4, h5, if_true, if_false, xb01]
