/-! Parser: patterns that are names; atoms. -/
theorem PS.kind {F : xS → Prop} {S : xS} {k m : Int32} {ts : List (Int32 × Int32)} {ms : List Mk} {o : Nat} (h : PS F S ((k, m) :: ts) ms o) : S.1 1 13 = k := h.1.1
theorem PS.mean {F : xS → Prop} {S : xS} {k m : Int32} {ts : List (Int32 × Int32)} {ms : List Mk} {o : Nat} (h : PS F S ((k, m) :: ts) ms o) (hk : k = 25 ∨ k = 27) : S.1 1 15 = m := h.1.2.1 hk
set_option maxHeartbeats 4000000 in
set_option maxRecDepth 100000 in
theorem s_need {F : xS → Prop} {d : Nat} {S : xS} {k m : Int32} {ts : List (Int32 × Int32)} {ms : List Mk} {o : Nat} (h : PS F S ((k, m) :: ts) ms o) : ∃ S1, XC SK MT (d + 4) 185 [.ref 2, .int k] S = some (none, S1) ∧ PS F S1 ts ms o ∧ FrP S S1 := by
  obtain ⟨S1, h1, h2, h3⟩ := h.step d
  refine ⟨S1, ?_, h2, h3⟩
  rw [XC_iff]
  refine ⟨Nat.le_of_ble_eq_true rfl, ?_⟩
  show XL SK MT (d + 3) 185 (0, [some (.ref 2), some (.int k)], [], S) _
  simp (config := { decide := true }) only [rX7_need_0, rX7_need_1, rX7_need_4, rX7_need_7, rX7_need_8, rX7_need_11, rX7_need_12, rX7_need_15, rX7_need_18, rX7_need_21, rX7_need_22, rX7_need_23, rX7_need_26, ↓reduceIte, m1_le, m1_lt, m1_eq, ofInt_m1, ex_ret, Int32.reduceAdd, Int32.reduceSub, Int32.reduceMul, Int32.reduceLT, Int32.reduceLE, xsI, Nat.reduceEqDiff, and_false, false_and, and_true, true_and, if_true, if_false, ite_true, ite_false, xlook_0, xlook_s, xI_int, xA_ref, xJ_long, xK_some, xRow_row, xTo_some, xst1, xclr, List.set_cons_zero, List.set_cons_succ, xsum_nil, xsum_int, xsum_ref, xsum_long, Option.toList_some, Option.toList_none, List.nil_append, List.cons_append, h.kind, h1, not_true]
set_option maxHeartbeats 4000000 in
set_option maxRecDepth 100000 in
theorem s_enter {F : xS → Prop} {d : Nat} {S : xS} {ts : List (Int32 × Int32)} {ms : List Mk} {o : Nat} (hF : StF F) (h : PS F S ts ms o) (ho : o < 40) : ∃ S1, XC SK MT (d + 1) 186 [.ref 2] S = some (some (.int 1), S1) ∧ PS F S1 ts ms (o + 1) ∧ S1 = xsetI S 2 10 (nI (o + 1)) := by
  have h9 : nI o < (40 : Int32) := nI_lt (b := 40) ho (by decide)
  refine ⟨xsetI S 2 10 (nI (o + 1)), ?_, ⟨h.1.of hF (fun a ha => xsR (by unfold lxC at ha; omega)), ⟨by rw [xsI, if_neg (by decide)]; exact h.2.1.1, fun i m q => ?_⟩, by rw [xsI, if_pos ⟨rfl, rfl⟩]⟩, rfl⟩
  · rw [XC_iff]
    refine ⟨Nat.le_of_ble_eq_true rfl, ?_⟩
    show XL SK MT d 186 (0, [some (.ref 2)], [], S) _
    simp (config := { decide := true }) only [rX7_enter_0, rX7_enter_1, rX7_enter_4, rX7_enter_6, rX7_enter_9, rX7_enter_10, rX7_enter_12, rX7_enter_15, r0X7_enter_16, r1X7_enter_16, rX7_enter_16, rX7_enter_17, riX7_enter_18, rX7_enter_18, rX7_enter_19, rX7_enter_22, rX7_enter_23, rX7_enter_24, rX7_enter_27, r0X7_enter_28, r1X7_enter_28, rX7_enter_28, ↓reduceIte, m1_le, m1_lt, m1_eq, ofInt_m1, ex_ret, Int32.reduceAdd, Int32.reduceSub, Int32.reduceMul, Int32.reduceLT, Int32.reduceLE, xsI, Nat.reduceEqDiff, and_false, false_and, and_true, true_and, if_true, if_false, ite_true, ite_false, xlook_0, xlook_s, xI_int, xA_ref, xJ_long, xK_some, xRow_row, xTo_some, xst1, xclr, List.set_cons_zero, List.set_cons_succ, xsum_nil, xsum_int, xsum_ref, xsum_long, Option.toList_some, Option.toList_none, List.nil_append, List.cons_append, h.2.2, h9, nI_1]
  · rw [xsR (by decide), xsR (by decide), xsR (by decide), xsR (by decide)]
    exact h.2.1.2 i m q
/-- a kind that ends a pattern that is a name -/
def kPat (k : Int32) : Prop := k = 38 ∨ k = 39
set_option maxHeartbeats 4000000 in
set_option maxRecDepth 100000 in
theorem s_pat2 {F : xS → Prop} {d : Nat} {S : xS} {m k m' : Int32} {ts : List (Int32 × Int32)} {ms : List Mk} {o : Nat} (hF : StF F) (h : PS F S ((25, m) :: (k, m') :: ts) ms o) (hm : ms.length < 10000) (hk : kPat k) : ∃ S1, XC SK MT (d + 4) 204 [.ref 2] S = some (none, S1) ∧ PS F S1 ((k, m') :: ts) (ms ++ [(45, m, -1)]) o ∧ FrP S S1 := by
  obtain ⟨S1, a1, a2, a3⟩ := h.step d
  obtain ⟨S2, b1, b2, b3, b4⟩ := a2.add hF (by omega) (a := 45) (b := m) (c := S.1 1 14)
  refine ⟨S2, ?_, b2, a3.trans b3⟩
  have hkd := a2.kind
  have hmn := h.mean (Or.inl rfl)
  rw [XC_iff]
  refine ⟨Nat.le_of_ble_eq_true rfl, ?_⟩
  show XL SK MT (d + 3) 204 (0, [some (.ref 2), none, none], [], S) _
  rcases hk with rfl | rfl <;> simp (config := { decide := true }) only [rX7_pat2_0, rX7_pat2_1, rX7_pat2_4, rX7_pat2_7, rX7_pat2_9, rX7_pat2_12, rX7_pat2_13, rX7_pat2_16, rX7_pat2_17, rX7_pat2_18, rX7_pat2_21, rX7_pat2_24, rX7_pat2_25, rX7_pat2_26, rX7_pat2_29, rX7_pat2_32, rX7_pat2_33, rX7_pat2_34, rX7_pat2_37, rX7_pat2_40, rX7_pat2_41, rX7_pat2_44, rX7_pat2_47, rX7_pat2_48, rX7_pat2_51, rX7_pat2_52, rX7_pat2_55, rX7_pat2_58, rX7_pat2_59, rX7_pat2_60, rX7_pat2_62, rX7_pat2_63, rX7_pat2_64, rX7_pat2_67, rX7_pat2_68, rX7_pat2_69, rX7_pat2_72, rX7_pat2_75, rX7_pat2_76, rX7_pat2_79, rX7_pat2_80, rX7_pat2_82, rX7_pat2_83, rX7_pat2_84, rX7_pat2_87, rX7_pat2_88, riX7_pat2_89, rX7_pat2_89, rX7_pat2_90, rX7_pat2_93, rX7_pat2_94, rX7_pat2_95, rX7_pat2_98, rX7_pat2_101, rX7_pat2_102, rX7_pat2_105, rX7_pat2_108, rX7_pat2_111, rX7_pat2_114, rX7_pat2_115, rX7_pat2_117, rX7_pat2_118, rX7_pat2_119, rX7_pat2_122, rX7_pat2_123, rX7_pat2_124, rX7_pat2_127, rX7_pat2_128, rX7_pat2_130, rX7_pat2_131, rX7_pat2_132, rX7_pat2_135, rX7_pat2_136, rX7_pat2_139, rX7_pat2_140, rX7_pat2_142, rX7_pat2_143, rX7_pat2_144, rX7_pat2_147, rX7_pat2_148, ↓reduceIte, m1_le, m1_lt, m1_eq, ofInt_m1, ex_ret, Int32.reduceAdd, Int32.reduceSub, Int32.reduceMul, Int32.reduceLT, Int32.reduceLE, xsI, Nat.reduceEqDiff, and_false, false_and, and_true, true_and, if_true, if_false, ite_true, ite_false, xlook_0, xlook_s, xI_int, xA_ref, xJ_long, xK_some, xRow_row, xTo_some, xst1, xclr, List.set_cons_zero, List.set_cons_succ, xsum_nil, xsum_int, xsum_ref, xsum_long, Option.toList_some, Option.toList_none, List.nil_append, List.cons_append, h.kind, hmn, a1, hkd, s_beginsAtpat, show xb01 (kAtpat 38) = 0 from by decide, show xb01 (kAtpat 39) = 0 from by decide, b1]
set_option maxHeartbeats 4000000 in
set_option maxRecDepth 100000 in
theorem s_pat {F : xS → Prop} {d : Nat} {S : xS} {m k m' : Int32} {ts : List (Int32 × Int32)} {ms : List Mk} {o : Nat} (hF : StF F) (h : PS F S ((25, m) :: (k, m') :: ts) ms o) (hm : ms.length < 9990) (hk : kPat k) : ∃ S1, XC SK MT (d + 6) 202 [.ref 2] S = some (none, S1) ∧ PS F S1 ((k, m') :: ts) (ms ++ [(40, 0, -1), (45, m, -1)]) o ∧ FrP S S1 := by
  obtain ⟨S1, a1, a2, a3, a4⟩ := h.add hF (by omega) (a := 40) (b := 0) (c := 0)
  obtain ⟨S2, b1, b2, b3⟩ := s_pat2 (d := d) hF a2 (by rw [List.length_append]; show _ + 1 < _; omega) hk
  rw [List.append_assoc] at b2
  refine ⟨S2, ?_, b2, a3.trans b3⟩
  have hkd := b2.kind
  have hC : XC SK MT (d + 5) 203 [.ref 2] S = some (none, S2) := by
    rw [XC_iff]
    refine ⟨Nat.le_of_ble_eq_true rfl, ?_⟩
    show XL SK MT (d + 4) 203 (0, [some (.ref 2), none, none], [], S) _
    rcases hk with rfl | rfl <;> simp (config := { decide := true }) only [rX7_consPat_0, rX7_consPat_1, rX7_consPat_3, rX7_consPat_4, rX7_consPat_5, rX7_consPat_8, rX7_consPat_9, rX7_consPat_10, rX7_consPat_13, rX7_consPat_14, rX7_consPat_17, rX7_consPat_20, rX7_consPat_22, rX7_consPat_25, rX7_consPat_26, rX7_consPat_29, rX7_consPat_32, rX7_consPat_33, rX7_consPat_36, rX7_consPat_39, rX7_consPat_40, rX7_consPat_41, rX7_consPat_44, rX7_consPat_45, rX7_consPat_47, rX7_consPat_50, rX7_consPat_51, rX7_consPat_53, rX7_consPat_54, rX7_consPat_55, rX7_consPat_58, rX7_consPat_59, rX7_consPat_60, rX7_consPat_63, rX7_consPat_66, rX7_consPat_67, rX7_consPat_70, rX7_consPat_71, rX7_consPat_73, rX7_consPat_74, rX7_consPat_75, rX7_consPat_78, rX7_consPat_79, riX7_consPat_80, rX7_consPat_80, rX7_consPat_81, rX7_consPat_84, rX7_consPat_85, rX7_consPat_86, rX7_consPat_89, ↓reduceIte, m1_le, m1_lt, m1_eq, ofInt_m1, ex_ret, Int32.reduceAdd, Int32.reduceSub, Int32.reduceMul, Int32.reduceLT, Int32.reduceLE, xsI, Nat.reduceEqDiff, and_false, false_and, and_true, true_and, if_true, if_false, ite_true, ite_false, xlook_0, xlook_s, xI_int, xA_ref, xJ_long, xK_some, xRow_row, xTo_some, xst1, xclr, List.set_cons_zero, List.set_cons_succ, xsum_nil, xsum_int, xsum_ref, xsum_long, Option.toList_some, Option.toList_none, List.nil_append, List.cons_append, a1, b1, hkd]
  rw [XC_iff]
  refine ⟨Nat.le_of_ble_eq_true rfl, ?_⟩
  show XL SK MT (d + 5) 202 (0, [some (.ref 2), none], [], S) _
  rcases hk with rfl | rfl <;> simp (config := { decide := true }) only [rX7_pat_0, rX7_pat_1, rX7_pat_4, rX7_pat_5, rX7_pat_8, rX7_pat_11, rX7_pat_13, rX7_pat_16, rX7_pat_17, rX7_pat_20, rX7_pat_23, rX7_pat_24, rX7_pat_25, rX7_pat_28, rX7_pat_31, rX7_pat_32, rX7_pat_35, rX7_pat_36, rX7_pat_38, rX7_pat_39, rX7_pat_40, rX7_pat_43, rX7_pat_44, ↓reduceIte, m1_le, m1_lt, m1_eq, ofInt_m1, ex_ret, Int32.reduceAdd, Int32.reduceSub, Int32.reduceMul, Int32.reduceLT, Int32.reduceLE, xsI, Nat.reduceEqDiff, and_false, false_and, and_true, true_and, if_true, if_false, ite_true, ite_false, xlook_0, xlook_s, xI_int, xA_ref, xJ_long, xK_some, xRow_row, xTo_some, xst1, xclr, List.set_cons_zero, List.set_cons_succ, xsum_nil, xsum_int, xsum_ref, xsum_long, Option.toList_some, Option.toList_none, List.nil_append, List.cons_append, hC, hkd]
/-- an atom: a name or a number -/
def atM (k m : Int32) : Mk := (if k = 25 then 6 else 3, m, -1)
set_option maxHeartbeats 4000000 in
set_option maxRecDepth 100000 in
theorem s_leaf {F : xS → Prop} {d : Nat} {S : xS} {k m p : Int32} {ts : List (Int32 × Int32)} {ms : List Mk} {o : Nat} (hF : StF F) (h : PS F S ((k, m) :: ts) ms o) (hm : ms.length < 10000) (hk : k = 25 ∨ k = 27) : ∃ S1, XC SK MT (d + 4) 220 [.ref 2, .int k, .int p] S = some (none, S1) ∧ PS F S1 ts (ms ++ [atM k m]) o ∧ FrP S S1 := by
  obtain ⟨S1, a1, a2, a3, a4⟩ := h.add hF (by omega) (a := if k = 25 then 6 else 3) (b := m) (c := p)
  obtain ⟨S2, b1, b2, b3⟩ := a2.step d
  refine ⟨S2, ?_, b2, a3.trans b3⟩
  have hmn := h.mean hk
  rw [XC_iff]
  refine ⟨Nat.le_of_ble_eq_true rfl, ?_⟩
  show XL SK MT (d + 3) 220 (0, [some (.ref 2), some (.int k), some (.int p)], [], S) _
  rcases hk with rfl | rfl
  · rw [if_pos rfl] at a1
    simp (config := { decide := true }) only [rX7_leaf_0, rX7_leaf_1, rX7_leaf_3, rX7_leaf_6, rX7_leaf_7, rX7_leaf_9, rX7_leaf_10, rX7_leaf_13, rX7_leaf_16, rX7_leaf_17, rX7_leaf_20, rX7_leaf_21, rX7_leaf_24, rX7_leaf_25, rX7_leaf_27, rX7_leaf_30, rX7_leaf_31, rX7_leaf_32, rX7_leaf_33, rX7_leaf_36, rX7_leaf_39, rX7_leaf_40, rX7_leaf_43, rX7_leaf_44, rX7_leaf_47, rX7_leaf_48, rX7_leaf_50, rX7_leaf_53, rX7_leaf_54, rX7_leaf_55, rX7_leaf_56, rX7_leaf_59, rX7_leaf_62, rX7_leaf_63, rX7_leaf_66, rX7_leaf_67, rX7_leaf_70, rX7_leaf_71, rX7_leaf_73, rX7_leaf_74, rX7_leaf_76, rX7_leaf_79, rX7_leaf_81, rX7_leaf_84, rX7_leaf_85, rX7_leaf_87, rX7_leaf_90, rX7_leaf_91, rX7_leaf_94, rX7_leaf_95, rX7_leaf_96, rX7_leaf_99, rX7_leaf_100, rX7_leaf_101, rX7_leaf_104, rX7_leaf_107, ↓reduceIte, m1_le, m1_lt, m1_eq, ofInt_m1, ex_ret, Int32.reduceAdd, Int32.reduceSub, Int32.reduceMul, Int32.reduceLT, Int32.reduceLE, xsI, Nat.reduceEqDiff, and_false, false_and, and_true, true_and, if_true, if_false, ite_true, ite_false, xlook_0, xlook_s, xI_int, xA_ref, xJ_long, xK_some, xRow_row, xTo_some, xst1, xclr, List.set_cons_zero, List.set_cons_succ, xsum_nil, xsum_int, xsum_ref, xsum_long, Option.toList_some, Option.toList_none, List.nil_append, List.cons_append, hmn, a1, b1]
  · rw [if_neg (by decide)] at a1
    simp (config := { decide := true }) only [rX7_leaf_0, rX7_leaf_1, rX7_leaf_3, rX7_leaf_6, rX7_leaf_7, rX7_leaf_9, rX7_leaf_10, rX7_leaf_13, rX7_leaf_16, rX7_leaf_17, rX7_leaf_20, rX7_leaf_21, rX7_leaf_24, rX7_leaf_25, rX7_leaf_27, rX7_leaf_30, rX7_leaf_31, rX7_leaf_32, rX7_leaf_33, rX7_leaf_36, rX7_leaf_39, rX7_leaf_40, rX7_leaf_43, rX7_leaf_44, rX7_leaf_47, rX7_leaf_48, rX7_leaf_50, rX7_leaf_53, rX7_leaf_54, rX7_leaf_55, rX7_leaf_56, rX7_leaf_59, rX7_leaf_62, rX7_leaf_63, rX7_leaf_66, rX7_leaf_67, rX7_leaf_70, rX7_leaf_71, rX7_leaf_73, rX7_leaf_74, rX7_leaf_76, rX7_leaf_79, rX7_leaf_81, rX7_leaf_84, rX7_leaf_85, rX7_leaf_87, rX7_leaf_90, rX7_leaf_91, rX7_leaf_94, rX7_leaf_95, rX7_leaf_96, rX7_leaf_99, rX7_leaf_100, rX7_leaf_101, rX7_leaf_104, rX7_leaf_107, ↓reduceIte, m1_le, m1_lt, m1_eq, ofInt_m1, ex_ret, Int32.reduceAdd, Int32.reduceSub, Int32.reduceMul, Int32.reduceLT, Int32.reduceLE, xsI, Nat.reduceEqDiff, and_false, false_and, and_true, true_and, if_true, if_false, ite_true, ite_false, xlook_0, xlook_s, xI_int, xA_ref, xJ_long, xK_some, xRow_row, xTo_some, xst1, xclr, List.set_cons_zero, List.set_cons_succ, xsum_nil, xsum_int, xsum_ref, xsum_long, Option.toList_some, Option.toList_none, List.nil_append, List.cons_append, hmn, a1, b1]
