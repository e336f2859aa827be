/-! Parser: a program of val declarations and one name behind in. -/
/-- the parser's fields at the start -/
def paS (S : xS) : xS := xsetI (xsetI (xsetI (xsetI (xsetI S 2 5 0) 2 9 0) 2 10 0) 2 11 0) 2 12 0
def prT (cs : List De) (x : Int32) : List (Int32 × Int32) := desT cs ++ [(14, 0), (25, x)]
def prM (cs : List De) (x : Int32) : List Mk := desM 0 cs ++ [(35, 0, -1), (1, 0, -1), (6, x, -1)]
set_option maxHeartbeats 4000000 in
set_option maxRecDepth 100000 in
theorem s_parse {F : xS → Prop} {d : Nat} (hF : StF F) {S S0 S1 : xS} {z : Int32} {cs : List De} {x : Int32} (ho : XC SK MT (d + 16) 114 [.ref 1, .int z] (paS S) = some (none, S0)) (hs : XC SK MT (d + 16) 124 [.ref 1] S0 = some (none, S1)) (hw : W0 S1) (h : PS F S1 (prT cs x) [] 0) (hc : cs.length ≤ 300) (hb : ∀ c ∈ cs, exOk c.2) :
    ∃ S2, XC SK MT (d + 17) 182 [.ref 2, .int z] S = some (some (.int 1), S2) ∧ Rd F [] S2 ∧ MK S2 (prM cs x) ∧ FrQ S1 S2 := by
  obtain ⟨S2, a1, a2, a3, a4⟩ := decs_loop (d := d) hF cs S1 0 [(14, 0), (25, x)] [] 0 hw h (by show 0 + _ < _; omega) (by omega) hb (by omega) rfl
  have hD : XC SK MT (d + 16) 191 [.ref 2, .int 1] S1 = some (none, S2) := by
    rw [XC_iff]
    refine ⟨Nat.le_of_ble_eq_true rfl, ?_⟩
    show XL SK MT (d + 15) 191 (0, [some (.ref 2), some (.int 1), none], [], S1) _
    simp (config := { decide := true }) only [rX7_decs_0, rX7_decs_1, rX7_decs_3, rX7_decs_6, rX7_decs_9, rX7_decs_10, rX7_decs_13, rX7_decs_16, rX7_decs_18, rX7_decs_21, rX7_decs_22, rX7_decs_23, rX7_decs_26, rX7_decs_29, rX7_decs_30, rX7_decs_33, rX7_decs_36, rX7_decs_38, rX7_decs_41, rX7_decs_42, rX7_decs_43, rX7_decs_46, rX7_decs_49, rX7_decs_50, rX7_decs_51, rX7_decs_54, rX7_decs_57, rX7_decs_59, rX7_decs_62, rX7_decs_63, rX7_decs_66, rX7_decs_69, rX7_decs_72, rX7_decs_75, ↓reduceIte, m1_le, m1_lt, m1_eq, ofInt_m1, ex_ret, Int32.reduceAdd, Int32.reduceSub, Int32.reduceMul, Int32.reduceLT, Int32.reduceLE, xsI, Nat.reduceEqDiff, and_false, false_and, and_true, true_and, if_true, if_false, ite_true, ite_false, xlook_0, xlook_s, xI_int, xA_ref, xJ_long, xK_some, xRow_row, xTo_some, xst1, xclr, List.set_cons_zero, List.set_cons_succ, xsum_nil, xsum_int, xsum_ref, xsum_long, Option.toList_some, Option.toList_none, List.nil_append, List.cons_append]
    exact a1
  have hl := desM_len cs 0 hb
  have a2' : PS F S2 [(14, 0), (25, x)] (desM 0 cs) 0 := a2
  obtain ⟨S3, b1, b2, b3⟩ := s_need (d := d + 12) a2'
  obtain ⟨S4, c1, c2, c3, c4⟩ := b2.add hF (by omega) (a := 35) (b := 0) (c := 0)
  obtain ⟨S5, e1, e2, e3, e4⟩ := s_expA (d := d + 8) (k := 25) (m := x) (cs := []) (ts := []) hF (c3.W0 (b3.W0 a4)) c2 (by rw [List.length_append]; show _ + 1 + 3 * 0 < _; omega) (Nat.zero_le _) (Or.inl rfl) trivial (by unfold kEnd; decide) (by decide)
  refine ⟨S5, ?_, e2.1, (e2.app (by rw [List.append_assoc]; rfl)).2.1, a3.trans ((b3.trans c3).Q.trans e3)⟩
  have hk2 : S2.1 1 13 = 14 := a2'.kind
  have hk5 : S5.1 1 13 = 54 := e2.1.1
  have ht5 : S5.1 1 16 = 0 := e2.1.2.1
  rw [XC_iff]
  refine ⟨Nat.le_of_ble_eq_true rfl, ?_⟩
  show XL SK MT (d + 16) 182 (0, [some (.ref 2), some (.int z), none], [], S) _
  have hpa : xsetI (xsetI (xsetI (xsetI (xsetI S 2 5 0) 2 9 0) 2 10 0) 2 11 0) 2 12 0 = paS S := rfl
  simp (config := { decide := true }) only [rX7_parse_0, rX7_parse_1, rX7_parse_2, rX7_parse_5, rX7_parse_6, rX7_parse_7, rX7_parse_10, rX7_parse_11, rX7_parse_12, rX7_parse_15, rX7_parse_16, rX7_parse_17, rX7_parse_20, rX7_parse_21, rX7_parse_22, rX7_parse_25, rX7_parse_26, rX7_parse_29, rX7_parse_30, rX7_parse_33, rX7_parse_34, rX7_parse_37, rX7_parse_40, rX7_parse_41, rX7_parse_42, rX7_parse_43, rX7_parse_46, rX7_parse_49, rX7_parse_50, rX7_parse_51, rX7_parse_54, rX7_parse_55, rX7_parse_58, rX7_parse_61, rX7_parse_62, rX7_parse_65, rX7_parse_66, rX7_parse_69, rX7_parse_72, rX7_parse_73, rX7_parse_76, rX7_parse_79, rX7_parse_81, rX7_parse_84, rX7_parse_85, rX7_parse_88, rX7_parse_89, rX7_parse_92, rX7_parse_95, rX7_parse_97, rX7_parse_100, rX7_parse_101, rX7_parse_104, rX7_parse_107, rX7_parse_110, rX7_parse_113, rX7_parse_114, rX7_parse_116, rX7_parse_119, rX7_parse_120, rX7_parse_122, rX7_parse_123, rX7_parse_124, rX7_parse_127, rX7_parse_128, rX7_parse_129, rX7_parse_132, rX7_parse_133, rX7_parse_136, rX7_parse_139, rX7_parse_141, rX7_parse_144, rX7_parse_145, rX7_parse_146, rX7_parse_149, rX7_parse_150, rX7_parse_153, rX7_parse_156, rX7_parse_159, rX7_parse_160, rX7_parse_163, r0X7_parse_164, r1X7_parse_164, rX7_parse_164, ↓reduceIte, m1_le, m1_lt, m1_eq, ofInt_m1, ex_ret, Int32.reduceAdd, Int32.reduceSub, Int32.reduceMul, Int32.reduceLT, Int32.reduceLE, xsI, Nat.reduceEqDiff, and_false, false_and, and_true, true_and, if_true, if_false, ite_true, ite_false, xlook_0, xlook_s, xI_int, xA_ref, xJ_long, xK_some, xRow_row, xTo_some, xst1, xclr, List.set_cons_zero, List.set_cons_succ, xsum_nil, xsum_int, xsum_ref, xsum_long, Option.toList_some, Option.toList_none, List.nil_append, List.cons_append, hpa, ho, hs, hD, hk2, b1, c1, e1, hk5, ht5]
