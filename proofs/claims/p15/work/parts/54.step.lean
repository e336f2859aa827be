/-! Lexer: a whole token. -/
theorem TX.of {S S' : xS} {p : Nat} {bs : List Nat} (h : TX S p bs) (h1 : S'.1 13 = S.1 13) (h2 : S'.1 1 10 = S.1 1 10) : TX S' p bs := ⟨fun j b hj => by rw [h1]; exact h.1 j b hj, by rw [h2]; exact h.2.1, h.2.2⟩
theorem TX.tail {S : xS} {p : Nat} {as bs : List Nat} (h : TX S p (as ++ bs)) : TX S (p + as.length) bs := by
  refine ⟨fun j b hj => ?_, ?_, ?_⟩
  · rw [Nat.add_assoc]
    exact h.1 (as.length + j) b (by rw [List.getElem?_append_right (Nat.le_add_right _ _), Nat.add_sub_cancel_left]; exact hj)
  · rw [h.2.1, List.length_append, Nat.add_assoc]
  · have := h.2.2
    rw [List.length_append] at this
    omega
/-- a name's bytes -/
def isName (w : List Nat) : Prop := (∀ b ∈ w, isPart b = true) ∧ (∃ b, w[0]? = some b ∧ lLetter (nI b) = true) ∧ w.length ≤ 31
def woS (S : xS) (p : Nat) (w : List Nat) : xS := xsetI (wS (xsetI S 1 13 25) p w w.length) 1 17 (nI w.length)
set_option maxHeartbeats 4000000 in
set_option maxRecDepth 100000 in
theorem s_word {d : Nat} {S : xS} {p : Nat} {w rest : List Nat} (h : TX S p (w ++ rest)) (hh : S.1 1 11 = nI p) (hw : isName w) (hc : lPart (hdI rest) = false) : XC SK MT (d + 2) 127 [.ref 1, .int 25] S = some (none, woS S p w) := by
  obtain ⟨hw1, ⟨b, hb0, hb1⟩, hw3⟩ := hw
  have hlen : 0 < w.length := (List.getElem?_eq_some_iff.mp hb0).1
  have e0 : lpk (S.1 1 10) (S.1 13) (nI p) = nI b := TX_peek h (j := 0) (by rw [List.getElem?_append_left hlen]; exact hb0)
  have h31 : nI w.length ≤ (31 : Int32) := nI_le (b := 31) hw3 (by decide)
  rw [XC_iff]
  refine ⟨Nat.le_of_ble_eq_true rfl, ?_⟩
  show XL SK MT (d + 1) 127 (0, [some (.ref 1), some (.int 25), none, none, none], [], S) _
  simp (config := { decide := true }) only [rX4_word_0, rX4_word_1, rX4_word_2, rX4_word_5, rX4_word_6, rX4_word_8, rX4_word_11, riX4_word_12, rX4_word_12, rX4_word_13, rX4_word_16, rX4_word_17, rX4_word_18, rX4_word_21, rX4_word_22, rX4_word_23, rX4_word_24, rX4_word_25, rX4_word_28, rX4_word_31, rX4_word_34, rX4_word_37, rX4_word_38, rX4_word_41, rX4_word_42, rX4_word_43, rX4_word_44, rX4_word_48, rX4_word_51, rX4_word_54, rX4_word_55, rX4_word_56, rX4_word_59, rX4_word_62, rX4_word_65, rX4_word_68, rX4_word_69, rX4_word_72, rX4_word_73, rX4_word_74, rX4_word_75, rX4_word_78, rX4_word_81, rX4_word_84, rX4_word_87, riX4_word_88, rX4_word_88, rX4_word_89, rX4_word_92, rX4_word_93, rX4_word_94, rX4_word_97, rX4_word_100, rX4_word_104, rX4_word_107, rX4_word_108, rX4_word_110, rX4_word_113, rX4_word_114, rX4_word_115, rX4_word_118, rX4_word_121, rX4_word_122, rX4_word_123, rX4_word_126, ↓reduceIte, m1_le, m1_lt, m1_eq, ofInt_m1, ex_ret, Int32.reduceAdd, Int32.reduceSub, Int32.reduceMul, Int32.reduceLT, Int32.reduceLE, xsI, Nat.reduceEqDiff, and_false, false_and, and_true, true_and, if_true, if_false, ite_true, ite_false, xlook_0, xlook_s, xI_int, xA_ref, xJ_long, xK_some, xRow_row, xTo_some, xst1, xclr, List.set_cons_zero, List.set_cons_succ, xsum_nil, xsum_int, xsum_ref, xsum_long, Option.toList_some, Option.toList_none, List.nil_append, List.cons_append, s_peek, s_isLetter, hh, e0, hb1, xb01, xsR]
  have h' : TX (xsetI S 1 13 25) p (w ++ rest) := h.of (xsR (by decide)) (by rw [xsI, if_neg (by decide)])
  have e9 := word_loop (d := d) (x := 25) (y := 0) (r := (none, woS S p w)) h' hw1 hc (by omega) w.length 0 (by omega)
  rw [wS_0 (by rw [xsI, if_neg (by decide)]; exact hh)] at e9
  refine e9.mpr ?_
  rw [rX4_word_103]
  simp (config := { decide := true }) only [rX4_word_0, rX4_word_1, rX4_word_2, rX4_word_5, rX4_word_6, rX4_word_8, rX4_word_11, riX4_word_12, rX4_word_12, rX4_word_13, rX4_word_16, rX4_word_17, rX4_word_18, rX4_word_21, rX4_word_22, rX4_word_23, rX4_word_24, rX4_word_25, rX4_word_28, rX4_word_31, rX4_word_34, rX4_word_37, rX4_word_38, rX4_word_41, rX4_word_42, rX4_word_43, rX4_word_44, rX4_word_48, rX4_word_51, rX4_word_54, rX4_word_55, rX4_word_56, rX4_word_59, rX4_word_62, rX4_word_65, rX4_word_68, rX4_word_69, rX4_word_72, rX4_word_73, rX4_word_74, rX4_word_75, rX4_word_78, rX4_word_81, rX4_word_84, rX4_word_87, riX4_word_88, rX4_word_88, rX4_word_89, rX4_word_92, rX4_word_93, rX4_word_94, rX4_word_97, rX4_word_100, rX4_word_104, rX4_word_107, rX4_word_108, rX4_word_110, rX4_word_113, rX4_word_114, rX4_word_115, rX4_word_118, rX4_word_121, rX4_word_122, rX4_word_123, rX4_word_126, ↓reduceIte, m1_le, m1_lt, m1_eq, ofInt_m1, ex_ret, Int32.reduceAdd, Int32.reduceSub, Int32.reduceMul, Int32.reduceLT, Int32.reduceLE, xsI, Nat.reduceEqDiff, and_false, false_and, and_true, true_and, if_true, if_false, ite_true, ite_false, xlook_0, xlook_s, xI_int, xA_ref, xJ_long, xK_some, xRow_row, xTo_some, xst1, xclr, List.set_cons_zero, List.set_cons_succ, xsum_nil, xsum_int, xsum_ref, xsum_long, Option.toList_some, Option.toList_none, List.nil_append, List.cons_append, h31]
  rfl
