/-! Parser: rows of operators. -/
def hdK : List (Int32 × Int32) → Int32
  | [] => 54
  | t :: _ => t.1
theorem PS.hk {F : xS → Prop} {S : xS} {ts : List (Int32 × Int32)} {ms : List Mk} {o : Nat} (h : PS F S ts ms o) : S.1 1 13 = hdK ts := by
  cases ts with
  | nil => exact h.1.1
  | cons t ts => exact h.1.1
/-- the parser's frame where operators may wait -/
def FrQ (S S1 : xS) : Prop := S1.2 = S.2 ∧ (∀ a, ¬ lxC a → ¬ paC a → ¬ a = 27 → ¬ a = 28 → S1.1 a = S.1 a) ∧ ∀ q, ¬ q = 5 → ¬ q = 9 → ¬ q = 10 → S1.1 2 q = S.1 2 q
theorem FrQ.refl {S : xS} : FrQ S S := ⟨rfl, fun _ _ _ _ _ => rfl, fun _ _ _ _ => rfl⟩
theorem FrQ.trans {S S1 S2 : xS} (h : FrQ S S1) (h2 : FrQ S1 S2) : FrQ S S2 := ⟨h2.1.trans h.1, fun a q r u v => (h2.2.1 a q r u v).trans (h.2.1 a q r u v), fun q r u v => (h2.2.2 q r u v).trans (h.2.2 q r u v)⟩
theorem FrP.Q {S S1 : xS} (h : FrP S S1) : FrQ S S1 := ⟨h.1, fun a q r _ _ => h.2.1 a q r, fun q r _ _ => h.2.2 q r⟩
theorem PS.of {F : xS → Prop} (hF : StF F) {S S1 : xS} {ts : List (Int32 × Int32)} {ms : List Mk} {o : Nat} (h : PS F S ts ms o) (h1 : ∀ a, (lxC a ∨ a = 22 ∨ a = 23 ∨ a = 25 ∨ a = 26) → S1.1 a = S.1 a) (h2 : S1.1 2 5 = S.1 2 5) (h3 : S1.1 2 10 = S.1 2 10) : PS F S1 ts ms o := by
  refine ⟨h.1.of hF (fun a ha => h1 a (Or.inl ha)), ⟨by rw [h2]; exact h.2.1.1, fun i m q => ?_⟩, by rw [h3]; exact h.2.2⟩
  rw [h1 22 (by omega), h1 23 (by omega), h1 25 (by omega), h1 26 (by omega)]
  exact h.2.1.2 i m q
set_option maxHeartbeats 4000000 in
set_option maxRecDepth 100000 in
/-- an operand that is one atom -/
theorem s_operand {F : xS → Prop} {d : Nat} {S : xS} {k m : Int32} {ts : List (Int32 × Int32)} {ms : List Mk} {o : Nat} (hF : StF F) (h : PS F S ((k, m) :: ts) ms o) (hm : ms.length < 10000) (hk : k = 25 ∨ k = 27) (hn : kAtom (hdK ts) = false) : ∃ S1, XC SK MT (d + 5) 219 [.ref 2] S = some (none, S1) ∧ PS F S1 ts (ms ++ [atM k m]) o ∧ FrP S S1 := by
  obtain ⟨S1, a1, a2, a3⟩ := s_leaf (d := d) (p := S.1 1 14) hF h hm hk
  refine ⟨S1, ?_, a2, a3⟩
  have hkd := a2.hk
  rw [XC_iff]
  refine ⟨Nat.le_of_ble_eq_true rfl, ?_⟩
  show XL SK MT (d + 4) 219 (0, [some (.ref 2), none, none, none], [], S) _
  rcases hk with rfl | rfl <;> simp (config := { decide := true }) only [rX7_operand_0, rX7_operand_1, rX7_operand_2, rX7_operand_3, rX7_operand_6, rX7_operand_9, rX7_operand_10, rX7_operand_13, rX7_operand_16, rX7_operand_17, rX7_operand_18, rX7_operand_21, rX7_operand_24, rX7_operand_25, rX7_operand_26, rX7_operand_29, rX7_operand_32, rX7_operand_33, rX7_operand_36, rX7_operand_37, rX7_operand_38, rX7_operand_41, rX7_operand_42, rX7_operand_43, rX7_operand_45, rX7_operand_48, rX7_operand_49, rX7_operand_52, rX7_operand_55, rX7_operand_56, rX7_operand_59, rX7_operand_62, rX7_operand_63, rX7_operand_65, rX7_operand_68, rX7_operand_69, rX7_operand_72, rX7_operand_75, rX7_operand_76, rX7_operand_79, rX7_operand_82, rX7_operand_83, rX7_operand_85, rX7_operand_88, rX7_operand_89, rX7_operand_92, rX7_operand_95, rX7_operand_96, rX7_operand_99, rX7_operand_102, rX7_operand_103, rX7_operand_104, rX7_operand_105, rX7_operand_108, rX7_operand_109, rX7_operand_112, rX7_operand_113, rX7_operand_115, rX7_operand_116, rX7_operand_117, rX7_operand_120, rX7_operand_121, rX7_operand_124, rX7_operand_127, ↓reduceIte, m1_le, m1_lt, m1_eq, ofInt_m1, ex_ret, Int32.reduceAdd, Int32.reduceSub, Int32.reduceMul, Int32.reduceLT, Int32.reduceLE, xsI, Nat.reduceEqDiff, and_false, false_and, and_true, true_and, if_true, if_false, ite_true, ite_false, xlook_0, xlook_s, xI_int, xA_ref, xJ_long, xK_some, xRow_row, xTo_some, xst1, xclr, List.set_cons_zero, List.set_cons_succ, xsum_nil, xsum_int, xsum_ref, xsum_long, Option.toList_some, Option.toList_none, List.nil_append, List.cons_append, h.kind, s_beginsAtom, show xb01 (kAtom 25) = 1 from by decide, show xb01 (kAtom 27) = 1 from by decide, a1, hkd, hn, show xb01 false = 0 from by decide]
def kOp (k : Int32) : Prop := kOp8 k ∨ kOp7 k
/-- nothing waits -/
def W0 (S : xS) : Prop := S.1 2 9 = 0
/-- one operator waits -/
def W1 (S : xS) (w : Int32) : Prop := S.1 2 9 = 1 ∧ S.1 27 0 = w
theorem FrP.W0 {S S1 : xS} (h : FrP S S1) (hw : W0 S) : W0 S1 := by show S1.1 2 9 = 0; rw [h.2.2 _ (by decide)]; exact hw
theorem FrP.W1 {S S1 : xS} {w : Int32} (h : FrP S S1) (hw : W1 S w) : W1 S1 w := ⟨by rw [h.2.2 _ (by decide)]; exact hw.1, by rw [h.2.1 _ (by unfold lxC; decide) (by unfold paC; decide)]; exact hw.2⟩
theorem xat_0 {S : xS} {a n : Nat} (h : 0 < n) (hn : n < 2 ^ 31) : xat S a n 0 = S.1 a 0 := xat_in (m := 0) h hn
theorem xput_0 {S : xS} {a n : Nat} {v : Int32} (h : 0 < n) (hn : n < 2 ^ 31) : xput S a n 0 v = xsetI S a 0 v := xput_in (m := 0) h hn
set_option maxHeartbeats 4000000 in
set_option maxRecDepth 100000 in
/-- nothing waits: nothing is settled -/
theorem settle_0 {d : Nat} {S : xS} {k s : Int32} (h : W0 S) (hs : XC SK MT (d + 1) 215 [.int k] S = some (some (.int s), S)) : XC SK MT (d + 2) 218 [.ref 2, .int 0, .int k] S = some (none, S) := by
  rw [XC_iff]
  refine ⟨Nat.le_of_ble_eq_true rfl, ?_⟩
  show XL SK MT (d + 1) 218 (0, [some (.ref 2), some (.int 0), some (.int k), none, none, none, none, none], [], S) _
  simp (config := { decide := true }) only [rX7_settle_0, rX7_settle_1, rX7_settle_4, rX7_settle_5, rX7_settle_6, rX7_settle_8, rX7_settle_10, rX7_settle_13, rX7_settle_16, rX7_settle_17, rX7_settle_20, rX7_settle_21, rX7_settle_24, rX7_settle_25, rX7_settle_28, rX7_settle_29, rX7_settle_32, rX7_settle_33, rX7_settle_34, rX7_settle_37, rX7_settle_39, rX7_settle_41, rX7_settle_44, rX7_settle_46, rX7_settle_48, rX7_settle_49, rX7_settle_52, rX7_settle_54, rX7_settle_55, rX7_settle_58, rX7_settle_60, rX7_settle_63, rX7_settle_66, rX7_settle_67, riX7_settle_68, rX7_settle_68, rX7_settle_69, rX7_settle_72, rX7_settle_73, rX7_settle_74, rX7_settle_77, rX7_settle_79, rX7_settle_80, rX7_settle_83, rX7_settle_85, rX7_settle_88, rX7_settle_90, rX7_settle_92, rX7_settle_95, rX7_settle_97, rX7_settle_100, rX7_settle_102, rX7_settle_104, rX7_settle_105, rX7_settle_107, rX7_settle_109, rX7_settle_110, rX7_settle_113, rX7_settle_114, rX7_settle_117, rX7_settle_120, rX7_settle_123, rX7_settle_124, rX7_settle_126, rX7_settle_129, rX7_settle_132, riX7_settle_133, rX7_settle_133, rX7_settle_134, rX7_settle_137, rX7_settle_138, rX7_settle_139, rX7_settle_142, rX7_settle_145, rX7_settle_148, ↓reduceIte, m1_le, m1_lt, m1_eq, ofInt_m1, ex_ret, Int32.reduceAdd, Int32.reduceSub, Int32.reduceMul, Int32.reduceLT, Int32.reduceLE, xsI, Nat.reduceEqDiff, and_false, false_and, and_true, true_and, if_true, if_false, ite_true, ite_false, xlook_0, xlook_s, xI_int, xA_ref, xJ_long, xK_some, xRow_row, xTo_some, xst1, xclr, List.set_cons_zero, List.set_cons_succ, xsum_nil, xsum_int, xsum_ref, xsum_long, Option.toList_some, Option.toList_none, List.nil_append, List.cons_append, hs, show S.1 2 9 = 0 from h]
set_option maxHeartbeats 4000000 in
set_option maxRecDepth 100000 in
/-- what waits is settled -/
theorem settle_1 {F : xS → Prop} {d : Nat} {S : xS} {k s w sw : Int32} {ts : List (Int32 × Int32)} {ms : List Mk} {o : Nat} (hF : StF F) (h : PS F S ts ms o) (hm : ms.length < 10000) (hw : W1 S w) (hk : kOp w) (hs : ∀ S d, XC SK MT (d + 1) 215 [.int k] S = some (some (.int s), S)) (hv : ∀ S d, XC SK MT (d + 1) 215 [.int w] S = some (some (.int sw), S)) (hle : s ≤ sw) : ∃ S1, XC SK MT (d + 3) 218 [.ref 2, .int 0, .int k] S = some (none, S1) ∧ PS F S1 ts (ms ++ [(9, w, -1)]) o ∧ FrQ S S1 ∧ W0 S1 := by
  obtain ⟨hw1, hw2⟩ := hw
  have h1 : PS F (xsetI S 2 9 0) ts ms o := h.of hF (fun a ha => xsR (by unfold lxC at ha; omega)) (by rw [xsI, if_neg (by decide)]) (by rw [xsI, if_neg (by decide)])
  obtain ⟨S1, a1, a2, a3, a4⟩ := h1.add hF (by omega) (a := 9) (b := w) (c := S.1 28 0)
  have hw0 : S1.1 2 9 = 0 := by rw [a3.2.2 _ (by decide), xsI, if_pos ⟨rfl, rfl⟩]
  refine ⟨S1, ?_, a2, FrQ.trans (S1 := xsetI S 2 9 0) ⟨rfl, fun a q r _ _ => xsR (fun z => r (Or.inl z)), fun q _ r _ => by rw [xsI, if_neg (fun z => r z.2)]⟩ a3.Q, hw0⟩
  have hn1 : ¬ w = 1 := by rcases hk with (rfl | rfl | rfl) | (rfl | rfl) <;> decide
  have hn2 : ¬ w = 18 := by rcases hk with (rfl | rfl | rfl) | (rfl | rfl) <;> decide
  have hfr : ∀ S d, XC SK MT (d + 1) 216 [.int w] S = some (some (.int 0), S) := fun S d => s_fromRight (Or.inr hk)
  have hnl : ¬ sw < s := Int32.not_lt.mpr hle
  rw [XC_iff]
  refine ⟨Nat.le_of_ble_eq_true rfl, ?_⟩
  show XL SK MT (d + 2) 218 (0, [some (.ref 2), some (.int 0), some (.int k), none, none, none, none, none], [], S) _
  by_cases he : sw = s
  · subst he
    simp (config := { decide := true }) only [rX7_settle_0, rX7_settle_1, rX7_settle_4, rX7_settle_5, rX7_settle_6, rX7_settle_8, rX7_settle_10, rX7_settle_13, rX7_settle_16, rX7_settle_17, rX7_settle_20, rX7_settle_21, rX7_settle_24, rX7_settle_25, rX7_settle_28, rX7_settle_29, rX7_settle_32, rX7_settle_33, rX7_settle_34, rX7_settle_37, rX7_settle_39, rX7_settle_41, rX7_settle_44, rX7_settle_46, rX7_settle_48, rX7_settle_49, rX7_settle_52, rX7_settle_54, rX7_settle_55, rX7_settle_58, rX7_settle_60, rX7_settle_63, rX7_settle_66, rX7_settle_67, riX7_settle_68, rX7_settle_68, rX7_settle_69, rX7_settle_72, rX7_settle_73, rX7_settle_74, rX7_settle_77, rX7_settle_79, rX7_settle_80, rX7_settle_83, rX7_settle_85, rX7_settle_88, rX7_settle_90, rX7_settle_92, rX7_settle_95, rX7_settle_97, rX7_settle_100, rX7_settle_102, rX7_settle_104, rX7_settle_105, rX7_settle_107, rX7_settle_109, rX7_settle_110, rX7_settle_113, rX7_settle_114, rX7_settle_117, rX7_settle_120, rX7_settle_123, rX7_settle_124, rX7_settle_126, rX7_settle_129, rX7_settle_132, riX7_settle_133, rX7_settle_133, rX7_settle_134, rX7_settle_137, rX7_settle_138, rX7_settle_139, rX7_settle_142, rX7_settle_145, rX7_settle_148, ↓reduceIte, m1_le, m1_lt, m1_eq, ofInt_m1, ex_ret, Int32.reduceAdd, Int32.reduceSub, Int32.reduceMul, Int32.reduceLT, Int32.reduceLE, xsI, Nat.reduceEqDiff, and_false, false_and, and_true, true_and, if_true, if_false, ite_true, ite_false, xlook_0, xlook_s, xI_int, xA_ref, xJ_long, xK_some, xRow_row, xTo_some, xst1, xclr, List.set_cons_zero, List.set_cons_succ, xsum_nil, xsum_int, xsum_ref, xsum_long, Option.toList_some, Option.toList_none, List.nil_append, List.cons_append, hs, hv, hw1, hw2, hw0, hnl, hn1, hn2, hfr, a1, s_at (show SK[27]? = some (.inl (0, 1024)) from rfl) (by decide : 1024 < 2 ^ 31), s_at (show SK[28]? = some (.inl (0, 1024)) from rfl) (by decide : 1024 < 2 ^ 31), xat_0 (show 0 < 1024 by decide) (by decide : 1024 < 2 ^ 31), xsR, not_true]
  · simp (config := { decide := true }) only [rX7_settle_0, rX7_settle_1, rX7_settle_4, rX7_settle_5, rX7_settle_6, rX7_settle_8, rX7_settle_10, rX7_settle_13, rX7_settle_16, rX7_settle_17, rX7_settle_20, rX7_settle_21, rX7_settle_24, rX7_settle_25, rX7_settle_28, rX7_settle_29, rX7_settle_32, rX7_settle_33, rX7_settle_34, rX7_settle_37, rX7_settle_39, rX7_settle_41, rX7_settle_44, rX7_settle_46, rX7_settle_48, rX7_settle_49, rX7_settle_52, rX7_settle_54, rX7_settle_55, rX7_settle_58, rX7_settle_60, rX7_settle_63, rX7_settle_66, rX7_settle_67, riX7_settle_68, rX7_settle_68, rX7_settle_69, rX7_settle_72, rX7_settle_73, rX7_settle_74, rX7_settle_77, rX7_settle_79, rX7_settle_80, rX7_settle_83, rX7_settle_85, rX7_settle_88, rX7_settle_90, rX7_settle_92, rX7_settle_95, rX7_settle_97, rX7_settle_100, rX7_settle_102, rX7_settle_104, rX7_settle_105, rX7_settle_107, rX7_settle_109, rX7_settle_110, rX7_settle_113, rX7_settle_114, rX7_settle_117, rX7_settle_120, rX7_settle_123, rX7_settle_124, rX7_settle_126, rX7_settle_129, rX7_settle_132, riX7_settle_133, rX7_settle_133, rX7_settle_134, rX7_settle_137, rX7_settle_138, rX7_settle_139, rX7_settle_142, rX7_settle_145, rX7_settle_148, ↓reduceIte, m1_le, m1_lt, m1_eq, ofInt_m1, ex_ret, Int32.reduceAdd, Int32.reduceSub, Int32.reduceMul, Int32.reduceLT, Int32.reduceLE, xsI, Nat.reduceEqDiff, and_false, false_and, and_true, true_and, if_true, if_false, ite_true, ite_false, xlook_0, xlook_s, xI_int, xA_ref, xJ_long, xK_some, xRow_row, xTo_some, xst1, xclr, List.set_cons_zero, List.set_cons_succ, xsum_nil, xsum_int, xsum_ref, xsum_long, Option.toList_some, Option.toList_none, List.nil_append, List.cons_append, hs, hv, hw1, hw2, hw0, hnl, he, hn1, hn2, hfr, a1, s_at (show SK[27]? = some (.inl (0, 1024)) from rfl) (by decide : 1024 < 2 ^ 31), s_at (show SK[28]? = some (.inl (0, 1024)) from rfl) (by decide : 1024 < 2 ^ 31), xat_0 (show 0 < 1024 by decide) (by decide : 1024 < 2 ^ 31), xsR, not_true]
