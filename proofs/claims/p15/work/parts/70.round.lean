/-! Parser: parentheses, declarations, a program. -/
/-- an atom, operators behind it, perhaps handled: by one rule, a name, that gives a name -/
abbrev Bo := (Int32 × Int32) × List Oa × Option (Int32 × Int32)
def boT (b : Bo) : List (Int32 × Int32) := b.1 :: (oaT b.2.1 ++ (match b.2.2 with | none => [] | some (p, y) => [(12, 0), (25, p), (39, 0), (25, y)]))
def boM (b : Bo) : List Mk := match b.2.2 with | none => (1, 0, -1) :: atM b.1.1 b.1.2 :: chM b.2.1 | some (p, y) => haM b.1.1 b.1.2 b.2.1 p y
def boOk (b : Bo) : Prop := (b.1.1 = 25 ∨ b.1.1 = 27) ∧ chOk b.2.1 ∧ b.2.1.length ≤ 3
theorem boM_len (b : Bo) (h : boOk b) : (boM b).length ≤ 18 := by
  obtain ⟨a, cs, h9⟩ := b
  have h3 : cs.length ≤ 3 := h.2.2
  cases h9 with
  | none => show (chM cs).length + 1 + 1 ≤ _; rw [chM_len]; omega
  | some q => show (chM cs ++ _).length + 1 + 1 ≤ _; rw [List.length_append, chM_len]; show _ + 9 + 1 + 1 ≤ _; omega
theorem s_expB {F : xS → Prop} {d : Nat} (hF : StF F) {S : xS} {b : Bo} {ts : List (Int32 × Int32)} {ms : List Mk} {o : Nat} (hW : W0 S) (h : PS F S (boT b ++ ts) ms o) (hm : ms.length < 9200) (hb : boOk b) (ho : o < 39) (he : kEnd (hdK ts)) (h12 : ¬ hdK ts = 12) :
    ∃ S1, XC SK MT (d + 10) 209 [.ref 2] S = some (none, S1) ∧ PS F S1 ts (ms ++ boM b) o ∧ FrQ S S1 ∧ W0 S1 := by
  obtain ⟨⟨k, m⟩, cs, h9⟩ := b
  obtain ⟨b1, b2, b3⟩ := hb
  have b3' : cs.length ≤ 3 := b3
  cases h9 with
  | none =>
    have h' : PS F S ((k, m) :: (oaT cs ++ ts)) ms o := by
      have e : boT ((k, m), cs, none) ++ ts = (k, m) :: (oaT cs ++ ts) := by show (k, m) :: ((oaT cs ++ []) ++ ts) = _; rw [List.append_nil]
      rw [e] at h; exact h
    exact s_expA (d := d + 2) hF hW h' (by omega) b3' b1 b2 he h12
  | some q =>
    obtain ⟨p, y⟩ := q
    have h' : PS F S ((k, m) :: (oaT cs ++ ((12, 0) :: (25, p) :: (39, 0) :: (25, y) :: ts))) ms o := by
      have e : boT ((k, m), cs, some (p, y)) ++ ts = (k, m) :: (oaT cs ++ ((12, 0) :: (25, p) :: (39, 0) :: (25, y) :: ts)) := by show (k, m) :: ((oaT cs ++ [(12, 0), (25, p), (39, 0), (25, y)]) ++ ts) = _; rw [List.append_assoc]; rfl
      rw [e] at h; exact h
    exact s_expH (d := d) hF hW h' (by omega) b3' b1 b2 ho he h12
set_option maxHeartbeats 4000000 in
set_option maxRecDepth 100000 in
theorem s_round {F : xS → Prop} {d : Nat} (hF : StF F) {S : xS} {b : Bo} {x z : Int32} {ts : List (Int32 × Int32)} {ms : List Mk} {o : Nat} (hW : W0 S) (h : PS F S ((30, x) :: (boT b ++ (31, z) :: ts)) ms (o + 1)) (hm : ms.length < 9200) (hb : boOk b) (ho : o < 38) :
    ∃ S1, XC SK MT (d + 11) 221 [.ref 2] S = some (none, S1) ∧ PS F S1 ts (ms ++ boM b) o ∧ FrQ S S1 ∧ W0 S1 := by
  obtain ⟨S1, a1, a2, a3⟩ := h.step (d + 7)
  obtain ⟨S2, b1, b2, b3, b4⟩ := s_expB (d := d) hF (a3.W0 hW) a2 hm hb (by omega) (Or.inl rfl) (show ¬ (31 : Int32) = 12 by decide)
  obtain ⟨S3, c1, c2, c3⟩ := s_need (d := d + 6) b2
  have hlen : (ms ++ boM b).length < 9300 := by rw [List.length_append]; have := boM_len b hb; omega
  have hk1 : S1.1 1 13 = b.1.1 := a2.kind
  have h31 : ¬ b.1.1 = 31 := by rcases hb.1 with z | z <;> (rw [z]; decide)
  have hk2 : S2.1 1 13 = 31 := b2.kind
  have hop : S3.1 2 10 = nI (o + 1) := c2.2.2
  have hsub : nI (o + 1) - 1 = nI o := by rw [← nI_1]; exact Int32.add_sub_cancel _ _
  refine ⟨xsetI S3 2 10 (nI o), ?_, ⟨c2.1.of hF (fun a ha => xsR (by unfold lxC at ha; omega)), ⟨by rw [xsI, if_neg (by decide)]; exact c2.2.1.1, fun i m q => by rw [xsR (by decide), xsR (by decide), xsR (by decide), xsR (by decide)]; exact c2.2.1.2 i m q⟩, by rw [xsI, if_pos ⟨rfl, rfl⟩]⟩, a3.Q.trans (b3.trans (c3.Q.trans (S1 := S3) ⟨rfl, fun a q r u v => xsR (fun z => r (Or.inl z)), fun q r u v => by rw [xsI, if_neg (by omega)]⟩)), ?_⟩
  · rw [XC_iff]
    refine ⟨Nat.le_of_ble_eq_true rfl, ?_⟩
    show XL SK MT (d + 10) 221 (0, [some (.ref 2), none, none, none], [], S) _
    simp (config := { decide := true }) only [rX7_roundExp_0, rX7_roundExp_1, rX7_roundExp_4, rX7_roundExp_7, rX7_roundExp_8, rX7_roundExp_11, rX7_roundExp_14, rX7_roundExp_16, rX7_roundExp_19, rX7_roundExp_20, rX7_roundExp_21, rX7_roundExp_22, rX7_roundExp_23, rX7_roundExp_26, rX7_roundExp_27, rX7_roundExp_30, rX7_roundExp_31, rX7_roundExp_34, rX7_roundExp_35, rX7_roundExp_38, rX7_roundExp_41, rX7_roundExp_43, rX7_roundExp_46, rX7_roundExp_47, rX7_roundExp_48, rX7_roundExp_49, rX7_roundExp_50, rX7_roundExp_51, rX7_roundExp_54, rX7_roundExp_57, rX7_roundExp_58, rX7_roundExp_61, rX7_roundExp_64, rX7_roundExp_66, rX7_roundExp_69, rX7_roundExp_70, rX7_roundExp_73, rX7_roundExp_76, rX7_roundExp_77, rX7_roundExp_80, rX7_roundExp_83, rX7_roundExp_84, rX7_roundExp_85, rX7_roundExp_87, rX7_roundExp_90, rX7_roundExp_91, rX7_roundExp_94, rX7_roundExp_97, rX7_roundExp_98, rX7_roundExp_101, rX7_roundExp_104, rX7_roundExp_105, rX7_roundExp_107, rX7_roundExp_110, rX7_roundExp_111, rX7_roundExp_114, rX7_roundExp_117, rX7_roundExp_120, rX7_roundExp_123, rX7_roundExp_124, rX7_roundExp_126, rX7_roundExp_127, rX7_roundExp_128, rX7_roundExp_131, rX7_roundExp_132, rX7_roundExp_135, rX7_roundExp_136, rX7_roundExp_139, rX7_roundExp_142, rX7_roundExp_144, rX7_roundExp_147, rX7_roundExp_148, rX7_roundExp_151, rX7_roundExp_152, rX7_roundExp_154, rX7_roundExp_157, riX7_roundExp_158, rX7_roundExp_158, rX7_roundExp_159, rX7_roundExp_162, rX7_roundExp_163, rX7_roundExp_164, rX7_roundExp_167, ↓reduceIte, m1_le, m1_lt, m1_eq, ofInt_m1, ex_ret, Int32.reduceAdd, Int32.reduceSub, Int32.reduceMul, Int32.reduceLT, Int32.reduceLE, xsI, Nat.reduceEqDiff, and_false, false_and, and_true, true_and, if_true, if_false, ite_true, ite_false, xlook_0, xlook_s, xI_int, xA_ref, xJ_long, xK_some, xRow_row, xTo_some, xst1, xclr, List.set_cons_zero, List.set_cons_succ, xsum_nil, xsum_int, xsum_ref, xsum_long, Option.toList_some, Option.toList_none, List.nil_append, List.cons_append, a1, hk1, h31, b1, hk2, c1, hop, hsub]
  · show (xsetI S3 2 10 (nI o)).1 2 9 = 0
    rw [xsI, if_neg (by decide)]
    exact c3.W0 b4
set_option maxHeartbeats 4000000 in
set_option maxRecDepth 100000 in
/-- an operand in parentheses -/
theorem s_operandR {F : xS → Prop} {d : Nat} (hF : StF F) {S : xS} {b : Bo} {x z : Int32} {ts : List (Int32 × Int32)} {ms : List Mk} {o : Nat} (hW : W0 S) (h : PS F S ((30, x) :: (boT b ++ (31, z) :: ts)) ms o) (hm : ms.length < 9200) (hb : boOk b) (ho : o < 38) (hn : kAtom (hdK ts) = false) :
    ∃ S1, XC SK MT (d + 12) 219 [.ref 2] S = some (none, S1) ∧ PS F S1 ts (ms ++ boM b) o ∧ FrQ S S1 ∧ W0 S1 := by
  obtain ⟨S1, a1, a2, a3⟩ := s_enter (d := d + 10) hF h (by omega)
  have w1 : W0 S1 := by rw [a3]; show (xsetI S 2 10 (nI (o + 1))).1 2 9 = 0; rw [xsI, if_neg (by decide)]; exact hW
  obtain ⟨S2, b1, b2, b3, b4⟩ := s_round (d := d) hF w1 a2 hm hb ho
  have q1 : FrQ S S1 := by
    rw [a3]
    exact ⟨rfl, fun a q r u v => xsR (fun z => r (Or.inl z)), fun q r u v => by rw [xsI, if_neg (by omega)]⟩
  refine ⟨S2, ?_, b2, q1.trans b3, b4⟩
  have hkd := b2.hk
  rw [XC_iff]
  refine ⟨Nat.le_of_ble_eq_true rfl, ?_⟩
  show XL SK MT (d + 11) 219 (0, [some (.ref 2), none, none, none], [], S) _
  simp (config := { decide := true }) only [rX7_operand_0, rX7_operand_1, rX7_operand_2, rX7_operand_3, rX7_operand_6, rX7_operand_9, rX7_operand_10, rX7_operand_13, rX7_operand_16, rX7_operand_17, rX7_operand_18, rX7_operand_21, rX7_operand_24, rX7_operand_25, rX7_operand_26, rX7_operand_29, rX7_operand_32, rX7_operand_33, rX7_operand_36, rX7_operand_37, rX7_operand_38, rX7_operand_41, rX7_operand_42, rX7_operand_43, rX7_operand_45, rX7_operand_48, rX7_operand_49, rX7_operand_52, rX7_operand_55, rX7_operand_56, rX7_operand_59, rX7_operand_62, rX7_operand_63, rX7_operand_65, rX7_operand_68, rX7_operand_69, rX7_operand_72, rX7_operand_75, rX7_operand_76, rX7_operand_79, rX7_operand_82, rX7_operand_83, rX7_operand_85, rX7_operand_88, rX7_operand_89, rX7_operand_92, rX7_operand_95, rX7_operand_96, rX7_operand_99, rX7_operand_102, rX7_operand_103, rX7_operand_104, rX7_operand_105, rX7_operand_108, rX7_operand_109, rX7_operand_112, rX7_operand_113, rX7_operand_115, rX7_operand_116, rX7_operand_117, rX7_operand_120, rX7_operand_121, rX7_operand_124, rX7_operand_127, ↓reduceIte, m1_le, m1_lt, m1_eq, ofInt_m1, ex_ret, Int32.reduceAdd, Int32.reduceSub, Int32.reduceMul, Int32.reduceLT, Int32.reduceLE, xsI, Nat.reduceEqDiff, and_false, false_and, and_true, true_and, if_true, if_false, ite_true, ite_false, xlook_0, xlook_s, xI_int, xA_ref, xJ_long, xK_some, xRow_row, xTo_some, xst1, xclr, List.set_cons_zero, List.set_cons_succ, xsum_nil, xsum_int, xsum_ref, xsum_long, Option.toList_some, Option.toList_none, List.nil_append, List.cons_append, h.kind, s_beginsAtom, show xb01 (kAtom 30) = 1 from by decide, a1, b1, hkd, hn, show xb01 false = 0 from by decide]
set_option maxHeartbeats 4000000 in
set_option maxRecDepth 100000 in
theorem s_expR {F : xS → Prop} {d : Nat} (hF : StF F) {S : xS} {b : Bo} {x z : Int32} {ts : List (Int32 × Int32)} {ms : List Mk} {o : Nat} (hW : W0 S) (h : PS F S ((30, x) :: (boT b ++ (31, z) :: ts)) ms o) (hm : ms.length < 9100) (hb : boOk b) (ho : o < 38) (he : kEnd (hdK ts)) (h12 : ¬ hdK ts = 12) :
    ∃ S1, XC SK MT (d + 14) 209 [.ref 2] S = some (none, S1) ∧ PS F S1 ts (ms ++ (1, 0, -1) :: boM b) o ∧ FrQ S S1 ∧ W0 S1 := by
  obtain ⟨S1, a1, a2, a3, a4⟩ := h.add hF (by omega) (a := 1) (b := 0) (c := 0)
  obtain ⟨S2, b1, b2, b3, b4⟩ := s_operandR (d := d) hF (a3.W0 hW) a2 (by rw [List.length_append]; show _ + 1 < _; omega) hb ho (atom_oa (Or.inl he))
  have hlen : (ms ++ [((1 : Int32), (0 : Int32), (-1 : Int32))] ++ boM b).length < 9300 := by rw [List.length_append, List.length_append]; have := boM_len b hb; show _ + 1 + _ < _; omega
  obtain ⟨S3, c1, c2, c3, c4⟩ := s_low (d := d + 6) (cs := []) hF (a3.W0 hW) b1 b2 (show _ + 3 * 0 < _ by omega) (Nat.zero_le _) b4 b3 trivial he
  refine ⟨S3, ?_, c2.app (by rw [show chM [] = [] from rfl, List.append_nil, List.append_assoc]; rfl), a3.Q.trans c3, c4⟩
  have hk3 := c2.hk
  rw [XC_iff]
  refine ⟨Nat.le_of_ble_eq_true rfl, ?_⟩
  show XL SK MT (d + 13) 209 (0, [some (.ref 2), none], [], S) _
  simp (config := { decide := true }) only [rX7_exp_0, rX7_exp_1, rX7_exp_4, rX7_exp_7k3, rX7_exp_7k10, rX7_exp_7k13, rX7_exp_7k19, rX7_exp_7k24, rX7_exp_7k0, rX7_exp_7k1, rX7_exp_7k2, rX7_exp_7k4, rX7_exp_7k5, rX7_exp_7k6, rX7_exp_7k7, rX7_exp_7k8, rX7_exp_7k9, rX7_exp_7k11, rX7_exp_7k12, rX7_exp_7k14, rX7_exp_7k15, rX7_exp_7k16, rX7_exp_7k17, rX7_exp_7k18, rX7_exp_7k20, rX7_exp_7k21, rX7_exp_7k22, rX7_exp_7k23, rX7_exp_7k25, rX7_exp_7k26, rX7_exp_7k27, rX7_exp_7k28, rX7_exp_7k29, rX7_exp_7k30, rX7_exp_7k31, rX7_exp_7k32, rX7_exp_7k33, rX7_exp_7k34, rX7_exp_7k35, rX7_exp_7k36, rX7_exp_7k37, rX7_exp_7k38, rX7_exp_7k39, rX7_exp_7k40, rX7_exp_7k41, rX7_exp_7k42, rX7_exp_7k43, rX7_exp_7k44, rX7_exp_7k45, rX7_exp_7k46, rX7_exp_7k47, rX7_exp_7k48, rX7_exp_7k49, rX7_exp_7k50, rX7_exp_7k51, rX7_exp_7k52, rX7_exp_7k53, rX7_exp_7k54, rX7_exp_7k55, rX7_exp_7k56, rX7_exp_7k57, rX7_exp_7k58, rX7_exp_7k59, rX7_exp_7k60, rX7_exp_7k61, rX7_exp_7k62, rX7_exp_7k63, rX7_exp_56, rX7_exp_57, rX7_exp_60, rX7_exp_63, rX7_exp_64, rX7_exp_67, rX7_exp_70, rX7_exp_71, rX7_exp_74, rX7_exp_77, rX7_exp_78, rX7_exp_81, rX7_exp_84, rX7_exp_85, rX7_exp_88, rX7_exp_91, rX7_exp_92, rX7_exp_93, rX7_exp_94, rX7_exp_95, rX7_exp_98, rX7_exp_99, rX7_exp_100, rX7_exp_103, rX7_exp_104, rX7_exp_107, rX7_exp_110, rX7_exp_112, rX7_exp_115, rX7_exp_116, rX7_exp_119, rX7_exp_122, rX7_exp_123, rX7_exp_126, rX7_exp_127, rX7_exp_128, rX7_exp_131, rX7_exp_132, rX7_exp_134, rX7_exp_135, rX7_exp_136, rX7_exp_139, rX7_exp_140, rX7_exp_141, rX7_exp_144, rX7_exp_147, rX7_exp_148, rX7_exp_151, rX7_exp_152, rX7_exp_154, rX7_exp_155, rX7_exp_156, rX7_exp_159, rX7_exp_160, riX7_exp_161, rX7_exp_161, rX7_exp_162, rX7_exp_165, rX7_exp_166, rX7_exp_167, rX7_exp_170, ↓reduceIte, m1_le, m1_lt, m1_eq, ofInt_m1, ex_ret, Int32.reduceAdd, Int32.reduceSub, Int32.reduceMul, Int32.reduceLT, Int32.reduceLE, xsI, Nat.reduceEqDiff, and_false, false_and, and_true, true_and, if_true, if_false, ite_true, ite_false, xlook_0, xlook_s, xI_int, xA_ref, xJ_long, xK_some, xRow_row, xTo_some, xst1, xclr, List.set_cons_zero, List.set_cons_succ, xsum_nil, xsum_int, xsum_ref, xsum_long, Option.toList_some, Option.toList_none, List.nil_append, List.cons_append, h.kind, a1, c1, hk3, h12]
