/-! Parser: expressions: an operand and operators behind it. -/
def chM : List Oa → List Mk
  | [] => []
  | c :: cs => atM c.2.1 c.2.2 :: oaM c.1.1 cs
def chOk : List Oa → Prop
  | [] => True
  | c :: cs => kOp c.1.1 ∧ (c.2.1 = 25 ∨ c.2.1 = 27) ∧ oaOk c.1.1 cs
theorem chM_len (cs : List Oa) : (chM cs).length = 2 * cs.length := by
  cases cs with
  | nil => rfl
  | cons c cs => show (oaM c.1.1 cs).length + 1 = _; rw [oaM_len, List.length_cons]; omega
set_option maxHeartbeats 4000000 in
set_option maxRecDepth 100000 in
theorem s_low {F : xS → Prop} {d : Nat} (hF : StF F) {S S0 : xS} {cs : List Oa} {ts : List (Int32 × Int32)} {ms : List Mk} {o : Nat} (hW : W0 S) (hop : XC SK MT (d + 6) 219 [.ref 2] S = some (none, S0)) (h : PS F S0 (oaT cs ++ ts) ms o) (hm : ms.length + 3 * cs.length < 9700) (hl3 : cs.length ≤ 3) (hw : W0 S0) (hq : FrQ S S0) (hc : chOk cs) (he : kEnd (hdK ts)) :
    ∃ S1, XC SK MT (d + 7) 217 [.ref 2] S = some (none, S1) ∧ PS F S1 ts (ms ++ chM cs) o ∧ FrQ S S1 ∧ W0 S1 := by
  cases cs with
  | nil =>
    have a1 := settle_0 (d := d + 4) (k := -1) hw (str_end (by unfold kEnd; decide))
    refine ⟨S0, ?_, by rw [show chM [] = [] from rfl, List.append_nil]; exact h, hq, hw⟩
    have hkd : S0.1 1 13 = hdK ts := h.hk
    have hst : ∀ S d, XC SK MT (d + 1) 215 [.int (hdK ts)] S = some (some (.int 0), S) := fun S d => str_end he
    rw [XC_iff]
    refine ⟨Nat.le_of_ble_eq_true rfl, ?_⟩
    show XL SK MT (d + 6) 217 (0, [some (.ref 2), none, none, none, none, none, none], [], S) _
    simp (config := { decide := true }) only [rX7_low_0, rX7_low_1, rX7_low_4, rX7_low_5, rX7_low_7, rX7_low_8, rX7_low_9, rX7_low_12, rX7_low_13, rX7_low_14, rX7_low_15, rX7_low_18, rX7_low_21, rX7_low_22, rX7_low_25, rX7_low_28, rX7_low_31, rX7_low_34, rX7_low_35, rX7_low_38, rX7_low_41, rX7_low_44, rX7_low_45, rX7_low_48, rX7_low_49, rX7_low_52, rX7_low_55, rX7_low_57, rX7_low_58, rX7_low_61, rX7_low_64, rX7_low_66, rX7_low_67, rX7_low_68, rX7_low_70, rX7_low_73, rX7_low_75, rX7_low_77, rX7_low_80, rX7_low_81, rX7_low_84, rX7_low_87, rX7_low_88, rX7_low_91, rX7_low_92, rX7_low_94, rX7_low_95, rX7_low_97, rX7_low_100, rX7_low_101, rX7_low_103, rX7_low_106, rX7_low_107, rX7_low_110, rX7_low_112, rX7_low_115, rX7_low_118, rX7_low_119, rX7_low_122, rX7_low_125, rX7_low_126, rX7_low_127, rX7_low_130, rX7_low_131, rX7_low_134, rX7_low_136, rX7_low_139, rX7_low_140, rX7_low_143, rX7_low_144, rX7_low_147, rX7_low_149, rX7_low_152, riX7_low_153, rX7_low_153, rX7_low_154, rX7_low_157, rX7_low_158, rX7_low_159, rX7_low_162, rX7_low_164, rX7_low_165, rX7_low_168, rX7_low_169, rX7_low_171, rX7_low_172, rX7_low_174, rX7_low_177, rX7_low_178, rX7_low_180, rX7_low_182, rX7_low_185, rX7_low_186, rX7_low_188, rX7_low_189, rX7_low_191, rX7_low_194, rX7_low_195, rX7_low_196, rX7_low_199, rX7_low_202, rX7_low_203, rX7_low_206, rX7_low_209, rX7_low_212, rX7_low_215, rX7_low_217, rX7_low_218, rX7_low_221, rX7_low_223, rX7_low_225, rX7_low_228, rX7_low_230, rX7_low_232, rX7_low_235, rX7_low_236, rX7_low_239, rX7_low_240, rX7_low_242, rX7_low_244, rX7_low_247, rX7_low_248, rX7_low_251, rX7_low_254, rX7_low_255, rX7_low_258, rX7_low_260, rX7_low_263, rX7_low_265, rX7_low_268, rX7_low_270, rX7_low_272, rX7_low_275, rX7_low_277, rX7_low_280, rX7_low_283, rX7_low_284, rX7_low_285, rX7_low_288, rX7_low_291, rX7_low_292, rX7_low_293, rX7_low_294, rX7_low_297, ↓reduceIte, m1_le, m1_lt, m1_eq, ofInt_m1, ex_ret, Int32.reduceAdd, Int32.reduceSub, Int32.reduceMul, Int32.reduceLT, Int32.reduceLE, xsI, Nat.reduceEqDiff, and_false, false_and, and_true, true_and, if_true, if_false, ite_true, ite_false, xlook_0, xlook_s, xI_int, xA_ref, xJ_long, xK_some, xRow_row, xTo_some, xst1, xclr, List.set_cons_zero, List.set_cons_succ, xsum_nil, xsum_int, xsum_ref, xsum_long, Option.toList_some, Option.toList_none, List.nil_append, List.cons_append, show S.1 2 9 = 0 from hW, hop, hkd, hst, a1]
  | cons c cs =>
    obtain ⟨⟨k, x⟩, ⟨ak, am⟩⟩ := c
    obtain ⟨c1, c3, c4⟩ := hc
    rw [List.length_cons] at hm hl3
    have h0 : PS F S0 ((k, x) :: (ak, am) :: (oaT cs ++ ts)) ms o := h
    have a1 := settle_0 (d := d + 4) (k := k) hw (s_str c1 S0 (d + 4))
    generalize hS2 : xsetI (xsetI (xsetI S0 27 0 k) 28 0 (S0.1 1 14)) 2 9 1 = S2
    have b2 : PS F S2 ((k, x) :: (ak, am) :: (oaT cs ++ ts)) ms o := by
      rw [← hS2]
      exact h0.of hF (fun a ha => by rw [xsR (by unfold lxC at ha; omega), xsR (by unfold lxC at ha; omega), xsR (by unfold lxC at ha; omega)]) (by rw [xsI, if_neg (by decide), xsI, if_neg (by decide), xsI, if_neg (by decide)]) (by rw [xsI, if_neg (by decide), xsI, if_neg (by decide), xsI, if_neg (by decide)])
    have b3 : FrQ S0 S2 := by
      rw [← hS2]
      exact ⟨rfl, fun a q r u v => by rw [xsR (fun z => r (Or.inl z)), xsR v, xsR u], fun q r u v => by rw [xsI, if_neg (fun z => u z.2), xsI, if_neg (by omega), xsI, if_neg (by omega)]⟩
    have b4 : W1 S2 k := by
      rw [← hS2]
      exact ⟨by rw [xsI, if_pos ⟨rfl, rfl⟩], by rw [xsI, if_neg (by decide), xsI, if_neg (by decide), xsI, if_pos ⟨rfl, rfl⟩]⟩
    obtain ⟨S3, d1, d2, d3⟩ := b2.step (d + 3)
    have hna := atom_oa (hdK_oa c4 he)
    obtain ⟨S4, e1, e2, e3⟩ := s_operand (d := d + 1) hF d2 (by omega) c3 hna
    obtain ⟨S5, f1, f2, f3, f4⟩ := low_rest (d := d) hF cs S4 k 1 (some (.int k)) (some (.int (S0.1 1 14))) (some (.int 0)) ts _ o e2 (by rw [List.length_append]; show _ + 1 + _ + _ < _; omega) (by omega) (e3.W1 (d3.W1 b4)) c1 c4 he
    rw [List.append_assoc] at f2
    refine ⟨S5, ?_, f2, (hq.trans (b3.trans (d3.Q.trans e3.Q))).trans f3, f4⟩
    have hkd : S0.1 1 13 = k := h0.kind
    have hst : ∀ S d, XC SK MT (d + 1) 215 [.int k] S = some (some (.int (kStr k)), S) := s_str c1
    have hfr : ∀ S d, XC SK MT (d + 1) 216 [.int k] S = some (some (.int 0), S) := fun S d => s_fromRight (Or.inr c1)
    have g1 : ¬ kStr k ≤ 0 := by rcases c1 with (rfl | rfl | rfl) | (rfl | rfl) <;> decide
    have g2 : ¬ (8 : Int32) < kStr k := by rcases c1 with (rfl | rfl | rfl) | (rfl | rfl) <;> decide
    have g3 : ¬ k = 36 := by rcases c1 with (rfl | rfl | rfl) | (rfl | rfl) <;> decide
    have g4 : ¬ k = 1 := by rcases c1 with (rfl | rfl | rfl) | (rfl | rfl) <;> decide
    have g5 : ¬ k = 18 := by rcases c1 with (rfl | rfl | rfl) | (rfl | rfl) <;> decide
    have hkd3 : S3.1 1 13 = ak := d2.kind
    have hwide : xb01 (kWide ak) = 0 := by rcases c3 with z | z <;> (rw [show ak = _ from z]; decide)
    have hw9 : S0.1 2 9 = 0 := hw
    rw [XC_iff]
    refine ⟨Nat.le_of_ble_eq_true rfl, ?_⟩
    show XL SK MT (d + 6) 217 (0, [some (.ref 2), none, none, none, none, none, none], [], S) _
    rw [rX7_low_0]
    simp (config := { decide := true }) only [rX7_low_0, rX7_low_1, rX7_low_4, rX7_low_5, rX7_low_7, rX7_low_8, rX7_low_9, rX7_low_12, rX7_low_13, rX7_low_15, rX7_low_18, rX7_low_21, rX7_low_22, rX7_low_25, rX7_low_28, rX7_low_31, rX7_low_34, rX7_low_35, rX7_low_38, rX7_low_41, rX7_low_44, rX7_low_45, rX7_low_48, rX7_low_49, rX7_low_52, rX7_low_55, rX7_low_57, rX7_low_58, rX7_low_61, rX7_low_64, rX7_low_66, rX7_low_67, rX7_low_68, rX7_low_70, rX7_low_73, rX7_low_75, rX7_low_77, rX7_low_80, rX7_low_81, rX7_low_84, rX7_low_87, rX7_low_88, rX7_low_91, rX7_low_92, rX7_low_94, rX7_low_95, rX7_low_97, rX7_low_100, rX7_low_101, rX7_low_103, rX7_low_106, rX7_low_107, rX7_low_110, rX7_low_112, rX7_low_115, rX7_low_118, rX7_low_119, rX7_low_122, rX7_low_125, rX7_low_126, rX7_low_127, rX7_low_130, rX7_low_131, rX7_low_134, rX7_low_136, rX7_low_139, rX7_low_140, rX7_low_143, rX7_low_144, rX7_low_147, rX7_low_149, rX7_low_152, riX7_low_153, rX7_low_153, rX7_low_154, rX7_low_157, rX7_low_158, rX7_low_159, rX7_low_162, rX7_low_164, rX7_low_165, rX7_low_168, rX7_low_169, rX7_low_171, rX7_low_172, rX7_low_174, rX7_low_177, rX7_low_178, rX7_low_180, rX7_low_182, rX7_low_185, rX7_low_186, rX7_low_188, rX7_low_189, rX7_low_191, rX7_low_194, rX7_low_195, rX7_low_196, rX7_low_199, rX7_low_202, rX7_low_203, rX7_low_206, rX7_low_209, rX7_low_212, rX7_low_215, rX7_low_217, rX7_low_218, rX7_low_221, rX7_low_223, rX7_low_225, rX7_low_228, rX7_low_230, rX7_low_232, rX7_low_235, rX7_low_236, rX7_low_239, rX7_low_240, rX7_low_242, rX7_low_244, rX7_low_247, rX7_low_248, rX7_low_251, rX7_low_254, rX7_low_255, rX7_low_258, rX7_low_260, rX7_low_263, rX7_low_265, rX7_low_268, rX7_low_270, rX7_low_272, rX7_low_275, rX7_low_277, rX7_low_280, rX7_low_283, rX7_low_284, rX7_low_285, rX7_low_288, rX7_low_291, rX7_low_292, rX7_low_293, rX7_low_294, rX7_low_297, ↓reduceIte, m1_le, m1_lt, m1_eq, ofInt_m1, ex_ret, Int32.reduceAdd, Int32.reduceSub, Int32.reduceMul, Int32.reduceLT, Int32.reduceLE, xsI, Nat.reduceEqDiff, and_false, false_and, and_true, true_and, if_true, if_false, ite_true, ite_false, xlook_0, xlook_s, xI_int, xA_ref, xJ_long, xK_some, xRow_row, xTo_some, xst1, xclr, List.set_cons_zero, List.set_cons_succ, xsum_nil, xsum_int, xsum_ref, xsum_long, Option.toList_some, Option.toList_none, List.nil_append, List.cons_append, show S.1 2 9 = 0 from hW, hop]
    rw [rX7_low_14]
    simp (config := { decide := true }) only [rX7_low_0, rX7_low_1, rX7_low_4, rX7_low_5, rX7_low_7, rX7_low_8, rX7_low_9, rX7_low_12, rX7_low_13, rX7_low_15, rX7_low_18, rX7_low_21, rX7_low_22, rX7_low_25, rX7_low_28, rX7_low_31, rX7_low_34, rX7_low_35, rX7_low_38, rX7_low_41, rX7_low_44, rX7_low_45, rX7_low_48, rX7_low_49, rX7_low_52, rX7_low_55, rX7_low_57, rX7_low_58, rX7_low_61, rX7_low_64, rX7_low_66, rX7_low_67, rX7_low_68, rX7_low_70, rX7_low_73, rX7_low_75, rX7_low_77, rX7_low_80, rX7_low_81, rX7_low_84, rX7_low_87, rX7_low_88, rX7_low_91, rX7_low_92, rX7_low_94, rX7_low_95, rX7_low_97, rX7_low_100, rX7_low_101, rX7_low_103, rX7_low_106, rX7_low_107, rX7_low_110, rX7_low_112, rX7_low_115, rX7_low_118, rX7_low_119, rX7_low_122, rX7_low_125, rX7_low_126, rX7_low_127, rX7_low_130, rX7_low_131, rX7_low_134, rX7_low_136, rX7_low_139, rX7_low_140, rX7_low_143, rX7_low_144, rX7_low_147, rX7_low_149, rX7_low_152, riX7_low_153, rX7_low_153, rX7_low_154, rX7_low_157, rX7_low_158, rX7_low_159, rX7_low_162, rX7_low_164, rX7_low_165, rX7_low_168, rX7_low_169, rX7_low_171, rX7_low_172, rX7_low_174, rX7_low_177, rX7_low_178, rX7_low_180, rX7_low_182, rX7_low_185, rX7_low_186, rX7_low_188, rX7_low_189, rX7_low_191, rX7_low_194, rX7_low_195, rX7_low_196, rX7_low_199, rX7_low_202, rX7_low_203, rX7_low_206, rX7_low_209, rX7_low_212, rX7_low_215, rX7_low_217, rX7_low_218, rX7_low_221, rX7_low_223, rX7_low_225, rX7_low_228, rX7_low_230, rX7_low_232, rX7_low_235, rX7_low_236, rX7_low_239, rX7_low_240, rX7_low_242, rX7_low_244, rX7_low_247, rX7_low_248, rX7_low_251, rX7_low_254, rX7_low_255, rX7_low_258, rX7_low_260, rX7_low_263, rX7_low_265, rX7_low_268, rX7_low_270, rX7_low_272, rX7_low_275, rX7_low_277, rX7_low_280, rX7_low_283, rX7_low_284, rX7_low_285, rX7_low_288, rX7_low_291, rX7_low_292, rX7_low_293, rX7_low_294, rX7_low_297, ↓reduceIte, m1_le, m1_lt, m1_eq, ofInt_m1, ex_ret, Int32.reduceAdd, Int32.reduceSub, Int32.reduceMul, Int32.reduceLT, Int32.reduceLE, xsI, Nat.reduceEqDiff, and_false, false_and, and_true, true_and, if_true, if_false, ite_true, ite_false, xlook_0, xlook_s, xI_int, xA_ref, xJ_long, xK_some, xRow_row, xTo_some, xst1, xclr, List.set_cons_zero, List.set_cons_succ, xsum_nil, xsum_int, xsum_ref, xsum_long, Option.toList_some, Option.toList_none, List.nil_append, List.cons_append, hkd, hst, hfr, g1, g2, g3, g4, g5, a1, hw9, s_put (show SK[27]? = some (.inl (0, 1024)) from rfl) (by decide : 1024 < 2 ^ 31), s_put (show SK[28]? = some (.inl (0, 1024)) from rfl) (by decide : 1024 < 2 ^ 31), xput_0 (show 0 < 1024 by decide) (by decide : 1024 < 2 ^ 31), xsR, hS2, d1, hkd3, s_beginsWide, hwide, e1, nI_1]
    exact f1
/-- an expression of atoms and operators, not handled -/
theorem s_lowA {F : xS → Prop} {d : Nat} (hF : StF F) {S : xS} {k m : Int32} {cs : List Oa} {ts : List (Int32 × Int32)} {ms : List Mk} {o : Nat} (hW : W0 S) (h : PS F S ((k, m) :: (oaT cs ++ ts)) ms o) (hm : ms.length + 3 * cs.length < 9600) (hl3 : cs.length ≤ 3) (hk : k = 25 ∨ k = 27) (hc : chOk cs) (he : kEnd (hdK ts)) :
    ∃ S1, XC SK MT (d + 7) 217 [.ref 2] S = some (none, S1) ∧ PS F S1 ts (ms ++ (atM k m :: chM cs)) o ∧ FrQ S S1 ∧ W0 S1 := by
  have hna : kAtom (hdK (oaT cs ++ ts)) = false := by
    cases cs with
    | nil => exact atom_oa (Or.inl he)
    | cons c cs => exact atom_oa (Or.inr hc.1)
  obtain ⟨S4, e1, e2, e3⟩ := s_operand (d := d + 1) hF h (by omega) hk hna
  obtain ⟨S5, f1, f2, f3, f4⟩ := s_low (d := d) hF hW e1 e2 (by rw [List.length_append]; show _ + 1 + _ < _; omega) hl3 (e3.W0 hW) e3.Q hc he
  rw [List.append_assoc] at f2
  exact ⟨S5, f1, f2, f3, f4⟩
set_option maxHeartbeats 4000000 in
set_option maxRecDepth 100000 in
theorem s_expA {F : xS → Prop} {d : Nat} (hF : StF F) {S : xS} {k m : Int32} {cs : List Oa} {ts : List (Int32 × Int32)} {ms : List Mk} {o : Nat} (hW : W0 S) (h : PS F S ((k, m) :: (oaT cs ++ ts)) ms o) (hm : ms.length + 3 * cs.length < 9500) (hl3 : cs.length ≤ 3) (hk : k = 25 ∨ k = 27) (hc : chOk cs) (he : kEnd (hdK ts)) (h12 : ¬ hdK ts = 12) :
    ∃ S1, XC SK MT (d + 8) 209 [.ref 2] S = some (none, S1) ∧ PS F S1 ts (ms ++ ((1, 0, -1) :: atM k m :: chM cs)) o ∧ FrQ S S1 ∧ W0 S1 := by
  obtain ⟨S1, a1, a2, a3, a4⟩ := h.add hF (by omega) (a := 1) (b := 0) (c := 0)
  obtain ⟨S2, b1, b2, b3, b4⟩ := s_lowA (d := d) hF (a3.W0 hW) a2 (by rw [List.length_append]; show _ + 1 + _ < _; omega) hl3 hk hc he
  rw [List.append_assoc] at b2
  refine ⟨S2, ?_, b2, a3.Q.trans b3, b4⟩
  have hkd := h.kind
  have hk2 := b2.hk
  rw [XC_iff]
  refine ⟨Nat.le_of_ble_eq_true rfl, ?_⟩
  show XL SK MT (d + 7) 209 (0, [some (.ref 2), none], [], S) _
  rcases hk with rfl | rfl <;> simp (config := { decide := true }) only [rX7_exp_0, rX7_exp_1, rX7_exp_4, rX7_exp_7k3, rX7_exp_7k10, rX7_exp_7k13, rX7_exp_7k19, rX7_exp_7k24, rX7_exp_7k0, rX7_exp_7k1, rX7_exp_7k2, rX7_exp_7k4, rX7_exp_7k5, rX7_exp_7k6, rX7_exp_7k7, rX7_exp_7k8, rX7_exp_7k9, rX7_exp_7k11, rX7_exp_7k12, rX7_exp_7k14, rX7_exp_7k15, rX7_exp_7k16, rX7_exp_7k17, rX7_exp_7k18, rX7_exp_7k20, rX7_exp_7k21, rX7_exp_7k22, rX7_exp_7k23, rX7_exp_7k25, rX7_exp_7k26, rX7_exp_7k27, rX7_exp_7k28, rX7_exp_7k29, rX7_exp_7k30, rX7_exp_7k31, rX7_exp_7k32, rX7_exp_7k33, rX7_exp_7k34, rX7_exp_7k35, rX7_exp_7k36, rX7_exp_7k37, rX7_exp_7k38, rX7_exp_7k39, rX7_exp_7k40, rX7_exp_7k41, rX7_exp_7k42, rX7_exp_7k43, rX7_exp_7k44, rX7_exp_7k45, rX7_exp_7k46, rX7_exp_7k47, rX7_exp_7k48, rX7_exp_7k49, rX7_exp_7k50, rX7_exp_7k51, rX7_exp_7k52, rX7_exp_7k53, rX7_exp_7k54, rX7_exp_7k55, rX7_exp_7k56, rX7_exp_7k57, rX7_exp_7k58, rX7_exp_7k59, rX7_exp_7k60, rX7_exp_7k61, rX7_exp_7k62, rX7_exp_7k63, rX7_exp_56, rX7_exp_57, rX7_exp_60, rX7_exp_63, rX7_exp_64, rX7_exp_67, rX7_exp_70, rX7_exp_71, rX7_exp_74, rX7_exp_77, rX7_exp_78, rX7_exp_81, rX7_exp_84, rX7_exp_85, rX7_exp_88, rX7_exp_91, rX7_exp_92, rX7_exp_93, rX7_exp_94, rX7_exp_95, rX7_exp_98, rX7_exp_99, rX7_exp_100, rX7_exp_103, rX7_exp_104, rX7_exp_107, rX7_exp_110, rX7_exp_112, rX7_exp_115, rX7_exp_116, rX7_exp_119, rX7_exp_122, rX7_exp_123, rX7_exp_126, rX7_exp_127, rX7_exp_128, rX7_exp_131, rX7_exp_132, rX7_exp_134, rX7_exp_135, rX7_exp_136, rX7_exp_139, rX7_exp_140, rX7_exp_141, rX7_exp_144, rX7_exp_147, rX7_exp_148, rX7_exp_151, rX7_exp_152, rX7_exp_154, rX7_exp_155, rX7_exp_156, rX7_exp_159, rX7_exp_160, riX7_exp_161, rX7_exp_161, rX7_exp_162, rX7_exp_165, rX7_exp_166, rX7_exp_167, rX7_exp_170, ↓reduceIte, m1_le, m1_lt, m1_eq, ofInt_m1, ex_ret, Int32.reduceAdd, Int32.reduceSub, Int32.reduceMul, Int32.reduceLT, Int32.reduceLE, xsI, Nat.reduceEqDiff, and_false, false_and, and_true, true_and, if_true, if_false, ite_true, ite_false, xlook_0, xlook_s, xI_int, xA_ref, xJ_long, xK_some, xRow_row, xTo_some, xst1, xclr, List.set_cons_zero, List.set_cons_succ, xsum_nil, xsum_int, xsum_ref, xsum_long, Option.toList_some, Option.toList_none, List.nil_append, List.cons_append, hkd, a1, b1, hk2, h12]
