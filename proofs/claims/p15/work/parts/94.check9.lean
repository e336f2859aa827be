/-! Checker: a program. -/
theorem s_rules_last {d k : Nat} {S : xS} (hk : k < 10240) : XC SK MT (d + 2) 49 [.ref 3, .int 35, .int (nI k)] S = some (none, bdcS (xsetI S 5 15 0)) := by
  rw [XC_iff]
  refine ⟨Nat.le_of_ble_eq_true rfl, ?_⟩
  show XL SK MT (d + 1) 49 (0, [some (.ref 3), some (.int 35), some (.int (nI k)), none, none, none, none, none, none], [], S) _
  simp (config := { decide := true }) only [rX1_rules_0, rX1_rules_1, rX1_rules_4, rX1_rules_7, rX1_rules_8, rX1_rules_11, rX1_rules_12, rX1_rules_13k27, rX1_rules_13k28, rX1_rules_13k29, rX1_rules_13k30, rX1_rules_13k31, rX1_rules_13k32, rX1_rules_13k33, rX1_rules_13k34, rX1_rules_13k35, rX1_rules_13k36, rX1_rules_13k37, rX1_rules_13k38, rX1_rules_13km1, rX1_rules_13k0, rX1_rules_13k1, rX1_rules_13k2, rX1_rules_13k3, rX1_rules_13k4, rX1_rules_13k5, rX1_rules_13k6, rX1_rules_13k7, rX1_rules_13k8, rX1_rules_13k9, rX1_rules_13k10, rX1_rules_13k11, rX1_rules_13k12, rX1_rules_13k13, rX1_rules_13k14, rX1_rules_13k15, rX1_rules_13k16, rX1_rules_13k17, rX1_rules_13k18, rX1_rules_13k19, rX1_rules_13k20, rX1_rules_13k21, rX1_rules_13k22, rX1_rules_13k23, rX1_rules_13k24, rX1_rules_13k25, rX1_rules_13k26, rX1_rules_13k39, rX1_rules_13k40, rX1_rules_13k41, rX1_rules_13k42, rX1_rules_13k43, rX1_rules_13k44, rX1_rules_13k45, rX1_rules_13k46, rX1_rules_13k47, rX1_rules_13k48, rX1_rules_13k49, rX1_rules_13k50, rX1_rules_13k51, rX1_rules_13k52, rX1_rules_13k53, rX1_rules_13k54, rX1_rules_13k55, rX1_rules_13k56, rX1_rules_13k57, rX1_rules_13k58, rX1_rules_13k59, rX1_rules_13k60, rX1_rules_13k61, rX1_rules_13k62, rX1_rules_13k63, rX1_rules_13k64, rX1_rules_13k65, rX1_rules_13k66, rX1_rules_13k67, rX1_rules_13k68, rX1_rules_13k69, rX1_rules_13k70, rX1_rules_13k71, rX1_rules_76, rX1_rules_77, rX1_rules_78, rX1_rules_81, rX1_rules_84, rX1_rules_85, rX1_rules_86, rX1_rules_89, rX1_rules_92, rX1_rules_93, rX1_rules_95, rX1_rules_98, rX1_rules_99, rX1_rules_100, rX1_rules_103, rX1_rules_106, rX1_rules_109, rX1_rules_110, rX1_rules_113, rX1_rules_114, rX1_rules_117, rX1_rules_120, rX1_rules_121, rX1_rules_122, rX1_rules_123, rX1_rules_126, rX1_rules_128, rX1_rules_131, rX1_rules_132, rX1_rules_133, rX1_rules_134, rX1_rules_137, rX1_rules_138, rX1_rules_140, rX1_rules_141, rX1_rules_144, rX1_rules_146, rX1_rules_149, rX1_rules_151, rX1_rules_152, rX1_rules_155, rX1_rules_158, rX1_rules_159, rX1_rules_161, rX1_rules_164, rX1_rules_165, rX1_rules_168, rX1_rules_170, rX1_rules_173, rX1_rules_174, rX1_rules_175, rX1_rules_178, rX1_rules_179, rX1_rules_180, rX1_rules_183, rX1_rules_186, rX1_rules_187, rX1_rules_190, rX1_rules_192, rX1_rules_193, rX1_rules_196, rX1_rules_197, rX1_rules_198, rX1_rules_200, rX1_rules_201, rX1_rules_204, rX1_rules_207, rX1_rules_208, rX1_rules_211, rX1_rules_213, rX1_rules_214, rX1_rules_217, rX1_rules_219, rX1_rules_220, rX1_rules_223, rX1_rules_226, rX1_rules_227, rX1_rules_228, rX1_rules_231, rX1_rules_233, rX1_rules_235, rX1_rules_238, rX1_rules_239, rX1_rules_242, rX1_rules_245, rX1_rules_246, rX1_rules_249, rX1_rules_250, rX1_rules_251, rX1_rules_254, rX1_rules_257, rX1_rules_260, rX1_rules_263, rX1_rules_264, rX1_rules_265, rX1_rules_268, rX1_rules_269, rX1_rules_272, rX1_rules_275, rX1_rules_276, rX1_rules_279, rX1_rules_280, rX1_rules_281, rX1_rules_284, rX1_rules_285, rX1_rules_288, rX1_rules_291, rX1_rules_292, rX1_rules_295, rX1_rules_298, rX1_rules_299, rX1_rules_302, rX1_rules_303, rX1_rules_306, rX1_rules_307, rX1_rules_310, rX1_rules_311, rX1_rules_312, rX1_rules_313, rX1_rules_316, rX1_rules_319, rX1_rules_320, rX1_rules_323, rX1_rules_324, rX1_rules_327, rX1_rules_328, rX1_rules_329, rX1_rules_332, ↓reduceIte, m1_le, m1_lt, m1_eq, ofInt_m1, ex_ret, Int32.reduceAdd, Int32.reduceSub, Int32.reduceMul, Int32.reduceLT, Int32.reduceLE, xsI, Nat.reduceEqDiff, and_false, false_and, and_true, true_and, if_true, if_false, ite_true, ite_false, xlook_0, xlook_s, xI_int, xA_ref, xJ_long, xK_some, xRow_row, xTo_some, xst1, xclr, List.set_cons_zero, List.set_cons_succ, xsum_nil, xsum_int, xsum_ref, xsum_long, Option.toList_some, Option.toList_none, List.nil_append, List.cons_append, s_at (show SK[24]? = some (.inl (0, 10240)) from rfl) (by decide : 10240 < 2 ^ 31), s_put (show SK[24]? = some (.inl (0, 10240)) from rfl) (by decide : 10240 < 2 ^ 31), xat_in, hk, s_beginDec]
theorem ck_exit {d : Nat} {S : xS} {ms : List Mk} {l2 : Option Value} (hm : MK S ms) (hf : S.1 3 16 = 0) : XL SK MT (d + 1) 32 (51, [some (.ref 3), some (.int (nI ms.length)), l2], [], S) (some (.int 1), xsetI S 3 18 (S.1 29 0)) := by
  have h1 := hm.1
  have h2 : (xsetI S 3 18 (S.1 29 0)).1 3 16 = 0 := hf
  rw [rX1_check_51]
  simp (config := { decide := true }) only [rX1_check_0, rX1_check_1, rX1_check_4, rX1_check_7, rX1_check_8, rX1_check_11, rX1_check_14, rX1_check_15, rX1_check_16, rX1_check_19, rX1_check_20, rX1_check_21, rX1_check_24, rX1_check_25, rX1_check_26, rX1_check_29, rX1_check_30, rX1_check_31, rX1_check_34, rX1_check_35, rX1_check_36, rX1_check_39, riX1_check_40, rX1_check_40, rX1_check_41, rX1_check_44, rX1_check_45, rX1_check_46, rX1_check_49, rX1_check_50, rX1_check_52, rX1_check_53, rX1_check_56, rX1_check_59, rX1_check_62, rX1_check_63, rX1_check_66, rX1_check_69, rX1_check_70, rX1_check_73, rX1_check_76, rX1_check_77, rX1_check_80, rX1_check_81, rX1_check_82, rX1_check_84, rX1_check_87, rX1_check_88, rX1_check_89, rX1_check_92, rX1_check_95, rX1_check_96, rX1_check_98, rX1_check_101, rX1_check_102, rX1_check_103, rX1_check_104, rX1_check_107, rX1_check_110, rX1_check_111, rX1_check_113, rX1_check_116, rX1_check_117, rX1_check_118, rX1_check_119, rX1_check_122, rX1_check_125, rX1_check_126, rX1_check_129, rX1_check_132, rX1_check_135, rX1_check_136, rX1_check_138, rX1_check_141, rX1_check_142, rX1_check_143, rX1_check_144, rX1_check_147, rX1_check_150, rX1_check_151, rX1_check_153, rX1_check_156, rX1_check_157, rX1_check_158, rX1_check_159, rX1_check_162, rX1_check_165, rX1_check_166, rX1_check_168, rX1_check_171, rX1_check_172, rX1_check_173, rX1_check_174, rX1_check_177, rX1_check_180, rX1_check_181, rX1_check_183, rX1_check_186, rX1_check_187, rX1_check_188, rX1_check_189, rX1_check_192, rX1_check_195, rX1_check_196, rX1_check_198, rX1_check_201, rX1_check_202, rX1_check_203, rX1_check_204, rX1_check_207, rX1_check_210, rX1_check_211, rX1_check_212, rX1_check_213, rX1_check_216, rX1_check_219, rX1_check_222, rX1_check_223, rX1_check_224, rX1_check_227, rX1_check_228, rX1_check_231, rX1_check_234, rX1_check_235, rX1_check_238, rX1_check_241, rX1_check_242, rX1_check_245, r0X1_check_246, r1X1_check_246, rX1_check_246, ↓reduceIte, m1_le, m1_lt, m1_eq, ofInt_m1, ex_ret, Int32.reduceAdd, Int32.reduceSub, Int32.reduceMul, Int32.reduceLT, Int32.reduceLE, xsI, Nat.reduceEqDiff, and_false, false_and, and_true, true_and, if_true, if_false, ite_true, ite_false, xlook_0, xlook_s, xI_int, xA_ref, xJ_long, xK_some, xRow_row, xTo_some, xst1, xclr, List.set_cons_zero, List.set_cons_succ, xsum_nil, xsum_int, xsum_ref, xsum_long, Option.toList_some, Option.toList_none, List.nil_append, List.cons_append, h1, Int32.le_refl, s_at (show SK[29]? = some (.inl (0, 16384)) from rfl) (by decide : 16384 < 2 ^ 31), s_put (show SK[29]? = some (.inl (0, 16384)) from rfl) (by decide : 16384 < 2 ^ 31), xat_l, Int32.reduceToNatClampNeg, h2, hf]
/-- the marks at the end, linked -/
def prL (cs : List De) (x : Int32) : List Mk := desL 0 0 0 cs ++ [(35, 0, -1), (1, 0, -1), (6, x, -1)].map (mkL (endX 0 0 0 cs).1 (endX 0 0 0 cs).2)
theorem CE.bdc {S : xS} {vs : List Va} (h : CE S vs) : CE (bdcS (xsetI S 5 15 0)) vs := h
theorem MK.bdc {S : xS} {ms : List Mk} (h : MK S ms) : MK (bdcS (xsetI S 5 15 0)) ms := h
theorem desL_len : ∀ (cs : List De) (n xm ym : Nat), (desL n xm ym cs).length = (desM n cs).length
  | [], _, _, _ => rfl
  | c :: cs, n, xm, ym => by
    show ((deM n c).map (mkL xm ym) ++ desL _ _ _ cs).length = (deM n c ++ desM _ cs).length
    rw [List.length_append, List.length_append, List.length_map, desL_len cs]
set_option maxHeartbeats 4000000 in
set_option maxRecDepth 100000 in
theorem s_check {d : Nat} {S : xS} {v0 v1 : Int} {ls : List Ln} (hm : MK S (prM (prC v0 v1 ls) 51)) (hn : ls.length ≤ 90) (hst : S.1 5 13 = 2) (hcc : S.1 4 15 = 0) (h51 : S.1 37 51 = -1) (h52 : S.1 37 52 = -1) :
    ∃ S1, XC SK MT (d + 7) 32 [.ref 3] S = some (some (.int 1), S1) ∧ MK S1 (prL (prC v0 v1 ls) 51) ∧ FrK S S1 ∧ (∃ n, S1.1 3 18 = nI n ∧ Fi S1 n 2) ∧ TN S1 ∧ S1.1 50 2 = 0 := by
  obtain ⟨Sa, a1, a2, a3, a4, a5⟩ := s_topen (d := d + 3) (S := S)
  obtain ⟨Sb, b1, b2⟩ := s_sopen (d := d + 1) a2 (a3.trans hst) (by rw [a5 4 (by decide) (by decide)]; exact hcc)
  obtain ⟨o1, o2, o3, o4, o5, o6, o7, o8, o8b, o9, o10, o11, o12, o13⟩ := b2
  have hKa : FrK S Sa := ⟨a4, fun a ha => a5 a (by omega) (by omega)⟩
  have hKb : FrK Sa Sb := ⟨o12, fun a ha => by
    rw [o13 a (by omega) (by omega) (by omega) (by omega) (by omega) (by omega)]
    unfold soS soC soB bfS soA
    repeat rw [xsR (by omega)]⟩
  have mb : MK Sb (prM (prC v0 v1 ls) 51) := by
    have r : ∀ a, ¬ (a = 3 ∨ a = 4 ∨ a = 5 ∨ a = 25 ∨ (29 ≤ a ∧ a ≤ 52)) → Sb.1 a = S.1 a := (hKa.trans hKb).2
    have r25 : Sb.1 25 = S.1 25 := by rw [o13 _ (by decide) (by decide) (by decide) (by decide) (by decide) (by decide)]; exact a5 _ (by decide) (by decide)
    exact ⟨by rw [r 2 (by decide)]; exact hm.1, fun i m q => by rw [r 22 (by decide), r 23 (by decide), r25, r 26 (by decide)]; exact hm.2 i m q⟩
  generalize hSc : xsetI (xsetI (xsetI (xsetI (xsetI (xsetI Sb 3 8 0) 3 9 0) 3 16 0) 3 17 (-1)) 3 11 0) 3 10 (Sb.1 3 10 + 1) = Sc
  have mc : MK Sc (prM (prC v0 v1 ls) 51) := by rw [← hSc]; exact mb
  have hKc : FrK Sb Sc := by rw [← hSc]; exact (FrK_set (by omega)).trans ((FrK_set (by omega)).trans ((FrK_set (by omega)).trans ((FrK_set (by omega)).trans ((FrK_set (by omega)).trans (FrK_set (by omega))))))
  have lc : LSt Sc [] 11 0 := by
    rw [← hSc]
    have ar : Sb.1 50 = Sa.1 50 := o5
    refine ⟨⟨⟨?_, by decide, fun i v q => by cases q⟩, ?_, ⟨?_, ?_, o9⟩, ⟨o6, o7, o8⟩, ⟨o3, o4, ?_, ?_⟩, rfl, fun v hv => by cases hv⟩, o1, ?_, ?_, rfl, rfl, ⟨by decide, by decide⟩, (fun v hv => by cases hv), ⟨?_, o8b⟩⟩
    · show Sb.1 4 12 = nI 0; rw [o11 _ (by decide) (by decide)]; rfl
    · show Sb.1 4 10 = 0; rw [o11 _ (by decide) (by decide)]; rfl
    · show Sb.1 37 51 = -1; rw [o10 51 (by decide)]; show Sa.1 37 51 = -1; rw [a5 _ (by decide) (by decide)]; exact h51
    · show Sb.1 37 52 = -1; rw [o10 52 (by decide)]; show Sa.1 37 52 = -1; rw [a5 _ (by decide) (by decide)]; exact h52
    · show Sb.1 50 2 = 0; rw [ar]; exact a2.2.2.2.2.1
    · show Sb.1 50 6 = 0; rw [ar]; exact a2.2.2.2.2.2.2.1
    · show Sb.1 5 15 = 0; rw [o2]; exact a2.2.1
    · show Sb.1 4 13 = nI 0; rw [o11 _ (by decide) (by decide)]; rfl
    · show Sb.1 38 2 = 25; rw [o13 _ (by decide) (by decide) (by decide) (by decide) (by decide) (by decide)]; rfl
  -- the lines
  have hlen : (prM (prC v0 v1 ls) 51).length ≤ 10240 := by
    unfold prM
    rw [List.length_append]
    have := desM_len (prC v0 v1 ls) 0 prC_ok
    have e : (prC v0 v1 ls).length = ls.length + 2 := by unfold prC; rw [List.length_cons, List.length_cons, List.length_map]
    rw [e] at this
    show _ + 3 ≤ 10240
    omega
  generalize hc0 : ((51, Sum.inl (27, Int32.ofInt v0)) : De) = c0
  generalize hc1 : ((52, Sum.inl (27, Int32.ofInt v1)) : De) = c1
  have e0 : prM (prC v0 v1 ls) 51 = [] ++ (deM ([] : List Mk).length c0 ++ (deM (deM 0 c0).length c1 ++ (desM ((deM 0 c0).length + (deM (deM 0 c0).length c1).length) (ls.map lnD) ++ [(35, 0, -1), (1, 0, -1), (6, 51, -1)]))) := by
    have z : desM 0 (prC v0 v1 ls) = deM 0 c0 ++ (deM (0 + (deM 0 c0).length) c1 ++ desM (0 + (deM 0 c0).length + (deM (0 + (deM 0 c0).length) c1).length) (ls.map lnD)) := by
      rw [← hc0, ← hc1]; rfl
    unfold prM
    rw [z, Nat.zero_add, List.nil_append]
    simp only [List.append_assoc]
    rfl
  have eL : prL (prC v0 v1 ls) 51 = (([] ++ (deM ([] : List Mk).length c0).map (mkL 0 0)) ++ (deM (deM 0 c0).length c1).map (mkL 2 0)) ++ (desL ((deM 0 c0).length + (deM (deM 0 c0).length c1).length) 2 ((deM 0 c0).length + 2) (ls.map lnD) ++ [(35, 0, -1), (1, 0, -1), (6, 51, -1)].map (mkL (endX ((deM 0 c0).length + (deM (deM 0 c0).length c1).length) 2 ((deM 0 c0).length + 2) (ls.map lnD)).1 (endX ((deM 0 c0).length + (deM (deM 0 c0).length c1).length) 2 ((deM 0 c0).length + 2) (ls.map lnD)).2)) := by
    have z : desL 0 0 0 (prC v0 v1 ls) = (deM 0 c0).map (mkL 0 0) ++ ((deM (0 + (deM 0 c0).length) c1).map (mkL 2 0) ++ desL (0 + (deM 0 c0).length + (deM (0 + (deM 0 c0).length) c1).length) 2 (0 + (deM 0 c0).length + 2) (ls.map lnD)) := by
      rw [← hc0, ← hc1]; rfl
    have z2 : endX 0 0 0 (prC v0 v1 ls) = endX (0 + (deM 0 c0).length + (deM (0 + (deM 0 c0).length) c1).length) 2 (0 + (deM 0 c0).length + 2) (ls.map lnD) := by
      rw [← hc0, ← hc1]; rfl
    unfold prL
    rw [z, z2, Nat.zero_add, List.nil_append]
    simp only [List.append_assoc]
    rfl
  rw [e0] at mc hlen
  have mc' := mc
  have hlen' := hlen
  rw [← hc0] at mc' hlen'
  obtain ⟨S1, r1, l1, k1⟩ := ck_line (d := d) (x := 51) (xm := 0) (ym := 0) (Or.inl rfl) mc' hlen' lc (by decide) (by decide) (by decide) rfl
  have r1' : CkRun (d + 6) 0 0 (deM ([] : List Mk).length c0) [] (deM (deM 0 c0).length c1 ++ (desM ((deM 0 c0).length + (deM (deM 0 c0).length c1).length) (ls.map lnD) ++ [(35, 0, -1), (1, 0, -1), (6, 51, -1)])) Sc S1 := by rw [← hc0]; exact r1
  have hd1 : ([] ++ (deM ([] : List Mk).length c0).map (mkL 0 0)).length = (deM 0 c0).length := by rw [List.nil_append, List.length_map]; rfl
  have m1 := r1'.1
  generalize hD1 : [] ++ (deM ([] : List Mk).length c0).map (mkL 0 0) = D1 at *
  have hl1 : (D1 ++ (deM (deM 0 c0).length c1 ++ (desM ((deM 0 c0).length + (deM (deM 0 c0).length c1).length) (ls.map lnD) ++ [(35, 0, -1), (1, 0, -1), (6, 51, -1)]))).length ≤ 10240 := by
    rw [List.length_append, hd1]
    rw [List.nil_append, List.length_append] at hlen
    exact hlen
  have m1' := m1
  have hl1' := hl1
  rw [← hc1, ← hd1] at m1' hl1'
  obtain ⟨S2, r2, l2, k2⟩ := ck_line (d := d) (x := 52) (xm := 2) (ym := 0) (Or.inr rfl) m1' hl1' l1 (by decide) (by decide) (by decide) rfl
  rw [hd1] at r2 l2
  have r2' : CkRun (d + 6) 2 0 (deM (deM 0 c0).length c1) D1 (desM ((deM 0 c0).length + (deM (deM 0 c0).length c1).length) (ls.map lnD) ++ [(35, 0, -1), (1, 0, -1), (6, 51, -1)]) S1 S2 := by rw [← hc1]; exact r2
  have hd2 : (D1 ++ (deM (deM 0 c0).length c1).map (mkL 2 0)).length = (deM 0 c0).length + (deM (deM 0 c0).length c1).length := by rw [List.length_append, List.length_map, hd1]
  have m2 := r2'.1
  have hl2 : ((D1 ++ (deM (deM 0 c0).length c1).map (mkL 2 0)) ++ (desM ((deM 0 c0).length + (deM (deM 0 c0).length c1).length) (ls.map lnD) ++ [(35, 0, -1), (1, 0, -1), (6, 51, -1)])).length ≤ 10240 := by
    simp only [List.length_append, List.length_map] at hl1 ⊢
    omega
  have hE : EV (([] ++ [(nI 51, 11, ([] : List Mk).length + 2)]) ++ [(nI 52, 12, (deM 0 c0).length + 2)]) 2 ((deM 0 c0).length + 2) := by
    refine EV.y (ym := 0) ⟨0, (nI 51, 11, 2), rfl, ⟨⟨_, rfl, rfl⟩, fun j v hj hv => ?_⟩, rfl⟩
    have := (List.getElem?_eq_some_iff.mp hv).1
    rw [List.nil_append, List.length_singleton] at this
    omega
  have m2' := m2
  have hl2' := hl2
  rw [← hd2] at m2' hl2'
  obtain ⟨S3, vs3, n3, vis3, g1, g2, g3, g4, g5⟩ := ck_lines (d := d) ls S2 _ 13 2 2 ((deM 0 c0).length + 2) _ m2' hl2' l2 (by show 2 + ls.length < 99; omega) (by omega) (by omega) hE
  rw [hd2] at g1 g2 g4
  -- the EXP
  have hl3 : ((D1 ++ (deM (deM 0 c0).length c1).map (mkL 2 0) ++ desL ((deM 0 c0).length + (deM (deM 0 c0).length c1).length) 2 ((deM 0 c0).length + 2) (ls.map lnD)) ++ [(35, 0, -1), (1, 0, -1), (6, 51, -1)]).length ≤ 10240 := by
    simp only [List.length_append, desL_len] at hl2 ⊢
    omega
  generalize hD3 : D1 ++ (deM (deM 0 c0).length c1).map (mkL 2 0) ++ desL ((deM 0 c0).length + (deM (deM 0 c0).length c1).length) 2 ((deM 0 c0).length + 2) (ls.map lnD) = D3 at *
  generalize hX : endX ((deM 0 c0).length + (deM (deM 0 c0).length c1).length) 2 ((deM 0 c0).length + 2) (ls.map lnD) = X at *
  obtain ⟨xm, ym⟩ := X
  have m3 : MK S3 (D3 ++ (35, 0, -1) :: ([(1, 0, -1), (6, 51, -1)] : List Mk)) := g1
  have K3 : D3.length < 10240 := by rw [List.length_append] at hl3; have : ([(35, 0, -1), (1, 0, -1), (6, 51, -1)] : List Mk).length = 3 := rfl; omega
  have ce3 := g3.1
  have p4 := s_rules_last (d := d + 4) (S := S3) K3
  have r4 : CkRun (d + 6) xm ym [(35, 0, -1)] D3 [(1, 0, -1), (6, 51, -1)] S3 (bdcS (xsetI S3 5 15 0)) := CkRun.one (MK.bdc m3) (fun r hr => ck_rules m3 hl3 ce3.2.2.2.2.2.1 (Or.inr (Or.inr (Or.inr (Or.inr (Or.inr rfl))))) p4 hr)
  have ce4 : CE (bdcS (xsetI S3 5 15 0)) vs3 := ce3.bdc
  have t4 : (bdcS (xsetI S3 5 15 0)).1 3 8 = nI 0 := g3.2.2.2.2.1
  have ty4 : TN (bdcS (xsetI S3 5 15 0)) := g3.2.2.2.2.2.2.2.2
  have k4 : FrK S3 (bdcS (xsetI S3 5 15 0)) := by
    unfold bdcS
    exact (FrK_set (by omega)).trans ((FrK_set (by omega)).trans ((FrK_set (by omega)).trans (FrK_set (by omega))))
  have hl4 := len_run (xm := xm) (ym := ym) hl3
  have r5 := ck_skip (d := d + 4) (xm := xm) (ym := ym) r4.1 hl4 ce4.2.2.2.2.2.1 (Or.inl rfl)
  have hl5 := len_run (xm := xm) (ym := ym) hl4
  obtain ⟨S6, n6, r6, c6, tp6, f6, fr6⟩ := ck_atom (d := d + 2) (t := 0) (a := (25, 51)) r5.1 hl5 ce4 (g4.at (Or.inr ⟨rfl, Or.inl rfl⟩)) t4 (by decide)
  have rr := r4.app (r5.app r6)
  have m6 := rr.1
  rw [List.append_nil] at m6
  have kk : FrK S S6 := hKa.trans (hKb.trans (hKc.trans (k1.trans (k2.trans (g5.trans (k4.trans (FrH.K (t := 0) (g := 0) fr6.H)))))))
  have ex := fun l2 => ck_exit (d := d + 5) (l2 := l2) m6 c6.2.2.2.2.2.1
  have hrun := rr.2 _ ex
  have h3 := g2 _ hrun
  have h2 : CkAt (d + 6) D1.length S1 _ := r2'.2 _ (by rw [hd2]; exact h3)
  have h1 : CkAt (d + 6) 0 Sc _ := r1'.2 _ (by rw [hD1]; exact h2)
  refine ⟨xsetI S6 3 18 (S6.1 29 0), ?_, ?_, kk.trans (FrK_set (by omega)), ⟨n6, tp6.2.1, f6⟩, ?_, c6.2.2.2.2.1.2.2.1⟩
  · rw [XC_iff]
    refine ⟨Nat.le_of_ble_eq_true rfl, ?_⟩
    show XL SK MT (d + 6) 32 (0, [some (.ref 3), none, none], [], S) _
    have b1' : XC SK MT (d + 6) 232 [.ref 4] Sa = some (none, Sb) := b1
    have a1' : XC SK MT (d + 6) 263 [.ref 5] S = some (none, Sa) := a1
    simp (config := { decide := true }) only [rX1_check_0, rX1_check_1, rX1_check_4, rX1_check_7, rX1_check_8, rX1_check_11, rX1_check_14, rX1_check_15, rX1_check_16, rX1_check_19, rX1_check_20, rX1_check_21, rX1_check_24, rX1_check_25, rX1_check_26, rX1_check_29, rX1_check_30, rX1_check_31, rX1_check_34, rX1_check_35, rX1_check_36, rX1_check_39, riX1_check_40, rX1_check_40, rX1_check_41, rX1_check_44, rX1_check_45, rX1_check_46, rX1_check_49, rX1_check_50, rX1_check_52, rX1_check_53, rX1_check_56, rX1_check_59, rX1_check_62, rX1_check_63, rX1_check_66, rX1_check_69, rX1_check_70, rX1_check_73, rX1_check_76, rX1_check_77, rX1_check_80, rX1_check_81, rX1_check_82, rX1_check_84, rX1_check_87, rX1_check_88, rX1_check_89, rX1_check_92, rX1_check_95, rX1_check_96, rX1_check_98, rX1_check_101, rX1_check_102, rX1_check_103, rX1_check_104, rX1_check_107, rX1_check_110, rX1_check_111, rX1_check_113, rX1_check_116, rX1_check_117, rX1_check_118, rX1_check_119, rX1_check_122, rX1_check_125, rX1_check_126, rX1_check_129, rX1_check_132, rX1_check_135, rX1_check_136, rX1_check_138, rX1_check_141, rX1_check_142, rX1_check_143, rX1_check_144, rX1_check_147, rX1_check_150, rX1_check_151, rX1_check_153, rX1_check_156, rX1_check_157, rX1_check_158, rX1_check_159, rX1_check_162, rX1_check_165, rX1_check_166, rX1_check_168, rX1_check_171, rX1_check_172, rX1_check_173, rX1_check_174, rX1_check_177, rX1_check_180, rX1_check_181, rX1_check_183, rX1_check_186, rX1_check_187, rX1_check_188, rX1_check_189, rX1_check_192, rX1_check_195, rX1_check_196, rX1_check_198, rX1_check_201, rX1_check_202, rX1_check_203, rX1_check_204, rX1_check_207, rX1_check_210, rX1_check_211, rX1_check_212, rX1_check_213, rX1_check_216, rX1_check_219, rX1_check_222, rX1_check_223, rX1_check_224, rX1_check_227, rX1_check_228, rX1_check_231, rX1_check_234, rX1_check_235, rX1_check_238, rX1_check_241, rX1_check_242, rX1_check_245, r0X1_check_246, r1X1_check_246, rX1_check_246, ↓reduceIte, m1_le, m1_lt, m1_eq, ofInt_m1, ex_ret, Int32.reduceAdd, Int32.reduceSub, Int32.reduceMul, Int32.reduceLT, Int32.reduceLE, xsI, Nat.reduceEqDiff, and_false, false_and, and_true, true_and, if_true, if_false, ite_true, ite_false, xlook_0, xlook_s, xI_int, xA_ref, xJ_long, xK_some, xRow_row, xTo_some, xst1, xclr, List.set_cons_zero, List.set_cons_succ, xsum_nil, xsum_int, xsum_ref, xsum_long, Option.toList_some, Option.toList_none, List.nil_append, List.cons_append, a1', b1', hSc]
    exact h1 none
  · rw [eL, ← List.append_assoc, hD3]
    exact m6
  · have z : TN S6 := ⟨by rw [fr6.2.1 38 (by decide) (by decide) (by decide) (by decide) (by decide) (by decide) (by decide) (by decide) (by decide) (by decide)]; exact ty4.1, by rw [fr6.2.1 36 (by decide) (by decide) (by decide) (by decide) (by decide) (by decide) (by decide) (by decide) (by decide) (by decide)]; exact ty4.2⟩
    exact z
