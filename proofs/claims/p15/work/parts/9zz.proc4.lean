/-! Processor: go's begin and end. -/
def FrPr (S S1 : xS) : Prop := S1.2 = S.2 ∧ ∀ c, ¬ c = 11 → ¬ c = 66 → ¬ c = 14 → ¬ c = 15 → S1.1 c = S.1 c
def clS (S : xS) (k : Nat) : xS := (fun a b => if a = 66 ∧ b < k then 0 else S.1 a b, S.2)
theorem clS_at {S : xS} {k a b : Nat} : (clS S k).1 a b = if a = 66 ∧ b < k then 0 else S.1 a b := rfl
theorem clS_0 {S : xS} : clS S 0 = S := by
  refine Prod.ext (funext fun a => funext fun b => ?_) rfl
  exact if_neg (fun q => Nat.not_lt_zero _ q.2)
theorem clS_s {S : xS} {k : Nat} (hk : k < 32) : xput (clS S k) 66 32 (nI k) 0 = clS S (k + 1) := by
  rw [xput_in hk (by decide)]
  refine Prod.ext (funext fun a => funext fun b => ?_) rfl
  show (if a = 66 ∧ b = k then (0 : Int32) else if a = 66 ∧ b < k then 0 else S.1 a b) = (if a = 66 ∧ b < k + 1 then 0 else S.1 a b)
  by_cases h : a = 66
  · by_cases h1 : b = k
    · rw [if_pos ⟨h, h1⟩, if_pos ⟨h, by omega⟩]
    · rw [if_neg (fun q => h1 q.2)]
      by_cases h2 : b < k
      · rw [if_pos ⟨h, h2⟩, if_pos ⟨h, by omega⟩]
      · rw [if_neg (fun q => h2 q.2), if_neg (fun q => h2 (by have := q.2; omega))]
  · rw [if_neg (fun q => h q.1), if_neg (fun q => h q.1), if_neg (fun q => h q.1)]
section
variable {d n : Nat} {a b : Int32} {S S0 : xS}
set_option maxHeartbeats 4000000 in
set_option maxRecDepth 100000 in
theorem go_cl (r : xO) (hr : XL SK MT (d + 3) 225 (26, [some (.ref 11), some (.int a), some (.int b), some (.ref 15), some (.int 32), none, none, none, none, none], [], clS S 32) r) : ∀ (m k : Nat), k + m = 32 → XL SK MT (d + 3) 225 (3, [some (.ref 11), some (.int a), some (.int b), some (.ref 15), some (.int (nI k)), none, none, none, none, none], [], clS S k) r
  | 0, k, hk => by
    obtain rfl : k = 32 := by omega
    have e : (nI 32 : Int32) = 32 := rfl
    rw [e]
    simp (config := { decide := true }) only [rX8_go_3, rX8_go_5, rX8_go_7, ↓reduceIte, m1_le, m1_lt, m1_eq, ofInt_m1, ex_ret, Int32.reduceAdd, Int32.reduceSub, Int32.reduceMul, Int32.reduceLT, Int32.reduceLE, xsI, Nat.reduceEqDiff, and_false, false_and, and_true, true_and, if_true, if_false, ite_true, ite_false, xlook_0, xlook_s, xI_int, xA_ref, xJ_long, xK_some, xRow_row, xTo_some, xst1, xclr, List.set_cons_zero, List.set_cons_succ, xsum_nil, xsum_int, xsum_ref, xsum_long, Option.toList_some, Option.toList_none, List.nil_append, List.cons_append]
    exact hr
  | m + 1, k, hk => by
    have h1 : ¬ (32 : Int32) ≤ nI k := nI_ge (b := 32) (by omega) (by decide)
    have ih := go_cl r hr m (k + 1) (by omega)
    rw [← clS_s (by omega)] at ih
    rw [rX8_go_3]
    simp (config := { decide := true }) only [rX8_go_5, rX8_go_7, rX8_go_10, rX8_go_11, rX8_go_14, rX8_go_16, rX8_go_17, rX8_go_20, rX8_go_23, ↓reduceIte, m1_le, m1_lt, m1_eq, ofInt_m1, ex_ret, Int32.reduceAdd, Int32.reduceSub, Int32.reduceMul, Int32.reduceLT, Int32.reduceLE, xsI, Nat.reduceEqDiff, and_false, false_and, and_true, true_and, if_true, if_false, ite_true, ite_false, xlook_0, xlook_s, xI_int, xA_ref, xJ_long, xK_some, xRow_row, xTo_some, xst1, xclr, List.set_cons_zero, List.set_cons_succ, xsum_nil, xsum_int, xsum_ref, xsum_long, Option.toList_some, Option.toList_none, List.nil_append, List.cons_append, s_at (show SK[66]? = some (.inl (0, 32)) from rfl) (by decide : 32 < 2 ^ 31), s_put (show SK[66]? = some (.inl (0, 32)) from rfl) (by decide : 32 < 2 ^ 31), h1, nA1]
    exact ih
def goR : Nat → Int32 := fun _ => 0
set_option maxHeartbeats 4000000 in
set_option maxRecDepth 100000 in
theorem go_beg : ∃ S' r0, PR S S' (r0, upd (upd (S.1 14) 274 (b * 4)) 278 a, 19840, 19841, S.1 11 5, S.1 11 6, 0, S.1 11 8) ∧ (∀ j, j < 32 → r0 j = 0) ∧ ∀ d r, PrAt (d + 3) 0 a b S' r → XL SK MT (d + 3) 225 (0, [some (.ref 11), some (.int a), some (.int b), some (.ref 15), none, none, none, none, none, none], [], S) r := by
  refine ⟨xsetI (xsetI (xsetI (xsetI (xsetI (xsetI (clS S 32) 14 274 (b * 4)) 14 278 a) 11 2 79360) 11 3 79364) 11 7 0) 11 9 0, (clS S 32).1 66, ⟨rfl, ?_, rfl, rfl, rfl, rfl, rfl, rfl, rfl, ?_, rfl⟩, fun j hj => if_pos ⟨rfl, hj⟩, fun d r hr => ?_⟩
  · rw [xsetI_row (by decide), xsetI_row (by decide), xsetI_row (by decide), xsetI_row (by decide), xsetI_own, xsetI_own]
    have e : (clS S 32).1 14 = S.1 14 := funext fun j => (if_neg (show ¬ ((14 : Nat) = 66 ∧ j < 32) from fun q => absurd q.1 (by decide)) : (if (14 : Nat) = 66 ∧ j < 32 then (0 : Int32) else S.1 14 j) = S.1 14 j)
    rw [e]
  · intro c h1 h2 h3
    rw [xsetI_row h1, xsetI_row h1, xsetI_row h1, xsetI_row h1, xsetI_row h3, xsetI_row h3]
    exact funext fun j => if_neg (fun q => h2 q.1)
  · have h2 := go_cl (d := d) (a := a) (b := b) (S := S) r (by
      simp (config := { decide := true }) only [rX8_go_0, rX8_go_1, rX8_go_3, rX8_go_5, rX8_go_7, rX8_go_10, rX8_go_11, rX8_go_14, rX8_go_16, rX8_go_17, rX8_go_20, rX8_go_23, rX8_go_26, rX8_go_27, rX8_go_30, rX8_go_33, rX8_go_34, rX8_go_35, rX8_go_36, rX8_go_39, rX8_go_40, rX8_go_43, rX8_go_46, rX8_go_47, rX8_go_50, rX8_go_51, rX8_go_53, rX8_go_56, rX8_go_57, rX8_go_58, rX8_go_61, rX8_go_62, rX8_go_63, rX8_go_66, rX8_go_67, rX8_go_68, rX8_go_71, rX8_go_72, r0X8_go_73, r1X8_go_73, rX8_go_73, rX8_go_76, rX8_go_77, rX8_go_81, rX8_go_84, rX8_go_85, rX8_go_88, rX8_go_89, rX8_go_92, rX8_go_95, rX8_go_96, rX8_go_99, rX8_go_100, rX8_go_103, rX8_go_104, rX8_go_105, rX8_go_108, rX8_go_110, rX8_go_111, rX8_go_112, rX8_go_115, rX8_go_116, rX8_go_117, rX8_go_120, rX8_go_121, rX8_go_124, rX8_go_126, rX8_go_127, rX8_go_130, rX8_go_132, rX8_go_133, rX8_go_134, rX8_go_137, rX8_go_139, rX8_go_141, rX8_go_142, rX8_go_144, rX8_go_146, rX8_go_149, rX8_go_150, rX8_go_152, rX8_go_155, rX8_go_158, rX8_go_160, rX8_go_162, rX8_go_165, rX8_go_166, rX8_go_168, rX8_go_170, rX8_go_173, rX8_go_176, rX8_go_178, rX8_go_180, rX8_go_183, rX8_go_184, rX8_go_186, rX8_go_188, rX8_go_191, rX8_go_194, rX8_go_195, rX8_go_197, rX8_go_199, rX8_go_202, rX8_go_204, rX8_go_207, rX8_go_208, rX8_go_211, rX8_go_213, rX8_go_215, rX8_go_218, rX8_go_219, rX8_go_220, rX8_go_223, rX8_go_226, rX8_go_227, rX8_go_228, rX8_go_231, rX8_go_234, rX8_go_236, rX8_go_237, rX8_go_238, rX8_go_240, rX8_go_243, rX8_go_244, rX8_go_245, rX8_go_246, rX8_go_247, rX8_go_250, rX8_go_252, rX8_go_255, rX8_go_256, rX8_go_259, rX8_go_260, rX8_go_261, rX8_go_262, rX8_go_265, rX8_go_268, rX8_go_271, rX8_go_274, rX8_go_275, rX8_go_276, rX8_go_277, rX8_go_280, rX8_go_282, rX8_go_285, rX8_go_286, rX8_go_289, rX8_go_292, rX8_go_295, rX8_go_296, rX8_go_297, rX8_go_298, rX8_go_301, rX8_go_302, rX8_go_303, rX8_go_304, rX8_go_307, rX8_go_309, rX8_go_312, rX8_go_313, rX8_go_314, rX8_go_317, rX8_go_318, rX8_go_321, rX8_go_322, rX8_go_323, rX8_go_324, rX8_go_327, rX8_go_330, rX8_go_333, rX8_go_336, rX8_go_337, rX8_go_338, rX8_go_339, rX8_go_342, rX8_go_343, rX8_go_346, rX8_go_349, rX8_go_350, rX8_go_353, rX8_go_356, rX8_go_357, rX8_go_360, rX8_go_361, rX8_go_364, rX8_go_367, rX8_go_369, ↓reduceIte, m1_le, m1_lt, m1_eq, ofInt_m1, ex_ret, Int32.reduceAdd, Int32.reduceSub, Int32.reduceMul, Int32.reduceLT, Int32.reduceLE, xsI, Nat.reduceEqDiff, and_false, false_and, and_true, true_and, if_true, if_false, ite_true, ite_false, xlook_0, xlook_s, xI_int, xA_ref, xJ_long, xK_some, xRow_row, xTo_some, xst1, xclr, List.set_cons_zero, List.set_cons_succ, xsum_nil, xsum_int, xsum_ref, xsum_long, Option.toList_some, Option.toList_none, List.nil_append, List.cons_append, s_at (show SK[14]? = some (.inl (0, 281984)) from rfl) (by decide : 281984 < 2 ^ 31), s_put (show SK[14]? = some (.inl (0, 281984)) from rfl) (by decide : 281984 < 2 ^ 31), xput_l, Int32.reduceToNatClampNeg, xst2]
      exact hr _ _ _ _) 32 0 rfl
    rw [clS_0] at h2
    simp (config := { decide := true }) only [rX8_go_0, rX8_go_1, ↓reduceIte, m1_le, m1_lt, m1_eq, ofInt_m1, ex_ret, Int32.reduceAdd, Int32.reduceSub, Int32.reduceMul, Int32.reduceLT, Int32.reduceLE, xsI, Nat.reduceEqDiff, and_false, false_and, and_true, true_and, if_true, if_false, ite_true, ite_false, xlook_0, xlook_s, xI_int, xA_ref, xJ_long, xK_some, xRow_row, xTo_some, xst1, xclr, List.set_cons_zero, List.set_cons_succ, xsum_nil, xsum_int, xsum_ref, xsum_long, Option.toList_some, Option.toList_none, List.nil_append, List.cons_append]
    exact h2
set_option maxHeartbeats 4000000 in
set_option maxRecDepth 100000 in
theorem go_end {r m : Nat → Int32} {q p : Nat} {h l lw : Int32} (hS : PR S0 S (r, m, q, p, h, l, 0, lw)) (hn : n + 1 < 10000000) (hq : q < 281984) (hw : m q = 12) (h20 : r 20 = a) (h18 : r 18 = m 272) (h275 : m 275 = 0) (h276 : m 276 = 0) : ∃ S', PrAt (d + 3) n a b S (some (.int (r 2)), S') ∧ CN S' (r 3) ∧ FrPr S0 S' := by
  have x := hS.beg
  have e := p_sys (d := d) (S := tuA S) (w := 12) (by decide)
  obtain ⟨x1, x2, x3, x4, x5, x6, x7, x8, x9, x10, x11⟩ := hS
  have x7 : S.1 11 7 = 0 := x7
  have e3 : S.1 11 2 = nI (4 * q) := x3
  have e2 : S.1 14 = m := x2
  have hf : xat S 14 281984 (S.1 11 2 >>> ((2 : Int32) &&& 31)) = 12 := by
    rw [e3, pk_shrN (by omega) _ 2 (by decide), show 4 * q / 2 ^ 2 = q from by omega, xat_in hq (by decide), e2, hw]
  generalize hT : tuB (xsetI (tuA S) 11 9 1) (S.1 11 7) (S.1 11 8) = T
  have tt : T = xsetI (xsetI (xsetI (tuA S) 11 9 1) 11 2 ((xsetI (tuA S) 11 9 1).1 11 3)) 11 3 ((xsetI (tuA S) 11 9 1).1 11 4) := by
    rw [← hT, x7]
    unfold tuB
    have : tuL (xsetI (tuA S) 11 9 1) 0 (S.1 11 8) = xsetI (tuA S) 11 9 1 := if_pos rfl
    rw [this]
  have t1 : T.1 66 = r := by rw [tt]; exact x.1
  have t2 : T.1 14 = m := by rw [tt]; exact x.2.1
  have t3 : T.1 11 9 = 1 := by rw [tt]; rfl
  have t4 : ∀ c, c ≠ 11 → c ≠ 66 → c ≠ 14 → T.1 c = S0.1 c := fun c h1 h2 h3 => by rw [tt, xsetI_row h1, xsetI_row h1, xsetI_row h1]; exact x.2.2.2.2.2.2.2.2.2.1 c h1 h2 h3
  have t5 : T.2 = S0.2 := by rw [tt]; exact x11
  have r20 : T.1 66 20 = a := by rw [t1, h20]
  have r18 : T.1 66 18 = m 272 := by rw [t1, h18]
  have m272 : T.1 14 272 = m 272 := by rw [t2]
  have m275 : T.1 14 275 = 0 := by rw [t2, h275]
  have m276 : T.1 14 276 = 0 := by rw [t2, h276]
  have r2 : T.1 66 2 = r 2 := by rw [t1]
  have r3 : T.1 66 3 = r 3 := by rw [t1]
  have s0 : a - a = 0 := Int32.sub_self _
  have s1 : m 272 - m 272 = 0 := Int32.sub_self _
  refine ⟨xsetI (xsetI (xsetI (xsetI (xsetI (xsetI T 15 0 0) 15 1 0) 15 2 0) 15 3 (T.1 66 22 >>> ((2 : Int32) &&& 31) - 5632)) 15 4 0) 15 5 (r 3), p_turn (by omega) x9 hf (Or.inl ⟨by decide, e⟩) _ ?_, ⟨rfl, rfl, rfl, rfl, rfl⟩, t5, fun c q1 q2 q3 q4 => by rw [xsR q4, xsR q4, xsR q4, xsR q4, xsR q4, xsR q4]; exact t4 c q1 q2 q3⟩
  rw [hT]
  intro l6 l7 l8 l9
  have z2 : (0 : Int32) >>> ((2 : Int32) &&& 31) = 0 := by decide
  simp (config := { decide := true }) only [rX8_go_0, rX8_go_1, rX8_go_3, rX8_go_5, rX8_go_7, rX8_go_10, rX8_go_11, rX8_go_14, rX8_go_16, rX8_go_17, rX8_go_20, rX8_go_23, rX8_go_26, rX8_go_27, rX8_go_30, rX8_go_33, rX8_go_34, rX8_go_35, rX8_go_36, rX8_go_39, rX8_go_40, rX8_go_43, rX8_go_46, rX8_go_47, rX8_go_50, rX8_go_51, rX8_go_53, rX8_go_56, rX8_go_57, rX8_go_58, rX8_go_61, rX8_go_62, rX8_go_63, rX8_go_66, rX8_go_67, rX8_go_68, rX8_go_71, rX8_go_72, r0X8_go_73, r1X8_go_73, rX8_go_73, rX8_go_76, rX8_go_77, rX8_go_79, rX8_go_81, rX8_go_84, rX8_go_85, rX8_go_88, rX8_go_89, rX8_go_92, rX8_go_96, rX8_go_99, rX8_go_100, rX8_go_103, rX8_go_104, rX8_go_105, rX8_go_108, rX8_go_110, rX8_go_111, rX8_go_112, rX8_go_115, rX8_go_116, rX8_go_117, rX8_go_120, rX8_go_121, rX8_go_124, rX8_go_126, rX8_go_127, rX8_go_130, rX8_go_132, rX8_go_133, rX8_go_134, rX8_go_137, rX8_go_139, rX8_go_141, rX8_go_142, rX8_go_144, rX8_go_146, rX8_go_149, rX8_go_150, rX8_go_152, rX8_go_155, rX8_go_158, rX8_go_160, rX8_go_162, rX8_go_165, rX8_go_166, rX8_go_168, rX8_go_170, rX8_go_173, rX8_go_176, rX8_go_178, rX8_go_180, rX8_go_183, rX8_go_184, rX8_go_186, rX8_go_188, rX8_go_191, rX8_go_194, rX8_go_195, rX8_go_197, rX8_go_199, rX8_go_202, rX8_go_204, rX8_go_207, rX8_go_208, rX8_go_211, rX8_go_213, rX8_go_215, rX8_go_218, rX8_go_219, rX8_go_220, rX8_go_223, rX8_go_226, rX8_go_227, rX8_go_228, rX8_go_231, rX8_go_234, rX8_go_236, rX8_go_237, rX8_go_238, rX8_go_240, rX8_go_243, rX8_go_244, rX8_go_245, rX8_go_246, rX8_go_247, rX8_go_250, rX8_go_252, rX8_go_255, rX8_go_256, rX8_go_259, rX8_go_260, rX8_go_261, rX8_go_262, rX8_go_265, rX8_go_268, rX8_go_271, rX8_go_274, rX8_go_275, rX8_go_276, rX8_go_277, rX8_go_280, rX8_go_282, rX8_go_285, rX8_go_286, rX8_go_289, rX8_go_292, rX8_go_295, rX8_go_296, rX8_go_297, rX8_go_298, rX8_go_301, rX8_go_302, rX8_go_303, rX8_go_304, rX8_go_307, rX8_go_309, rX8_go_312, rX8_go_313, rX8_go_314, rX8_go_317, rX8_go_318, rX8_go_321, rX8_go_322, rX8_go_323, rX8_go_324, rX8_go_327, rX8_go_330, rX8_go_333, rX8_go_336, rX8_go_337, rX8_go_338, rX8_go_339, rX8_go_342, rX8_go_343, rX8_go_346, rX8_go_349, rX8_go_350, rX8_go_353, rX8_go_356, rX8_go_357, rX8_go_360, rX8_go_361, rX8_go_364, rX8_go_367, rX8_go_369, ↓reduceIte, m1_le, m1_lt, m1_eq, ofInt_m1, ex_ret, Int32.reduceAdd, Int32.reduceSub, Int32.reduceMul, Int32.reduceLT, Int32.reduceLE, xsI, Nat.reduceEqDiff, and_false, false_and, and_true, true_and, if_true, if_false, ite_true, ite_false, xlook_0, xlook_s, xI_int, xA_ref, xJ_long, xK_some, xRow_row, xTo_some, xst1, xclr, List.set_cons_zero, List.set_cons_succ, xsum_nil, xsum_int, xsum_ref, xsum_long, Option.toList_some, Option.toList_none, List.nil_append, List.cons_append, pr_lt (show n + 1 < 10000000 by omega), t3, r20, r18, m272, m275, m276, r2, r3, s0, s1, z2, s_at (show SK[15]? = some (.inl (0, 6)) from rfl) (by decide : 6 < 2 ^ 31), s_put (show SK[15]? = some (.inl (0, 6)) from rfl) (by decide : 6 < 2 ^ 31), s_at (show SK[14]? = some (.inl (0, 281984)) from rfl) (by decide : 281984 < 2 ^ 31), s_put (show SK[14]? = some (.inl (0, 281984)) from rfl) (by decide : 281984 < 2 ^ 31), s_at (show SK[66]? = some (.inl (0, 32)) from rfl) (by decide : 32 < 2 ^ 31), s_put (show SK[66]? = some (.inl (0, 32)) from rfl) (by decide : 32 < 2 ^ 31), xat_l, xput_l, Int32.reduceToNatClampNeg]
end
