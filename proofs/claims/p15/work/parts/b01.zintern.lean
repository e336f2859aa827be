/-! The Lexer's table of names: a new name put in. -/
theorem zbyte_in {S : xS} {a n m b : Nat} (h : m < n) (hn : n < 2 ^ 31) (hv : S.1 a m = nI b) (hb : b < 128) : xbyte S a n (nI m) = nI b := xbyte_in h hn hv hb
set_option maxHeartbeats 4000000 in
set_option maxRecDepth 100000 in
theorem zcmp {d : Nat} {S : xS} {w : List Nat} {h n t : Int32} {a : Nat} (hs : zScr S w) (hl : w.length ≤ 200) : ∀ k i, i + k = w.length → ∃ j, i ≤ j ∧ j ≤ w.length ∧ (∀ q, i ≤ q → q < j → xbyte S 1 12288 (nI (a + q)) = nI (w.getD q 0)) ∧ ∀ r, XL skL MT (d + 1) 119 (72, [some (.ref 0), some (.int (nI w.length)), some (.int h), some (.int n), some (.int t), some (.int (nI a)), some (.int (nI i))], [], S) r ↔ XL skL MT (d + 1) 119 (108, [some (.ref 0), some (.int (nI w.length)), some (.int h), some (.int n), some (.int t), some (.int (nI a)), some (.int (nI j))], [], S) r := by
  intro k
  induction k with
  | zero =>
    intro i hi
    obtain rfl : i = w.length := hi
    refine ⟨w.length, Nat.le_refl _, Nat.le_refl _, fun q h1 h2 => absurd h2 (by omega), fun r => ?_⟩
    rw [zX4_intern_72]
    simp (config := { decide := true }) only [zX4_intern_0, zX4_intern_1, zX4_intern_2, zX4_intern_3, zX4_intern_5, zX4_intern_6, zX4_intern_9, zX4_intern_10, zX4_intern_12, zX4_intern_13, zX4_intern_14, zX4_intern_17, zX4_intern_18, zX4_intern_21, zX4_intern_22, zX4_intern_23, zX4_intern_26, zX4_intern_30, zX4_intern_33, zX4_intern_34, zX4_intern_35, zX4_intern_36, zX4_intern_39, zX4_intern_40, zX4_intern_43, zX4_intern_44, zX4_intern_45, zX4_intern_47, zX4_intern_49, zX4_intern_52, zX4_intern_55, zX4_intern_56, zX4_intern_59, zX4_intern_60, zX4_intern_63, zX4_intern_64, zX4_intern_67, zX4_intern_69, zX4_intern_70, zX4_intern_74, zX4_intern_75, zX4_intern_78, zX4_intern_79, zX4_intern_82, zX4_intern_84, zX4_intern_86, zX4_intern_87, zX4_intern_90, zX4_intern_91, zX4_intern_94, zX4_intern_96, zX4_intern_99, zX4_intern_102, zX4_intern_105, zX4_intern_110, zX4_intern_111, zX4_intern_114, zX4_intern_115, zX4_intern_118, zX4_intern_119, zX4_intern_122, zX4_intern_123, zX4_intern_126, zX4_intern_127, zX4_intern_128, zX4_intern_129, zX4_intern_132, zX4_intern_133, zX4_intern_136, zX4_intern_137, zX4_intern_140, zX4_intern_143, ziX4_intern_144, zX4_intern_144, zX4_intern_145, zX4_intern_148, zX4_intern_149, zX4_intern_150, zX4_intern_151, zX4_intern_154, zX4_intern_155, zX4_intern_156, zX4_intern_159, zX4_intern_160, zX4_intern_161, zX4_intern_164, zX4_intern_167, zX4_intern_168, zX4_intern_171, zX4_intern_172, zX4_intern_173, zX4_intern_176, zX4_intern_177, zX4_intern_179, zX4_intern_181, zX4_intern_182, zX4_intern_185, zX4_intern_186, zX4_intern_189, zX4_intern_190, zX4_intern_193, zX4_intern_195, zX4_intern_196, zX4_intern_197, zX4_intern_200, zX4_intern_202, zX4_intern_205, zX4_intern_208, zX4_intern_211, zX4_intern_214, ziX4_intern_215, zX4_intern_215, zX4_intern_216, zX4_intern_219, zX4_intern_220, zX4_intern_221, zX4_intern_224, zX4_intern_225, zX4_intern_228, zX4_intern_229, zX4_intern_230, zX4_intern_233, zX4_intern_234, zX4_intern_237, zX4_intern_240, zX4_intern_241, zX4_intern_244, zX4_intern_245, zX4_intern_246, zX4_intern_249, zX4_intern_250, ↓reduceIte, m1_le, m1_lt, m1_eq, ofInt_m1, ex_ret, Int32.reduceAdd, Int32.reduceSub, Int32.reduceMul, Int32.reduceLT, Int32.reduceLE, xsI, Nat.reduceEqDiff, and_false, false_and, and_true, true_and, if_true, if_false, ite_true, ite_false, xlook_0, xlook_s, xI_int, xA_ref, xJ_long, xK_some, xRow_row, xTo_some, xst1, xclr, List.set_cons_zero, List.set_cons_succ, xsum_nil, xsum_int, xsum_ref, xsum_long, Option.toList_some, Option.toList_none, List.nil_append, List.cons_append, Int32.le_refl]
  | succ k ih =>
    intro i hi
    have hlt : i < w.length := by omega
    have hx : w[i]? = some w[i] := List.getElem?_eq_getElem hlt
    obtain ⟨h1, h2⟩ := hs i _ hx
    have h3 : ¬ nI w.length ≤ nI i := nI_ge hlt (by omega)
    have hg : w.getD i 0 = w[i] := by rw [List.getD_eq_getElem?_getD, hx]; rfl
    have sc : xbyte S 2 201 (nI i) = nI w[i] := xbyte_in (show i < 201 by omega) (by decide) h1 h2
    by_cases he : xbyte S 1 12288 (nI (a + i)) = nI w[i]
    · obtain ⟨j, j1, j2, j3, j4⟩ := ih (i + 1) (by omega)
      refine ⟨j, by omega, j2, fun q q1 q2 => ?_, fun r => ?_⟩
      · by_cases hq : q = i
        · rw [hq, hg]; exact he
        · exact j3 q (by omega) q2
      · rw [← j4 r, zX4_intern_72]
        simp (config := { decide := true }) only [zX4_intern_0, zX4_intern_1, zX4_intern_2, zX4_intern_3, zX4_intern_5, zX4_intern_6, zX4_intern_9, zX4_intern_10, zX4_intern_12, zX4_intern_13, zX4_intern_14, zX4_intern_17, zX4_intern_18, zX4_intern_21, zX4_intern_22, zX4_intern_23, zX4_intern_26, zX4_intern_30, zX4_intern_33, zX4_intern_34, zX4_intern_35, zX4_intern_36, zX4_intern_39, zX4_intern_40, zX4_intern_43, zX4_intern_44, zX4_intern_45, zX4_intern_47, zX4_intern_49, zX4_intern_52, zX4_intern_55, zX4_intern_56, zX4_intern_59, zX4_intern_60, zX4_intern_63, zX4_intern_64, zX4_intern_67, zX4_intern_69, zX4_intern_70, zX4_intern_74, zX4_intern_75, zX4_intern_78, zX4_intern_79, zX4_intern_82, zX4_intern_84, zX4_intern_86, zX4_intern_87, zX4_intern_90, zX4_intern_91, zX4_intern_94, zX4_intern_96, zX4_intern_99, zX4_intern_102, zX4_intern_105, zX4_intern_110, zX4_intern_111, zX4_intern_114, zX4_intern_115, zX4_intern_118, zX4_intern_119, zX4_intern_122, zX4_intern_123, zX4_intern_126, zX4_intern_127, zX4_intern_128, zX4_intern_129, zX4_intern_132, zX4_intern_133, zX4_intern_136, zX4_intern_137, zX4_intern_140, zX4_intern_143, ziX4_intern_144, zX4_intern_144, zX4_intern_145, zX4_intern_148, zX4_intern_149, zX4_intern_150, zX4_intern_151, zX4_intern_154, zX4_intern_155, zX4_intern_156, zX4_intern_159, zX4_intern_160, zX4_intern_161, zX4_intern_164, zX4_intern_167, zX4_intern_168, zX4_intern_171, zX4_intern_172, zX4_intern_173, zX4_intern_176, zX4_intern_177, zX4_intern_179, zX4_intern_181, zX4_intern_182, zX4_intern_185, zX4_intern_186, zX4_intern_189, zX4_intern_190, zX4_intern_193, zX4_intern_195, zX4_intern_196, zX4_intern_197, zX4_intern_200, zX4_intern_202, zX4_intern_205, zX4_intern_208, zX4_intern_211, zX4_intern_214, ziX4_intern_215, zX4_intern_215, zX4_intern_216, zX4_intern_219, zX4_intern_220, zX4_intern_221, zX4_intern_224, zX4_intern_225, zX4_intern_228, zX4_intern_229, zX4_intern_230, zX4_intern_233, zX4_intern_234, zX4_intern_237, zX4_intern_240, zX4_intern_241, zX4_intern_244, zX4_intern_245, zX4_intern_246, zX4_intern_249, zX4_intern_250, ↓reduceIte, m1_le, m1_lt, m1_eq, ofInt_m1, ex_ret, Int32.reduceAdd, Int32.reduceSub, Int32.reduceMul, Int32.reduceLT, Int32.reduceLE, xsI, Nat.reduceEqDiff, and_false, false_and, and_true, true_and, if_true, if_false, ite_true, ite_false, xlook_0, xlook_s, xI_int, xA_ref, xJ_long, xK_some, xRow_row, xTo_some, xst1, xclr, List.set_cons_zero, List.set_cons_succ, xsum_nil, xsum_int, xsum_ref, xsum_long, Option.toList_some, Option.toList_none, List.nil_append, List.cons_append, h3, zs_byteIn (show skL[2]? = some (.inl (1, 201)) from rfl) (by decide : 201 < 2 ^ 31), zs_byteIn (show skL[1]? = some (.inl (1, 12288)) from rfl) (by decide : 12288 < 2 ^ 31), nI_add, he, sc, not_true, nI_1]
    · refine ⟨i, Nat.le_refl _, by omega, fun q h1 h2 => absurd h2 (by omega), fun r => ?_⟩
      rw [zX4_intern_72]
      simp (config := { decide := true }) only [zX4_intern_0, zX4_intern_1, zX4_intern_2, zX4_intern_3, zX4_intern_5, zX4_intern_6, zX4_intern_9, zX4_intern_10, zX4_intern_12, zX4_intern_13, zX4_intern_14, zX4_intern_17, zX4_intern_18, zX4_intern_21, zX4_intern_22, zX4_intern_23, zX4_intern_26, zX4_intern_30, zX4_intern_33, zX4_intern_34, zX4_intern_35, zX4_intern_36, zX4_intern_39, zX4_intern_40, zX4_intern_43, zX4_intern_44, zX4_intern_45, zX4_intern_47, zX4_intern_49, zX4_intern_52, zX4_intern_55, zX4_intern_56, zX4_intern_59, zX4_intern_60, zX4_intern_63, zX4_intern_64, zX4_intern_67, zX4_intern_69, zX4_intern_70, zX4_intern_74, zX4_intern_75, zX4_intern_78, zX4_intern_79, zX4_intern_82, zX4_intern_84, zX4_intern_86, zX4_intern_87, zX4_intern_90, zX4_intern_91, zX4_intern_94, zX4_intern_96, zX4_intern_99, zX4_intern_102, zX4_intern_105, zX4_intern_110, zX4_intern_111, zX4_intern_114, zX4_intern_115, zX4_intern_118, zX4_intern_119, zX4_intern_122, zX4_intern_123, zX4_intern_126, zX4_intern_127, zX4_intern_128, zX4_intern_129, zX4_intern_132, zX4_intern_133, zX4_intern_136, zX4_intern_137, zX4_intern_140, zX4_intern_143, ziX4_intern_144, zX4_intern_144, zX4_intern_145, zX4_intern_148, zX4_intern_149, zX4_intern_150, zX4_intern_151, zX4_intern_154, zX4_intern_155, zX4_intern_156, zX4_intern_159, zX4_intern_160, zX4_intern_161, zX4_intern_164, zX4_intern_167, zX4_intern_168, zX4_intern_171, zX4_intern_172, zX4_intern_173, zX4_intern_176, zX4_intern_177, zX4_intern_179, zX4_intern_181, zX4_intern_182, zX4_intern_185, zX4_intern_186, zX4_intern_189, zX4_intern_190, zX4_intern_193, zX4_intern_195, zX4_intern_196, zX4_intern_197, zX4_intern_200, zX4_intern_202, zX4_intern_205, zX4_intern_208, zX4_intern_211, zX4_intern_214, ziX4_intern_215, zX4_intern_215, zX4_intern_216, zX4_intern_219, zX4_intern_220, zX4_intern_221, zX4_intern_224, zX4_intern_225, zX4_intern_228, zX4_intern_229, zX4_intern_230, zX4_intern_233, zX4_intern_234, zX4_intern_237, zX4_intern_240, zX4_intern_241, zX4_intern_244, zX4_intern_245, zX4_intern_246, zX4_intern_249, zX4_intern_250, ↓reduceIte, m1_le, m1_lt, m1_eq, ofInt_m1, ex_ret, Int32.reduceAdd, Int32.reduceSub, Int32.reduceMul, Int32.reduceLT, Int32.reduceLE, xsI, Nat.reduceEqDiff, and_false, false_and, and_true, true_and, if_true, if_false, ite_true, ite_false, xlook_0, xlook_s, xI_int, xA_ref, xJ_long, xK_some, xRow_row, xTo_some, xst1, xclr, List.set_cons_zero, List.set_cons_succ, xsum_nil, xsum_int, xsum_ref, xsum_long, Option.toList_some, Option.toList_none, List.nil_append, List.cons_append, h3, zs_byteIn (show skL[2]? = some (.inl (1, 201)) from rfl) (by decide : 201 < 2 ^ 31), zs_byteIn (show skL[1]? = some (.inl (1, 12288)) from rfl) (by decide : 12288 < 2 ^ 31), nI_add, he, sc, not_false_eq_true]
/-- a name's chain -/
def hsN (w : List Nat) : Nat := (lh w &&& 511).toNatClampNeg
theorem and511 (z : Int32) : ∃ m, m < 512 ∧ z &&& 511 = nI m := by
  refine ⟨(z &&& 511).toBitVec.toNat, ?_, ?_⟩
  · show (z.toBitVec &&& 511#32).toNat < 512
    rw [BitVec.toNat_and, show (511#32).toNat = 2 ^ 9 - 1 from rfl, Nat.and_two_pow_sub_one_eq_mod]
    omega
  · apply Int32.toBitVec_inj.mp
    show (z &&& 511).toBitVec = BitVec.ofNat 32 (z &&& 511).toBitVec.toNat
    rw [BitVec.ofNat_toNat, BitVec.setWidth_eq]
theorem hsN_eq (w : List Nat) : lh w &&& 511 = nI (hsN w) ∧ hsN w < 512 := by
  obtain ⟨m, h1, h2⟩ := and511 (lh w)
  have e : hsN w = m := by unfold hsN; rw [h2, nI_clamp (by omega)]
  rw [e]
  exact ⟨h2, h1⟩
/-- the last of the first m names in that chain -/
def hdU (L : List (List Nat)) (h : Nat) : Nat → Option Nat
  | 0 => none
  | m + 1 => if hsN (L.getD m []) = h then some m else hdU L h m
def encO : Option Nat → Int32
  | none => -1
  | some m => nI m
theorem hdU_lt {L : List (List Nat)} {h : Nat} : ∀ m q, hdU L h m = some q → q < m
  | 0, q, e => by cases e
  | m + 1, q, e => by
    unfold hdU at e
    split at e
    · cases e; omega
    · have := hdU_lt m q e; omega
theorem getD_app {α : Type} {L : List α} {w z : α} {m : Nat} (h : m < L.length) : (L ++ [w]).getD m z = L.getD m z := by rw [List.getD_eq_getElem?_getD, List.getD_eq_getElem?_getD, List.getElem?_append_left h]
theorem getD_last {α : Type} {L : List α} {w z : α} : (L ++ [w]).getD L.length z = w := by rw [List.getD_eq_getElem?_getD, List.getElem?_append_right (Nat.le_refl _), Nat.sub_self]; rfl
theorem hdU_app {L : List (List Nat)} {w : List Nat} {h : Nat} : ∀ m, m ≤ L.length → hdU (L ++ [w]) h m = hdU L h m
  | 0, _ => rfl
  | m + 1, hm => by
    unfold hdU
    rw [getD_app (by omega), hdU_app m (by omega)]
/-- the table holds these names -/
def NmT (S : xS) (L : List (List Nat)) : Prop := S.1 0 7 = nI L.length ∧ S.1 0 8 = nI L.flatten.length ∧ (∀ j b, L.flatten[j]? = some b → S.1 1 j = nI b ∧ b < 128) ∧ (∀ m, m < L.length → S.1 3 m = nI (L.take m).flatten.length ∧ S.1 4 m = nI (L.getD m []).length ∧ S.1 6 m = encO (hdU L (hsN (L.getD m [])) m)) ∧ ∀ h, h < 512 → S.1 5 h = encO (hdU L h L.length)
theorem flat_at {L : List (List Nat)} {m q b : Nat} (hb : (L.getD m [])[q]? = some b) : L.flatten[(L.take m).flatten.length + q]? = some b := by
  have hm : m < L.length := by
    by_cases h : m < L.length
    · exact h
    · rw [List.getD_eq_getElem?_getD, show L[m]? = none from List.getElem?_eq_none (by omega)] at hb; cases hb
  have e : L = L.take m ++ (L.getD m [] :: L.drop (m + 1)) := by
    rw [List.getD_eq_getElem?_getD, List.getElem?_eq_getElem hm]
    show L = L.take m ++ (L[m] :: L.drop (m + 1))
    rw [← List.drop_eq_getElem_cons hm, List.take_append_drop]
  have e2 : L.flatten = (L.take m).flatten ++ (L.getD m [] ++ (L.drop (m + 1)).flatten) := by
    conv => lhs; rw [e]
    rw [List.flatten_append, List.flatten_cons]
  rw [e2, List.getElem?_append_right (by omega), Nat.add_sub_cancel_left, List.getElem?_append_left (List.getElem?_eq_some_iff.mp hb).1]
  exact hb
set_option maxHeartbeats 4000000 in
set_option maxRecDepth 100000 in
/-- the chain holds no such name -/
theorem zchain {d hN : Nat} {S : xS} {L : List (List Nat)} {w : List Nat} (hT : NmT S L) (hs : zScr S w) (hl : w.length ≤ 200) (hh : hN = hsN w) (hne : ∀ m, m < L.length → ¬ L.getD m [] = w) (hL : L.length ≤ 1000) (hp : L.flatten.length ≤ 12000) :
    ∀ m t (p5 p6 : Option Value), m ≤ L.length → t + m ≤ 2000 → ∃ t' q5 q6, ∀ r, XL skL MT (d + 1) 119 (47, [some (.ref 0), some (.int (nI w.length)), some (.int (nI hN)), some (.int (encO (hdU L hN m))), some (.int (nI t)), p5, p6], [], S) r ↔ XL skL MT (d + 1) 119 (143, [some (.ref 0), some (.int (nI w.length)), some (.int (nI hN)), some (.int (-1)), some (.int t'), q5, q6], [], S) r := by
  intro m
  induction m with
  | zero =>
    intro t p5 p6 hm ht
    have h1 : ¬ 2176 ≤ nI t := nI_ge (b := 2176) (by omega) (by decide)
    refine ⟨nI t, p5, p6, fun r => ?_⟩
    rw [zX4_intern_47, show encO (hdU L hN 0) = -1 from rfl]
    simp (config := { decide := true }) only [zX4_intern_0, zX4_intern_1, zX4_intern_2, zX4_intern_3, zX4_intern_5, zX4_intern_6, zX4_intern_9, zX4_intern_10, zX4_intern_12, zX4_intern_13, zX4_intern_14, zX4_intern_17, zX4_intern_18, zX4_intern_21, zX4_intern_22, zX4_intern_23, zX4_intern_26, zX4_intern_30, zX4_intern_33, zX4_intern_34, zX4_intern_35, zX4_intern_36, zX4_intern_39, zX4_intern_40, zX4_intern_43, zX4_intern_44, zX4_intern_45, zX4_intern_49, zX4_intern_52, zX4_intern_55, zX4_intern_56, zX4_intern_59, zX4_intern_60, zX4_intern_63, zX4_intern_64, zX4_intern_67, zX4_intern_69, zX4_intern_70, zX4_intern_74, zX4_intern_75, zX4_intern_78, zX4_intern_79, zX4_intern_82, zX4_intern_84, zX4_intern_86, zX4_intern_87, zX4_intern_90, zX4_intern_91, zX4_intern_94, zX4_intern_96, zX4_intern_99, zX4_intern_102, zX4_intern_105, zX4_intern_110, zX4_intern_111, zX4_intern_114, zX4_intern_115, zX4_intern_118, zX4_intern_119, zX4_intern_122, zX4_intern_123, zX4_intern_126, zX4_intern_127, zX4_intern_128, zX4_intern_129, zX4_intern_132, zX4_intern_133, zX4_intern_136, zX4_intern_137, zX4_intern_140, ziX4_intern_144, zX4_intern_144, zX4_intern_145, zX4_intern_148, zX4_intern_149, zX4_intern_150, zX4_intern_151, zX4_intern_154, zX4_intern_155, zX4_intern_156, zX4_intern_159, zX4_intern_160, zX4_intern_161, zX4_intern_164, zX4_intern_167, zX4_intern_168, zX4_intern_171, zX4_intern_172, zX4_intern_173, zX4_intern_176, zX4_intern_177, zX4_intern_179, zX4_intern_181, zX4_intern_182, zX4_intern_185, zX4_intern_186, zX4_intern_189, zX4_intern_190, zX4_intern_193, zX4_intern_195, zX4_intern_196, zX4_intern_197, zX4_intern_200, zX4_intern_202, zX4_intern_205, zX4_intern_208, zX4_intern_211, zX4_intern_214, ziX4_intern_215, zX4_intern_215, zX4_intern_216, zX4_intern_219, zX4_intern_220, zX4_intern_221, zX4_intern_224, zX4_intern_225, zX4_intern_228, zX4_intern_229, zX4_intern_230, zX4_intern_233, zX4_intern_234, zX4_intern_237, zX4_intern_240, zX4_intern_241, zX4_intern_244, zX4_intern_245, zX4_intern_246, zX4_intern_249, zX4_intern_250, ↓reduceIte, m1_le, m1_lt, m1_eq, ofInt_m1, ex_ret, Int32.reduceAdd, Int32.reduceSub, Int32.reduceMul, Int32.reduceLT, Int32.reduceLE, xsI, Nat.reduceEqDiff, and_false, false_and, and_true, true_and, if_true, if_false, ite_true, ite_false, xlook_0, xlook_s, xI_int, xA_ref, xJ_long, xK_some, xRow_row, xTo_some, xst1, xclr, List.set_cons_zero, List.set_cons_succ, xsum_nil, xsum_int, xsum_ref, xsum_long, Option.toList_some, Option.toList_none, List.nil_append, List.cons_append, h1]
  | succ m ih =>
    intro t p5 p6 hm ht
    by_cases hq : hsN (L.getD m []) = hN
    · have e0 : hdU L hN (m + 1) = some m := by unfold hdU; rw [if_pos hq]
      have h1 : ¬ 2176 ≤ nI t := nI_ge (b := 2176) (by omega) (by decide)
      have h2 : ¬ nI m < 0 := nI_pos (by omega)
      obtain ⟨a1, a2, a3⟩ := hT.2.2.2.1 m (by omega)
      rw [hq] at a3
      have n1 : xat S 3 2176 (nI m) = nI (L.take m).flatten.length := by rw [xat_in (by omega) (by decide)]; exact a1
      have n2 : xat S 4 2176 (nI m) = nI (L.getD m []).length := by rw [xat_in (by omega) (by decide)]; exact a2
      have n3 : xat S 6 2176 (nI m) = encO (hdU L hN m) := by rw [xat_in (by omega) (by decide)]; exact a3
      obtain ⟨j, -, j2, j3, j4⟩ := zcmp (d := d) (S := S) (h := nI hN) (n := nI m) (t := nI t) (a := (L.take m).flatten.length) hs hl w.length 0 (by omega)
      obtain ⟨t', q5, q6, k1⟩ := ih (t + 1) (some (.int (nI (L.take m).flatten.length))) (some (.int (nI j))) (by omega) (by omega)
      refine ⟨t', q5, q6, fun r => ?_⟩
      have go : XL skL MT (d + 1) 119 (108, [some (.ref 0), some (.int (nI w.length)), some (.int (nI hN)), some (.int (nI m)), some (.int (nI t)), some (.int (nI (L.take m).flatten.length)), some (.int (nI j))], [], S) r ↔ XL skL MT (d + 1) 119 (47, [some (.ref 0), some (.int (nI w.length)), some (.int (nI hN)), some (.int (encO (hdU L hN m))), some (.int (nI (t + 1))), some (.int (nI (L.take m).flatten.length)), some (.int (nI j))], [], S) r := by
        rw [zX4_intern_108]
        by_cases hj : j = w.length
        · have hne2 : ¬ nI (L.getD m []).length = nI w.length := by
            intro z
            have hfl : (L.getD m []).length ≤ 12000 := by
              by_cases h0 : (L.getD m []).length = 0
              · omega
              · have b2 : (L.getD m [])[(L.getD m []).length - 1]? = some (L.getD m [])[(L.getD m []).length - 1] := List.getElem?_eq_getElem (by omega)
                have := (List.getElem?_eq_some_iff.mp (flat_at b2)).1
                omega
            have hlen := (nI_eq (by omega) (by omega)).mp z
            apply hne m (by omega)
            apply List.ext_getElem? 
            intro q
            by_cases hq2 : q < w.length
            · have b1 : w[q]? = some w[q] := List.getElem?_eq_getElem hq2
              have b2 : (L.getD m [])[q]? = some (L.getD m [])[q] := List.getElem?_eq_getElem (by omega)
              have b3 := hT.2.2.1 _ _ (flat_at b2)
              have b4 := j3 q (Nat.zero_le _) (by omega)
              rw [List.getD_eq_getElem?_getD, b1] at b4
              have hpos : (L.take m).flatten.length + q < 12288 := by have := (List.getElem?_eq_some_iff.mp (flat_at b2)).1; omega
              rw [xbyte_in hpos (by decide) b3.1 b3.2] at b4
              have hb5 := (hs q _ b1).2
              have : (L.getD m [])[q] = w[q] := (nI_eq (by omega) (by omega)).mp b4
              rw [b1, b2, this]
            · rw [List.getElem?_eq_none (by omega), List.getElem?_eq_none (by omega)]
          simp (config := { decide := true }) only [zX4_intern_0, zX4_intern_1, zX4_intern_2, zX4_intern_3, zX4_intern_5, zX4_intern_6, zX4_intern_9, zX4_intern_10, zX4_intern_12, zX4_intern_13, zX4_intern_14, zX4_intern_17, zX4_intern_18, zX4_intern_21, zX4_intern_22, zX4_intern_23, zX4_intern_26, zX4_intern_30, zX4_intern_33, zX4_intern_34, zX4_intern_35, zX4_intern_36, zX4_intern_39, zX4_intern_40, zX4_intern_43, zX4_intern_44, zX4_intern_45, zX4_intern_49, zX4_intern_52, zX4_intern_55, zX4_intern_56, zX4_intern_59, zX4_intern_60, zX4_intern_63, zX4_intern_64, zX4_intern_67, zX4_intern_69, zX4_intern_70, zX4_intern_74, zX4_intern_75, zX4_intern_78, zX4_intern_79, zX4_intern_82, zX4_intern_84, zX4_intern_86, zX4_intern_87, zX4_intern_90, zX4_intern_91, zX4_intern_94, zX4_intern_96, zX4_intern_99, zX4_intern_102, zX4_intern_105, zX4_intern_110, zX4_intern_111, zX4_intern_114, zX4_intern_115, zX4_intern_118, zX4_intern_119, zX4_intern_122, zX4_intern_123, zX4_intern_126, zX4_intern_127, zX4_intern_128, zX4_intern_129, zX4_intern_132, zX4_intern_133, zX4_intern_136, zX4_intern_137, zX4_intern_140, ziX4_intern_144, zX4_intern_144, zX4_intern_145, zX4_intern_148, zX4_intern_149, zX4_intern_150, zX4_intern_151, zX4_intern_154, zX4_intern_155, zX4_intern_156, zX4_intern_159, zX4_intern_160, zX4_intern_161, zX4_intern_164, zX4_intern_167, zX4_intern_168, zX4_intern_171, zX4_intern_172, zX4_intern_173, zX4_intern_176, zX4_intern_177, zX4_intern_179, zX4_intern_181, zX4_intern_182, zX4_intern_185, zX4_intern_186, zX4_intern_189, zX4_intern_190, zX4_intern_193, zX4_intern_195, zX4_intern_196, zX4_intern_197, zX4_intern_200, zX4_intern_202, zX4_intern_205, zX4_intern_208, zX4_intern_211, zX4_intern_214, ziX4_intern_215, zX4_intern_215, zX4_intern_216, zX4_intern_219, zX4_intern_220, zX4_intern_221, zX4_intern_224, zX4_intern_225, zX4_intern_228, zX4_intern_229, zX4_intern_230, zX4_intern_233, zX4_intern_234, zX4_intern_237, zX4_intern_240, zX4_intern_241, zX4_intern_244, zX4_intern_245, zX4_intern_246, zX4_intern_249, zX4_intern_250, ↓reduceIte, m1_le, m1_lt, m1_eq, ofInt_m1, ex_ret, Int32.reduceAdd, Int32.reduceSub, Int32.reduceMul, Int32.reduceLT, Int32.reduceLE, xsI, Nat.reduceEqDiff, and_false, false_and, and_true, true_and, if_true, if_false, ite_true, ite_false, xlook_0, xlook_s, xI_int, xA_ref, xJ_long, xK_some, xRow_row, xTo_some, xst1, xclr, List.set_cons_zero, List.set_cons_succ, xsum_nil, xsum_int, xsum_ref, xsum_long, Option.toList_some, Option.toList_none, List.nil_append, List.cons_append, hj, not_true, zs_at (show skL[4]? = some (.inl (0, 2176)) from rfl) (by decide : 2176 < 2 ^ 31), n2, hne2, not_false_eq_true, zs_at (show skL[6]? = some (.inl (0, 2176)) from rfl) (by decide : 2176 < 2 ^ 31), n3, nI_1]
        · have hj3 : ¬ nI j = nI w.length := fun z => hj ((nI_eq (by omega) (by omega)).mp z)
          simp (config := { decide := true }) only [zX4_intern_0, zX4_intern_1, zX4_intern_2, zX4_intern_3, zX4_intern_5, zX4_intern_6, zX4_intern_9, zX4_intern_10, zX4_intern_12, zX4_intern_13, zX4_intern_14, zX4_intern_17, zX4_intern_18, zX4_intern_21, zX4_intern_22, zX4_intern_23, zX4_intern_26, zX4_intern_30, zX4_intern_33, zX4_intern_34, zX4_intern_35, zX4_intern_36, zX4_intern_39, zX4_intern_40, zX4_intern_43, zX4_intern_44, zX4_intern_45, zX4_intern_49, zX4_intern_52, zX4_intern_55, zX4_intern_56, zX4_intern_59, zX4_intern_60, zX4_intern_63, zX4_intern_64, zX4_intern_67, zX4_intern_69, zX4_intern_70, zX4_intern_74, zX4_intern_75, zX4_intern_78, zX4_intern_79, zX4_intern_82, zX4_intern_84, zX4_intern_86, zX4_intern_87, zX4_intern_90, zX4_intern_91, zX4_intern_94, zX4_intern_96, zX4_intern_99, zX4_intern_102, zX4_intern_105, zX4_intern_110, zX4_intern_111, zX4_intern_114, zX4_intern_115, zX4_intern_118, zX4_intern_119, zX4_intern_122, zX4_intern_123, zX4_intern_126, zX4_intern_127, zX4_intern_128, zX4_intern_129, zX4_intern_132, zX4_intern_133, zX4_intern_136, zX4_intern_137, zX4_intern_140, ziX4_intern_144, zX4_intern_144, zX4_intern_145, zX4_intern_148, zX4_intern_149, zX4_intern_150, zX4_intern_151, zX4_intern_154, zX4_intern_155, zX4_intern_156, zX4_intern_159, zX4_intern_160, zX4_intern_161, zX4_intern_164, zX4_intern_167, zX4_intern_168, zX4_intern_171, zX4_intern_172, zX4_intern_173, zX4_intern_176, zX4_intern_177, zX4_intern_179, zX4_intern_181, zX4_intern_182, zX4_intern_185, zX4_intern_186, zX4_intern_189, zX4_intern_190, zX4_intern_193, zX4_intern_195, zX4_intern_196, zX4_intern_197, zX4_intern_200, zX4_intern_202, zX4_intern_205, zX4_intern_208, zX4_intern_211, zX4_intern_214, ziX4_intern_215, zX4_intern_215, zX4_intern_216, zX4_intern_219, zX4_intern_220, zX4_intern_221, zX4_intern_224, zX4_intern_225, zX4_intern_228, zX4_intern_229, zX4_intern_230, zX4_intern_233, zX4_intern_234, zX4_intern_237, zX4_intern_240, zX4_intern_241, zX4_intern_244, zX4_intern_245, zX4_intern_246, zX4_intern_249, zX4_intern_250, ↓reduceIte, m1_le, m1_lt, m1_eq, ofInt_m1, ex_ret, Int32.reduceAdd, Int32.reduceSub, Int32.reduceMul, Int32.reduceLT, Int32.reduceLE, xsI, Nat.reduceEqDiff, and_false, false_and, and_true, true_and, if_true, if_false, ite_true, ite_false, xlook_0, xlook_s, xI_int, xA_ref, xJ_long, xK_some, xRow_row, xTo_some, xst1, xclr, List.set_cons_zero, List.set_cons_succ, xsum_nil, xsum_int, xsum_ref, xsum_long, Option.toList_some, Option.toList_none, List.nil_append, List.cons_append, hj3, not_false_eq_true, zs_at (show skL[6]? = some (.inl (0, 2176)) from rfl) (by decide : 2176 < 2 ^ 31), n3, nI_1]
      rw [e0, ← k1 r, ← go, ← j4 r, zX4_intern_47, show encO (some m) = nI m from rfl]
      simp (config := { decide := true }) only [zX4_intern_0, zX4_intern_1, zX4_intern_2, zX4_intern_3, zX4_intern_5, zX4_intern_6, zX4_intern_9, zX4_intern_10, zX4_intern_12, zX4_intern_13, zX4_intern_14, zX4_intern_17, zX4_intern_18, zX4_intern_21, zX4_intern_22, zX4_intern_23, zX4_intern_26, zX4_intern_30, zX4_intern_33, zX4_intern_34, zX4_intern_35, zX4_intern_36, zX4_intern_39, zX4_intern_40, zX4_intern_43, zX4_intern_44, zX4_intern_45, zX4_intern_49, zX4_intern_52, zX4_intern_55, zX4_intern_56, zX4_intern_59, zX4_intern_60, zX4_intern_63, zX4_intern_64, zX4_intern_67, zX4_intern_69, zX4_intern_70, zX4_intern_74, zX4_intern_75, zX4_intern_78, zX4_intern_79, zX4_intern_82, zX4_intern_84, zX4_intern_86, zX4_intern_87, zX4_intern_90, zX4_intern_91, zX4_intern_94, zX4_intern_96, zX4_intern_99, zX4_intern_102, zX4_intern_105, zX4_intern_110, zX4_intern_111, zX4_intern_114, zX4_intern_115, zX4_intern_118, zX4_intern_119, zX4_intern_122, zX4_intern_123, zX4_intern_126, zX4_intern_127, zX4_intern_128, zX4_intern_129, zX4_intern_132, zX4_intern_133, zX4_intern_136, zX4_intern_137, zX4_intern_140, ziX4_intern_144, zX4_intern_144, zX4_intern_145, zX4_intern_148, zX4_intern_149, zX4_intern_150, zX4_intern_151, zX4_intern_154, zX4_intern_155, zX4_intern_156, zX4_intern_159, zX4_intern_160, zX4_intern_161, zX4_intern_164, zX4_intern_167, zX4_intern_168, zX4_intern_171, zX4_intern_172, zX4_intern_173, zX4_intern_176, zX4_intern_177, zX4_intern_179, zX4_intern_181, zX4_intern_182, zX4_intern_185, zX4_intern_186, zX4_intern_189, zX4_intern_190, zX4_intern_193, zX4_intern_195, zX4_intern_196, zX4_intern_197, zX4_intern_200, zX4_intern_202, zX4_intern_205, zX4_intern_208, zX4_intern_211, zX4_intern_214, ziX4_intern_215, zX4_intern_215, zX4_intern_216, zX4_intern_219, zX4_intern_220, zX4_intern_221, zX4_intern_224, zX4_intern_225, zX4_intern_228, zX4_intern_229, zX4_intern_230, zX4_intern_233, zX4_intern_234, zX4_intern_237, zX4_intern_240, zX4_intern_241, zX4_intern_244, zX4_intern_245, zX4_intern_246, zX4_intern_249, zX4_intern_250, ↓reduceIte, m1_le, m1_lt, m1_eq, ofInt_m1, ex_ret, Int32.reduceAdd, Int32.reduceSub, Int32.reduceMul, Int32.reduceLT, Int32.reduceLE, xsI, Nat.reduceEqDiff, and_false, false_and, and_true, true_and, if_true, if_false, ite_true, ite_false, xlook_0, xlook_s, xI_int, xA_ref, xJ_long, xK_some, xRow_row, xTo_some, xst1, xclr, List.set_cons_zero, List.set_cons_succ, xsum_nil, xsum_int, xsum_ref, xsum_long, Option.toList_some, Option.toList_none, List.nil_append, List.cons_append, h1, h2, zs_at (show skL[3]? = some (.inl (0, 2176)) from rfl) (by decide : 2176 < 2 ^ 31), n1]
      rfl
    · have e0 : hdU L hN (m + 1) = hdU L hN m := by
        show (if hsN (L.getD m []) = hN then some m else hdU L hN m) = _
        rw [if_neg hq]
      rw [e0]
      exact ih t p5 p6 (by omega) (by omega)
