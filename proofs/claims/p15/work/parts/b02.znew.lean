/-! The Lexer's table of names: what is new is written. -/
/-- so many bytes of the name in the pool -/
def cpS (S : xS) (ps : Nat) (l : List Nat) : xS := (fun a b => if a = 1 ∧ ps ≤ b ∧ b < ps + l.length then nI (l.getD (b - ps) 0) else S.1 a b, S.2)
theorem cpS_0 {S : xS} {ps : Nat} : cpS S ps [] = S := by
  unfold cpS
  refine Prod.ext ?_ rfl
  funext a b
  show (if a = 1 ∧ ps ≤ b ∧ b < ps + 0 then _ else S.1 a b) = S.1 a b
  rw [if_neg (by omega)]
theorem cpS_s {S : xS} {ps b : Nat} {l : List Nat} : xsetI (cpS S ps l) 1 (ps + l.length) (nI b) = cpS S ps (l ++ [b]) := by
  refine Prod.ext ?_ rfl
  funext x y
  have hl : (l ++ [b]).length = l.length + 1 := by rw [List.length_append]; rfl
  show (if x = 1 ∧ y = ps + l.length then nI b else if x = 1 ∧ ps ≤ y ∧ y < ps + l.length then nI (l.getD (y - ps) 0) else S.1 x y) = if x = 1 ∧ ps ≤ y ∧ y < ps + (l ++ [b]).length then nI ((l ++ [b]).getD (y - ps) 0) else S.1 x y
  rw [hl]
  by_cases h1 : x = 1
  · subst h1
    by_cases h2 : y = ps + l.length
    · subst h2
      rw [if_pos ⟨rfl, rfl⟩, if_pos ⟨rfl, by omega⟩, Nat.add_sub_cancel_left, List.getD_eq_getElem?_getD, List.getElem?_append_right (Nat.le_refl _), Nat.sub_self]
      rfl
    · rw [if_neg (fun z => h2 z.2)]
      by_cases h3 : ps ≤ y ∧ y < ps + l.length
      · rw [if_pos ⟨rfl, h3⟩, if_pos ⟨rfl, h3.1, by omega⟩, List.getD_eq_getElem?_getD, List.getD_eq_getElem?_getD, List.getElem?_append_left (by omega)]
      · rw [if_neg (fun z => h3 z.2), if_neg (by omega)]
  · rw [if_neg (fun z => h1 z.1), if_neg (fun z => h1 z.1), if_neg (fun z => h1 z.1)]
theorem cpS_row {S : xS} {ps a : Nat} {l : List Nat} (h : ¬ a = 1) : (cpS S ps l).1 a = S.1 a := by
  funext b
  show (if a = 1 ∧ _ then _ else S.1 a b) = S.1 a b
  rw [if_neg (fun z => h z.1)]
set_option maxHeartbeats 4000000 in
set_option maxRecDepth 100000 in
theorem zcopy {d ps : Nat} {S : xS} {w : List Nat} {h n : Int32} {p5 p6 : Option Value} {r : xO} (hs : zScr S w) (hl : w.length ≤ 200) (hp : ps + w.length ≤ 12288) (h8 : S.1 0 8 = nI ps) : ∀ k i, i + k = w.length → (XL skL MT (d + 1) 119 (179, [some (.ref 0), some (.int (nI w.length)), some (.int h), some (.int n), some (.int (nI i)), p5, p6], [], cpS S ps (w.take i)) r ↔ XL skL MT (d + 1) 119 (214, [some (.ref 0), some (.int (nI w.length)), some (.int h), some (.int n), some (.int (nI w.length)), p5, p6], [], cpS S ps w) r) := by
  intro k
  induction k with
  | zero =>
    intro i hi
    obtain rfl : i = w.length := hi
    rw [List.take_length, zX4_intern_179]
    simp (config := { decide := true }) only [zX4_intern_0, zX4_intern_1, zX4_intern_2, zX4_intern_3, zX4_intern_5, zX4_intern_6, zX4_intern_9, zX4_intern_10, zX4_intern_12, zX4_intern_13, zX4_intern_14, zX4_intern_17, zX4_intern_18, zX4_intern_21, zX4_intern_22, zX4_intern_23, zX4_intern_26, zX4_intern_30, zX4_intern_33, zX4_intern_34, zX4_intern_35, zX4_intern_36, zX4_intern_39, zX4_intern_40, zX4_intern_43, zX4_intern_44, zX4_intern_45, zX4_intern_49, zX4_intern_52, zX4_intern_55, zX4_intern_56, zX4_intern_59, zX4_intern_60, zX4_intern_63, zX4_intern_64, zX4_intern_67, zX4_intern_69, zX4_intern_70, zX4_intern_74, zX4_intern_75, zX4_intern_78, zX4_intern_79, zX4_intern_82, zX4_intern_84, zX4_intern_86, zX4_intern_87, zX4_intern_90, zX4_intern_91, zX4_intern_94, zX4_intern_96, zX4_intern_99, zX4_intern_102, zX4_intern_105, zX4_intern_110, zX4_intern_111, zX4_intern_114, zX4_intern_115, zX4_intern_118, zX4_intern_119, zX4_intern_122, zX4_intern_123, zX4_intern_126, zX4_intern_127, zX4_intern_128, zX4_intern_129, zX4_intern_132, zX4_intern_133, zX4_intern_136, zX4_intern_137, zX4_intern_140, ziX4_intern_144, zX4_intern_144, zX4_intern_145, zX4_intern_148, zX4_intern_149, zX4_intern_150, zX4_intern_151, zX4_intern_154, zX4_intern_155, zX4_intern_156, zX4_intern_159, zX4_intern_160, zX4_intern_161, zX4_intern_164, zX4_intern_167, zX4_intern_168, zX4_intern_171, zX4_intern_172, zX4_intern_173, zX4_intern_176, zX4_intern_177, zX4_intern_181, zX4_intern_182, zX4_intern_185, zX4_intern_186, zX4_intern_189, zX4_intern_190, zX4_intern_193, zX4_intern_195, zX4_intern_196, zX4_intern_197, zX4_intern_200, zX4_intern_202, zX4_intern_205, zX4_intern_208, zX4_intern_211, ziX4_intern_215, zX4_intern_215, zX4_intern_216, zX4_intern_219, zX4_intern_220, zX4_intern_221, zX4_intern_224, zX4_intern_225, zX4_intern_228, zX4_intern_229, zX4_intern_230, zX4_intern_233, zX4_intern_234, zX4_intern_237, zX4_intern_240, zX4_intern_241, zX4_intern_244, zX4_intern_245, zX4_intern_246, zX4_intern_249, zX4_intern_250, ↓reduceIte, m1_le, m1_lt, m1_eq, ofInt_m1, ex_ret, Int32.reduceAdd, Int32.reduceSub, Int32.reduceMul, Int32.reduceLT, Int32.reduceLE, xsI, Nat.reduceEqDiff, and_false, false_and, and_true, true_and, if_true, if_false, ite_true, ite_false, xlook_0, xlook_s, xI_int, xA_ref, xJ_long, xK_some, xRow_row, xTo_some, xst1, xclr, List.set_cons_zero, List.set_cons_succ, xsum_nil, xsum_int, xsum_ref, xsum_long, Option.toList_some, Option.toList_none, List.nil_append, List.cons_append, Int32.le_refl]
  | succ k ih =>
    intro i hi
    have hlt : i < w.length := by omega
    have hx : w[i]? = some w[i] := List.getElem?_eq_getElem hlt
    obtain ⟨h1, h2⟩ := hs i _ hx
    have h3 : ¬ nI w.length ≤ nI i := nI_ge hlt (by omega)
    have ht : (w.take i).length = i := by rw [List.length_take]; omega
    have sc : xbyte (cpS S ps (w.take i)) 2 201 (nI i) = nI w[i] := xbyte_in (show i < 201 by omega) (by decide) (by rw [cpS_row (by decide)]; exact h1) h2
    have p8 : (cpS S ps (w.take i)).1 0 8 = nI ps := by rw [cpS_row (by decide)]; exact h8
    have hput : ∀ S2 : xS, xputb S2 1 12288 (nI (ps + i)) (nI w[i]) = xsetI S2 1 (ps + i) (nI w[i]) := fun S2 => xputb_in (by omega) (by decide) h2
    have e : xsetI (cpS S ps (w.take i)) 1 (ps + i) (nI w[i]) = cpS S ps (w.take (i + 1)) := by
      have := cpS_s (S := S) (ps := ps) (b := w[i]) (l := w.take i)
      rw [ht] at this
      rw [this, List.take_succ, hx]
      rfl
    rw [← ih (i + 1) (by omega), zX4_intern_179]
    simp (config := { decide := true }) only [zX4_intern_0, zX4_intern_1, zX4_intern_2, zX4_intern_3, zX4_intern_5, zX4_intern_6, zX4_intern_9, zX4_intern_10, zX4_intern_12, zX4_intern_13, zX4_intern_14, zX4_intern_17, zX4_intern_18, zX4_intern_21, zX4_intern_22, zX4_intern_23, zX4_intern_26, zX4_intern_30, zX4_intern_33, zX4_intern_34, zX4_intern_35, zX4_intern_36, zX4_intern_39, zX4_intern_40, zX4_intern_43, zX4_intern_44, zX4_intern_45, zX4_intern_49, zX4_intern_52, zX4_intern_55, zX4_intern_56, zX4_intern_59, zX4_intern_60, zX4_intern_63, zX4_intern_64, zX4_intern_67, zX4_intern_69, zX4_intern_70, zX4_intern_74, zX4_intern_75, zX4_intern_78, zX4_intern_79, zX4_intern_82, zX4_intern_84, zX4_intern_86, zX4_intern_87, zX4_intern_90, zX4_intern_91, zX4_intern_94, zX4_intern_96, zX4_intern_99, zX4_intern_102, zX4_intern_105, zX4_intern_110, zX4_intern_111, zX4_intern_114, zX4_intern_115, zX4_intern_118, zX4_intern_119, zX4_intern_122, zX4_intern_123, zX4_intern_126, zX4_intern_127, zX4_intern_128, zX4_intern_129, zX4_intern_132, zX4_intern_133, zX4_intern_136, zX4_intern_137, zX4_intern_140, ziX4_intern_144, zX4_intern_144, zX4_intern_145, zX4_intern_148, zX4_intern_149, zX4_intern_150, zX4_intern_151, zX4_intern_154, zX4_intern_155, zX4_intern_156, zX4_intern_159, zX4_intern_160, zX4_intern_161, zX4_intern_164, zX4_intern_167, zX4_intern_168, zX4_intern_171, zX4_intern_172, zX4_intern_173, zX4_intern_176, zX4_intern_177, zX4_intern_181, zX4_intern_182, zX4_intern_185, zX4_intern_186, zX4_intern_189, zX4_intern_190, zX4_intern_193, zX4_intern_195, zX4_intern_196, zX4_intern_197, zX4_intern_200, zX4_intern_202, zX4_intern_205, zX4_intern_208, zX4_intern_211, ziX4_intern_215, zX4_intern_215, zX4_intern_216, zX4_intern_219, zX4_intern_220, zX4_intern_221, zX4_intern_224, zX4_intern_225, zX4_intern_228, zX4_intern_229, zX4_intern_230, zX4_intern_233, zX4_intern_234, zX4_intern_237, zX4_intern_240, zX4_intern_241, zX4_intern_244, zX4_intern_245, zX4_intern_246, zX4_intern_249, zX4_intern_250, ↓reduceIte, m1_le, m1_lt, m1_eq, ofInt_m1, ex_ret, Int32.reduceAdd, Int32.reduceSub, Int32.reduceMul, Int32.reduceLT, Int32.reduceLE, xsI, Nat.reduceEqDiff, and_false, false_and, and_true, true_and, if_true, if_false, ite_true, ite_false, xlook_0, xlook_s, xI_int, xA_ref, xJ_long, xK_some, xRow_row, xTo_some, xst1, xclr, List.set_cons_zero, List.set_cons_succ, xsum_nil, xsum_int, xsum_ref, xsum_long, Option.toList_some, Option.toList_none, List.nil_append, List.cons_append, h3, p8, nI_add, zs_byteIn (show skL[2]? = some (.inl (1, 201)) from rfl) (by decide : 201 < 2 ^ 31), zs_putByte (show skL[1]? = some (.inl (1, 12288)) from rfl) (by decide : 12288 < 2 ^ 31), sc, hput, e, nI_1]
/-- a new name -/
def nwS (S : xS) (n ps hN : Nat) (w : List Nat) : xS := xsetI (xsetI (xsetI (cpS (xsetI (xsetI (xsetI S 0 7 (nI (n + 1))) 3 n (nI ps)) 4 n (nI w.length)) ps w) 0 8 (nI (ps + w.length))) 6 n (S.1 5 hN)) 5 hN (nI n)
set_option maxHeartbeats 4000000 in
set_option maxRecDepth 100000 in
theorem z_intern {d : Nat} {S : xS} {L : List (List Nat)} {w : List Nat} (hT : NmT S L) (hs : zScr S w) (hl : w.length ≤ 200) (hne : ∀ m, m < L.length → ¬ L.getD m [] = w) (hL : L.length ≤ 1000) (hp : L.flatten.length ≤ 12000) :
    XC skL MT (d + 2) 119 [.ref 0, .int (nI w.length)] S = some (some (.int (nI L.length)), nwS S L.length L.flatten.length (hsN w) w) := by
  obtain ⟨e1, e2⟩ := hsN_eq w
  obtain ⟨t', q5, q6, k1⟩ := zchain (d := d) hT hs hl rfl hne hL hp L.length 0 none none (Nat.le_refl _) (by omega)
  obtain ⟨b1, b2, b3, b4, b5⟩ := hT
  have hh := b5 _ e2
  have hd : xat S 5 512 (nI (hsN w)) = encO (hdU L (hsN w) L.length) := by rw [xat_in e2 (by decide)]; exact hh
  rw [XC_iff]
  refine ⟨Nat.le_of_ble_eq_true rfl, ?_⟩
  show XL skL MT (d + 1) 119 (0, [some (.ref 0), some (.int (nI w.length)), none, none, none, none, none], [], S) _
  simp (config := { decide := true }) only [zX4_intern_0, zX4_intern_1, zX4_intern_2, zX4_intern_3, zX4_intern_5, zX4_intern_6, zX4_intern_9, zX4_intern_10, zX4_intern_12, zX4_intern_13, zX4_intern_14, zX4_intern_17, zX4_intern_18, zX4_intern_21, zX4_intern_22, zX4_intern_23, zX4_intern_26, zX4_intern_30, zX4_intern_33, zX4_intern_34, zX4_intern_35, zX4_intern_36, zX4_intern_39, zX4_intern_40, zX4_intern_43, zX4_intern_44, zX4_intern_45, zX4_intern_49, zX4_intern_52, zX4_intern_55, zX4_intern_56, zX4_intern_59, zX4_intern_60, zX4_intern_63, zX4_intern_64, zX4_intern_67, zX4_intern_69, zX4_intern_70, zX4_intern_74, zX4_intern_75, zX4_intern_78, zX4_intern_79, zX4_intern_82, zX4_intern_84, zX4_intern_86, zX4_intern_87, zX4_intern_90, zX4_intern_91, zX4_intern_94, zX4_intern_96, zX4_intern_99, zX4_intern_102, zX4_intern_105, zX4_intern_110, zX4_intern_111, zX4_intern_114, zX4_intern_115, zX4_intern_118, zX4_intern_119, zX4_intern_122, zX4_intern_123, zX4_intern_126, zX4_intern_127, zX4_intern_128, zX4_intern_129, zX4_intern_132, zX4_intern_133, zX4_intern_136, zX4_intern_137, zX4_intern_140, ziX4_intern_144, zX4_intern_144, zX4_intern_145, zX4_intern_148, zX4_intern_149, zX4_intern_150, zX4_intern_151, zX4_intern_154, zX4_intern_155, zX4_intern_156, zX4_intern_159, zX4_intern_160, zX4_intern_161, zX4_intern_164, zX4_intern_167, zX4_intern_168, zX4_intern_171, zX4_intern_172, zX4_intern_173, zX4_intern_176, zX4_intern_177, zX4_intern_181, zX4_intern_182, zX4_intern_185, zX4_intern_186, zX4_intern_189, zX4_intern_190, zX4_intern_193, zX4_intern_195, zX4_intern_196, zX4_intern_197, zX4_intern_200, zX4_intern_202, zX4_intern_205, zX4_intern_208, zX4_intern_211, ziX4_intern_215, zX4_intern_215, zX4_intern_216, zX4_intern_219, zX4_intern_220, zX4_intern_221, zX4_intern_224, zX4_intern_225, zX4_intern_228, zX4_intern_229, zX4_intern_230, zX4_intern_233, zX4_intern_234, zX4_intern_237, zX4_intern_240, zX4_intern_241, zX4_intern_244, zX4_intern_245, zX4_intern_246, zX4_intern_249, zX4_intern_250, ↓reduceIte, m1_le, m1_lt, m1_eq, ofInt_m1, ex_ret, Int32.reduceAdd, Int32.reduceSub, Int32.reduceMul, Int32.reduceLT, Int32.reduceLE, xsI, Nat.reduceEqDiff, and_false, false_and, and_true, true_and, if_true, if_false, ite_true, ite_false, xlook_0, xlook_s, xI_int, xA_ref, xJ_long, xK_some, xRow_row, xTo_some, xst1, xclr, List.set_cons_zero, List.set_cons_succ, xsum_nil, xsum_int, xsum_ref, xsum_long, Option.toList_some, Option.toList_none, List.nil_append, List.cons_append]
  have e0 := zhash_loop (d := d) (r := (some (.int (nI L.length)), nwS S L.length L.flatten.length (hsN w) w)) hs hl w.length 0 (by omega)
  rw [show (0 : Int32) = nI 0 from rfl] at *
  refine e0.mpr ?_
  rw [zX4_intern_29]
  simp (config := { decide := true }) only [zX4_intern_0, zX4_intern_1, zX4_intern_2, zX4_intern_3, zX4_intern_5, zX4_intern_6, zX4_intern_9, zX4_intern_10, zX4_intern_12, zX4_intern_13, zX4_intern_14, zX4_intern_17, zX4_intern_18, zX4_intern_21, zX4_intern_22, zX4_intern_23, zX4_intern_26, zX4_intern_30, zX4_intern_33, zX4_intern_34, zX4_intern_35, zX4_intern_36, zX4_intern_39, zX4_intern_40, zX4_intern_43, zX4_intern_44, zX4_intern_45, zX4_intern_49, zX4_intern_52, zX4_intern_55, zX4_intern_56, zX4_intern_59, zX4_intern_60, zX4_intern_63, zX4_intern_64, zX4_intern_67, zX4_intern_69, zX4_intern_70, zX4_intern_74, zX4_intern_75, zX4_intern_78, zX4_intern_79, zX4_intern_82, zX4_intern_84, zX4_intern_86, zX4_intern_87, zX4_intern_90, zX4_intern_91, zX4_intern_94, zX4_intern_96, zX4_intern_99, zX4_intern_102, zX4_intern_105, zX4_intern_110, zX4_intern_111, zX4_intern_114, zX4_intern_115, zX4_intern_118, zX4_intern_119, zX4_intern_122, zX4_intern_123, zX4_intern_126, zX4_intern_127, zX4_intern_128, zX4_intern_129, zX4_intern_132, zX4_intern_133, zX4_intern_136, zX4_intern_137, zX4_intern_140, ziX4_intern_144, zX4_intern_144, zX4_intern_145, zX4_intern_148, zX4_intern_149, zX4_intern_150, zX4_intern_151, zX4_intern_154, zX4_intern_155, zX4_intern_156, zX4_intern_159, zX4_intern_160, zX4_intern_161, zX4_intern_164, zX4_intern_167, zX4_intern_168, zX4_intern_171, zX4_intern_172, zX4_intern_173, zX4_intern_176, zX4_intern_177, zX4_intern_181, zX4_intern_182, zX4_intern_185, zX4_intern_186, zX4_intern_189, zX4_intern_190, zX4_intern_193, zX4_intern_195, zX4_intern_196, zX4_intern_197, zX4_intern_200, zX4_intern_202, zX4_intern_205, zX4_intern_208, zX4_intern_211, ziX4_intern_215, zX4_intern_215, zX4_intern_216, zX4_intern_219, zX4_intern_220, zX4_intern_221, zX4_intern_224, zX4_intern_225, zX4_intern_228, zX4_intern_229, zX4_intern_230, zX4_intern_233, zX4_intern_234, zX4_intern_237, zX4_intern_240, zX4_intern_241, zX4_intern_244, zX4_intern_245, zX4_intern_246, zX4_intern_249, zX4_intern_250, ↓reduceIte, m1_le, m1_lt, m1_eq, ofInt_m1, ex_ret, Int32.reduceAdd, Int32.reduceSub, Int32.reduceMul, Int32.reduceLT, Int32.reduceLE, xsI, Nat.reduceEqDiff, and_false, false_and, and_true, true_and, if_true, if_false, ite_true, ite_false, xlook_0, xlook_s, xI_int, xA_ref, xJ_long, xK_some, xRow_row, xTo_some, xst1, xclr, List.set_cons_zero, List.set_cons_succ, xsum_nil, xsum_int, xsum_ref, xsum_long, Option.toList_some, Option.toList_none, List.nil_append, List.cons_append, e1, zs_at (show skL[5]? = some (.inl (0, 512)) from rfl) (by decide : 512 < 2 ^ 31), hd]
  refine (k1 _).mpr ?_
  generalize hS1 : xsetI (xsetI (xsetI S 0 7 (nI (L.length + 1))) 3 L.length (nI L.flatten.length)) 4 L.length (nI w.length) = S1
  have r : ∀ a, ¬ a = 0 → ¬ a = 3 → ¬ a = 4 → S1.1 a = S.1 a := fun a x y z => by rw [← hS1, xsR z, xsR y, xsR x]
  have c8 : S1.1 0 8 = nI L.flatten.length := by rw [← hS1, xsR (by decide), xsR (by decide), xsI, if_neg (fun z => absurd z.2 (by decide))]; exact b2
  have s1 : zScr S1 w := fun j b hj => by rw [r 2 (by decide) (by decide) (by decide)]; exact hs j b hj
  have pu : xput (xput (xsetI S 0 7 (nI (L.length + 1))) 3 2176 (nI L.length) (nI L.flatten.length)) 4 2176 (nI L.length) (nI w.length) = S1 := by rw [xput_in (by omega) (by decide), xput_in (by omega) (by decide), hS1]
  have cp := zcopy (d := d) (S := S1) (w := w) (h := nI (hsN w)) (n := nI L.length) (p5 := q5) (p6 := q6) (r := (some (.int (nI L.length)), nwS S L.length L.flatten.length (hsN w) w)) s1 hl (by omega) c8 w.length 0 (by omega)
  rw [List.take_zero, cpS_0] at cp
  have p8 : (xsetI S 0 7 (nI (L.length + 1))).1 0 8 = nI L.flatten.length := by rw [xsI, if_neg (fun z => absurd z.2 (by decide))]; exact b2
  have m179 : XL skL MT (d + 1) 119 (143, [some (.ref 0), some (.int (nI w.length)), some (.int (nI (hsN w))), some (.int (-1)), some (.int t'), q5, q6], [], S) (some (.int (nI L.length)), nwS S L.length L.flatten.length (hsN w) w) ↔ XL skL MT (d + 1) 119 (179, [some (.ref 0), some (.int (nI w.length)), some (.int (nI (hsN w))), some (.int (nI L.length)), some (.int (nI 0)), q5, q6], [], S1) (some (.int (nI L.length)), nwS S L.length L.flatten.length (hsN w) w) := by
    rw [zX4_intern_143, ← pu]
    simp (config := { decide := true }) only [zX4_intern_0, zX4_intern_1, zX4_intern_2, zX4_intern_3, zX4_intern_5, zX4_intern_6, zX4_intern_9, zX4_intern_10, zX4_intern_12, zX4_intern_13, zX4_intern_14, zX4_intern_17, zX4_intern_18, zX4_intern_21, zX4_intern_22, zX4_intern_23, zX4_intern_26, zX4_intern_30, zX4_intern_33, zX4_intern_34, zX4_intern_35, zX4_intern_36, zX4_intern_39, zX4_intern_40, zX4_intern_43, zX4_intern_44, zX4_intern_45, zX4_intern_49, zX4_intern_52, zX4_intern_55, zX4_intern_56, zX4_intern_59, zX4_intern_60, zX4_intern_63, zX4_intern_64, zX4_intern_67, zX4_intern_69, zX4_intern_70, zX4_intern_74, zX4_intern_75, zX4_intern_78, zX4_intern_79, zX4_intern_82, zX4_intern_84, zX4_intern_86, zX4_intern_87, zX4_intern_90, zX4_intern_91, zX4_intern_94, zX4_intern_96, zX4_intern_99, zX4_intern_102, zX4_intern_105, zX4_intern_110, zX4_intern_111, zX4_intern_114, zX4_intern_115, zX4_intern_118, zX4_intern_119, zX4_intern_122, zX4_intern_123, zX4_intern_126, zX4_intern_127, zX4_intern_128, zX4_intern_129, zX4_intern_132, zX4_intern_133, zX4_intern_136, zX4_intern_137, zX4_intern_140, ziX4_intern_144, zX4_intern_144, zX4_intern_145, zX4_intern_148, zX4_intern_149, zX4_intern_150, zX4_intern_151, zX4_intern_154, zX4_intern_155, zX4_intern_156, zX4_intern_159, zX4_intern_160, zX4_intern_161, zX4_intern_164, zX4_intern_167, zX4_intern_168, zX4_intern_171, zX4_intern_172, zX4_intern_173, zX4_intern_176, zX4_intern_177, zX4_intern_181, zX4_intern_182, zX4_intern_185, zX4_intern_186, zX4_intern_189, zX4_intern_190, zX4_intern_193, zX4_intern_195, zX4_intern_196, zX4_intern_197, zX4_intern_200, zX4_intern_202, zX4_intern_205, zX4_intern_208, zX4_intern_211, ziX4_intern_215, zX4_intern_215, zX4_intern_216, zX4_intern_219, zX4_intern_220, zX4_intern_221, zX4_intern_224, zX4_intern_225, zX4_intern_228, zX4_intern_229, zX4_intern_230, zX4_intern_233, zX4_intern_234, zX4_intern_237, zX4_intern_240, zX4_intern_241, zX4_intern_244, zX4_intern_245, zX4_intern_246, zX4_intern_249, zX4_intern_250, ↓reduceIte, m1_le, m1_lt, m1_eq, ofInt_m1, ex_ret, Int32.reduceAdd, Int32.reduceSub, Int32.reduceMul, Int32.reduceLT, Int32.reduceLE, xsI, Nat.reduceEqDiff, and_false, false_and, and_true, true_and, if_true, if_false, ite_true, ite_false, xlook_0, xlook_s, xI_int, xA_ref, xJ_long, xK_some, xRow_row, xTo_some, xst1, xclr, List.set_cons_zero, List.set_cons_succ, xsum_nil, xsum_int, xsum_ref, xsum_long, Option.toList_some, Option.toList_none, List.nil_append, List.cons_append, b1, nI_1, xput, zs_put (show skL[3]? = some (.inl (0, 2176)) from rfl) (by decide : 2176 < 2 ^ 31), zs_put (show skL[4]? = some (.inl (0, 2176)) from rfl) (by decide : 2176 < 2 ^ 31), p8, b2]
    rfl
  refine m179.mpr (cp.mpr ?_)
  have c9 : (cpS S1 L.flatten.length w).1 0 8 = nI L.flatten.length := by rw [cpS_row (by decide)]; exact c8
  have hh2 : ∀ v : Int32, (xsetI (cpS S1 L.flatten.length w) 0 8 v).1 5 (hsN w) = S.1 5 (hsN w) := fun v => by rw [xsR (by decide), cpS_row (by decide), r _ (by decide) (by decide) (by decide)]
  rw [zX4_intern_214]
  simp (config := { decide := true }) only [zX4_intern_0, zX4_intern_1, zX4_intern_2, zX4_intern_3, zX4_intern_5, zX4_intern_6, zX4_intern_9, zX4_intern_10, zX4_intern_12, zX4_intern_13, zX4_intern_14, zX4_intern_17, zX4_intern_18, zX4_intern_21, zX4_intern_22, zX4_intern_23, zX4_intern_26, zX4_intern_30, zX4_intern_33, zX4_intern_34, zX4_intern_35, zX4_intern_36, zX4_intern_39, zX4_intern_40, zX4_intern_43, zX4_intern_44, zX4_intern_45, zX4_intern_49, zX4_intern_52, zX4_intern_55, zX4_intern_56, zX4_intern_59, zX4_intern_60, zX4_intern_63, zX4_intern_64, zX4_intern_67, zX4_intern_69, zX4_intern_70, zX4_intern_74, zX4_intern_75, zX4_intern_78, zX4_intern_79, zX4_intern_82, zX4_intern_84, zX4_intern_86, zX4_intern_87, zX4_intern_90, zX4_intern_91, zX4_intern_94, zX4_intern_96, zX4_intern_99, zX4_intern_102, zX4_intern_105, zX4_intern_110, zX4_intern_111, zX4_intern_114, zX4_intern_115, zX4_intern_118, zX4_intern_119, zX4_intern_122, zX4_intern_123, zX4_intern_126, zX4_intern_127, zX4_intern_128, zX4_intern_129, zX4_intern_132, zX4_intern_133, zX4_intern_136, zX4_intern_137, zX4_intern_140, ziX4_intern_144, zX4_intern_144, zX4_intern_145, zX4_intern_148, zX4_intern_149, zX4_intern_150, zX4_intern_151, zX4_intern_154, zX4_intern_155, zX4_intern_156, zX4_intern_159, zX4_intern_160, zX4_intern_161, zX4_intern_164, zX4_intern_167, zX4_intern_168, zX4_intern_171, zX4_intern_172, zX4_intern_173, zX4_intern_176, zX4_intern_177, zX4_intern_181, zX4_intern_182, zX4_intern_185, zX4_intern_186, zX4_intern_189, zX4_intern_190, zX4_intern_193, zX4_intern_195, zX4_intern_196, zX4_intern_197, zX4_intern_200, zX4_intern_202, zX4_intern_205, zX4_intern_208, zX4_intern_211, ziX4_intern_215, zX4_intern_215, zX4_intern_216, zX4_intern_219, zX4_intern_220, zX4_intern_221, zX4_intern_224, zX4_intern_225, zX4_intern_228, zX4_intern_229, zX4_intern_230, zX4_intern_233, zX4_intern_234, zX4_intern_237, zX4_intern_240, zX4_intern_241, zX4_intern_244, zX4_intern_245, zX4_intern_246, zX4_intern_249, zX4_intern_250, ↓reduceIte, m1_le, m1_lt, m1_eq, ofInt_m1, ex_ret, Int32.reduceAdd, Int32.reduceSub, Int32.reduceMul, Int32.reduceLT, Int32.reduceLE, xsI, Nat.reduceEqDiff, and_false, false_and, and_true, true_and, if_true, if_false, ite_true, ite_false, xlook_0, xlook_s, xI_int, xA_ref, xJ_long, xK_some, xRow_row, xTo_some, xst1, xclr, List.set_cons_zero, List.set_cons_succ, xsum_nil, xsum_int, xsum_ref, xsum_long, Option.toList_some, Option.toList_none, List.nil_append, List.cons_append, c9, nI_add, zs_at (show skL[5]? = some (.inl (0, 512)) from rfl) (by decide : 512 < 2 ^ 31), zs_put (show skL[5]? = some (.inl (0, 512)) from rfl) (by decide : 512 < 2 ^ 31), zs_put (show skL[6]? = some (.inl (0, 2176)) from rfl) (by decide : 2176 < 2 ^ 31), xat_in e2 (by decide : 512 < 2 ^ 31), xput_in e2 (by decide : 512 < 2 ^ 31), xput_in (show L.length < 2176 by omega) (by decide : 2176 < 2 ^ 31), hh2]
  unfold nwS
  have hh3 : (cpS S1 L.flatten.length w).1 5 (hsN w) = S.1 5 (hsN w) := by rw [cpS_row (by decide), r _ (by decide) (by decide) (by decide)]
  rw [hS1, hh3]
theorem NmT_nw {S : xS} {L : List (List Nat)} {w : List Nat} (hT : NmT S L) (hb : ∀ b ∈ w, b < 128) : NmT (nwS S L.length L.flatten.length (hsN w) w) (L ++ [w]) := by
  obtain ⟨b1, b2, b3, b4, b5⟩ := hT
  have hl : (L ++ [w]).length = L.length + 1 := by rw [List.length_append]; rfl
  have hf : (L ++ [w]).flatten = L.flatten ++ w := by rw [List.flatten_append]; show _ ++ (w ++ []) = _; rw [List.append_nil]
  generalize hS : nwS S L.length L.flatten.length (hsN w) w = S'
  have f0 : ∀ j, S'.1 0 j = if j = 8 then nI (L.flatten.length + w.length) else if j = 7 then nI (L.length + 1) else S.1 0 j := by
    intro j
    rw [← hS]
    unfold nwS
    rw [xsR (by decide), xsR (by decide), xsI]
    by_cases h8 : j = 8
    · rw [if_pos ⟨rfl, h8⟩, if_pos h8]
    · rw [if_neg (fun z => h8 z.2), if_neg h8, cpS_row (by decide), xsR (by decide), xsR (by decide), xsI]
      by_cases h7 : j = 7
      · rw [if_pos ⟨rfl, h7⟩, if_pos h7]
      · rw [if_neg (fun z => h7 z.2), if_neg h7]
  have f1 : ∀ j, S'.1 1 j = if L.flatten.length ≤ j ∧ j < L.flatten.length + w.length then nI (w.getD (j - L.flatten.length) 0) else S.1 1 j := by
    intro j
    rw [← hS]
    unfold nwS
    rw [xsR (by decide), xsR (by decide), xsR (by decide)]
    show (if 1 = 1 ∧ L.flatten.length ≤ j ∧ j < L.flatten.length + w.length then nI (w.getD (j - L.flatten.length) 0) else _) = _
    rw [xsR (by decide), xsR (by decide), xsR (by decide)]
    by_cases h : L.flatten.length ≤ j ∧ j < L.flatten.length + w.length
    · rw [if_pos ⟨rfl, h⟩, if_pos h]
    · rw [if_neg (fun z => h z.2), if_neg h]
  have f3 : ∀ j, S'.1 3 j = if j = L.length then nI L.flatten.length else S.1 3 j := by
    intro j
    rw [← hS]
    unfold nwS
    rw [xsR (by decide), xsR (by decide), xsR (by decide), cpS_row (by decide), xsR (by decide), xsI, xsR (by decide)]
    by_cases h : j = L.length
    · rw [if_pos ⟨rfl, h⟩, if_pos h]
    · rw [if_neg (fun z => h z.2), if_neg h]
  have f4 : ∀ j, S'.1 4 j = if j = L.length then nI w.length else S.1 4 j := by
    intro j
    rw [← hS]
    unfold nwS
    rw [xsR (by decide), xsR (by decide), xsR (by decide), cpS_row (by decide), xsI, xsR (by decide), xsR (by decide)]
    by_cases h : j = L.length
    · rw [if_pos ⟨rfl, h⟩, if_pos h]
    · rw [if_neg (fun z => h z.2), if_neg h]
  have f6 : ∀ j, S'.1 6 j = if j = L.length then S.1 5 (hsN w) else S.1 6 j := by
    intro j
    rw [← hS]
    unfold nwS
    rw [xsR (by decide), xsI, xsR (by decide), cpS_row (by decide), xsR (by decide), xsR (by decide), xsR (by decide)]
    by_cases h : j = L.length
    · rw [if_pos ⟨rfl, h⟩, if_pos h]
    · rw [if_neg (fun z => h z.2), if_neg h]
  have f5 : ∀ j, S'.1 5 j = if j = hsN w then nI L.length else S.1 5 j := by
    intro j
    rw [← hS]
    unfold nwS
    rw [xsI, xsR (by decide), xsR (by decide), cpS_row (by decide), xsR (by decide), xsR (by decide), xsR (by decide)]
    by_cases h : j = hsN w
    · rw [if_pos ⟨rfl, h⟩, if_pos h]
    · rw [if_neg (fun z => h z.2), if_neg h]
  unfold NmT
  rw [hl, hf]
  refine ⟨?_, ?_, fun j b hj => ?_, fun m hm => ?_, fun h hh => ?_⟩
  · rw [f0, if_neg (by decide), if_pos rfl]
  · rw [f0, if_pos rfl, List.length_append]
  · rw [f1]
    by_cases h : j < L.flatten.length
    · rw [if_neg (by omega)]
      rw [List.getElem?_append_left h] at hj
      exact b3 j b hj
    · rw [List.getElem?_append_right (by omega)] at hj
      have h2 := (List.getElem?_eq_some_iff.mp hj).1
      rw [if_pos ⟨by omega, by omega⟩, List.getD_eq_getElem?_getD, hj]
      exact ⟨rfl, hb b (List.mem_of_getElem? hj)⟩
  · rw [f3, f4, f6]
    by_cases h : m = L.length
    · subst h
      rw [if_pos rfl, if_pos rfl, if_pos rfl, getD_last, List.take_append_of_le_length (Nat.le_refl _), List.take_length, hdU_app _ (Nat.le_refl _)]
      exact ⟨rfl, rfl, b5 _ (hsN_eq w).2⟩
    · obtain ⟨c1, c2, c3⟩ := b4 m (by omega)
      rw [if_neg h, if_neg h, if_neg h, getD_app (by omega), List.take_append_of_le_length (by omega), hdU_app _ (by omega)]
      exact ⟨c1, c2, c3⟩
  · rw [f5]
    show _ = encO (if hsN ((L ++ [w]).getD L.length []) = h then some L.length else hdU (L ++ [w]) h L.length)
    rw [getD_last, hdU_app _ (Nat.le_refl _)]
    by_cases hq : hsN w = h
    · rw [if_pos hq.symm, if_pos hq]; rfl
    · rw [if_neg (fun z => hq z.symm), if_neg hq]; exact b5 h hh
