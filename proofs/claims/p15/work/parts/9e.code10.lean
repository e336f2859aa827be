/-! Coder: all of it. -/
/-- the orders of a program -/
def prO (v0 v1 : Int) (ls : List Ln) : List Or3 := ((lnO 0 0 0 0 (.inl (27, Int32.ofInt v0)) ++ lnO 0 0 4 2 (.inl (27, Int32.ofInt v1))) ++ lnsO 1 3 8 4 (ls.map lnD)) ++ [(3, nI (endP 1 3 4 (ls.map lnD)).1, 0), (23, 0, 0)]
theorem prL_eq (v0 v1 : Int) (ls : List Ln) : ∃ D, D = 7 ∧ (deM 0 (51, .inl (27, Int32.ofInt v0))).length = D ∧ (deM D (52, .inl (27, Int32.ofInt v1))).length = D ∧ prL (prC v0 v1 ls) 51 = (([] ++ (deM ([] : List Mk).length (51, .inl (27, Int32.ofInt v0))).map (mkL 0 0)) ++ (deM D (52, .inl (27, Int32.ofInt v1))).map (mkL 2 0)) ++ (desL (D + D) 2 (D + 2) (ls.map lnD) ++ [(35, 0, -1), (1, 0, -1), (6, 51, -1)].map (mkL (endX (D + D) 2 (D + 2) (ls.map lnD)).1 (endX (D + D) 2 (D + 2) (ls.map lnD)).2)) := by
  refine ⟨7, rfl, rfl, rfl, ?_⟩
  unfold prL prC
  show ((deM 0 (51, .inl (27, Int32.ofInt v0))).map (mkL 0 0) ++ ((deM 7 (52, .inl (27, Int32.ofInt v1))).map (mkL 2 0) ++ desL 14 2 9 (ls.map lnD))) ++ [(35, 0, -1), (1, 0, -1), (6, 51, -1)].map (mkL (endX 14 2 9 (ls.map lnD)).1 (endX 14 2 9 (ls.map lnD)).2) = _
  rw [List.nil_append]
  simp only [List.append_assoc]
  rfl
set_option maxHeartbeats 4000000 in
set_option maxRecDepth 100000 in
theorem s_code {d N : Nat} {S : xS} {v0 v1 : Int} {ls : List Ln} (hm : MK S (prL (prC v0 v1 ls) 51)) (hn : ls.length ≤ 60) (hN : S.1 1 7 = nI N) (hN2 : N ≤ 2176) : ∃ S1, XC SK MT (d + 7) 69 [.ref 6] S = some (none, S1) ∧ CO S1 (prO v0 v1 ls) ∧ FrV S S1 := by
  obtain ⟨D, hD7, hDa, hDb, eL⟩ := prL_eq v0 v1 ls
  have hlen : (prL (prC v0 v1 ls) 51).length ≤ 10000 := by
    have h1 := desM_len (prC v0 v1 ls) 0 prC_ok
    have h2 : (prC v0 v1 ls).length = ls.length + 2 := by unfold prC; rw [List.length_cons, List.length_cons, List.length_map]
    unfold prL
    rw [List.length_append, desL_len, List.length_map]
    rw [h2] at h1
    show _ + 3 ≤ 10000
    omega
  generalize hSa : xsetI (xsetI (xsetI (xsetI (xsetI S 6 3 0) 6 14 0) 6 15 0) 6 16 0) 6 13 960 = Sa
  have na : Sa.1 1 7 = nI N := by rw [← hSa]; exact hN
  have fa : FrV S Sa := by rw [← hSa]; exact ⟨rfl, fun a ha => by rw [xsR (by omega), xsR (by omega), xsR (by omega), xsR (by omega), xsR (by omega)]⟩
  obtain ⟨Sb, b1, b2, b3⟩ := lit_loop (d := d + 5) (l2 := none) hN2 N 0 (by omega) Sa na
  have fb : FrV Sa Sb := ⟨b2, fun a ha => b3 a (by omega)⟩
  have mb := fb.MK (fa.MK hm)
  obtain ⟨Sc, c1, c2, c3⟩ := own_loop (d := d + 5) (l2 := none) (Nat.le_trans hlen (by decide)) _ 0 (Nat.zero_add _) Sb mb.1
  have fc : FrV Sb Sc := ⟨c2, fun a ha => c3 a (by omega)⟩
  have mc := fc.MK mb
  have r6 : Sc.1 6 = Sa.1 6 := by rw [c3 6 (by decide), b3 6 (by decide)]
  have ct0 : CT Sc [] 0 [] := by
    refine ⟨⟨?_, fun i o q => by cases q⟩, ?_, ?_, ?_, by decide, fun i x q => by cases q⟩ <;> rw [r6, ← hSa] <;> rfl
  rw [eL] at mc hlen
  generalize he0 : (Sum.inl (27, Int32.ofInt v0) : Ex) = e0 at *
  generalize he1 : (Sum.inl (27, Int32.ofInt v1) : Ex) = e1 at *
  have ev0 : ∀ S, ExV S 0 0 0 0 e0 := fun S => by rw [← he0]; exact rfl
  have ev1 : ∀ S, ExV S 2 0 0 0 e1 := fun S => by rw [← he1]; exact rfl
  have q0 : (lnO 0 0 0 0 e0).length = 4 := by rw [← he0]; rfl
  have q1 : (lnO 0 0 4 2 e1).length = 4 := by rw [← he1]; rfl
  -- the first line
  have m1 : MK Sc ([] ++ ((deM ([] : List Mk).length (nI 51, e0)).map (mkL 0 0) ++ ((deM D (52, e1)).map (mkL 2 0) ++ (desL (D + D) 2 (D + 2) (ls.map lnD) ++ [(35, 0, -1), (1, 0, -1), (6, 51, -1)].map (mkL (endX (D + D) 2 (D + 2) (ls.map lnD)).1 (endX (D + D) 2 (D + 2) (ls.map lnD)).2))))) := by
    rw [List.append_assoc, List.append_assoc] at mc; exact mc
  have l1 : ([] ++ ((deM ([] : List Mk).length (nI 51, e0)).map (mkL 0 0) ++ ((deM D (52, e1)).map (mkL 2 0) ++ (desL (D + D) 2 (D + 2) (ls.map lnD) ++ [(35, 0, -1), (1, 0, -1), (6, 51, -1)].map (mkL (endX (D + D) 2 (D + 2) (ls.map lnD)).1 (endX (D + D) 2 (D + 2) (ls.map lnD)).2))))).length ≤ 10000 := by
    rw [List.append_assoc, List.append_assoc] at hlen; exact hlen
  obtain ⟨S1, r1, t1, w1, -, f1⟩ := cd_line (d := d) (x := 51) (xm := 0) (ym := 0) (px := 0) (py := 0) (Or.inl rfl) m1 l1 ct0 (by decide) (by decide) (ev0 Sc)
  have hd1 : ([] ++ (deM ([] : List Mk).length (nI 51, e0)).map (mkL 0 0)).length = D := by rw [List.nil_append, List.length_map]; exact hDa
  have M1 := f1.MK m1
  rw [← List.append_assoc] at M1 l1
  generalize hDD1 : [] ++ (deM ([] : List Mk).length (nI 51, e0)).map (mkL 0 0) = D1 at *
  have r1' : ∀ r, CdAt (d + 6) D S1 r → CdAt (d + 6) 0 Sc r := fun r hr => r1 r (by rw [hDD1, hd1]; exact hr)
  -- the second
  have m2 : MK S1 (D1 ++ ((deM D1.length (nI 52, e1)).map (mkL 2 0) ++ (desL (D + D) 2 (D + 2) (ls.map lnD) ++ [(35, 0, -1), (1, 0, -1), (6, 51, -1)].map (mkL (endX (D + D) 2 (D + 2) (ls.map lnD)).1 (endX (D + D) 2 (D + 2) (ls.map lnD)).2)))) := by rw [hd1]; exact M1
  have l2 : (D1 ++ ((deM D1.length (nI 52, e1)).map (mkL 2 0) ++ (desL (D + D) 2 (D + 2) (ls.map lnD) ++ [(35, 0, -1), (1, 0, -1), (6, 51, -1)].map (mkL (endX (D + D) 2 (D + 2) (ls.map lnD)).1 (endX (D + D) 2 (D + 2) (ls.map lnD)).2)))).length ≤ 10000 := by rw [hd1]; exact l1
  rw [List.nil_append] at t1
  have t1' : CT S1 (lnO 0 0 0 0 e0) 2 [] := t1
  obtain ⟨S2, r2, t2, w2, w2b, f2⟩ := cd_line (d := d) (x := 52) (xm := 2) (ym := 0) (px := 0) (py := 0) (Or.inr rfl) m2 l2 t1' (by rw [q0]; decide) (by decide) (ev1 S1)
  have hd2 : (D1 ++ (deM D1.length (nI 52, e1)).map (mkL 2 0)).length = D + D := by rw [List.length_append, List.length_map, hd1]; show D + (deM D (52, e1)).length = _; rw [hDb]
  have wx : WH S2 2 1 := w2b 2 1 (by rw [hd1, hD7]; decide) w1
  have wy : WH S2 (D + 2) 3 := by rw [hd1] at w2; exact w2
  have M2 := f2.MK m2
  rw [← List.append_assoc] at M2 l2
  generalize hDD2 : D1 ++ (deM D1.length (nI 52, e1)).map (mkL 2 0) = D2 at *
  have r2' : ∀ r, CdAt (d + 6) (D + D) S2 r → CdAt (d + 6) D S1 r := fun r hr => by
    have := r2 r (by rw [hDD2, hd2]; exact hr)
    rw [hd1] at this
    exact this
  rw [q0] at t2
  have t2l : (lnO 0 0 0 0 e0 ++ lnO 0 0 4 2 e1).length = 8 := by rw [List.length_append, q0, q1]
  -- the lines
  have m3 : MK S2 (D2 ++ (desL D2.length 2 (D + 2) (ls.map lnD) ++ [(35, 0, -1), (1, 0, -1), (6, 51, -1)].map (mkL (endX (D + D) 2 (D + 2) (ls.map lnD)).1 (endX (D + D) 2 (D + 2) (ls.map lnD)).2))) := by rw [hd2]; exact M2
  have l3 : (D2 ++ (desL D2.length 2 (D + 2) (ls.map lnD) ++ [(35, 0, -1), (1, 0, -1), (6, 51, -1)].map (mkL (endX (D + D) 2 (D + 2) (ls.map lnD)).1 (endX (D + D) 2 (D + 2) (ls.map lnD)).2))).length ≤ 10000 := by rw [hd2]; exact l2
  obtain ⟨S3, r3, t3, w3x, w3y, f3⟩ := cd_lines (d := d) ls S2 _ 4 2 (D + 2) 1 3 D2 m3 l3 t2 wx wy (by rw [hd2, hD7]; decide) (by rw [hd2, hD7]; decide) (by rw [t2l]; omega) (by omega)
  rw [hd2] at r3 w3x w3y
  rw [t2l] at t3
  have M3 := f3.MK m3
  rw [hd2, ← List.append_assoc] at M3
  rw [hd2, ← List.append_assoc] at l3
  generalize hX : endX (D + D) 2 (D + 2) (ls.map lnD) = X at *
  obtain ⟨xm, ym⟩ := X
  generalize hD3 : D2 ++ desL (D + D) 2 (D + 2) (ls.map lnD) = D3 at *
  -- the EXP
  have o3 : ((lnO 0 0 0 0 e0 ++ lnO 0 0 4 2 e1) ++ lnsO 1 3 8 4 (ls.map lnD)).length < 20000 := by
    rw [List.length_append, t2l]
    have := lnsO_le ls 1 3 8 4
    omega
  have m4 : MK S3 (D3 ++ (35, 0, -1) :: ((1, 0, -1) :: (mkL xm ym (atM 25 51) :: []))) := M3
  have l4 : (D3 ++ (35, 0, -1) :: ((1, 0, -1) :: (mkL xm ym (atM 25 51) :: []))).length ≤ 10240 := Nat.le_trans l3 (by decide)
  have r4 : CdRun (d + 6) [(35, 0, -1)] D3 S3 S3 := CdRun.one (fun r hr => cd_rules (d := d + 5) m4 l4 (Or.inr (Or.inr (Or.inr (Or.inr (Or.inr rfl))))) (cs_last (d := d + 5)) hr)
  have m5 := mk1 m4
  have l5 := ln1 l4
  have r5 := cd_skip (d := d + 3) m5 l5
  have m6 := mk1 m5
  have l6 := ln1 l5
  obtain ⟨S7, r7, t7, f7⟩ := cd_atom (d := d + 2) (a := (25, 51)) m6 l6 t3 (by omega) (Or.inr ⟨rfl, Or.inl rfl⟩) w3x w3y
  have m7 := f7.1.MK (mk1 m6)
  rw [List.append_nil] at m7
  have no : NoA ((lnO 0 0 0 0 e0 ++ lnO 0 0 4 2 e1) ++ lnsO 1 3 8 4 (ls.map lnD) ++ [atO (endP 1 3 4 (ls.map lnD)).1 (endP 1 3 4 (ls.map lnD)).2 (25, 51)]) := NoA.app (NoA.app (NoA.app (lnO_A _ _ _ _ _) (lnO_A _ _ _ _ _)) (lnsO_A _ _ _ _ _)) (NoA.cons (atO_A _ _ _) NoA_nil)
  obtain ⟨S8, x8, o8, f8⟩ := cd_exit (d := d + 3) m7 t7 (by rw [List.length_append, List.length_singleton]; omega) no
  have rr := r4.app (r5.app r7)
  have h3 : CdAt (d + 6) D3.length S3 (none, S8) := rr _ (by
    have e : (D3 ++ ([(35, 0, -1)] ++ ([(1, 0, -1)] ++ [mkL xm ym (atM 25 51)]))) = (D3 ++ [(35, 0, -1)] ++ [(1, 0, -1)] ++ [mkL xm ym (atM 25 51)]) := by simp only [List.append_assoc]
    rw [e]; exact x8)
  have h2 : CdAt (d + 6) (D + D) S2 (none, S8) := r3 _ h3
  have h0 := r1' _ (r2' _ h2)
  refine ⟨S8, ?_, ?_, fa.trans (fb.trans (fc.trans (f1.trans (f2.trans (f3.trans (f7.1.V.trans f8.V))))))⟩
  · have hb := b1 _ (c1 _ (h0 none))
    rw [XC_iff]
    refine ⟨Nat.le_of_ble_eq_true rfl, ?_⟩
    show XL SK MT (d + 6) 69 (0, [some (.ref 6), none, none], [], S) _
    simp (config := { decide := true }) only [rX2_code_0, rX2_code_1, rX2_code_2, rX2_code_5, rX2_code_6, rX2_code_7, rX2_code_10, rX2_code_11, rX2_code_12, rX2_code_15, rX2_code_16, rX2_code_17, rX2_code_20, rX2_code_21, rX2_code_24, rX2_code_27, rX2_code_28, rX2_code_30, rX2_code_31, rX2_code_34, rX2_code_37, rX2_code_40, rX2_code_41, rX2_code_44, rX2_code_45, rX2_code_46, rX2_code_49, rX2_code_52, rX2_code_55, rX2_code_56, rX2_code_58, rX2_code_59, rX2_code_62, rX2_code_65, rX2_code_68, rX2_code_69, rX2_code_72, rX2_code_73, rX2_code_74, rX2_code_77, rX2_code_80, rX2_code_83, rX2_code_84, rX2_code_86, rX2_code_87, rX2_code_90, rX2_code_93, rX2_code_96, rX2_code_97, rX2_code_100, rX2_code_103, rX2_code_104, rX2_code_107, rX2_code_108, rX2_code_109, rX2_code_111, rX2_code_114, rX2_code_115, rX2_code_116, rX2_code_119, rX2_code_120, rX2_code_121, rX2_code_124, rX2_code_127, rX2_code_128, rX2_code_131, rX2_code_134, rX2_code_135, rX2_code_138, rX2_code_139, rX2_code_141, rX2_code_144, rX2_code_145, rX2_code_146, rX2_code_147, rX2_code_150, rX2_code_153, rX2_code_154, rX2_code_156, rX2_code_159, rX2_code_160, rX2_code_161, rX2_code_162, rX2_code_165, rX2_code_168, rX2_code_169, rX2_code_171, rX2_code_174, rX2_code_175, rX2_code_176, rX2_code_177, rX2_code_180, rX2_code_183, rX2_code_184, rX2_code_186, rX2_code_189, rX2_code_190, rX2_code_191, rX2_code_192, rX2_code_195, rX2_code_198, rX2_code_201, rX2_code_202, rX2_code_204, rX2_code_205, rX2_code_206, rX2_code_209, rX2_code_210, rX2_code_211, rX2_code_214, ↓reduceIte, m1_le, m1_lt, m1_eq, ofInt_m1, ex_ret, Int32.reduceAdd, Int32.reduceSub, Int32.reduceMul, Int32.reduceLT, Int32.reduceLE, xsI, Nat.reduceEqDiff, and_false, false_and, and_true, true_and, if_true, if_false, ite_true, ite_false, xlook_0, xlook_s, xI_int, xA_ref, xJ_long, xK_some, xRow_row, xTo_some, xst1, xclr, List.set_cons_zero, List.set_cons_succ, xsum_nil, xsum_int, xsum_ref, xsum_long, Option.toList_some, Option.toList_none, List.nil_append, List.cons_append, hSa]
    exact hb
  · have e : prO v0 v1 ls = ((lnO 0 0 0 0 e0 ++ lnO 0 0 4 2 e1) ++ lnsO 1 3 8 4 (ls.map lnD) ++ [atO (endP 1 3 4 (ls.map lnD)).1 (endP 1 3 4 (ls.map lnD)).2 (25, 51)]) ++ [(23, 0, 0)] := by
      rw [← he0, ← he1]
      unfold prO
      simp only [List.append_assoc]
      rfl
    rw [e]
    exact o8
