/-! Lexer: a number. -/
def dv (w : List Nat) : Nat := w.foldl (fun a b => a * 10 + (b - 48)) 0
theorem dv_take {w : List Nat} {i x : Nat} (h : w[i]? = some x) : dv (w.take (i + 1)) = dv (w.take i) * 10 + (x - 48) := by
  unfold dv
  rw [List.take_succ, h, List.foldl_append]
  rfl
theorem dv_foldl_le (w : List Nat) : ∀ a, a ≤ w.foldl (fun a b => a * 10 + (b - 48)) a := by
  induction w with
  | nil => intro a; exact Nat.le_refl _
  | cons x w ih => intro a; exact Nat.le_trans (by omega) (ih (a * 10 + (x - 48)))
theorem dv_take_le (w : List Nat) (i : Nat) : dv (w.take i) ≤ dv w := by
  have h : dv w = (w.drop i).foldl (fun a b => a * 10 + (b - 48)) (dv (w.take i)) := by
    unfold dv
    rw [← List.foldl_append, List.take_append_drop]
  rw [h]
  exact dv_foldl_le _ _
def isDig (b : Nat) : Prop := 48 ≤ b ∧ b ≤ 57
theorem isDig_l : ∀ b, b < 128 → (lDigit (nI b) = true ↔ (48 ≤ b ∧ b ≤ 57)) := by decide +kernel
theorem dig_long : ∀ b, b < 128 → 48 ≤ b → (nI b - 48).toInt64 = lN (b - 48) := by decide +kernel
theorem lgc_lt {a b : Nat} (ha : a < 2 ^ 63) (hb : b < 2 ^ 63) (h : a < b) : lg_cmp (lN a) (lN b) = -1 := by
  unfold lg_cmp
  rw [if_neg (fun z : lN b < lN a => absurd ((pk_lLT hb ha).mp z) (by omega)), if_neg (fun z => absurd ((pk_lEQ ha hb).mp z) (by omega))]
theorem lgc_eq {a : Nat} : lg_cmp (lN a) (lN a) = 0 := by
  unfold lg_cmp
  rw [if_neg (fun z : lN a < lN a => absurd z (Int64.lt_irrefl)), if_pos rfl]
def nuS (S : xS) (p i : Nat) : xS := xsetI S 1 11 (nI (p + i))
theorem nuS_0 {S : xS} {p : Nat} (hh : S.1 1 11 = nI p) : nuS S p 0 = S := by
  unfold nuS xsetI
  refine Prod.ext ?_ rfl
  funext a b
  dsimp only
  split
  · rename_i h; rw [h.1, h.2]; exact hh.symm
  · rfl
theorem nuS_s {S : xS} {p i : Nat} : xsetI (nuS S p i) 1 11 (nI (p + i + 1)) = nuS S p (i + 1) := by
  unfold nuS xsetI
  refine Prod.ext ?_ rfl
  funext a b
  dsimp only
  split
  · rfl
  · rfl
theorem nuS_row {S : xS} {p i a : Nat} (h : ¬ a = 1) : (nuS S p i).1 a = S.1 a := xsR h
theorem nuS_at {S : xS} {p i b : Nat} (h : ¬ b = 11) : (nuS S p i).1 1 b = S.1 1 b := by unfold nuS; rw [xsI, if_neg (fun z => h z.2)]
theorem nuS_here {S : xS} {p i : Nat} : (nuS S p i).1 1 11 = nI (p + i) := by unfold nuS; rw [xsI, if_pos ⟨rfl, rfl⟩]
set_option maxHeartbeats 4000000 in
set_option maxRecDepth 100000 in
theorem number_loop {d : Nat} {S : xS} {p : Nat} {w rest : List Nat} {x : Int32} {r : xO} (h : TX S p (w ++ rest)) (hw : ∀ b ∈ w, isDig b) (hc : lDigit (hdI rest) = false) (hl : w.length ≤ 200) (hv : dv w < 2 ^ 32) :
    ∀ k i, i + k = w.length → (XL SK MT (d + 1) 128 (38, [some (.ref 1), some (.int x), some (.long (lN (dv (w.take i)))), none, some (.int (nI i))], [], nuS S p i) r ↔ XL SK MT (d + 1) 128 (103, [some (.ref 1), some (.int x), some (.long (lN (dv w))), none, some (.int (nI w.length))], [], nuS S p w.length) r) := by
  intro k
  induction k with
  | zero =>
    intro i hi
    obtain rfl : i = w.length := hi
    have e1 : lpk (S.1 1 10) (S.1 13) (nI (p + w.length)) = hdI rest := TX_next h
    have h9 : ¬ (8192 : Int32) < nI w.length := Int32.not_lt.mpr (nI_le (b := 8192) (by omega) (by decide))
    rw [rX4_number_38]
    simp (config := { decide := true }) only [h9, rX4_number_0, rX4_number_1, rX4_number_2, rX4_number_5, rX4_number_8, rX4_number_10, rX4_number_13, rX4_number_14, rX4_number_17, rX4_number_18, rX4_number_19, rX4_number_20, rX4_number_23, riX4_number_24, rX4_number_24, rX4_number_25, rX4_number_28, rX4_number_29, rX4_number_30, rX4_number_33, rX4_number_34, rX4_number_35, rX4_number_36, rX4_number_40, rX4_number_43, rX4_number_46, rX4_number_47, rX4_number_48, rX4_number_51, rX4_number_54, rX4_number_57, rX4_number_60, rX4_number_61, rX4_number_64, rX4_number_65, rX4_number_68, rX4_number_69, rX4_number_72, rX4_number_73, rX4_number_74, rX4_number_75, rX4_number_78, rX4_number_81, rX4_number_83, rX4_number_84, rX4_number_85, rX4_number_86, rX4_number_87, riX4_number_88, rX4_number_88, rX4_number_89, rX4_number_92, rX4_number_93, rX4_number_94, rX4_number_97, rX4_number_100, rX4_number_104, rX4_number_105, rX4_number_108, rX4_number_111, rX4_number_114, rX4_number_117, rX4_number_118, rX4_number_121, rX4_number_122, rX4_number_125, rX4_number_126, rX4_number_129, rX4_number_130, rX4_number_133, rX4_number_134, rX4_number_137, rX4_number_138, rX4_number_139, rX4_number_142, rX4_number_143, rX4_number_144, rX4_number_146, rX4_number_149, rX4_number_150, rX4_number_151, rX4_number_154, rX4_number_155, rX4_number_156, rX4_number_159, rX4_number_160, rX4_number_161, rX4_number_164, ↓reduceIte, m1_le, m1_lt, m1_eq, ofInt_m1, ex_ret, Int32.reduceAdd, Int32.reduceSub, Int32.reduceMul, Int32.reduceLT, Int32.reduceLE, xsI, Nat.reduceEqDiff, and_false, false_and, and_true, true_and, if_true, if_false, ite_true, ite_false, xlook_0, xlook_s, xI_int, xA_ref, xJ_long, xK_some, xRow_row, xTo_some, xst1, xclr, List.set_cons_zero, List.set_cons_succ, xsum_nil, xsum_int, xsum_ref, xsum_long, Option.toList_some, Option.toList_none, List.nil_append, List.cons_append, s_peek, s_isDigit, nuS_row, nuS_at, nuS_here, e1, hc, xb01, List.take_length]
  | succ k ih =>
    intro i hi
    have hlt : i < w.length := by omega
    have hx : w[i]? = some w[i] := List.getElem?_eq_getElem hlt
    have hx2 : (w ++ rest)[i]? = some w[i] := by rw [List.getElem?_append_left hlt]; exact hx
    have e1 : lpk (S.1 1 10) (S.1 13) (nI (p + i)) = nI w[i] := TX_peek h hx2
    have hb : w[i] < 128 := (h.1 i w[i] hx2).2
    have h9 : ¬ (8192 : Int32) < nI i := Int32.not_lt.mpr (nI_le (b := 8192) (by omega) (by decide))
    have hp : lDigit (nI w[i]) = true := (isDig_l _ hb).mpr (hw _ (List.getElem_mem hlt))
    have hs := dv_take_le w i
    have hc1 : lg_cmp (lN (dv (w.take i))) 4294967296 = -1 := lgc_lt (b := 4294967296) (by omega) (by decide) (by omega)
    have hdl := dig_long _ hb (hw _ (List.getElem_mem hlt)).1
    rw [rX4_number_38]
    simp (config := { decide := true }) only [h9, rX4_number_0, rX4_number_1, rX4_number_2, rX4_number_5, rX4_number_8, rX4_number_10, rX4_number_13, rX4_number_14, rX4_number_17, rX4_number_18, rX4_number_19, rX4_number_20, rX4_number_23, riX4_number_24, rX4_number_24, rX4_number_25, rX4_number_28, rX4_number_29, rX4_number_30, rX4_number_33, rX4_number_34, rX4_number_35, rX4_number_36, rX4_number_40, rX4_number_43, rX4_number_46, rX4_number_47, rX4_number_48, rX4_number_51, rX4_number_54, rX4_number_57, rX4_number_60, rX4_number_61, rX4_number_64, rX4_number_65, rX4_number_68, rX4_number_69, rX4_number_72, rX4_number_73, rX4_number_74, rX4_number_75, rX4_number_78, rX4_number_81, rX4_number_83, rX4_number_84, rX4_number_85, rX4_number_86, rX4_number_87, riX4_number_88, rX4_number_88, rX4_number_89, rX4_number_92, rX4_number_93, rX4_number_94, rX4_number_97, rX4_number_100, rX4_number_104, rX4_number_105, rX4_number_108, rX4_number_111, rX4_number_114, rX4_number_117, rX4_number_118, rX4_number_121, rX4_number_122, rX4_number_125, rX4_number_126, rX4_number_129, rX4_number_130, rX4_number_133, rX4_number_134, rX4_number_137, rX4_number_138, rX4_number_139, rX4_number_142, rX4_number_143, rX4_number_144, rX4_number_146, rX4_number_149, rX4_number_150, rX4_number_151, rX4_number_154, rX4_number_155, rX4_number_156, rX4_number_159, rX4_number_160, rX4_number_161, rX4_number_164, ↓reduceIte, m1_le, m1_lt, m1_eq, ofInt_m1, ex_ret, Int32.reduceAdd, Int32.reduceSub, Int32.reduceMul, Int32.reduceLT, Int32.reduceLE, xsI, Nat.reduceEqDiff, and_false, false_and, and_true, true_and, if_true, if_false, ite_true, ite_false, xlook_0, xlook_s, xI_int, xA_ref, xJ_long, xK_some, xRow_row, xTo_some, xst1, xclr, List.set_cons_zero, List.set_cons_succ, xsum_nil, xsum_int, xsum_ref, xsum_long, Option.toList_some, Option.toList_none, List.nil_append, List.cons_append, s_peek, s_isDigit, nuS_row, nuS_at, nuS_here, e1, hp, xb01, hc1, hdl, nI_1, xst2]
    rw [← ih (i + 1) (by omega), nuS_s, dv_take hx, show (10 : Int64) = lN 10 from rfl, lN_mul, lN_add]
theorem part_dig {b : Int32} (h : lPart b = false) : lDigit b = false := by
  unfold lPart at h
  cases hd : lDigit b with
  | false => rfl
  | true => rw [hd] at h; split at h <;> cases h
theorem lN_i32 (n : Nat) : (lN n).toInt32 = nI n := lN_i n
set_option maxHeartbeats 4000000 in
set_option maxRecDepth 100000 in
theorem s_number {d : Nat} {S : xS} {p : Nat} {w rest : List Nat} (h : TX S p (w ++ rest)) (hh : S.1 1 11 = nI p) (hw : ∀ b ∈ w, isDig b) (h0 : 0 < w.length) (hc : lPart (hdI rest) = false) (hl : w.length ≤ 200) (hv : dv w < 2 ^ 30) : XC SK MT (d + 2) 128 [.ref 1] S = some (none, xsetI (xsetI (nuS S p w.length) 1 13 27) 1 15 (nI (dv w))) := by
  have hx : w[0]? = some w[0] := List.getElem?_eq_getElem h0
  have hx2 : (w ++ rest)[0]? = some w[0] := by rw [List.getElem?_append_left h0]; exact hx
  have e0 : lpk (S.1 1 10) (S.1 13) (nI p) = nI w[0] := TX_peek h (j := 0) hx2
  have hb : w[0] < 128 := (h.1 0 w[0] hx2).2
  have hd := hw _ (List.getElem_mem h0)
  have hne : ¬ nI w[0] = 126 := fun z => by
    have := (nI_eq (a := w[0]) (b := 126) (by omega) (by decide)).mp z
    unfold isDig at hd
    omega
  have e1 : lpk (S.1 1 10) (S.1 13) (nI (p + w.length)) = hdI rest := TX_next h
  rw [XC_iff]
  refine ⟨Nat.le_of_ble_eq_true rfl, ?_⟩
  show XL SK MT (d + 1) 128 (0, [some (.ref 1), none, none, none, none], [], S) _
  simp (config := { decide := true }) only [rX4_number_0, rX4_number_1, rX4_number_2, rX4_number_5, rX4_number_8, rX4_number_10, rX4_number_13, rX4_number_14, rX4_number_17, rX4_number_18, rX4_number_19, rX4_number_20, rX4_number_23, riX4_number_24, rX4_number_24, rX4_number_25, rX4_number_28, rX4_number_29, rX4_number_30, rX4_number_33, rX4_number_34, rX4_number_35, rX4_number_36, rX4_number_40, rX4_number_43, rX4_number_46, rX4_number_47, rX4_number_48, rX4_number_51, rX4_number_54, rX4_number_57, rX4_number_60, rX4_number_61, rX4_number_64, rX4_number_65, rX4_number_68, rX4_number_69, rX4_number_72, rX4_number_73, rX4_number_74, rX4_number_75, rX4_number_78, rX4_number_81, rX4_number_83, rX4_number_84, rX4_number_85, rX4_number_86, rX4_number_87, riX4_number_88, rX4_number_88, rX4_number_89, rX4_number_92, rX4_number_93, rX4_number_94, rX4_number_97, rX4_number_100, rX4_number_104, rX4_number_105, rX4_number_108, rX4_number_111, rX4_number_114, rX4_number_117, rX4_number_118, rX4_number_121, rX4_number_122, rX4_number_125, rX4_number_126, rX4_number_129, rX4_number_130, rX4_number_133, rX4_number_134, rX4_number_137, rX4_number_138, rX4_number_139, rX4_number_142, rX4_number_143, rX4_number_144, rX4_number_146, rX4_number_149, rX4_number_150, rX4_number_151, rX4_number_154, rX4_number_155, rX4_number_156, rX4_number_159, rX4_number_160, rX4_number_161, rX4_number_164, ↓reduceIte, m1_le, m1_lt, m1_eq, ofInt_m1, ex_ret, Int32.reduceAdd, Int32.reduceSub, Int32.reduceMul, Int32.reduceLT, Int32.reduceLE, xsI, Nat.reduceEqDiff, and_false, false_and, and_true, true_and, if_true, if_false, ite_true, ite_false, xlook_0, xlook_s, xI_int, xA_ref, xJ_long, xK_some, xRow_row, xTo_some, xst1, xclr, List.set_cons_zero, List.set_cons_succ, xsum_nil, xsum_int, xsum_ref, xsum_long, Option.toList_some, Option.toList_none, List.nil_append, List.cons_append, s_peek, hh, e0, hne, xst2]
  have e9 := number_loop (d := d) (x := 0) (r := (none, xsetI (xsetI (nuS S p w.length) 1 13 27) 1 15 (nI (dv w)))) h hw (part_dig hc) hl (by omega) w.length 0 (by omega)
  rw [nuS_0 hh] at e9
  refine e9.mpr ?_
  rw [rX4_number_103]
  have g1 : lg_cmp (lN (dv w)) 1073741824 = -1 := lgc_lt (b := 1073741824) (by omega) (by decide) hv
  simp (config := { decide := true }) only [rX4_number_0, rX4_number_1, rX4_number_2, rX4_number_5, rX4_number_8, rX4_number_10, rX4_number_13, rX4_number_14, rX4_number_17, rX4_number_18, rX4_number_19, rX4_number_20, rX4_number_23, riX4_number_24, rX4_number_24, rX4_number_25, rX4_number_28, rX4_number_29, rX4_number_30, rX4_number_33, rX4_number_34, rX4_number_35, rX4_number_36, rX4_number_40, rX4_number_43, rX4_number_46, rX4_number_47, rX4_number_48, rX4_number_51, rX4_number_54, rX4_number_57, rX4_number_60, rX4_number_61, rX4_number_64, rX4_number_65, rX4_number_68, rX4_number_69, rX4_number_72, rX4_number_73, rX4_number_74, rX4_number_75, rX4_number_78, rX4_number_81, rX4_number_83, rX4_number_84, rX4_number_85, rX4_number_86, rX4_number_87, riX4_number_88, rX4_number_88, rX4_number_89, rX4_number_92, rX4_number_93, rX4_number_94, rX4_number_97, rX4_number_100, rX4_number_104, rX4_number_105, rX4_number_108, rX4_number_111, rX4_number_114, rX4_number_117, rX4_number_118, rX4_number_121, rX4_number_122, rX4_number_125, rX4_number_126, rX4_number_129, rX4_number_130, rX4_number_133, rX4_number_134, rX4_number_137, rX4_number_138, rX4_number_139, rX4_number_142, rX4_number_143, rX4_number_144, rX4_number_146, rX4_number_149, rX4_number_150, rX4_number_151, rX4_number_154, rX4_number_155, rX4_number_156, rX4_number_159, rX4_number_160, rX4_number_161, rX4_number_164, ↓reduceIte, m1_le, m1_lt, m1_eq, ofInt_m1, ex_ret, Int32.reduceAdd, Int32.reduceSub, Int32.reduceMul, Int32.reduceLT, Int32.reduceLE, xsI, Nat.reduceEqDiff, and_false, false_and, and_true, true_and, if_true, if_false, ite_true, ite_false, xlook_0, xlook_s, xI_int, xA_ref, xJ_long, xK_some, xRow_row, xTo_some, xst1, xclr, List.set_cons_zero, List.set_cons_succ, xsum_nil, xsum_int, xsum_ref, xsum_long, Option.toList_some, Option.toList_none, List.nil_append, List.cons_append, s_peek, s_isNamePart, nuS_row, nuS_at, nuS_here, e1, hc, xb01, g1, lN_i32]
set_option maxHeartbeats 4000000 in
set_option maxRecDepth 100000 in
theorem s_numberN {d : Nat} {S : xS} {p : Nat} {w rest : List Nat} (h : TX S p (126 :: (w ++ rest))) (hh : S.1 1 11 = nI p) (hw : ∀ b ∈ w, isDig b) (h0 : 0 < w.length) (hc : lPart (hdI rest) = false) (hl : w.length ≤ 200) (hv : dv w ≤ 2 ^ 30) : XC SK MT (d + 2) 128 [.ref 1] S = some (none, xsetI (xsetI (nuS (xsetI S 1 11 (nI (p + 1))) (p + 1) w.length) 1 13 27) 1 15 (-(lN (dv w))).toInt32) := by
  have e0 : lpk (S.1 1 10) (S.1 13) (nI p) = 126 := TX_peek h (j := 0) rfl
  have h1 : TX (xsetI S 1 11 (nI (p + 1))) (p + 1) (w ++ rest) := (TX.tail (as := [126]) h).of (xsR (by decide)) (by rw [xsI, if_neg (by decide)])
  have h2 : TX S (p + 1) (w ++ rest) := TX.tail (as := [126]) h
  have e1 := TX_next h2
  rw [XC_iff]
  refine ⟨Nat.le_of_ble_eq_true rfl, ?_⟩
  show XL SK MT (d + 1) 128 (0, [some (.ref 1), none, none, none, none], [], S) _
  simp (config := { decide := true }) only [rX4_number_0, rX4_number_1, rX4_number_2, rX4_number_5, rX4_number_8, rX4_number_10, rX4_number_13, rX4_number_14, rX4_number_17, rX4_number_18, rX4_number_19, rX4_number_20, rX4_number_23, riX4_number_24, rX4_number_24, rX4_number_25, rX4_number_28, rX4_number_29, rX4_number_30, rX4_number_33, rX4_number_34, rX4_number_35, rX4_number_36, rX4_number_40, rX4_number_43, rX4_number_46, rX4_number_47, rX4_number_48, rX4_number_51, rX4_number_54, rX4_number_57, rX4_number_60, rX4_number_61, rX4_number_64, rX4_number_65, rX4_number_68, rX4_number_69, rX4_number_72, rX4_number_73, rX4_number_74, rX4_number_75, rX4_number_78, rX4_number_81, rX4_number_83, rX4_number_84, rX4_number_85, rX4_number_86, rX4_number_87, riX4_number_88, rX4_number_88, rX4_number_89, rX4_number_92, rX4_number_93, rX4_number_94, rX4_number_97, rX4_number_100, rX4_number_104, rX4_number_105, rX4_number_108, rX4_number_111, rX4_number_114, rX4_number_117, rX4_number_118, rX4_number_121, rX4_number_122, rX4_number_125, rX4_number_126, rX4_number_129, rX4_number_130, rX4_number_133, rX4_number_134, rX4_number_137, rX4_number_138, rX4_number_139, rX4_number_142, rX4_number_143, rX4_number_144, rX4_number_146, rX4_number_149, rX4_number_150, rX4_number_151, rX4_number_154, rX4_number_155, rX4_number_156, rX4_number_159, rX4_number_160, rX4_number_161, rX4_number_164, ↓reduceIte, m1_le, m1_lt, m1_eq, ofInt_m1, ex_ret, Int32.reduceAdd, Int32.reduceSub, Int32.reduceMul, Int32.reduceLT, Int32.reduceLE, xsI, Nat.reduceEqDiff, and_false, false_and, and_true, true_and, if_true, if_false, ite_true, ite_false, xlook_0, xlook_s, xI_int, xA_ref, xJ_long, xK_some, xRow_row, xTo_some, xst1, xclr, List.set_cons_zero, List.set_cons_succ, xsum_nil, xsum_int, xsum_ref, xsum_long, Option.toList_some, Option.toList_none, List.nil_append, List.cons_append, s_peek, hh, e0, xst2, nI_1]
  have e9 := number_loop (d := d) (x := 1) (r := (none, xsetI (xsetI (nuS (xsetI S 1 11 (nI (p + 1))) (p + 1) w.length) 1 13 27) 1 15 (-(lN (dv w))).toInt32)) h1 hw (part_dig hc) hl (by omega) w.length 0 (by omega)
  rw [nuS_0 (by rw [xsI, if_pos ⟨rfl, rfl⟩])] at e9
  refine e9.mpr ?_
  rw [rX4_number_103]
  rcases Nat.lt_or_ge (dv w) (2 ^ 30) with hlt | hge
  · have g1 : lg_cmp (lN (dv w)) 1073741824 = -1 := lgc_lt (b := 1073741824) (by omega) (by decide) hlt
    simp (config := { decide := true }) only [rX4_number_0, rX4_number_1, rX4_number_2, rX4_number_5, rX4_number_8, rX4_number_10, rX4_number_13, rX4_number_14, rX4_number_17, rX4_number_18, rX4_number_19, rX4_number_20, rX4_number_23, riX4_number_24, rX4_number_24, rX4_number_25, rX4_number_28, rX4_number_29, rX4_number_30, rX4_number_33, rX4_number_34, rX4_number_35, rX4_number_36, rX4_number_40, rX4_number_43, rX4_number_46, rX4_number_47, rX4_number_48, rX4_number_51, rX4_number_54, rX4_number_57, rX4_number_60, rX4_number_61, rX4_number_64, rX4_number_65, rX4_number_68, rX4_number_69, rX4_number_72, rX4_number_73, rX4_number_74, rX4_number_75, rX4_number_78, rX4_number_81, rX4_number_83, rX4_number_84, rX4_number_85, rX4_number_86, rX4_number_87, riX4_number_88, rX4_number_88, rX4_number_89, rX4_number_92, rX4_number_93, rX4_number_94, rX4_number_97, rX4_number_100, rX4_number_104, rX4_number_105, rX4_number_108, rX4_number_111, rX4_number_114, rX4_number_117, rX4_number_118, rX4_number_121, rX4_number_122, rX4_number_125, rX4_number_126, rX4_number_129, rX4_number_130, rX4_number_133, rX4_number_134, rX4_number_137, rX4_number_138, rX4_number_139, rX4_number_142, rX4_number_143, rX4_number_144, rX4_number_146, rX4_number_149, rX4_number_150, rX4_number_151, rX4_number_154, rX4_number_155, rX4_number_156, rX4_number_159, rX4_number_160, rX4_number_161, rX4_number_164, ↓reduceIte, m1_le, m1_lt, m1_eq, ofInt_m1, ex_ret, Int32.reduceAdd, Int32.reduceSub, Int32.reduceMul, Int32.reduceLT, Int32.reduceLE, xsI, Nat.reduceEqDiff, and_false, false_and, and_true, true_and, if_true, if_false, ite_true, ite_false, xlook_0, xlook_s, xI_int, xA_ref, xJ_long, xK_some, xRow_row, xTo_some, xst1, xclr, List.set_cons_zero, List.set_cons_succ, xsum_nil, xsum_int, xsum_ref, xsum_long, Option.toList_some, Option.toList_none, List.nil_append, List.cons_append, s_peek, s_isNamePart, nuS_row, nuS_at, nuS_here, e1, hc, xb01, g1, xsR]
  · have hv2 : dv w = 1073741824 := Nat.le_antisymm hv hge
    have g1 : lg_cmp (lN (dv w)) 1073741824 = 0 := by rw [hv2]; exact lgc_eq
    simp (config := { decide := true }) only [rX4_number_0, rX4_number_1, rX4_number_2, rX4_number_5, rX4_number_8, rX4_number_10, rX4_number_13, rX4_number_14, rX4_number_17, rX4_number_18, rX4_number_19, rX4_number_20, rX4_number_23, riX4_number_24, rX4_number_24, rX4_number_25, rX4_number_28, rX4_number_29, rX4_number_30, rX4_number_33, rX4_number_34, rX4_number_35, rX4_number_36, rX4_number_40, rX4_number_43, rX4_number_46, rX4_number_47, rX4_number_48, rX4_number_51, rX4_number_54, rX4_number_57, rX4_number_60, rX4_number_61, rX4_number_64, rX4_number_65, rX4_number_68, rX4_number_69, rX4_number_72, rX4_number_73, rX4_number_74, rX4_number_75, rX4_number_78, rX4_number_81, rX4_number_83, rX4_number_84, rX4_number_85, rX4_number_86, rX4_number_87, riX4_number_88, rX4_number_88, rX4_number_89, rX4_number_92, rX4_number_93, rX4_number_94, rX4_number_97, rX4_number_100, rX4_number_104, rX4_number_105, rX4_number_108, rX4_number_111, rX4_number_114, rX4_number_117, rX4_number_118, rX4_number_121, rX4_number_122, rX4_number_125, rX4_number_126, rX4_number_129, rX4_number_130, rX4_number_133, rX4_number_134, rX4_number_137, rX4_number_138, rX4_number_139, rX4_number_142, rX4_number_143, rX4_number_144, rX4_number_146, rX4_number_149, rX4_number_150, rX4_number_151, rX4_number_154, rX4_number_155, rX4_number_156, rX4_number_159, rX4_number_160, rX4_number_161, rX4_number_164, ↓reduceIte, m1_le, m1_lt, m1_eq, ofInt_m1, ex_ret, Int32.reduceAdd, Int32.reduceSub, Int32.reduceMul, Int32.reduceLT, Int32.reduceLE, xsI, Nat.reduceEqDiff, and_false, false_and, and_true, true_and, if_true, if_false, ite_true, ite_false, xlook_0, xlook_s, xI_int, xA_ref, xJ_long, xK_some, xRow_row, xTo_some, xst1, xclr, List.set_cons_zero, List.set_cons_succ, xsum_nil, xsum_int, xsum_ref, xsum_long, Option.toList_some, Option.toList_none, List.nil_append, List.cons_append, s_peek, s_isNamePart, nuS_row, nuS_at, nuS_here, e1, hc, xb01, g1, xsR]
