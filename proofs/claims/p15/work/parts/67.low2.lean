/-! Parser: a row of operators from the left. -/
def kStr (k : Int32) : Int32 := if k = 42 then 7 else if k = 43 then 7 else 8
theorem s_str {k : Int32} (h : kOp k) : ∀ S d, XC SK MT (d + 1) 215 [.int k] S = some (some (.int (kStr k)), S) := by
  intro S d
  rcases h with h | h
  · have e : kStr k = 8 := by rcases h with rfl | rfl | rfl <;> decide
    rw [e]; exact str_8 h
  · have e : kStr k = 7 := by rcases h with rfl | rfl <;> decide
    rw [e]; exact str_7 h
/-- an operator and an atom behind it -/
abbrev Oa := (Int32 × Int32) × (Int32 × Int32)
def oaT (cs : List Oa) : List (Int32 × Int32) := cs.flatMap (fun c => [c.1, c.2])
def oaM : Int32 → List Oa → List Mk
  | w, [] => [(9, w, -1)]
  | w, c :: cs => (9, w, -1) :: atM c.2.1 c.2.2 :: oaM c.1.1 cs
/-- each operator, and none stronger than the one ahead -/
def oaOk : Int32 → List Oa → Prop
  | _, [] => True
  | w, c :: cs => kOp c.1.1 ∧ kStr c.1.1 ≤ kStr w ∧ (c.2.1 = 25 ∨ c.2.1 = 27) ∧ oaOk c.1.1 cs
theorem hdK_oa {cs : List Oa} {ts : List (Int32 × Int32)} {w : Int32} (h : oaOk w cs) (he : kEnd (hdK ts)) : (kEnd (hdK (oaT cs ++ ts)) ∨ kOp (hdK (oaT cs ++ ts))) := by
  cases cs with
  | nil => exact Or.inl he
  | cons c cs => exact Or.inr h.1
theorem atom_oa {k : Int32} (h : kEnd k ∨ kOp k) : kAtom k = false := by
  rcases h with (rfl | rfl | rfl | rfl | rfl | rfl) | ((rfl | rfl | rfl) | (rfl | rfl)) <;> decide
theorem oaM_len : ∀ (cs : List Oa) (w : Int32), (oaM w cs).length = 2 * cs.length + 1 := by
  intro cs
  induction cs with
  | nil => intro w; rfl
  | cons c cs ih => intro w; show (oaM c.1.1 cs).length + 1 + 1 = _; rw [ih, List.length_cons]; omega
set_option maxHeartbeats 4000000 in
set_option maxRecDepth 100000 in
/-- behind an operator and its atom -/
theorem low_rest {F : xS → Prop} {d : Nat} (hF : StF F) : ∀ (cs : List Oa) (S : xS) (w : Int32) (n : Nat) (l4 l5 l6 : Option Value) (ts : List (Int32 × Int32)) (ms : List Mk) (o : Nat), PS F S (oaT cs ++ ts) ms o → ms.length + 3 * cs.length + n < 9800 → n + cs.length < 1500 → W1 S w → kOp w → oaOk w cs → kEnd (hdK ts) →
    ∃ S1, XL SK MT (d + 6) 217 (14, [some (.ref 2), some (.int 0), some (.int 8), some (.int (nI n)), l4, l5, l6], [], S) (none, S1) ∧ PS F S1 ts (ms ++ oaM w cs) o ∧ FrQ S S1 ∧ W0 S1 := by
  intro cs
  induction cs with
  | nil =>
    intro S w n l4 l5 l6 ts ms o h hm hnc hw hk hc he
    obtain ⟨S1, a1, a2, a3, a4⟩ := settle_1 (d := d + 3) hF h (by omega) hw hk (k := -1) (s := 0) (fun S d => str_end (by unfold kEnd; decide)) (s_str hk) (by rcases hk with (rfl | rfl | rfl) | (rfl | rfl) <;> decide)
    refine ⟨S1, ?_, a2, a3, a4⟩
    have hkd : S.1 1 13 = hdK ts := h.hk
    have hst : ∀ S d, XC SK MT (d + 1) 215 [.int (hdK ts)] S = some (some (.int 0), S) := fun S d => str_end he
    have hn : ¬ (2000 : Int32) < nI n := Int32.not_lt.mpr (nI_le (b := 2000) (by omega) (by decide))
    rw [rX7_low_14]
    simp (config := { decide := true }) only [rX7_low_0, rX7_low_1, rX7_low_4, rX7_low_5, rX7_low_7, rX7_low_8, rX7_low_9, rX7_low_12, rX7_low_13, rX7_low_15, rX7_low_18, rX7_low_21, rX7_low_22, rX7_low_25, rX7_low_28, rX7_low_31, rX7_low_34, rX7_low_35, rX7_low_38, rX7_low_41, rX7_low_44, rX7_low_45, rX7_low_48, rX7_low_49, rX7_low_52, rX7_low_55, rX7_low_57, rX7_low_58, rX7_low_61, rX7_low_64, rX7_low_66, rX7_low_67, rX7_low_68, rX7_low_70, rX7_low_73, rX7_low_75, rX7_low_77, rX7_low_80, rX7_low_81, rX7_low_84, rX7_low_87, rX7_low_88, rX7_low_91, rX7_low_92, rX7_low_94, rX7_low_95, rX7_low_97, rX7_low_100, rX7_low_101, rX7_low_103, rX7_low_106, rX7_low_107, rX7_low_110, rX7_low_112, rX7_low_115, rX7_low_118, rX7_low_119, rX7_low_122, rX7_low_125, rX7_low_126, rX7_low_127, rX7_low_130, rX7_low_131, rX7_low_134, rX7_low_136, rX7_low_139, rX7_low_140, rX7_low_143, rX7_low_144, rX7_low_147, rX7_low_149, rX7_low_152, riX7_low_153, rX7_low_153, rX7_low_154, rX7_low_157, rX7_low_158, rX7_low_159, rX7_low_162, rX7_low_164, rX7_low_165, rX7_low_168, rX7_low_169, rX7_low_171, rX7_low_172, rX7_low_174, rX7_low_177, rX7_low_178, rX7_low_180, rX7_low_182, rX7_low_185, rX7_low_186, rX7_low_188, rX7_low_189, rX7_low_191, rX7_low_194, rX7_low_195, rX7_low_196, rX7_low_199, rX7_low_202, rX7_low_203, rX7_low_206, rX7_low_209, rX7_low_212, rX7_low_215, rX7_low_217, rX7_low_218, rX7_low_221, rX7_low_223, rX7_low_225, rX7_low_228, rX7_low_230, rX7_low_232, rX7_low_235, rX7_low_236, rX7_low_239, rX7_low_240, rX7_low_242, rX7_low_244, rX7_low_247, rX7_low_248, rX7_low_251, rX7_low_254, rX7_low_255, rX7_low_258, rX7_low_260, rX7_low_263, rX7_low_265, rX7_low_268, rX7_low_270, rX7_low_272, rX7_low_275, rX7_low_277, rX7_low_280, rX7_low_283, rX7_low_284, rX7_low_285, rX7_low_288, rX7_low_291, rX7_low_292, rX7_low_293, rX7_low_294, rX7_low_297, ↓reduceIte, m1_le, m1_lt, m1_eq, ofInt_m1, ex_ret, Int32.reduceAdd, Int32.reduceSub, Int32.reduceMul, Int32.reduceLT, Int32.reduceLE, xsI, Nat.reduceEqDiff, and_false, false_and, and_true, true_and, if_true, if_false, ite_true, ite_false, xlook_0, xlook_s, xI_int, xA_ref, xJ_long, xK_some, xRow_row, xTo_some, xst1, xclr, List.set_cons_zero, List.set_cons_succ, xsum_nil, xsum_int, xsum_ref, xsum_long, Option.toList_some, Option.toList_none, List.nil_append, List.cons_append, hn, hkd, hst, a1]
  | cons c cs ih =>
    intro S w n l4 l5 l6 ts ms o h hm hnc hw hk hc he
    obtain ⟨⟨k, x⟩, ⟨ak, am⟩⟩ := c
    obtain ⟨c1, c2, c3, c4⟩ := hc
    rw [List.length_cons] at hm hnc
    have h0 : PS F S ((k, x) :: (ak, am) :: (oaT cs ++ ts)) ms o := h
    obtain ⟨S1, a1, a2, a3, a4⟩ := settle_1 (d := d + 3) hF h0 (by omega) hw hk (s_str c1) (s_str hk) c2
    -- it waits now
    generalize hS2 : xsetI (xsetI (xsetI S1 27 0 k) 28 0 (S.1 1 14)) 2 9 1 = S2
    have b2 : PS F S2 ((k, x) :: (ak, am) :: (oaT cs ++ ts)) (ms ++ [(9, w, -1)]) o := by
      rw [← hS2]
      exact a2.of hF (fun a ha => by rw [xsR (by unfold lxC at ha; omega), xsR (by unfold lxC at ha; omega), xsR (by unfold lxC at ha; omega)]) (by rw [xsI, if_neg (by decide), xsI, if_neg (by decide), xsI, if_neg (by decide)]) (by rw [xsI, if_neg (by decide), xsI, if_neg (by decide), xsI, if_neg (by decide)])
    have b3 : FrQ S1 S2 := by
      rw [← hS2]
      exact ⟨rfl, fun a q r u v => by rw [xsR (fun z => r (Or.inl z)), xsR v, xsR u], fun q r u v => by rw [xsI, if_neg (fun z => u z.2), xsI, if_neg (by omega), xsI, if_neg (by omega)]⟩
    have b4 : W1 S2 k := by
      rw [← hS2]
      exact ⟨by rw [xsI, if_pos ⟨rfl, rfl⟩], by rw [xsI, if_neg (by decide), xsI, if_neg (by decide), xsI, if_pos ⟨rfl, rfl⟩]⟩
    obtain ⟨S3, d1, d2, d3⟩ := b2.step (d + 3)
    have hna := atom_oa (hdK_oa c4 he)
    obtain ⟨S4, e1, e2, e3⟩ := s_operand (d := d + 1) hF d2 (by rw [List.length_append]; show _ + 1 < _; omega) c3 hna
    rw [List.append_assoc] at e2
    obtain ⟨S5, f1, f2, f3, f4⟩ := ih S4 k (n + 1) (some (.int k)) (some (.int (S.1 1 14))) (some (.int 0)) ts _ o e2 (by rw [List.length_append]; show _ + 2 + _ + _ < _; omega) (by omega) (e3.W1 (d3.W1 b4)) c1 c4 he
    rw [List.append_assoc] at f2
    refine ⟨S5, ?_, f2, ((a3.trans b3).trans (d3.Q.trans e3.Q)).trans f3, f4⟩
    have hkd : S.1 1 13 = k := h0.kind
    have hst : ∀ S d, XC SK MT (d + 1) 215 [.int k] S = some (some (.int (kStr k)), S) := s_str c1
    have hfr : ∀ S d, XC SK MT (d + 1) 216 [.int k] S = some (some (.int 0), S) := fun S d => s_fromRight (Or.inr c1)
    have hn : ¬ (2000 : Int32) < nI n := Int32.not_lt.mpr (nI_le (b := 2000) (by omega) (by decide))
    have g1 : ¬ kStr k ≤ 0 := by rcases c1 with (rfl | rfl | rfl) | (rfl | rfl) <;> decide
    have g2 : ¬ (8 : Int32) < kStr k := by rcases c1 with (rfl | rfl | rfl) | (rfl | rfl) <;> decide
    have g3 : ¬ k = 36 := by rcases c1 with (rfl | rfl | rfl) | (rfl | rfl) <;> decide
    have g4 : ¬ k = 1 := by rcases c1 with (rfl | rfl | rfl) | (rfl | rfl) <;> decide
    have g5 : ¬ k = 18 := by rcases c1 with (rfl | rfl | rfl) | (rfl | rfl) <;> decide
    have hkd3 : S3.1 1 13 = ak := d2.kind
    have hwide : xb01 (kWide ak) = 0 := by rcases c3 with z | z <;> (rw [show ak = _ from z]; decide)
    have hw9 : S1.1 2 9 = 0 := a4
    rw [rX7_low_14]
    simp (config := { decide := true }) only [rX7_low_0, rX7_low_1, rX7_low_4, rX7_low_5, rX7_low_7, rX7_low_8, rX7_low_9, rX7_low_12, rX7_low_13, rX7_low_15, rX7_low_18, rX7_low_21, rX7_low_22, rX7_low_25, rX7_low_28, rX7_low_31, rX7_low_34, rX7_low_35, rX7_low_38, rX7_low_41, rX7_low_44, rX7_low_45, rX7_low_48, rX7_low_49, rX7_low_52, rX7_low_55, rX7_low_57, rX7_low_58, rX7_low_61, rX7_low_64, rX7_low_66, rX7_low_67, rX7_low_68, rX7_low_70, rX7_low_73, rX7_low_75, rX7_low_77, rX7_low_80, rX7_low_81, rX7_low_84, rX7_low_87, rX7_low_88, rX7_low_91, rX7_low_92, rX7_low_94, rX7_low_95, rX7_low_97, rX7_low_100, rX7_low_101, rX7_low_103, rX7_low_106, rX7_low_107, rX7_low_110, rX7_low_112, rX7_low_115, rX7_low_118, rX7_low_119, rX7_low_122, rX7_low_125, rX7_low_126, rX7_low_127, rX7_low_130, rX7_low_131, rX7_low_134, rX7_low_136, rX7_low_139, rX7_low_140, rX7_low_143, rX7_low_144, rX7_low_147, rX7_low_149, rX7_low_152, riX7_low_153, rX7_low_153, rX7_low_154, rX7_low_157, rX7_low_158, rX7_low_159, rX7_low_162, rX7_low_164, rX7_low_165, rX7_low_168, rX7_low_169, rX7_low_171, rX7_low_172, rX7_low_174, rX7_low_177, rX7_low_178, rX7_low_180, rX7_low_182, rX7_low_185, rX7_low_186, rX7_low_188, rX7_low_189, rX7_low_191, rX7_low_194, rX7_low_195, rX7_low_196, rX7_low_199, rX7_low_202, rX7_low_203, rX7_low_206, rX7_low_209, rX7_low_212, rX7_low_215, rX7_low_217, rX7_low_218, rX7_low_221, rX7_low_223, rX7_low_225, rX7_low_228, rX7_low_230, rX7_low_232, rX7_low_235, rX7_low_236, rX7_low_239, rX7_low_240, rX7_low_242, rX7_low_244, rX7_low_247, rX7_low_248, rX7_low_251, rX7_low_254, rX7_low_255, rX7_low_258, rX7_low_260, rX7_low_263, rX7_low_265, rX7_low_268, rX7_low_270, rX7_low_272, rX7_low_275, rX7_low_277, rX7_low_280, rX7_low_283, rX7_low_284, rX7_low_285, rX7_low_288, rX7_low_291, rX7_low_292, rX7_low_293, rX7_low_294, rX7_low_297, ↓reduceIte, m1_le, m1_lt, m1_eq, ofInt_m1, ex_ret, Int32.reduceAdd, Int32.reduceSub, Int32.reduceMul, Int32.reduceLT, Int32.reduceLE, xsI, Nat.reduceEqDiff, and_false, false_and, and_true, true_and, if_true, if_false, ite_true, ite_false, xlook_0, xlook_s, xI_int, xA_ref, xJ_long, xK_some, xRow_row, xTo_some, xst1, xclr, List.set_cons_zero, List.set_cons_succ, xsum_nil, xsum_int, xsum_ref, xsum_long, Option.toList_some, Option.toList_none, List.nil_append, List.cons_append, hn, hkd, hst, hfr, g1, g2, g3, g4, g5, a1, hw9, s_put (show SK[27]? = some (.inl (0, 1024)) from rfl) (by decide : 1024 < 2 ^ 31), s_put (show SK[28]? = some (.inl (0, 1024)) from rfl) (by decide : 1024 < 2 ^ 31), xput_0 (show 0 < 1024 by decide) (by decide : 1024 < 2 ^ 31), xsR, hS2, d1, hkd3, s_beginsWide, hwide, e1, nI_1]
    exact f1
