/-! The law: its head; what it does behind the loop. -/
def hdB (x y : Int32) : List Nat := [118, 97, 108, 32, 120, 32, 61, 32] ++ nmB x.toInt ++ [32, 118, 97, 108, 32, 121, 32, 61] ++ [32] ++ nmB y.toInt
theorem nmB_le (v : Int) : (nmB v).length ≤ 12 := by
  have hp := ndg_pos 10 v.natAbs
  have hl := dgs_len (ndg 10 v.natAbs) v.natAbs
  unfold nmB nby
  split
  · rw [List.length_cons, hl]; omega
  · rw [hl]; omega
theorem hdB_len (x y : Int32) : (hdB x y).length ≤ 50 := by
  have h1 := nmB_le x.toInt
  have h2 := nmB_le y.toInt
  unfold hdB
  simp only [List.length_append, List.length_cons, List.length_nil]
  omega
/-- the whole text -/
theorem prB_hd (x y : Int32) (ls : List Ln) : prB x.toInt y.toInt ls = hdB x y ++ itB (ls.flatMap lnI) ++ [10, 105, 110, 32, 120] := by
  have e : itB (tailI ls) = itB (ls.flatMap lnI) ++ [10, 105, 110, 32, 120] := by unfold tailI; rw [itB_app]; rfl
  have e1 : itB [eqI, nmI x.toInt, (([32, 118, 97, 108], (23, 0)) : Itm)] = [32, 61] ++ (32 :: nmB x.toInt ++ [32, 118, 97, 108]) := by
    show [32, 61] ++ (32 :: nmB x.toInt ++ ([32, 118, 97, 108] ++ [])) = _
    rw [List.append_nil]
  have e2 : itB [eqI, nmI y.toInt] = [32, 61] ++ (32 :: nmB y.toInt) := by
    show [32, 61] ++ (32 :: nmB y.toInt ++ []) = _
    rw [List.append_nil]
  unfold prB hdB
  rw [e, e1, e2]
  simp only [List.append_assoc, List.cons_append, List.nil_append]
theorem lnI_len (l : Ln) (h : l.2.1 < 8) : (itB (lnI l)).length ≤ 70 := by
  obtain ⟨fi, how, o, ha⟩ := l
  have hb : itB (lnI (fi, how, o, ha)) = [10, 118, 97, 108, 32, nmX fi, 32, 61, 32, 40, 120] ++ (itB (opI how) ++ ((laI o).1 ++ itB (haI ha ++ [([41], (31, 0))]))) := by
    show itB ([([10, 118, 97, 108], (23, 0)), ([32, nmX fi], (25, idX fi)), ([32, 61], (38, 0)), ([32, 40], (30, 0)), ([120], (25, 51))] ++ (opI how ++ (laI o :: (haI ha ++ [([41], (31, 0))])))) = _
    rw [itB_app, itB_app]
    rfl
  have l1 : (itB (opI how)).length ≤ 10 := by
    match how, h with
    | 0, _ => decide
    | 1, _ => decide
    | 2, _ => decide
    | 3, _ => decide
    | 4, _ => decide
    | 5, _ => decide
    | 6, _ => decide
    | 7, _ => decide
  have l2 : (laI o).1.length ≤ 13 := by
    cases o with
    | none => decide
    | some v => show (32 :: nmB v).length ≤ 13; have := nmB_le v; rw [List.length_cons]; omega
  have l3 : (itB (haI ha ++ [(([41], (31, 0)) : Itm)])).length ≤ 17 := by cases ha <;> decide
  rw [hb]
  simp only [List.length_append, List.length_cons, List.length_nil]
  omega
theorem ls_len : ∀ (ls : List Ln), (∀ l ∈ ls, l.2.1 < 8) → (itB (ls.flatMap lnI)).length ≤ 70 * ls.length
  | [], _ => by decide
  | l :: ls, h => by
    have h1 := lnI_len l (h l List.mem_cons_self)
    have h2 := ls_len ls (fun q hq => h q (List.mem_cons_of_mem _ hq))
    rw [List.flatMap_cons, itB_app, List.length_append, List.length_cons]
    omega
theorem ls_app (ls : List Ln) (l : Ln) : itB ((ls ++ [l]).flatMap lnI) = itB (ls.flatMap lnI) ++ itB (lnI l) := by
  rw [List.flatMap_append, itB_app]
  show _ ++ itB (lnI l ++ []) = _
  rw [List.append_nil]

set_option maxHeartbeats 8000000 in
set_option maxRecDepth 100000 in
theorem lw_head {d : Nat} {x y : Int32} {S : xS} (h : Sd S []) :
    ∃ S', Sd S' (hdB x y) ∧ FrSy S S' ∧ LH d 29 [some (.ref 70), some (.ref 0), some (.ref 69), some (.int x), some (.int y), none, none, none, none, none, none, none, none, none, none, none, none] [] S (71, [some (.ref 70), some (.ref 0), some (.ref 69), some (.int x), some (.int y), none, none, none, none, none, none, none, none, none, none, none, none], [], S') := by
  obtain ⟨S1, a1, a2, a3⟩ := say_c (d := d) (lit := 2323048683105182070) (ni := 8) (sg := 2323048683105182070) (n := 8) (l := [118, 97, 108, 32, 120, 32, 61, 32]) h rfl rfl (by decide) (by decide) (by decide) (by decide) (by decide)
  obtain ⟨S2, b1, b2, b3⟩ := s_lnumber (d := d) (v := x) a2 (by decide)
  have n1 := nmB_le x.toInt
  have n2 := nmB_le y.toInt
  obtain ⟨S3, e1, e2, e3⟩ := say_c (d := d) (lit := 4404653615732586016) (ni := 8) (sg := 4404653615732586016) (n := 8) (l := [32, 118, 97, 108, 32, 121, 32, 61]) b2 rfl rfl (by decide) (by decide) (by decide) (by decide) (by simp only [List.length_append, List.length_cons, List.length_nil]; omega)
  obtain ⟨S4, f1, f2, f3⟩ := say_c (d := d) (lit := 32) (ni := 1) (sg := 32) (n := 1) (l := [32]) e2 rfl rfl (by decide) (by decide) (by decide) (by decide) (by simp only [List.length_append, List.length_cons, List.length_nil]; omega)
  obtain ⟨S5, g1, g2, g3⟩ := s_lnumber (d := d) (v := y) f2 (by simp only [List.length_append, List.length_cons, List.length_nil]; omega)
  refine ⟨S5, g2, (((a3.tr b3).tr e3).tr f3).tr g3, ?_⟩
  unfold LH
  simp (config := { decide := true }) only [hiL_law_3, hL_law_3, hL_law_7, hL_law_8, hL_law_11, hL_law_12, hL_law_13, hL_law_17, hL_law_18, hL_law_19, hL_law_20, hL_law_21, hL_law_25, hL_law_26, hL_law_27, hL_law_29, hL_law_30, hL_law_33, hL_law_35, hL_law_36, hL_law_39, hL_law_40, hL_law_41, hL_law_42, hL_law_45, hL_law_46, hL_law_49, hL_law_51, hL_law_52, hL_law_55, hL_law_56, hL_law_59, hL_law_60, hL_law_61, hL_law_64, hL_law_65, hL_law_67, hL_law_68, hL_law_72, hL_law_73, hL_law_75, hL_law_78, hL_law_79, hL_law_80, hL_law_83, hL_law_85, hL_law_87, hL_law_88, hL_law_90, hL_law_91, hL_law_95, hL_law_97, hL_law_100, hL_law_101, hL_law_103, hL_law_104, hL_law_106, hL_law_108, hL_law_109, hL_law_110, hL_law_113, hL_law_114, hL_law_117, hL_law_118, hL_law_120, hL_law_122, hL_law_123, hL_law_124, hL_law_126, hL_law_127, hL_law_129, hL_law_131, hL_law_133, hL_law_134, hL_law_137, hL_law_138, hL_law_141, hL_law_142, hL_law_144, hL_law_146, hL_law_148, hL_law_149, hL_law_151, hL_law_152, hL_law_154, hL_law_157, hL_law_160, hL_law_163, hL_law_166, hL_law_168, hL_law_169, hL_law_172, hL_law_173, hL_law_176, hL_law_177, hL_law_178, hL_law_181, hL_law_183, hL_law_186, hL_law_187, hL_law_190, hL_law_191, hL_law_192, hL_law_195, hL_law_198, hL_law_200, hL_law_201, hL_law_204, hL_law_205, hL_law_208, hL_law_209, hL_law_210, hL_law_213, hL_law_216, hL_law_218, hL_law_219, hL_law_222, hL_law_223, hL_law_226, hL_law_227, hL_law_228, hL_law_231, hL_law_234, hL_law_236, hL_law_237, hL_law_240, hL_law_241, hL_law_244, hL_law_245, hL_law_246, hL_law_249, hL_law_252, hL_law_254, hL_law_255, hL_law_258, hL_law_259, hL_law_262, hL_law_263, hL_law_264, hL_law_267, hL_law_270, hL_law_272, hL_law_273, hL_law_276, hL_law_277, hL_law_280, hL_law_281, hL_law_282, hL_law_285, hL_law_288, hL_law_290, hL_law_292, hL_law_295, hL_law_296, hL_law_299, hL_law_300, hL_law_301, hL_law_304, hL_law_307, hL_law_308, hL_law_311, hL_law_313, hL_law_314, hL_law_317, hL_law_318, hL_law_321, hL_law_322, hL_law_323, hL_law_326, hL_law_327, hL_law_330, hL_law_331, hL_law_332, hL_law_335, hL_law_337, hL_law_339, hL_law_340, hL_law_343, hL_law_344, hL_law_347, hL_law_348, hL_law_350, hL_law_352, hL_law_355, hL_law_356, hL_law_358, hL_law_359, hL_law_362, hL_law_365, hL_law_366, hL_law_369, hL_law_370, hL_law_371, hL_law_374, hL_law_376, hL_law_379, hL_law_380, hL_law_383, hL_law_385, hL_law_386, hL_law_389, hL_law_390, hL_law_393, hL_law_395, hL_law_396, hL_law_399, hL_law_400, hL_law_403, hL_law_404, hL_law_405, hL_law_408, hL_law_410, hL_law_413, hL_law_416, hL_law_418, hL_law_421, hL_law_423, hL_law_426, hL_law_428, hL_law_430, hL_law_431, hL_law_433, hL_law_435, hL_law_438, hL_law_439, hL_law_441, hL_law_442, hL_law_444, hL_law_447, hL_law_449, hL_law_450, hL_law_453, hL_law_454, hL_law_456, hL_law_457, hL_law_459, hL_law_462, hL_law_464, hL_law_465, hL_law_468, hL_law_469, hL_law_471, hL_law_472, hL_law_474, hL_law_477, hL_law_479, hL_law_480, hL_law_483, hL_law_484, hL_law_486, hL_law_487, hL_law_489, hL_law_490, hL_law_492, hL_law_495, hL_law_497, hL_law_499, hL_law_502, hL_law_503, hL_law_504, hL_law_505, hL_law_507, hL_law_508, hL_law_510, hL_law_513, hL_law_515, hL_law_517, hL_law_520, hL_law_521, hL_law_522, hL_law_523, hL_law_525, hL_law_526, hL_law_528, hL_law_529, hL_law_531, hL_law_534, hL_law_536, hL_law_539, hL_law_541, hL_law_543, hL_law_545, hL_law_548, hL_law_549, hL_law_552, hL_law_553, hL_law_555, hL_law_558, hL_law_559, hL_law_561, hL_law_562, hL_law_564, hL_law_565, hL_law_567, hL_law_568, hL_law_571, hL_law_572, hL_law_575, hL_law_576, hL_law_579, hL_law_580, hL_law_582, hL_law_585, hL_law_586, hL_law_589, hL_law_590, hL_law_593, hL_law_596, hL_law_598, hL_law_599, hL_law_602, hL_law_604, hL_law_607, hL_law_608, hL_law_610, hL_law_612, hL_law_613, hL_law_614, hL_law_616, hL_law_618, hL_law_619, hL_law_620, hL_law_621, hL_law_622, hL_law_624, hL_law_626, hL_law_629, hL_law_631, hL_law_632, hL_law_635, hL_law_637, hL_law_639, hL_law_642, hL_law_645, hL_law_646, hL_law_649, hL_law_650, hL_law_651, hL_law_654, hL_law_655, hL_law_656, hL_law_659, hL_law_662, hL_law_663, hL_law_664, hL_law_667, hL_law_670, hL_law_672, hL_law_673, hL_law_675, hL_law_677, hL_law_678, hL_law_681, hL_law_682, hL_law_684, hL_law_685, hL_law_687, hL_law_690, hL_law_692, hL_law_695, hL_law_696, hL_law_699, hL_law_700, hL_law_703, hL_law_704, hL_law_705, hL_law_708, hL_law_711, hL_law_712, hL_law_713, hL_law_716, hL_law_719, hL_law_720, hL_law_721, hL_law_724, hL_law_727, hL_law_728, hL_law_729, hL_law_732, hL_law_735, hL_law_737, hL_law_739, hL_law_742, hL_law_743, hL_law_744, hL_law_747, hL_law_748, hL_law_751, hL_law_754, hL_law_758, hL_law_759, hL_law_762, hL_law_765, hL_law_767, hL_law_770, hL_law_773, hL_law_774, hL_law_775, hL_law_778, hL_law_779, hL_law_782, hL_law_786, hL_law_787, hL_law_790, hL_law_792, hL_law_795, hL_law_796, hL_law_799, hL_law_93, hL_law_757, hL_law_785, ↓reduceIte, m1_le, m1_lt, m1_eq, ofInt_m1, ex_ret, Int32.reduceAdd, Int32.reduceSub, Int32.reduceMul, Int32.reduceLT, Int32.reduceLE, xsI, Nat.reduceEqDiff, and_false, false_and, and_true, true_and, if_true, if_false, ite_true, ite_false, xlook_0, xlook_s, xI_int, xA_ref, xJ_long, xK_some, xRow_row, xTo_some, xst1, xclr, List.set_cons_zero, List.set_cons_succ, xsum_nil, xsum_int, xsum_ref, xsum_long, Option.toList_some, Option.toList_none, List.nil_append, List.cons_append, a1, b1, e1, f1, g1]
  exact (H_at rfl).mpr rfl

/-- a program that is ready for the law's runs -/
def Rdy (S : xS) (v0 v1 : Int) (ls : List Ln) : Prop := CO S (prO v0 v1 ls) ∧ (∃ n, S.1 3 18 = nI n ∧ Fi S n 2) ∧ TN S ∧ S.1 50 2 = 0 ∧ NWr S [105, 110, 116] 25 97 ∧ NWr S [68, 105, 118] 37 144 ∧ S.1 0 19 = 1
theorem Rdy.fr {S S' : xS} {v0 v1 : Int} {ls : List Ln} (h : Rdy S v0 v1 ls) (hp : S'.1 0 19 = S.1 0 19) (hf : ∀ a, ¬ a = 0 → ¬ a = 7 → ¬ a = 9 → ¬ a = 11 → ¬ a = 12 → ¬ a = 14 → ¬ a = 15 → ¬ a = 62 → ¬ a = 63 → ¬ a = 64 → ¬ a = 65 → ¬ a = 66 → ¬ a = 67 → S'.1 a = S.1 a) : Rdy S' v0 v1 ls := by
  obtain ⟨⟨c1, c2⟩, ⟨n, n1, n2⟩, ⟨t1, t2⟩, h2, w1, w2, hp2⟩ := h
  have g : ∀ a, (a = 1 ∨ a = 3 ∨ a = 4 ∨ a = 6 ∨ (16 ≤ a ∧ a ≤ 61)) → S'.1 a = S.1 a := fun a ha => hf a (by omega) (by omega) (by omega) (by omega) (by omega) (by omega) (by omega) (by omega) (by omega) (by omega) (by omega) (by omega) (by omega)
  refine ⟨⟨?_, fun i o ho => ?_⟩, ⟨n, ?_, ?_⟩, ⟨?_, ?_⟩, ?_, ⟨?_, ?_, fun j b hj => ?_⟩, ⟨?_, ?_, fun j b hj => ?_⟩, hp.trans hp2⟩
  · rw [g 6 (by omega)]; exact c1
  · rw [g 53 (by omega), g 54 (by omega), g 55 (by omega)]; exact c2 i o ho
  · rw [g 3 (by omega)]; exact n1
  · obtain ⟨f1, f2, f3, f4⟩ := n2
    exact ⟨f1, f2, by rw [g 44 (by omega)]; exact f3, by rw [g 44 (by omega), g 45 (by omega)]; exact f4⟩
  · rw [g 38 (by omega)]; exact t1
  · rw [g 36 (by omega)]; exact t2
  · rw [g 50 (by omega)]; exact h2
  · rw [g 18 (by omega)]; exact w1.1
  · rw [g 19 (by omega)]; exact w1.2.1
  · rw [g 16 (by omega)]; exact w1.2.2 j b hj
  · rw [g 18 (by omega)]; exact w2.1
  · rw [g 19 (by omega)]; exact w2.2.1
  · rw [g 16 (by omega)]; exact w2.2.2 j b hj
/-- a run of the law's, how 0, 1, 2 -/
theorem s_runs {d h : Nat} {S : xS} {v0 v1 : Int} {ls : List Ln} (hh : h < 3) (hls : ls.length ≤ 60) (hR : Rdy S v0 v1 ls) (hk : ∀ m, h ≤ m → 0 < m → m < 3 → ¬ S.1 0 18 = nI m) :
    (∀ u, evL (wd v0) (wd v1) (ls.map lnD) = some u → ∃ S3, XC SK MT (d + 8) 312 [.ref 0, .int (nI h), .int 1, .int 16] S = some (some (.int 0), S3) ∧ RN S3 0 u.1 ∧ Rdy S3 v0 v1 ls ∧ S3.2 = S.2 ∧ ∀ m, h + 1 ≤ m → 0 < m → m < 3 → ¬ S3.1 0 18 = nI m) ∧
    (evL (wd v0) (wd v1) (ls.map lnD) = none → ∃ S3, XC SK MT (d + 8) 312 [.ref 0, .int (nI h), .int 1, .int 16] S = some (some (.int 1), S3) ∧ RN S3 1 26 ∧ Rdy S3 v0 v1 ls ∧ S3.2 = S.2 ∧ ∀ m, h + 1 ≤ m → 0 < m → m < 3 → ¬ S3.1 0 18 = nI m) := by
  have hp : S.1 0 19 = 1 := hR.2.2.2.2.2.2
  by_cases h0 : h = 0
  · subst h0
    have hc0 : CO (xsetI S 14 277 (S.1 0 13)) (prO v0 v1 ls) := hR.1
    obtain ⟨p1, p2⟩ := s_go (d := d + 2) (a := 1) (b := 16) hls hc0
    have fin : ∀ (S3 : xS), FrRn S S3 → Rdy S3 v0 v1 ls ∧ S3.2 = S.2 ∧ ∀ m, 0 + 1 ≤ m → 0 < m → m < 3 → ¬ S3.1 0 18 = nI m := by
      intro S3 f
      refine ⟨hR.fr (f.2.2 _ (by decide) (by decide)) (fun a a0 a7 a9 a11 a12 a14 a15 a62 a63 a64 a65 a66 ab => f.2.1 a a0 a7 a14 a15), f.1, fun m hm h0m hm3 => ?_⟩
      rw [f.2.2 _ (by decide) (by decide)]
      exact hk m (by omega) h0m hm3
    refine ⟨fun u hu => ?_, fun hu => ?_⟩
    · obtain ⟨S1, g1, g2, g3⟩ := p1 u hu
      obtain ⟨S3, r1, r2, r3⟩ := s_run0 (d := d + 2) hp g1 g2 g3
      exact ⟨S3, r1, r2, fin S3 r3⟩
    · obtain ⟨S1, g1, g2, g3⟩ := p2 hu
      obtain ⟨S3, r1, r2, r3⟩ := s_run0 (d := d + 2) hp g1 g2 g3
      exact ⟨S3, r1, r2, fin S3 r3⟩
  · obtain ⟨p1, p2⟩ := s_run1 (d := d) (h := h) (by omega) hls hp (hk h (Nat.le_refl _) (by omega) hh) hR.1
    have fin : ∀ (S3 : xS), FrR1 S S3 → S3.1 0 18 = nI h → Rdy S3 v0 v1 ls ∧ S3.2 = S.2 ∧ ∀ m, h + 1 ≤ m → 0 < m → m < 3 → ¬ S3.1 0 18 = nI m := by
      intro S3 f hcm
      refine ⟨hR.fr (f.2.2 _ (by decide) (by decide) (by decide)) (fun a a0 a7 a9 a11 a12 a14 a15 a62 a63 a64 a65 a66 ab => f.2.1 a a0 a9 a11 a14 a15 a62 a63 a64 a65 a66), f.1, fun m hm h0m hm3 => ?_⟩
      rw [hcm]
      exact fun z => absurd ((nI_eq (by omega) (by omega)).mp z) (by omega)
    refine ⟨fun u hu => ?_, fun hu => ?_⟩
    · obtain ⟨S3, r1, r2, r3, r4⟩ := p1 u hu
      exact ⟨S3, r1, r2, fin S3 r3 r4⟩
    · obtain ⟨S3, r1, r2, r3, r4⟩ := p2 hu
      exact ⟨S3, r1, r2, fin S3 r3 r4⟩
