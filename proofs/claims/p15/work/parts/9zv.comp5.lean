/-! Compiler: compile. -/
theorem AS.rw62 {S0 S : xS} {a : PA} {row : Nat → Int32} (h : AS S0 S a) : AS (rowS S0 row) (rowS S row) a := by
  refine AS.mk h.hw h.hr h.ln h.cp h.bs h.bc h.lo h.fn h.fx h.lb h.me h.ow ?_ h.fm h.f2
  intro b j h1 h2 h3 h4 h5
  show (if b = 62 then row j else S.1 b j) = (if b = 62 then row j else S0.1 b j)
  by_cases q : b = 62
  · rw [if_pos q, if_pos q]
  · rw [if_neg q, if_neg q]; exact h.fr b j h1 h2 h3 h4 h5
def laS (S : xS) (os : List Or3) : xS := rowS S (ldms os (r0w os.length (S.1 62)))
def cmA (S : xS) (w : Int32) (os : List Or3) : PA := pOrs (laS S os) 0 os (libA w)
set_option maxHeartbeats 4000000 in
set_option maxRecDepth 100000 in
theorem l_all {S : xS} {w : Int32} (hw : w = 1 ∨ w = 2) : ∃ S', AS S S' (libA w) ∧ ∀ d r, XL SK MT (d + 6) 104 (141, [some (.ref 8), some (.int w), none, none, none, none], [], S') r → XL SK MT (d + 6) 104 (0, [some (.ref 8), some (.int w), none, none, none, none], [], S) r := by
  have h0 := AS.opn (S := S) w
  have e0 : ∀ d, XC SK MT (d + 1) 0 [.ref 9, .int w] S = some (none, opF S w) := fun _ => a_open
  generalize opF S w = S0 at h0 e0
  obtain ⟨S1, e1, h1⟩ := l_start h0
  have h1 : AS S S1 (lib0 w) := h1
  obtain ⟨S2, e2, h2⟩ := l_ends h1
  have h2 : AS S S2 (lib1 w) := h2
  obtain ⟨S3, e3, h3⟩ := l_layPush h2 lib1_own
  have h3 : AS S S3 (lib2 w) := h3
  obtain ⟨S4, e4, h4⟩ := l_layMoved h3 lib2_own
  have h4 : AS S S4 (lib3 w) := h4
  obtain ⟨S5, e5, h5⟩ := l_layCollect h4 lib3_own
  have h5 : AS S S5 (lib4 w) := h5
  obtain ⟨S6, e6, h6⟩ := l_layNeed h5 lib4_own
  have h6 : AS S S6 (lib5 w) := h6
  obtain ⟨S7, e7, h7⟩ := l_layObjects h6 lib5_own
  have h7 : AS S S7 (lib6 w) := h7
  obtain ⟨S8, e8, h8⟩ := l_layCons h7
  have h8 : AS S S8 (lib7 w) := h8
  obtain ⟨S9, e9, h9⟩ := l_layStrings h8 lib7_own
  have h9 : AS S S9 (lib8 w) := h9
  obtain ⟨S10, e10, h10⟩ := l_layFigures h9 lib8_own
  have h10 : AS S S10 (lib9 w) := h10
  obtain ⟨S11, e11, h11⟩ := l_layDivide h10 lib9_own
  have h11 : AS S S11 (lib10 w) := h11
  obtain ⟨S12, e12, h12⟩ := l_layRaise h11 lib10_own
  have h12 : AS S S12 (lib11 w) := h12
  obtain ⟨S13, e13, h13⟩ := l_layCalls h12 lib11_own
  have h13 : AS S S13 (lib12 w) := h13
  have t2 : ∃ v, lkL (pA_layKnown (lib12 w)).lb 65607 = some v := by
    rcases hw with rfl | rfl
    · exact lib_t2_1
    · exact lib_t2_2
  obtain ⟨S14, e14, h14⟩ := l_layKnown h13 lib12_own t2
  have h14 : AS S S14 (lib13 w) := h14
  obtain ⟨S15, e15, h15⟩ := l_layBox h14
  have h15 : AS S S15 (lib14 w) := h15
  obtain ⟨S16, e16, h16⟩ := l_layPlain h15
  have h16 : AS S S16 (lib15 w) := h16
  obtain ⟨S17, e17, h17⟩ := l_layOutput h16 lib15_own
  have h17 : AS S S17 (lib16 w) := h17
  obtain ⟨S18, e18, h18⟩ := l_layPartial h17 lib16_own
  have h18 : AS S S18 (lib17 w) := h18
  obtain ⟨S19, e19, h19⟩ := l_layGiven h18 lib17_own
  have h19 : AS S S19 (lib18 w) := h19
  refine ⟨S19, h19, fun d r hr => ?_⟩
  simp (config := { decide := true }) only [rX3_compile_0, rX3_compile_1, rX3_compile_4, rX3_compile_5, rX3_compile_8, rX3_compile_9, rX3_compile_12, rX3_compile_15, rX3_compile_16, rX3_compile_19, rX3_compile_22, rX3_compile_23, rX3_compile_26, rX3_compile_29, rX3_compile_30, rX3_compile_33, rX3_compile_36, rX3_compile_37, rX3_compile_40, rX3_compile_43, rX3_compile_44, rX3_compile_47, rX3_compile_50, rX3_compile_51, rX3_compile_54, rX3_compile_57, rX3_compile_58, rX3_compile_61, rX3_compile_64, rX3_compile_65, rX3_compile_68, rX3_compile_71, rX3_compile_72, rX3_compile_75, rX3_compile_78, rX3_compile_79, rX3_compile_82, rX3_compile_85, rX3_compile_86, rX3_compile_89, rX3_compile_92, rX3_compile_93, rX3_compile_96, rX3_compile_99, rX3_compile_100, rX3_compile_103, rX3_compile_106, rX3_compile_107, rX3_compile_110, rX3_compile_113, rX3_compile_114, rX3_compile_117, rX3_compile_120, rX3_compile_121, rX3_compile_124, rX3_compile_127, rX3_compile_128, rX3_compile_131, rX3_compile_134, rX3_compile_135, rX3_compile_138, rX3_compile_142, rX3_compile_145, rX3_compile_146, rX3_compile_147, rX3_compile_148, rX3_compile_149, rX3_compile_152, rX3_compile_155, rX3_compile_158, rX3_compile_159, rX3_compile_162, rX3_compile_163, rX3_compile_166, rX3_compile_169, rX3_compile_170, rX3_compile_173, rX3_compile_174, rX3_compile_177, rX3_compile_178, rX3_compile_181, rX3_compile_184, rX3_compile_185, rX3_compile_188, rX3_compile_189, rX3_compile_190, rX3_compile_193, rX3_compile_196, rX3_compile_197, rX3_compile_200, rX3_compile_202, rX3_compile_203, rX3_compile_206, rX3_compile_209, rX3_compile_210, rX3_compile_213, rX3_compile_215, rX3_compile_216, rX3_compile_218, rX3_compile_221, rX3_compile_222, rX3_compile_223, rX3_compile_225, rX3_compile_227, rX3_compile_230, rX3_compile_233, rX3_compile_234, rX3_compile_236, rX3_compile_239, rX3_compile_240, rX3_compile_241, rX3_compile_243, rX3_compile_246, rX3_compile_249, rX3_compile_250, rX3_compile_252, rX3_compile_255, rX3_compile_256, rX3_compile_258, rX3_compile_260, rX3_compile_261, rX3_compile_264, rX3_compile_267, rX3_compile_268, rX3_compile_270, rX3_compile_273, rX3_compile_274, rX3_compile_275, rX3_compile_277, rX3_compile_279, rX3_compile_282, rX3_compile_285, rX3_compile_286, rX3_compile_288, rX3_compile_291, rX3_compile_292, rX3_compile_294, rX3_compile_297, rX3_compile_300, rX3_compile_301, rX3_compile_302, rX3_compile_304, rX3_compile_307, rX3_compile_310, rX3_compile_313, rX3_compile_314, rX3_compile_317, rX3_compile_320, ↓reduceIte, m1_le, m1_lt, m1_eq, ofInt_m1, ex_ret, Int32.reduceAdd, Int32.reduceSub, Int32.reduceMul, Int32.reduceLT, Int32.reduceLE, xsI, Nat.reduceEqDiff, and_false, false_and, and_true, true_and, if_true, if_false, ite_true, ite_false, xlook_0, xlook_s, xI_int, xA_ref, xJ_long, xK_some, xRow_row, xTo_some, xst1, xclr, List.set_cons_zero, List.set_cons_succ, xsum_nil, xsum_int, xsum_ref, xsum_long, Option.toList_some, Option.toList_none, List.nil_append, List.cons_append, e0, e1, e2, e3, e4, e5, e6, e7, e8, e9, e10, e11, e12, e13, e14, e15, e16, e17, e18, e19]
  exact hr
set_option maxHeartbeats 4000000 in
set_option maxRecDepth 100000 in
theorem s_compile {d : Nat} {S : xS} {w : Int32} {os : List Or3} (hw : w = 1 ∨ w = 2) (hc : CO S os) (hn : os.length < 60000) (ok : ∀ o ∈ os, okO o) (hf : (cmA S w os).fx.length ≤ 65536) (hp : ∀ f ∈ (cmA S w os).fx, fxO (cmA S w os).lb f) : ∃ S', XC SK MT (d + 7) 104 [.ref 8, .int w] S = some (none, memS S' (clM (cmA S w os).lb (cmA S w os).fx.reverse (fun p => S'.1 14 (19840 + p)))) ∧ AS (laS S os) S' (cmA S w os) := by
  obtain ⟨S1, h1, r1⟩ := l_all (S := S) hw
  have c1 : CO S1 os := hc.of (h1.fr 6 3 (by decide) (by decide) (by decide) (by decide) (by decide)) (funext fun j => h1.fr _ j (by decide) (by decide) (by decide) (by decide) (by decide)) (funext fun j => h1.fr _ j (by decide) (by decide) (by decide) (by decide) (by decide)) (funext fun j => h1.fr _ j (by decide) (by decide) (by decide) (by decide) (by decide))
  have e2 := s_findLandings (d := d + 4) c1 hn
  have e62 : S1.1 62 = S.1 62 := funext fun j => h1.fr _ j (by decide) (by decide) (by decide) (by decide) (by decide)
  rw [e62] at e2
  have h2 : AS (laS S os) (rowS S1 (ldms os (r0w os.length (S.1 62)))) (libA w) := h1.rw62
  generalize rowS S1 (ldms os (r0w os.length (S.1 62))) = S2 at e2 h2
  have c0 : CO (laS S os) os := hc
  obtain ⟨S3, h3, r3⟩ := c_loop (d := d) (w := w) c0 hn os [] S2 (libA w) rfl ok h2
  have h3 : AS (laS S os) S3 (cmA S w os) := h3
  refine ⟨S3, ?_, h3⟩
  have e4 := s_close (d := d + 4) h3 hf hp
  have hsz : S3.1 6 3 = nI os.length := (h3.fr 6 3 (by decide) (by decide) (by decide) (by decide) (by decide)).trans c0.1
  have q : nI os.length ≤ nI os.length := (nI_leI (by omega) (by omega)).mpr (Nat.le_refl _)
  rw [XC_iff]
  refine ⟨Nat.le_of_ble_eq_true rfl, r1 d _ ?_⟩
  have hr := r3 (none, memS S3 (clM (cmA S w os).lb (cmA S w os).fx.reverse (fun p => S3.1 14 (19840 + p)))) (fun l3 l4 l5 => by
    simp (config := { decide := true }) only [rX3_compile_0, rX3_compile_1, rX3_compile_4, rX3_compile_5, rX3_compile_8, rX3_compile_9, rX3_compile_12, rX3_compile_15, rX3_compile_16, rX3_compile_19, rX3_compile_22, rX3_compile_23, rX3_compile_26, rX3_compile_29, rX3_compile_30, rX3_compile_33, rX3_compile_36, rX3_compile_37, rX3_compile_40, rX3_compile_43, rX3_compile_44, rX3_compile_47, rX3_compile_50, rX3_compile_51, rX3_compile_54, rX3_compile_57, rX3_compile_58, rX3_compile_61, rX3_compile_64, rX3_compile_65, rX3_compile_68, rX3_compile_71, rX3_compile_72, rX3_compile_75, rX3_compile_78, rX3_compile_79, rX3_compile_82, rX3_compile_85, rX3_compile_86, rX3_compile_89, rX3_compile_92, rX3_compile_93, rX3_compile_96, rX3_compile_99, rX3_compile_100, rX3_compile_103, rX3_compile_106, rX3_compile_107, rX3_compile_110, rX3_compile_113, rX3_compile_114, rX3_compile_117, rX3_compile_120, rX3_compile_121, rX3_compile_124, rX3_compile_127, rX3_compile_128, rX3_compile_131, rX3_compile_134, rX3_compile_135, rX3_compile_138, rX3_compile_141, rX3_compile_142, rX3_compile_145, rX3_compile_146, rX3_compile_147, rX3_compile_148, rX3_compile_149, rX3_compile_152, rX3_compile_155, rX3_compile_159, rX3_compile_162, rX3_compile_163, rX3_compile_166, rX3_compile_169, rX3_compile_170, rX3_compile_173, rX3_compile_174, rX3_compile_177, rX3_compile_178, rX3_compile_181, rX3_compile_184, rX3_compile_185, rX3_compile_188, rX3_compile_189, rX3_compile_190, rX3_compile_193, rX3_compile_196, rX3_compile_197, rX3_compile_200, rX3_compile_202, rX3_compile_203, rX3_compile_206, rX3_compile_209, rX3_compile_210, rX3_compile_213, rX3_compile_215, rX3_compile_216, rX3_compile_218, rX3_compile_221, rX3_compile_222, rX3_compile_223, rX3_compile_225, rX3_compile_227, rX3_compile_230, rX3_compile_233, rX3_compile_234, rX3_compile_236, rX3_compile_239, rX3_compile_240, rX3_compile_241, rX3_compile_243, rX3_compile_246, rX3_compile_249, rX3_compile_250, rX3_compile_252, rX3_compile_255, rX3_compile_256, rX3_compile_258, rX3_compile_260, rX3_compile_261, rX3_compile_264, rX3_compile_267, rX3_compile_268, rX3_compile_270, rX3_compile_273, rX3_compile_274, rX3_compile_275, rX3_compile_277, rX3_compile_279, rX3_compile_282, rX3_compile_285, rX3_compile_286, rX3_compile_288, rX3_compile_291, rX3_compile_292, rX3_compile_294, rX3_compile_297, rX3_compile_300, rX3_compile_301, rX3_compile_302, rX3_compile_304, rX3_compile_307, rX3_compile_310, rX3_compile_313, rX3_compile_314, rX3_compile_317, rX3_compile_320, ↓reduceIte, m1_le, m1_lt, m1_eq, ofInt_m1, ex_ret, Int32.reduceAdd, Int32.reduceSub, Int32.reduceMul, Int32.reduceLT, Int32.reduceLE, xsI, Nat.reduceEqDiff, and_false, false_and, and_true, true_and, if_true, if_false, ite_true, ite_false, xlook_0, xlook_s, xI_int, xA_ref, xJ_long, xK_some, xRow_row, xTo_some, xst1, xclr, List.set_cons_zero, List.set_cons_succ, xsum_nil, xsum_int, xsum_ref, xsum_long, Option.toList_some, Option.toList_none, List.nil_append, List.cons_append, hsz, q, e4])
  have hr := hr none none none
  simp (config := { decide := true }) only [rX3_compile_141, rX3_compile_142, rX3_compile_145, rX3_compile_146, ↓reduceIte, m1_le, m1_lt, m1_eq, ofInt_m1, ex_ret, Int32.reduceAdd, Int32.reduceSub, Int32.reduceMul, Int32.reduceLT, Int32.reduceLE, xsI, Nat.reduceEqDiff, and_false, false_and, and_true, true_and, if_true, if_false, ite_true, ite_false, xlook_0, xlook_s, xI_int, xA_ref, xJ_long, xK_some, xRow_row, xTo_some, xst1, xclr, List.set_cons_zero, List.set_cons_succ, xsum_nil, xsum_int, xsum_ref, xsum_long, Option.toList_some, Option.toList_none, List.nil_append, List.cons_append, e2]
  exact hr
