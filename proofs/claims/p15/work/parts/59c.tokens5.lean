/-! end -/
set_option maxHeartbeats 4000000 in
set_option maxRecDepth 100000 in
theorem step_end {d : Nat} {S S1 : xS} {p t : Nat} (hs : XC SK MT (d + 2) 125 [.ref 1] S = some (none, S1)) (ht0 : S.1 1 16 = 0) (h : LX S1 p [] t) :
    XC SK MT (d + 3) 124 [.ref 1] S = some (none, xsetI (xsetI S1 1 14 (nI p)) 1 13 54) := by
  obtain ⟨hT, hh, ht1, ht2⟩ := h
  have e0 : lpk (S1.1 1 10) (S1.1 13) (nI p) = -1 := by
    have h9 := TX_end hT
    rw [List.length_nil, Nat.add_zero] at h9
    exact h9
  rw [XC_iff]
  refine ⟨Nat.le_of_ble_eq_true rfl, ?_⟩
  show XL SK MT (d + 2) 124 (0, [some (.ref 1), none], [], S) _
  simp (config := { decide := true }) only [rX4_step_0, rX4_step_1, rX4_step_4, rX4_step_7, rX4_step_8, rX4_step_9, rX4_step_12, rX4_step_13, rX4_step_16, rX4_step_19, rX4_step_20, rX4_step_21, rX4_step_24, rX4_step_27, rX4_step_28, rX4_step_29, rX4_step_32, rX4_step_35, rX4_step_36, rX4_step_37, rX4_step_40, rX4_step_41, rX4_step_43, rX4_step_46, rX4_step_47, rX4_step_48, rX4_step_49, rX4_step_52, rX4_step_53, rX4_step_56, rX4_step_59, rX4_step_60, rX4_step_62, rX4_step_65, rX4_step_68, rX4_step_69, rX4_step_72, rX4_step_75, rX4_step_76, rX4_step_78, rX4_step_81, rX4_step_82, rX4_step_85, rX4_step_88, rX4_step_89, rX4_step_92, rX4_step_95, rX4_step_96, rX4_step_98, rX4_step_101, rX4_step_102, rX4_step_104, rX4_step_107, rX4_step_110, rX4_step_111, rX4_step_113, rX4_step_116, rX4_step_117, rX4_step_120, rX4_step_123, rX4_step_124, rX4_step_125, rX4_step_128, rX4_step_129, rX4_step_132, rX4_step_135, rX4_step_136, rX4_step_137, rX4_step_138, rX4_step_141, rX4_step_144, rX4_step_147, rX4_step_148, rX4_step_151, rX4_step_153, rX4_step_156, rX4_step_157, rX4_step_160, rX4_step_162, rX4_step_165, rX4_step_166, rX4_step_167, rX4_step_170, rX4_step_173, riX4_step_174, rX4_step_174, rX4_step_175, rX4_step_178, rX4_step_179, rX4_step_180, rX4_step_183, rX4_step_184, rX4_step_187, rX4_step_190, rX4_step_191, rX4_step_194, rX4_step_197, rX4_step_200, rX4_step_201, rX4_step_203, rX4_step_206, rX4_step_207, rX4_step_210, rX4_step_213, rX4_step_214, rX4_step_216, rX4_step_219, ↓reduceIte, m1_le, m1_lt, m1_eq, ofInt_m1, ex_ret, Int32.reduceAdd, Int32.reduceSub, Int32.reduceMul, Int32.reduceLT, Int32.reduceLE, xsI, Nat.reduceEqDiff, and_false, false_and, and_true, true_and, if_true, if_false, ite_true, ite_false, xlook_0, xlook_s, xI_int, xA_ref, xJ_long, xK_some, xRow_row, xTo_some, xst1, xclr, List.set_cons_zero, List.set_cons_succ, xsum_nil, xsum_int, xsum_ref, xsum_long, Option.toList_some, Option.toList_none, List.nil_append, List.cons_append, s_peek, ht0, hs, ht1, hh, e0, nI_1, xsR]
