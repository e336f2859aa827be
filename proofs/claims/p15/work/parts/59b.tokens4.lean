/-! ~ -/
set_option maxHeartbeats 4000000 in
set_option maxRecDepth 100000 in
/-- behind a blank, ~ and figures -/
theorem step_numberN {d : Nat} {S S1 : xS} {p t : Nat} {z : Int32} {w rest : List Nat} (hs : XC SK MT (d + 2) 125 [.ref 1] S = some (none, S1)) (ht0 : S.1 1 16 = 0) (h : LX S1 (p + 1) (126 :: (w ++ rest)) t) (ez : lpk (S1.1 1 10) (S1.1 13) (nI p) = z) (hz : lPart z = false) (hz2 : ¬ z = 41) (hw : ∀ b ∈ w, isDig b) (h0 : 0 < w.length) (hc : lPart (hdI rest) = false) (hl : w.length ≤ 200) (hv : dv w ≤ 2 ^ 30) (ht : t < 2000) :
    ∃ S', XC SK MT (d + 3) 124 [.ref 1] S = some (none, S') ∧ Tok S' 27 (-(lN (dv w))).toInt32 (p + 1) ∧ LX S' (p + 1 + 1 + w.length) rest (t + 1) ∧ FrL S1 S' := by
  obtain ⟨hT, hh, ht1, ht2⟩ := h
  have hT9 : TX S1 (p + 1 + 1) (w ++ rest) := TX.tail (as := [126]) hT
  have hx2 : (w ++ rest)[0]? = some w[0] := by rw [List.getElem?_append_left h0]; exact List.getElem?_eq_getElem h0
  have hb := (hT9.1 0 w[0] hx2).2
  have hdg := hw _ (List.getElem_mem h0)
  obtain ⟨g1, g2, -⟩ := dig_facts _ hb hdg.1 hdg.2
  have e0 : lpk (S1.1 1 10) (S1.1 13) (nI (p + 1)) = 126 := TX_peek hT (j := 0) rfl
  have e1 : lpk (S1.1 1 10) (S1.1 13) (nI (p + 1 + 1)) = nI w[0] := TX_peek hT9 (j := 0) hx2
  have l1 : lLetter 126 = false := by decide
  have l2 : lDigit 126 = false := by decide
  generalize hS2 : xsetI (xsetI S1 1 14 (nI (p + 1))) 1 17 (-1) = S2
  have hT2 : TX S2 (p + 1) (126 :: (w ++ rest)) := by rw [← hS2]; exact hT.of (by rw [xsR (by decide), xsR (by decide)]) (by rw [xsI, if_neg (by decide), xsI, if_neg (by decide)])
  have hh2 : S2.1 1 11 = nI (p + 1) := by rw [← hS2, xsI, if_neg (by decide), xsI, if_neg (by decide)]; exact hh
  have hrow : lpk (S2.1 1 10) (S2.1 13) = lpk (S1.1 1 10) (S1.1 13) := by rw [← hS2, xsI, if_neg (by decide), xsI, if_neg (by decide), xsR (by decide), xsR (by decide)]
  have hB := s_begins (d := d) (S := S2) hh2 (by rw [hrow]; exact ez) (by rw [hrow]; exact e1) hz hz2 g2
  have hW := s_numberN (d := d) hT2 hh2 hw h0 hc hl hv
  generalize hS3 : xsetI (xsetI (nuS (xsetI S2 1 11 (nI (p + 1 + 1))) (p + 1 + 1) w.length) 1 13 27) 1 15 (-(lN (dv w))).toInt32 = S3 at hW
  have hsp : S3.1 1 17 = -1 := by rw [← hS3, xsI, if_neg (by decide), xsI, if_neg (by decide), nuS_at (by decide), xsI, if_neg (by decide), ← hS2, xsI, if_pos ⟨rfl, rfl⟩]
  have hkd : S3.1 1 13 = 27 := by rw [← hS3, xsI, if_neg (by decide), xsI, if_pos ⟨rfl, rfl⟩]
  have hmn : S3.1 1 15 = (-(lN (dv w))).toInt32 := by rw [← hS3, xsI, if_pos ⟨rfl, rfl⟩]
  have hat : ∀ q, ¬ q = 11 → ¬ q = 13 → ¬ q = 14 → ¬ q = 15 → ¬ q = 17 → S3.1 1 q = S1.1 1 q := fun q h1 h2 h3 h5 h4 => by rw [← hS3, xsI, if_neg (fun z => h5 z.2), xsI, if_neg (fun z => h2 z.2), nuS_at h1, xsI, if_neg (fun z => h1 z.2), ← hS2, xsI, if_neg (fun z => h4 z.2), xsI, if_neg (fun z => h3 z.2)]
  have hfr : ∀ a, ¬ a = 1 → S3.1 a = S1.1 a := fun a h1 => by rw [← hS3, xsR h1, xsR h1, nuS_row h1, xsR h1, ← hS2, xsR h1, xsR h1]
  have htk : S3.1 1 12 = nI t := by rw [hat _ (by decide) (by decide) (by decide) (by decide) (by decide)]; exact ht2
  have htr : S3.1 1 16 = 0 := by rw [hat _ (by decide) (by decide) (by decide) (by decide) (by decide)]; exact ht1
  have hst : S3.1 1 14 = nI (p + 1) := by rw [← hS3, xsI, if_neg (by decide), xsI, if_neg (by decide), nuS_at (by decide), xsI, if_neg (by decide), ← hS2, xsI, if_neg (by decide), xsI, if_pos ⟨rfl, rfl⟩]
  have hhe : S3.1 1 11 = nI (p + 1 + 1 + w.length) := by rw [← hS3, xsI, if_neg (by decide), xsI, if_neg (by decide), nuS_here]
  have ht9 : nI (t + 1) ≤ (2000 : Int32) := nI_le (b := 2000) (by omega) (by decide)
  refine ⟨xsetI S3 1 12 (nI (t + 1)), ?_, ⟨by rw [xsI, if_neg (by decide)]; exact hkd, by rw [xsI, if_neg (by decide)]; exact hmn, by rw [xsI, if_neg (by decide)]; exact hst⟩, ⟨(TX.tail hT9).of (by rw [xsR (by decide), hfr _ (by decide)]) (by rw [xsI, if_neg (by decide), hat _ (by decide) (by decide) (by decide) (by decide) (by decide)]), by rw [xsI, if_neg (by decide)]; exact hhe, by rw [xsI, if_neg (by decide)]; exact htr, by rw [xsI, if_pos ⟨rfl, rfl⟩]⟩, (show S3.2 = S1.2 from by rw [← hS3, ← hS2]; rfl), fun a h1 h2 => by rw [xsR h1]; exact hfr a h1, fun q hq => by rw [xsI, if_neg (by omega)]; exact hat q (by omega) (by omega) (by omega) (by omega) (by omega)⟩
  rw [XC_iff]
  refine ⟨Nat.le_of_ble_eq_true rfl, ?_⟩
  show XL SK MT (d + 2) 124 (0, [some (.ref 1), none], [], S) _
  simp (config := { decide := true }) only [rX4_step_0, rX4_step_1, rX4_step_4, rX4_step_7, rX4_step_8, rX4_step_9, rX4_step_12, rX4_step_13, rX4_step_16, rX4_step_19, rX4_step_20, rX4_step_21, rX4_step_24, rX4_step_27, rX4_step_28, rX4_step_29, rX4_step_32, rX4_step_35, rX4_step_36, rX4_step_37, rX4_step_40, rX4_step_41, rX4_step_43, rX4_step_46, rX4_step_47, rX4_step_48, rX4_step_49, rX4_step_52, rX4_step_53, rX4_step_56, rX4_step_59, rX4_step_60, rX4_step_62, rX4_step_65, rX4_step_68, rX4_step_69, rX4_step_72, rX4_step_75, rX4_step_76, rX4_step_78, rX4_step_81, rX4_step_82, rX4_step_85, rX4_step_88, rX4_step_89, rX4_step_92, rX4_step_95, rX4_step_96, rX4_step_98, rX4_step_101, rX4_step_102, rX4_step_104, rX4_step_107, rX4_step_110, rX4_step_111, rX4_step_113, rX4_step_116, rX4_step_117, rX4_step_120, rX4_step_123, rX4_step_124, rX4_step_125, rX4_step_128, rX4_step_129, rX4_step_132, rX4_step_135, rX4_step_136, rX4_step_137, rX4_step_138, rX4_step_141, rX4_step_144, rX4_step_147, rX4_step_148, rX4_step_151, rX4_step_153, rX4_step_156, rX4_step_157, rX4_step_160, rX4_step_162, rX4_step_165, rX4_step_166, rX4_step_167, rX4_step_170, rX4_step_173, riX4_step_174, rX4_step_174, rX4_step_175, rX4_step_178, rX4_step_179, rX4_step_180, rX4_step_183, rX4_step_184, rX4_step_187, rX4_step_190, rX4_step_191, rX4_step_194, rX4_step_197, rX4_step_200, rX4_step_201, rX4_step_203, rX4_step_206, rX4_step_207, rX4_step_210, rX4_step_213, rX4_step_214, rX4_step_216, rX4_step_219, ↓reduceIte, m1_le, m1_lt, m1_eq, ofInt_m1, ex_ret, Int32.reduceAdd, Int32.reduceSub, Int32.reduceMul, Int32.reduceLT, Int32.reduceLE, xsI, Nat.reduceEqDiff, and_false, false_and, and_true, true_and, if_true, if_false, ite_true, ite_false, xlook_0, xlook_s, xI_int, xA_ref, xJ_long, xK_some, xRow_row, xTo_some, xst1, xclr, List.set_cons_zero, List.set_cons_succ, xsum_nil, xsum_int, xsum_ref, xsum_long, Option.toList_some, Option.toList_none, List.nil_append, List.cons_append, s_peek, s_isLetter, s_isDigit, ht0, hs, ht1, hh, e0, l1, l2, xb01, hS2, hB, hW, hsp, hkd, htk, htr, ht9, nI_1, xsR]
