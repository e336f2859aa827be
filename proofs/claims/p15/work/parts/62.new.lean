/-! Lexer: a step at a name of one byte that is new. -/
theorem ineS_row {S : xS} {b hN n ps a : Nat} (h : ¬ a = 1 ∧ ¬ a = 16 ∧ ¬ a = 18 ∧ ¬ a = 19 ∧ ¬ a = 20 ∧ ¬ a = 21) : (ineS S b hN n ps).1 a = S.1 a := by
  unfold ineS
  rw [xsR (by omega), xsR (by omega), xsR (by omega), xsR (by omega), xsR (by omega), xsR (by omega), xsR (by omega)]
theorem ineS_at {S : xS} {b hN n ps q : Nat} (h : ¬ q = 7 ∧ ¬ q = 8) : (ineS S b hN n ps).1 1 q = S.1 1 q := by
  unfold ineS
  rw [xsI, if_neg (by omega), xsI, if_neg (by omega), xsI, if_neg (by omega), xsI, if_neg (by omega), xsI, if_neg (by omega), xsI, if_neg (by omega), xsI, if_neg (by omega)]
theorem ineS_of {S S' : xS} {b hN n ps : Nat} (h1 : ∀ a, ¬ a = 1 → ¬ a = 17 → S'.1 a = S.1 a) (h2 : ∀ q, q < 11 → S'.1 1 q = S.1 1 q) : (∀ a, ¬ a = 1 → ¬ a = 17 → (ineS S' b hN n ps).1 a = (ineS S b hN n ps).1 a) ∧ ∀ q, q < 11 → (ineS S' b hN n ps).1 1 q = (ineS S b hN n ps).1 1 q := by
  refine ⟨fun a g1 g2 => ?_, fun q hq => ?_⟩
  · funext k
    unfold ineS
    simp only [xsI, h1 a g1 g2]
  · unfold ineS
    simp only [xsI, h2 q hq]
/-- what a new name leaves as it is, and what not -/
def FrN (S S' : xS) (b hN n ps : Nat) : Prop := S'.2 = S.2 ∧ (∀ a, ¬ a = 1 → ¬ a = 17 → S'.1 a = (ineS S b hN n ps).1 a) ∧ ∀ q, q < 11 → S'.1 1 q = (ineS S b hN n ps).1 1 q
/-- room for a new name -/
def Room (S : xS) (b hN n ps : Nat) : Prop := lh [b] &&& 511 = nI hN ∧ hN < 512 ∧ S.1 20 hN = -1 ∧ S.1 1 7 = nI n ∧ 25 ≤ n ∧ n < 2176 ∧ S.1 1 8 = nI ps ∧ ps < 12288
set_option maxHeartbeats 4000000 in
set_option maxRecDepth 100000 in
theorem step_new {d : Nat} {S S1 : xS} {p t b hN n ps : Nat} {rest : List Nat} (hs : XC SK MT (d + 2) 125 [.ref 1] S = some (none, S1)) (ht0 : S.1 1 16 = 0) (h : LX S1 p ([b] ++ rest) t) (hw : isName [b]) (hc : lPart (hdI rest) = false) (hk : Room S1 b hN n ps) (ht : t < 2000) :
    ∃ S', XC SK MT (d + 3) 124 [.ref 1] S = some (none, S') ∧ Tok S' 25 (nI n) p ∧ LX S' (p + 1) rest (t + 1) ∧ FrN S1 S' b hN n ps := by
  obtain ⟨hT, hh, ht1, ht2⟩ := h
  obtain ⟨k1, k2, k3, k4, k5, k6, k7, k8⟩ := hk
  have hb1 : lLetter (nI b) = true := by obtain ⟨b', hb0, hb1⟩ := hw.2.1; obtain rfl : b = b' := Option.some.inj hb0; exact hb1
  have hby : ∀ x ∈ [b], x < 128 := by
    intro x hx
    obtain ⟨j, hj⟩ := List.getElem?_of_mem hx
    exact (hT.1 j x (by rw [List.getElem?_append_left (List.getElem?_eq_some_iff.mp hj).1]; exact hj)).2
  have h128 := hby b List.mem_cons_self
  have e0 : lpk (S1.1 1 10) (S1.1 13) (nI p) = nI b := TX_peek hT (j := 0) rfl
  have hneg : ¬ nI b < 0 := nI_pos (by omega)
  have h0b : 0 ≤ nI b := nI_pos' (by omega)
  generalize hS2 : xsetI (xsetI S1 1 14 (nI p)) 1 17 (-1) = S2
  have hT2 : TX S2 p ([b] ++ rest) := by rw [← hS2]; exact hT.of (by rw [xsR (by decide), xsR (by decide)]) (by rw [xsI, if_neg (by decide), xsI, if_neg (by decide)])
  have hh2 : S2.1 1 11 = nI p := by rw [← hS2, xsI, if_neg (by decide), xsI, if_neg (by decide)]; exact hh
  have hW := s_word (d := d) hT2 hh2 hw hc
  have hsc := Scr_woS (S := S2) (p := p) hby
  have hsp : (woS S2 p [b]).1 1 17 = nI 1 := by unfold woS; rw [xsI, if_pos ⟨rfl, rfl⟩]; rfl
  have hkd : (woS S2 p [b]).1 1 13 = 25 := by unfold woS; rw [xsI, if_neg (by decide), wS_at (by decide), xsI, if_pos ⟨rfl, rfl⟩]
  have hat : ∀ q, ¬ q = 11 → ¬ q = 13 → ¬ q = 17 → (woS S2 p [b]).1 1 q = S2.1 1 q := fun q h1 h2 h3 => by unfold woS; rw [xsI, if_neg (fun z => h3 z.2), wS_at h1, xsI, if_neg (fun z => h2 z.2)]
  have hfr : ∀ a, ¬ a = 1 → ¬ a = 17 → (woS S2 p [b]).1 a = S1.1 a := fun a h1 h2 => by rw [woS_row h1 h2, ← hS2, xsR h1, xsR h1]
  have hlo : ∀ q, q < 11 → (woS S2 p [b]).1 1 q = S1.1 1 q := fun q hq => by rw [hat q (by omega) (by omega) (by omega), ← hS2, xsI, if_neg (by omega), xsI, if_neg (by omega)]
  have htk : (woS S2 p [b]).1 1 12 = nI t := by rw [hat _ (by decide) (by decide) (by decide), ← hS2, xsI, if_neg (by decide), xsI, if_neg (by decide)]; exact ht2
  have htr : (woS S2 p [b]).1 1 16 = 0 := by rw [hat _ (by decide) (by decide) (by decide), ← hS2, xsI, if_neg (by decide), xsI, if_neg (by decide)]; exact ht1
  have hTe : TX (woS S2 p [b]) (p + 1) rest := (TX.tail (as := [b]) hT).of (hfr _ (by decide) (by decide)) (by rw [hat _ (by decide) (by decide) (by decide), ← hS2, xsI, if_neg (by decide), xsI, if_neg (by decide)])
  have hhe : (woS S2 p [b]).1 1 11 = nI (p + 1) := by unfold woS; rw [xsI, if_neg (by decide), wS_here]; rfl
  have hst : (woS S2 p [b]).1 1 14 = nI p := by rw [hat _ (by decide) (by decide) (by decide), ← hS2, xsI, if_neg (by decide), xsI, if_pos ⟨rfl, rfl⟩]
  have hse : (woS S2 p [b]).2 = S1.2 := by rw [← hS2]; rfl
  obtain ⟨f1, f2⟩ := ineS_of (b := b) (hN := hN) (n := n) (ps := ps) hfr hlo
  generalize woS S2 p [b] = S3 at *
  have hI := intern_new (d := d) hsc k1 k2 (by rw [hfr _ (by decide) (by decide)]; exact k3) (by rw [hlo _ (by decide)]; exact k4) k6 (by rw [hlo _ (by decide)]; exact k7) k8
  have i2 : (ineS S3 b hN n ps).2 = S3.2 := rfl
  have irow : ∀ {a : Nat}, (¬ a = 1 ∧ ¬ a = 16 ∧ ¬ a = 18 ∧ ¬ a = 19 ∧ ¬ a = 20 ∧ ¬ a = 21) → (ineS S3 b hN n ps).1 a = S3.1 a := fun h => ineS_row h
  have iat : ∀ {q : Nat}, (¬ q = 7 ∧ ¬ q = 8) → (ineS S3 b hN n ps).1 1 q = S3.1 1 q := fun h => ineS_at h
  generalize ineS S3 b hN n ps = S4 at *
  have ht9 : nI (t + 1) ≤ (2000 : Int32) := nI_le (b := 2000) (by omega) (by decide)
  have hm9 : (25 : Int32) ≤ nI n := nI_le (a := 25) (by omega) (by omega)
  have hlen : 0 ≤ nI 1 := by decide
  have hlt : ¬ nI 1 < 0 := by decide
  have kk : S4.1 1 13 = 25 := by rw [iat (by decide)]; exact hkd
  have kt : S4.1 1 12 = nI t := by rw [iat (by decide)]; exact htk
  have kr : S4.1 1 16 = 0 := by rw [iat (by decide)]; exact htr
  refine ⟨xsetI (xsetI S4 1 15 (nI n)) 1 12 (nI (t + 1)), ?_, ⟨by rw [xsI, if_neg (by decide), xsI, if_neg (by decide)]; exact kk, by rw [xsI, if_neg (by decide), xsI, if_pos ⟨rfl, rfl⟩], by rw [xsI, if_neg (by decide), xsI, if_neg (by decide), iat (by decide)]; exact hst⟩, ⟨hTe.of (by rw [xsR (by decide), xsR (by decide), irow (by decide)]) (by rw [xsI, if_neg (by decide), xsI, if_neg (by decide), iat (by decide)]), by rw [xsI, if_neg (by decide), xsI, if_neg (by decide), iat (by decide)]; exact hhe, by rw [xsI, if_neg (by decide), xsI, if_neg (by decide)]; exact kr, by rw [xsI, if_pos ⟨rfl, rfl⟩]⟩, (show S4.2 = S1.2 from i2.trans hse), fun a h1 h2 => by rw [xsR h1, xsR h1]; exact f1 a h1 h2, fun q hq => by rw [xsI, if_neg (by omega), xsI, if_neg (by omega)]; exact f2 q hq⟩
  rw [XC_iff]
  refine ⟨Nat.le_of_ble_eq_true rfl, ?_⟩
  show XL SK MT (d + 2) 124 (0, [some (.ref 1), none], [], S) _
  simp (config := { decide := true }) only [rX4_step_0, rX4_step_1, rX4_step_4, rX4_step_7, rX4_step_8, rX4_step_9, rX4_step_12, rX4_step_13, rX4_step_16, rX4_step_19, rX4_step_20, rX4_step_21, rX4_step_24, rX4_step_27, rX4_step_28, rX4_step_29, rX4_step_32, rX4_step_35, rX4_step_36, rX4_step_37, rX4_step_40, rX4_step_41, rX4_step_43, rX4_step_46, rX4_step_47, rX4_step_48, rX4_step_49, rX4_step_52, rX4_step_53, rX4_step_56, rX4_step_59, rX4_step_60, rX4_step_62, rX4_step_65, rX4_step_68, rX4_step_69, rX4_step_72, rX4_step_75, rX4_step_76, rX4_step_78, rX4_step_81, rX4_step_82, rX4_step_85, rX4_step_88, rX4_step_89, rX4_step_92, rX4_step_95, rX4_step_96, rX4_step_98, rX4_step_101, rX4_step_102, rX4_step_104, rX4_step_107, rX4_step_110, rX4_step_111, rX4_step_113, rX4_step_116, rX4_step_117, rX4_step_120, rX4_step_123, rX4_step_124, rX4_step_125, rX4_step_128, rX4_step_129, rX4_step_132, rX4_step_135, rX4_step_136, rX4_step_137, rX4_step_138, rX4_step_141, rX4_step_144, rX4_step_147, rX4_step_148, rX4_step_151, rX4_step_153, rX4_step_156, rX4_step_157, rX4_step_160, rX4_step_162, rX4_step_165, rX4_step_166, rX4_step_167, rX4_step_170, rX4_step_173, riX4_step_174, rX4_step_174, rX4_step_175, rX4_step_178, rX4_step_179, rX4_step_180, rX4_step_183, rX4_step_184, rX4_step_187, rX4_step_190, rX4_step_191, rX4_step_194, rX4_step_197, rX4_step_200, rX4_step_201, rX4_step_203, rX4_step_206, rX4_step_207, rX4_step_210, rX4_step_213, rX4_step_214, rX4_step_216, rX4_step_219, ↓reduceIte, m1_le, m1_lt, m1_eq, ofInt_m1, ex_ret, Int32.reduceAdd, Int32.reduceSub, Int32.reduceMul, Int32.reduceLT, Int32.reduceLE, xsI, Nat.reduceEqDiff, and_false, false_and, and_true, true_and, if_true, if_false, ite_true, ite_false, xlook_0, xlook_s, xI_int, xA_ref, xJ_long, xK_some, xRow_row, xTo_some, xst1, xclr, List.set_cons_zero, List.set_cons_succ, xsum_nil, xsum_int, xsum_ref, xsum_long, Option.toList_some, Option.toList_none, List.nil_append, List.cons_append, s_peek, s_isLetter, ht0, hs, ht1, hh, e0, h0b, hb1, xb01, hS2, hW, hI, hsp, hlen, hlt, hneg, hkd, hm9, htk, htr, kk, kt, kr, ht9, nI_1, xsR, List.length_cons, List.length_nil, Nat.zero_add, Nat.reduceAdd]
theorem next_new {d : Nat} {S : xS} {p t b hN n ps : Nat} {pre rest : List Nat} (h : LX S p (pre ++ (b :: rest)) t) (hp : Pre pre) (hw : isName [b]) (hc : lPart (hdI rest) = false) (hk : Room S b hN n ps) (ht : t < 2000) :
    ∃ S', XC SK MT (d + 3) 124 [.ref 1] S = some (none, S') ∧ Tok S' 25 (nI n) (p + pre.length) ∧ LX S' (p + pre.length + 1) rest (t + 1) ∧ FrN S S' b hN n ps := by
  have hb1 : lLetter (nI b) = true := by obtain ⟨b', hb0, hb1⟩ := hw.2.1; obtain rfl : b = b' := Option.some.inj hb0; exact hb1
  have h128 : b < 128 := (h.1.1 pre.length b (by rw [List.getElem?_append_right (Nat.le_refl _), Nat.sub_self]; rfl)).2
  obtain ⟨a1, a2, a3, a4⟩ := let_facts b h128 hb1
  obtain ⟨S1, hs, hl, hf, -⟩ := skip_any (d := d) h hp ⟨a1, a2, a3, fun z => a4 z.1⟩
  obtain ⟨k1, k2, k3, k4, k5, k6, k7, k8⟩ := hk
  obtain ⟨S', g1, g2, g3, g4, g5, g6⟩ := step_new hs h.2.2.1 (rest := rest) hl hw hc ⟨k1, k2, by rw [hf.2.1 _ (by decide)]; exact k3, by rw [hf.2.2 _ (by decide)]; exact k4, k5, k6, by rw [hf.2.2 _ (by decide)]; exact k7, k8⟩ ht
  obtain ⟨f1, f2⟩ := ineS_of (S := S) (S' := S1) (b := b) (hN := hN) (n := n) (ps := ps) (fun a h1 _ => hf.2.1 a h1) hf.2.2
  exact ⟨S', g1, g2, g3, g4.trans hf.1, fun a h1 h2 => (g5 a h1 h2).trans (f1 a h1 h2), fun q hq => (g6 q hq).trans (f2 q hq)⟩
