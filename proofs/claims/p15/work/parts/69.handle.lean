/-! Parser: handle with one rule; parentheses. -/
theorem PS.app {F : xS → Prop} {S : xS} {ts : List (Int32 × Int32)} {ms ms2 : List Mk} {o : Nat} (h : PS F S ts ms o) (e : ms = ms2) : PS F S ts ms2 o := e ▸ h
def ruM (p y : Int32) : List Mk := [(36, 0, -1), (40, 0, -1), (45, p, -1), (37, 0, -1), (1, 0, -1), (6, y, -1), (38, 0, -1)]
set_option maxHeartbeats 4000000 in
set_option maxRecDepth 100000 in
theorem s_match {F : xS → Prop} {d : Nat} (hF : StF F) {S : xS} {p x y : Int32} {ts : List (Int32 × Int32)} {ms : List Mk} {o : Nat} (hW : W0 S) (h : PS F S ((25, p) :: (39, x) :: (25, y) :: ts) ms o) (hm : ms.length < 9400) (he : kEnd (hdK ts)) (h12 : ¬ hdK ts = 12) :
    ∃ S1, XC SK MT (d + 9) 208 [.ref 2] S = some (none, S1) ∧ PS F S1 ts (ms ++ ruM p y) o ∧ FrQ S S1 ∧ W0 S1 := by
  obtain ⟨S1, a1, a2, a3, a4⟩ := h.add hF (by omega) (a := 36) (b := 0) (c := 0)
  obtain ⟨S2, b1, b2, b3⟩ := s_pat (d := d + 2) hF a2 (by rw [List.length_append]; show _ + 1 < _; omega) (Or.inr rfl)
  obtain ⟨S3, c1, c2, c3, c4⟩ := b2.add hF (by rw [List.length_append, List.length_append]; show _ + 1 + 2 < _; omega) (a := 37) (b := 0) (c := S.1 1 14)
  obtain ⟨S4, d1, d2, d3⟩ := s_need (d := d + 4) c2
  obtain ⟨S5, e1, e2, e3, e4⟩ := s_expA (d := d) (cs := []) hF (d3.W0 (c3.W0 (b3.W0 (a3.W0 hW)))) d2 (by rw [List.length_append, List.length_append, List.length_append]; show _ + 1 + 2 + 1 + 3 * 0 < _; omega) (Nat.zero_le _) (Or.inl rfl) trivial he h12
  obtain ⟨S6, f1, f2, f3, f4⟩ := e2.add hF (by rw [List.length_append, List.length_append, List.length_append, List.length_append]; show _ + 1 + 2 + 1 + 2 < _; omega) (a := 38) (b := 0) (c := S4.1 1 14)
  refine ⟨S6, ?_, f2.app (by rw [List.append_assoc, List.append_assoc, List.append_assoc, List.append_assoc]; rfl), (((a3.trans b3).trans (c3.trans d3)).Q.trans e3).trans f3.Q, f3.W0 e4⟩
  have hk6 := f2.hk
  have h37 : ¬ hdK ts = 37 := by rcases he with z | z | z | z | z | z <;> (rw [z]; decide)
  rw [XC_iff]
  refine ⟨Nat.le_of_ble_eq_true rfl, ?_⟩
  show XL SK MT (d + 8) 208 (0, [some (.ref 2), none, none, none], [], S) _
  simp (config := { decide := true }) only [rX7_match_0, rX7_match_1, rX7_match_2, rX7_match_3, rX7_match_6, rX7_match_9, rX7_match_10, rX7_match_13, rX7_match_16, rX7_match_17, rX7_match_18, rX7_match_20, rX7_match_21, rX7_match_22, rX7_match_25, rX7_match_26, rX7_match_27, rX7_match_30, rX7_match_31, rX7_match_33, rX7_match_34, rX7_match_35, rX7_match_38, rX7_match_39, rX7_match_40, rX7_match_42, rX7_match_45, rX7_match_46, rX7_match_49, rX7_match_52, rX7_match_53, rX7_match_54, rX7_match_57, rX7_match_58, rX7_match_60, rX7_match_61, rX7_match_62, rX7_match_65, rX7_match_66, rX7_match_67, rX7_match_70, rX7_match_73, rX7_match_75, rX7_match_78, rX7_match_79, rX7_match_80, rX7_match_83, rX7_match_86, rX7_match_89, rX7_match_92, ↓reduceIte, m1_le, m1_lt, m1_eq, ofInt_m1, ex_ret, Int32.reduceAdd, Int32.reduceSub, Int32.reduceMul, Int32.reduceLT, Int32.reduceLE, xsI, Nat.reduceEqDiff, and_false, false_and, and_true, true_and, if_true, if_false, ite_true, ite_false, xlook_0, xlook_s, xI_int, xA_ref, xJ_long, xK_some, xRow_row, xTo_some, xst1, xclr, List.set_cons_zero, List.set_cons_succ, xsum_nil, xsum_int, xsum_ref, xsum_long, Option.toList_some, Option.toList_none, List.nil_append, List.cons_append, a1, b1, c1, d1, e1, f1, hk6, h37]
theorem MK.set {S : xS} {as bs : List Mk} {a b l v : Int32} (h : MK S (as ++ (a, b, l) :: bs)) : MK (xsetI S 22 as.length v) (as ++ (v, b, l) :: bs) := by
  refine ⟨?_, fun i m q => ?_⟩
  · rw [xsR (by decide), h.1, List.length_append, List.length_append, List.length_cons, List.length_cons]
  · rcases Nat.lt_trichotomy i as.length with z | z | z
    · rw [List.getElem?_append_left z] at q
      obtain ⟨h1, h2, h3, h4⟩ := h.2 i m (by rw [List.getElem?_append_left z]; exact q)
      rw [xsI, if_neg (by omega), xsR (by decide), xsR (by decide), xsR (by decide)]
      exact ⟨h1, h2, h3, h4⟩
    · subst z
      obtain ⟨h1, h2, h3, h4⟩ := h.2 as.length (a, b, l) (by rw [List.getElem?_append_right (Nat.le_refl _), Nat.sub_self]; rfl)
      rw [List.getElem?_append_right (Nat.le_refl _), Nat.sub_self] at q
      obtain rfl : (v, b, l) = m := Option.some.inj q
      rw [xsI, if_pos ⟨rfl, rfl⟩, xsR (by decide), xsR (by decide), xsR (by decide)]
      exact ⟨rfl, h2, h3, h4⟩
    · obtain ⟨j, rfl⟩ : ∃ j, i = as.length + (j + 1) := ⟨i - as.length - 1, by omega⟩
      rw [List.getElem?_append_right (by omega), Nat.add_sub_cancel_left, List.getElem?_cons_succ] at q
      obtain ⟨h1, h2, h3, h4⟩ := h.2 (as.length + (j + 1)) m (by rw [List.getElem?_append_right (by omega), Nat.add_sub_cancel_left, List.getElem?_cons_succ]; exact q)
      rw [xsI, if_neg (by omega), xsR (by decide), xsR (by decide), xsR (by decide)]
      exact ⟨h1, h2, h3, h4⟩
theorem MK.link {S : xS} {as bs : List Mk} {a b l v : Int32} (h : MK S (as ++ (a, b, l) :: bs)) : MK (xsetI S 25 as.length v) (as ++ (a, b, v) :: bs) := by
  refine ⟨?_, fun i m q => ?_⟩
  · rw [xsR (by decide), h.1, List.length_append, List.length_append, List.length_cons, List.length_cons]
  · rcases Nat.lt_trichotomy i as.length with z | z | z
    · rw [List.getElem?_append_left z] at q
      obtain ⟨h1, h2, h3, h4⟩ := h.2 i m (by rw [List.getElem?_append_left z]; exact q)
      rw [xsR (by decide), xsR (by decide), xsI, if_neg (by omega), xsR (by decide)]
      exact ⟨h1, h2, h3, h4⟩
    · subst z
      obtain ⟨h1, h2, h3, h4⟩ := h.2 as.length (a, b, l) (by rw [List.getElem?_append_right (Nat.le_refl _), Nat.sub_self]; rfl)
      rw [List.getElem?_append_right (Nat.le_refl _), Nat.sub_self] at q
      obtain rfl : (a, b, v) = m := Option.some.inj q
      rw [xsR (by decide), xsR (by decide), xsI, if_pos ⟨rfl, rfl⟩, xsR (by decide)]
      exact ⟨h1, h2, rfl, h4⟩
    · obtain ⟨j, rfl⟩ : ∃ j, i = as.length + (j + 1) := ⟨i - as.length - 1, by omega⟩
      rw [List.getElem?_append_right (by omega), Nat.add_sub_cancel_left, List.getElem?_cons_succ] at q
      obtain ⟨h1, h2, h3, h4⟩ := h.2 (as.length + (j + 1)) m (by rw [List.getElem?_append_right (by omega), Nat.add_sub_cancel_left, List.getElem?_cons_succ]; exact q)
      rw [xsR (by decide), xsR (by decide), xsI, if_neg (by omega), xsR (by decide)]
      exact ⟨h1, h2, h3, h4⟩
/-- atoms and operators, handled -/
def haM (k m : Int32) (cs : List Oa) (p y : Int32) : List Mk := (2, 0, -1) :: atM k m :: (chM cs ++ ((31, 0, -1) :: (ruM p y ++ [(32, 0, -1)])))
set_option maxHeartbeats 4000000 in
set_option maxRecDepth 100000 in
theorem s_expH {F : xS → Prop} {d : Nat} (hF : StF F) {S : xS} {k m p x0 x y : Int32} {cs : List Oa} {ts : List (Int32 × Int32)} {ms : List Mk} {o : Nat} (hW : W0 S) (h : PS F S ((k, m) :: (oaT cs ++ ((12, x0) :: (25, p) :: (39, x) :: (25, y) :: ts))) ms o) (hm : ms.length + 3 * cs.length < 9300) (hl3 : cs.length ≤ 3) (hk : k = 25 ∨ k = 27) (hc : chOk cs) (ho : o < 39) (he : kEnd (hdK ts)) (h12 : ¬ hdK ts = 12) :
    ∃ S1, XC SK MT (d + 10) 209 [.ref 2] S = some (none, S1) ∧ PS F S1 ts (ms ++ haM k m cs p y) o ∧ FrQ S S1 ∧ W0 S1 := by
  obtain ⟨S1, a1, a2, a3, a4⟩ := h.add hF (by omega) (a := 1) (b := 0) (c := 0)
  obtain ⟨S2, b1, b2, b3, b4⟩ := s_lowA (d := d + 2) hF (a3.W0 hW) a2 (by rw [List.length_append]; show _ + 1 + _ < _; omega) hl3 hk hc (Or.inr (Or.inl rfl))
  rw [List.append_assoc] at b2
  obtain ⟨S3, c1, c2, c3⟩ := s_enter (d := d + 8) hF b2 (by omega)
  have b2' : PS F S3 ((12, x0) :: (25, p) :: (39, x) :: (25, y) :: ts) (ms ++ (1, 0, -1) :: (atM k m :: chM cs)) (o + 1) := c2
  generalize hS4 : xsetI S3 22 ms.length 2 = S4
  have e2 : PS F S4 ((12, x0) :: (25, p) :: (39, x) :: (25, y) :: ts) (ms ++ (2, 0, -1) :: (atM k m :: chM cs)) (o + 1) := by
    rw [← hS4]
    exact ⟨b2'.1.of hF (fun a ha => xsR (by unfold lxC at ha; omega)), b2'.2.1.set, by rw [xsR (by decide)]; exact b2'.2.2⟩
  have hl : (ms ++ (2, 0, -1) :: (atM k m :: chM cs)).length < 9380 := by rw [List.length_append, List.length_cons, List.length_cons, chM_len]; omega
  obtain ⟨S5, f1, f2, f3, f4⟩ := e2.add hF (by omega) (a := 31) (b := 0) (c := 0)
  obtain ⟨S6, g1, g2, g3⟩ := f2.step (d + 6)
  have w3 : W0 S3 := by rw [c3]; show (xsetI S2 2 10 (nI (o + 1))).1 2 9 = 0; rw [xsI, if_neg (by decide)]; exact b4
  have w4 : W0 S4 := by rw [← hS4]; show (xsetI S3 22 ms.length 2).1 2 9 = 0; rw [xsR (by decide)]; exact w3
  obtain ⟨S7, i1, i2, i3, i4⟩ := s_match (d := d) hF (g3.W0 (f3.W0 w4)) g2 (by rw [List.length_append]; show _ + 1 < _; omega) he h12
  obtain ⟨S8, j1, j2, j3, j4⟩ := i2.add hF (by rw [List.length_append, List.length_append]; show _ + 1 + 7 < _; omega) (a := 32) (b := 0) (c := 0)
  have q34 : FrQ S2 S4 := by
    rw [← hS4, c3]
    exact ⟨rfl, fun a q r u v => by rw [xsR (by unfold paC at r; omega), xsR (by unfold paC at r; omega)], fun q r u v => by rw [xsR (by decide), xsI, if_neg (by omega)]⟩
  refine ⟨xsetI S8 2 10 (nI o), ?_, ⟨j2.1.of hF (fun a ha => xsR (by unfold lxC at ha; omega)), ?_, by rw [xsI, if_pos ⟨rfl, rfl⟩]⟩, (a3.Q.trans b3).trans (q34.trans ((f3.trans g3).Q.trans (i3.trans (j3.Q.trans (S1 := S8) ⟨rfl, fun a q r u v => xsR (fun z => r (Or.inl z)), fun q r u v => by rw [xsI, if_neg (by omega)]⟩)))), ?_⟩
  · have hkd := h.kind
    have hk2 : S2.1 1 13 = 12 := b2.kind
    have hop : S8.1 2 10 = nI (o + 1) := j2.2.2
    have hlen : ms.length < 10240 := by omega
    have hsub : nI (o + 1) - 1 = nI o := by rw [← nI_1]; exact Int32.add_sub_cancel _ _
    rw [XC_iff]
    refine ⟨Nat.le_of_ble_eq_true rfl, ?_⟩
    show XL SK MT (d + 9) 209 (0, [some (.ref 2), none], [], S) _
    rcases hk with rfl | rfl <;> simp (config := { decide := true }) only [rX7_exp_0, rX7_exp_1, rX7_exp_4, rX7_exp_7k3, rX7_exp_7k10, rX7_exp_7k13, rX7_exp_7k19, rX7_exp_7k24, rX7_exp_7k0, rX7_exp_7k1, rX7_exp_7k2, rX7_exp_7k4, rX7_exp_7k5, rX7_exp_7k6, rX7_exp_7k7, rX7_exp_7k8, rX7_exp_7k9, rX7_exp_7k11, rX7_exp_7k12, rX7_exp_7k14, rX7_exp_7k15, rX7_exp_7k16, rX7_exp_7k17, rX7_exp_7k18, rX7_exp_7k20, rX7_exp_7k21, rX7_exp_7k22, rX7_exp_7k23, rX7_exp_7k25, rX7_exp_7k26, rX7_exp_7k27, rX7_exp_7k28, rX7_exp_7k29, rX7_exp_7k30, rX7_exp_7k31, rX7_exp_7k32, rX7_exp_7k33, rX7_exp_7k34, rX7_exp_7k35, rX7_exp_7k36, rX7_exp_7k37, rX7_exp_7k38, rX7_exp_7k39, rX7_exp_7k40, rX7_exp_7k41, rX7_exp_7k42, rX7_exp_7k43, rX7_exp_7k44, rX7_exp_7k45, rX7_exp_7k46, rX7_exp_7k47, rX7_exp_7k48, rX7_exp_7k49, rX7_exp_7k50, rX7_exp_7k51, rX7_exp_7k52, rX7_exp_7k53, rX7_exp_7k54, rX7_exp_7k55, rX7_exp_7k56, rX7_exp_7k57, rX7_exp_7k58, rX7_exp_7k59, rX7_exp_7k60, rX7_exp_7k61, rX7_exp_7k62, rX7_exp_7k63, rX7_exp_56, rX7_exp_57, rX7_exp_60, rX7_exp_63, rX7_exp_64, rX7_exp_67, rX7_exp_70, rX7_exp_71, rX7_exp_74, rX7_exp_77, rX7_exp_78, rX7_exp_81, rX7_exp_84, rX7_exp_85, rX7_exp_88, rX7_exp_91, rX7_exp_92, rX7_exp_93, rX7_exp_94, rX7_exp_95, rX7_exp_98, rX7_exp_99, rX7_exp_100, rX7_exp_103, rX7_exp_104, rX7_exp_107, rX7_exp_110, rX7_exp_112, rX7_exp_115, rX7_exp_116, rX7_exp_119, rX7_exp_122, rX7_exp_123, rX7_exp_126, rX7_exp_127, rX7_exp_128, rX7_exp_131, rX7_exp_132, rX7_exp_134, rX7_exp_135, rX7_exp_136, rX7_exp_139, rX7_exp_140, rX7_exp_141, rX7_exp_144, rX7_exp_147, rX7_exp_148, rX7_exp_151, rX7_exp_152, rX7_exp_154, rX7_exp_155, rX7_exp_156, rX7_exp_159, rX7_exp_160, riX7_exp_161, rX7_exp_161, rX7_exp_162, rX7_exp_165, rX7_exp_166, rX7_exp_167, rX7_exp_170, ↓reduceIte, m1_le, m1_lt, m1_eq, ofInt_m1, ex_ret, Int32.reduceAdd, Int32.reduceSub, Int32.reduceMul, Int32.reduceLT, Int32.reduceLE, xsI, Nat.reduceEqDiff, and_false, false_and, and_true, true_and, if_true, if_false, ite_true, ite_false, xlook_0, xlook_s, xI_int, xA_ref, xJ_long, xK_some, xRow_row, xTo_some, xst1, xclr, List.set_cons_zero, List.set_cons_succ, xsum_nil, xsum_int, xsum_ref, xsum_long, Option.toList_some, Option.toList_none, List.nil_append, List.cons_append, hkd, a1, b1, hk2, c1, s_put (show SK[22]? = some (.inl (0, 10240)) from rfl) (by decide : 10240 < 2 ^ 31), xput_in hlen (by decide : 10240 < 2 ^ 31), hS4, f1, g1, i1, j1, hop, hsub]
  · have := j2.2.1
    refine ⟨by rw [xsI, if_neg (by decide)]; exact this.1.trans (by rw [List.append_assoc, List.append_assoc, List.append_assoc]; rfl), fun i m q => ?_⟩
    rw [xsR (by decide), xsR (by decide), xsR (by decide), xsR (by decide)]
    exact this.2 i m (by rw [List.append_assoc, List.append_assoc, List.append_assoc]; exact q)
  · show (xsetI S8 2 10 (nI o)).1 2 9 = 0
    rw [xsI, if_neg (by decide)]
    exact j3.W0 i4
