/-! Parser: declarations, a program. -/
abbrev Ex := (Int32 × Int32) ⊕ Bo
def exT : Ex → List (Int32 × Int32)
  | .inl a => [a]
  | .inr b => (30, 0) :: (boT b ++ [(31, 0)])
def exM : Ex → List Mk
  | .inl a => [(1, 0, -1), atM a.1 a.2]
  | .inr b => (1, 0, -1) :: boM b
def exOk : Ex → Prop
  | .inl a => a.1 = 25 ∨ a.1 = 27
  | .inr b => boOk b
theorem exM_len (e : Ex) (h : exOk e) : (exM e).length ≤ 19 := by
  cases e with
  | inl a => show 2 ≤ 19; omega
  | inr b => show (boM b).length + 1 ≤ _; have := boM_len b h; omega
theorem s_exp {F : xS → Prop} {d : Nat} (hF : StF F) {S : xS} {e : Ex} {ts : List (Int32 × Int32)} {ms : List Mk} {o : Nat} (hW : W0 S) (h : PS F S (exT e ++ ts) ms o) (hm : ms.length < 9000) (hb : exOk e) (ho : o < 38) (he : kEnd (hdK ts)) (h12 : ¬ hdK ts = 12) :
    ∃ S1, XC SK MT (d + 14) 209 [.ref 2] S = some (none, S1) ∧ PS F S1 ts (ms ++ exM e) o ∧ FrQ S S1 ∧ W0 S1 := by
  cases e with
  | inl a =>
    obtain ⟨k, m⟩ := a
    exact s_expA (d := d + 6) (cs := []) hF hW h (show ms.length + 3 * 0 < _ by omega) (Nat.zero_le _) hb trivial he h12
  | inr b =>
    have h' : PS F S ((30, 0) :: (boT b ++ (31, 0) :: ts)) ms o := by
      have e : exT (.inr b) ++ ts = (30, 0) :: (boT b ++ (31, 0) :: ts) := by show (30, 0) :: ((boT b ++ [(31, 0)]) ++ ts) = _; rw [List.append_assoc]; rfl
      rw [e] at h; exact h
    exact s_expR (d := d) hF hW h' (by omega) hb ho he h12
/-- a declaration: a name, what it is -/
abbrev De := Int32 × Ex
def deT (c : De) : List (Int32 × Int32) := (23, 0) :: (25, c.1) :: (38, 0) :: exT c.2
def deM (n : Nat) (c : De) : List Mk := (70, 1, nI (n + 3)) :: (40, 0, -1) :: (45, c.1, -1) :: (71, 0, -1) :: (exM c.2 ++ [(72, 1, -1)])
theorem deM_len (n : Nat) (c : De) : (deM n c).length = (exM c.2).length + 5 := by
  show (exM c.2 ++ [_]).length + 4 = _
  rw [List.length_append]
  rfl
set_option maxHeartbeats 4000000 in
set_option maxRecDepth 100000 in
theorem s_valDec {F : xS → Prop} {d : Nat} (hF : StF F) {S : xS} {c : De} {ts : List (Int32 × Int32)} {ms : List Mk} {o : Nat} (hW : W0 S) (h : PS F S (deT c ++ ts) ms o) (hm : ms.length < 8900) (hb : exOk c.2) (ho : o < 38) (he : kEnd (hdK ts)) (h12 : ¬ hdK ts = 12) :
    ∃ S1, XC SK MT (d + 15) 192 [.ref 2, .int 1] S = some (none, S1) ∧ PS F S1 ts (ms ++ deM ms.length c) o ∧ FrQ S S1 ∧ W0 S1 := by
  have h0 : PS F S ((23, 0) :: (25, c.1) :: (38, 0) :: (exT c.2 ++ ts)) ms o := h
  obtain ⟨S1, a1, a2, a3⟩ := h0.step (d + 11)
  obtain ⟨S2, b1, b2, b3, b4⟩ := a2.add hF (by omega) (a := 70) (b := 1) (c := S1.1 1 14)
  obtain ⟨S3, c1, c2, c3⟩ := s_pat (d := d + 8) hF b2 (by rw [List.length_append]; show _ + 1 < _; omega) (Or.inl rfl)
  obtain ⟨S4, d1, d2, d3, d4⟩ := c2.add hF (by rw [List.length_append, List.length_append]; show _ + 1 + 2 < _; omega) (a := 71) (b := 0) (c := S3.1 1 14)
  have hl4 : (ms ++ [((70 : Int32), (1 : Int32), (-1 : Int32))] ++ [(40, 0, -1), (45, c.1, -1)]).length = ms.length + 3 := by rw [List.length_append, List.length_append]; rfl
  generalize hS5 : xsetI S4 25 ms.length (nI (ms.length + 3)) = S5
  have e2 : PS F S5 ((38, 0) :: (exT c.2 ++ ts)) (ms ++ (70, 1, nI (ms.length + 3)) :: [(40, 0, -1), (45, c.1, -1), (71, 0, -1)]) o := by
    have d2' : PS F S4 ((38, 0) :: (exT c.2 ++ ts)) (ms ++ (70, 1, -1) :: [(40, 0, -1), (45, c.1, -1), (71, 0, -1)]) o := d2.app (by rw [List.append_assoc, List.append_assoc]; rfl)
    rw [← hS5]
    exact ⟨d2'.1.of hF (fun a ha => xsR (by unfold lxC at ha; omega)), d2'.2.1.link, by rw [xsR (by decide)]; exact d2'.2.2⟩
  have e3 : FrQ S4 S5 := by
    rw [← hS5]
    exact ⟨rfl, fun a q r u v => xsR (by unfold paC at r; omega), fun q r u v => by rw [xsR (by decide)]⟩
  have w5 : W0 S5 := by rw [← hS5]; show (xsetI S4 25 ms.length (nI (ms.length + 3))).1 2 9 = 0; rw [xsR (by decide)]; exact d3.W0 (c3.W0 (b3.W0 (a3.W0 hW)))
  obtain ⟨S6, f1, f2, f3⟩ := s_need (d := d + 10) e2
  obtain ⟨S7, g1, g2, g3, g4⟩ := s_exp (d := d) hF (f3.W0 w5) f2 (by rw [List.length_append]; show _ + 4 < _; omega) hb ho he h12
  obtain ⟨S8, i1, i2, i3, i4⟩ := g2.add hF (by have := exM_len c.2 hb; rw [List.length_append, List.length_append]; show _ + 4 + _ < _; omega) (a := 72) (b := 1) (c := S5.1 1 14)
  refine ⟨S8, ?_, i2.app (by rw [List.append_assoc, List.append_assoc]; rfl), (((a3.trans b3).trans (c3.trans d3)).Q.trans e3).trans (f3.Q.trans (g3.trans i3.Q)), i3.W0 g4⟩
  have hk1 : S1.1 1 13 = 25 := a2.kind
  have hlen : ms.length < 10240 := by omega
  rw [hl4] at d1
  rw [XC_iff]
  refine ⟨Nat.le_of_ble_eq_true rfl, ?_⟩
  show XL SK MT (d + 14) 192 (0, [some (.ref 2), some (.int 1), none, none], [], S) _
  simp (config := { decide := true }) only [rX7_valDec_0, rX7_valDec_1, rX7_valDec_4, rX7_valDec_7, rX7_valDec_8, rX7_valDec_11, rX7_valDec_14, rX7_valDec_16, rX7_valDec_19, rX7_valDec_20, rX7_valDec_21, rX7_valDec_24, rX7_valDec_25, rX7_valDec_26, rX7_valDec_28, rX7_valDec_29, rX7_valDec_30, rX7_valDec_33, rX7_valDec_36, rX7_valDec_39, rX7_valDec_40, rX7_valDec_41, rX7_valDec_44, rX7_valDec_45, rX7_valDec_48, rX7_valDec_49, rX7_valDec_50, rX7_valDec_52, rX7_valDec_53, rX7_valDec_54, rX7_valDec_57, rX7_valDec_60, rX7_valDec_63, rX7_valDec_66, rX7_valDec_67, rX7_valDec_70, rX7_valDec_73, rX7_valDec_74, rX7_valDec_75, rX7_valDec_77, rX7_valDec_80, rX7_valDec_81, rX7_valDec_84, rX7_valDec_85, rX7_valDec_87, rX7_valDec_88, rX7_valDec_89, rX7_valDec_92, rX7_valDec_93, ↓reduceIte, m1_le, m1_lt, m1_eq, ofInt_m1, ex_ret, Int32.reduceAdd, Int32.reduceSub, Int32.reduceMul, Int32.reduceLT, Int32.reduceLE, xsI, Nat.reduceEqDiff, and_false, false_and, and_true, true_and, if_true, if_false, ite_true, ite_false, xlook_0, xlook_s, xI_int, xA_ref, xJ_long, xK_some, xRow_row, xTo_some, xst1, xclr, List.set_cons_zero, List.set_cons_succ, xsum_nil, xsum_int, xsum_ref, xsum_long, Option.toList_some, Option.toList_none, List.nil_append, List.cons_append, a1, hk1, b1, c1, d1, s_put (show SK[25]? = some (.inl (0, 10240)) from rfl) (by decide : 10240 < 2 ^ 31), xput_in hlen (by decide : 10240 < 2 ^ 31), hS5, f1, g1, i1]
def desT (cs : List De) : List (Int32 × Int32) := cs.flatMap deT
def desM : Nat → List De → List Mk
  | _, [] => []
  | n, c :: cs => deM n c ++ desM (n + (deM n c).length) cs
theorem desM_len : ∀ (cs : List De) (n : Nat), (∀ c ∈ cs, exOk c.2) → (desM n cs).length ≤ 24 * cs.length := by
  intro cs
  induction cs with
  | nil => intro n _; exact Nat.le_refl _
  | cons c cs ih =>
    intro n h
    have h1 := ih (n + (deM n c).length) (fun c hc => h c (List.mem_cons_of_mem _ hc))
    have h2 := exM_len c.2 (h c List.mem_cons_self)
    show (deM n c ++ _).length ≤ _
    rw [List.length_append, deM_len, List.length_cons]
    rw [deM_len] at h1
    omega
set_option maxHeartbeats 4000000 in
set_option maxRecDepth 100000 in
theorem decs_loop {F : xS → Prop} {d : Nat} (hF : StF F) : ∀ (cs : List De) (S : xS) (n : Nat) (ts : List (Int32 × Int32)) (ms : List Mk) (o : Nat), W0 S → PS F S (desT cs ++ ts) ms o → ms.length + 24 * cs.length < 8800 → n + cs.length < 1900 → (∀ c ∈ cs, exOk c.2) → o < 38 → hdK ts = 14 →
    ∃ S1, XL SK MT (d + 15) 191 (2, [some (.ref 2), some (.int 1), some (.int (nI n))], [], S) (none, S1) ∧ PS F S1 ts (ms ++ desM ms.length cs) o ∧ FrQ S S1 ∧ W0 S1 := by
  intro cs
  induction cs with
  | nil =>
    intro S n ts ms o hW h hm hn hb ho he
    refine ⟨S, ?_, h.app (by rw [show desM ms.length [] = [] from rfl, List.append_nil]), FrQ.refl, hW⟩
    have hk : S.1 1 13 = 14 := h.hk.trans he
    have hn9 : ¬ (2000 : Int32) < nI n := Int32.not_lt.mpr (nI_le (b := 2000) (by omega) (by decide))
    rw [rX7_decs_2]
    simp (config := { decide := true }) only [rX7_decs_0, rX7_decs_1, rX7_decs_3, rX7_decs_6, rX7_decs_9, rX7_decs_10, rX7_decs_13, rX7_decs_16, rX7_decs_18, rX7_decs_21, rX7_decs_22, rX7_decs_23, rX7_decs_26, rX7_decs_29, rX7_decs_30, rX7_decs_33, rX7_decs_36, rX7_decs_38, rX7_decs_41, rX7_decs_42, rX7_decs_43, rX7_decs_46, rX7_decs_49, rX7_decs_50, rX7_decs_51, rX7_decs_54, rX7_decs_57, rX7_decs_59, rX7_decs_62, rX7_decs_63, rX7_decs_66, rX7_decs_69, rX7_decs_72, rX7_decs_75, ↓reduceIte, m1_le, m1_lt, m1_eq, ofInt_m1, ex_ret, Int32.reduceAdd, Int32.reduceSub, Int32.reduceMul, Int32.reduceLT, Int32.reduceLE, xsI, Nat.reduceEqDiff, and_false, false_and, and_true, true_and, if_true, if_false, ite_true, ite_false, xlook_0, xlook_s, xI_int, xA_ref, xJ_long, xK_some, xRow_row, xTo_some, xst1, xclr, List.set_cons_zero, List.set_cons_succ, xsum_nil, xsum_int, xsum_ref, xsum_long, Option.toList_some, Option.toList_none, List.nil_append, List.cons_append, hn9, hk]
  | cons c cs ih =>
    intro S n ts ms o hW h hm hn hb ho he
    rw [List.length_cons] at hm hn
    have h0 : PS F S (deT c ++ (desT cs ++ ts)) ms o := by
      have e : desT (c :: cs) ++ ts = deT c ++ (desT cs ++ ts) := by show (deT c ++ desT cs) ++ ts = _; rw [List.append_assoc]
      rw [e] at h; exact h
    have hk2 : hdK (desT cs ++ ts) = 23 ∨ hdK (desT cs ++ ts) = 14 := by
      cases cs with
      | nil => exact Or.inr he
      | cons c' cs' => exact Or.inl rfl
    obtain ⟨S1, a1, a2, a3, a4⟩ := s_valDec (d := d) hF hW h0 (by omega) (hb c List.mem_cons_self) ho (by rcases hk2 with z | z <;> (rw [z]; unfold kEnd; decide)) (by rcases hk2 with z | z <;> (rw [z]; decide))
    have hlen := exM_len c.2 (hb c List.mem_cons_self)
    obtain ⟨S2, b1, b2, b3, b4⟩ := ih S1 (n + 1) ts _ o a4 a2 (by rw [List.length_append, deM_len]; omega) (by omega) (fun c hc => hb c (List.mem_cons_of_mem _ hc)) ho he
    refine ⟨S2, ?_, b2.app (by rw [List.append_assoc, List.length_append]; rfl), a3.trans b3, b4⟩
    have hk : S.1 1 13 = 23 := h0.kind
    have hk1 : ¬ S1.1 1 13 = 35 := by rw [a2.hk]; rcases hk2 with z | z <;> (rw [z]; decide)
    have hn9 : ¬ (2000 : Int32) < nI n := Int32.not_lt.mpr (nI_le (b := 2000) (by omega) (by decide))
    rw [rX7_decs_2]
    simp (config := { decide := true }) only [rX7_decs_0, rX7_decs_1, rX7_decs_3, rX7_decs_6, rX7_decs_9, rX7_decs_10, rX7_decs_13, rX7_decs_16, rX7_decs_18, rX7_decs_21, rX7_decs_22, rX7_decs_23, rX7_decs_26, rX7_decs_29, rX7_decs_30, rX7_decs_33, rX7_decs_36, rX7_decs_38, rX7_decs_41, rX7_decs_42, rX7_decs_43, rX7_decs_46, rX7_decs_49, rX7_decs_50, rX7_decs_51, rX7_decs_54, rX7_decs_57, rX7_decs_59, rX7_decs_62, rX7_decs_63, rX7_decs_66, rX7_decs_69, rX7_decs_72, rX7_decs_75, ↓reduceIte, m1_le, m1_lt, m1_eq, ofInt_m1, ex_ret, Int32.reduceAdd, Int32.reduceSub, Int32.reduceMul, Int32.reduceLT, Int32.reduceLE, xsI, Nat.reduceEqDiff, and_false, false_and, and_true, true_and, if_true, if_false, ite_true, ite_false, xlook_0, xlook_s, xI_int, xA_ref, xJ_long, xK_some, xRow_row, xTo_some, xst1, xclr, List.set_cons_zero, List.set_cons_succ, xsum_nil, xsum_int, xsum_ref, xsum_long, Option.toList_some, Option.toList_none, List.nil_append, List.cons_append, hn9, hk, a1, hk1, nI_1]
    exact b1
