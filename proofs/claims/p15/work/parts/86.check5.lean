/-! Checker: expressions, all of them. -/
theorem len_run {xm ym : Nat} {m : Mk} {done todo : List Mk} (h : (done ++ m :: todo).length ≤ 10240) : ((done ++ [m].map (mkL xm ym)) ++ todo).length ≤ 10240 := by
  simp only [List.length_append, List.length_cons, List.length_nil, List.length_map] at h ⊢
  omega
theorem FrE.H {t g : Nat} {S S1 : xS} (h : FrE S S1) : FrH t g S S1 := (h.C (t := t)).D.H
theorem FrE.r3 {S S1 : xS} (h : FrE S S1) : S1.1 3 = S.1 3 := h.2.1 3 (by decide) (by decide) (by decide) (by decide) (by decide) (by decide)
theorem FrE.r31 {S S1 : xS} (h : FrE S S1) : S1.1 31 = S.1 31 := h.2.1 _ (by decide) (by decide) (by decide) (by decide) (by decide) (by decide)
theorem FrE.r4 {S S1 : xS} (h : FrE S S1) : S1.1 4 = S.1 4 := h.2.1 _ (by decide) (by decide) (by decide) (by decide) (by decide) (by decide)
theorem FrD.r31 {t : Nat} {S S1 : xS} (h : FrD t S S1) : S1.1 31 = S.1 31 := h.2.1 _ (by decide) (by decide) (by decide) (by decide) (by decide) (by decide) (by decide) (by decide) (by decide) (by decide)
theorem FrD.r4 {t : Nat} {S S1 : xS} (h : FrD t S S1) : S1.1 4 = S.1 4 := h.2.1 _ (by decide) (by decide) (by decide) (by decide) (by decide) (by decide) (by decide) (by decide) (by decide) (by decide)
/-- the marks of handle Div => y -/
def haT : List Mk := (31, 0, -1) :: (ruM 37 52 ++ [(32, 0, -1)])
set_option maxHeartbeats 4000000 in
set_option maxRecDepth 100000 in
theorem ck_ha {d t g xm ym : Nat} {S : xS} {vs : List Va} {done todo : List Mk} (hm : MK S (done ++ (haT ++ todo))) (hl : (done ++ (haT ++ todo)).length ≤ 10240) (hc : CE S vs) (hy : AtOk vs xm ym (25, 52)) (ht : TP S t 2 0) (ht2 : t < 90) (hg : S.1 3 9 = nI g) (hg2 : g < 80) :
    ∃ S1, CkRun (d + 5) xm ym haT done todo S S1 ∧ CE S1 vs ∧ TP S1 t 2 0 ∧ FrH t g S S1 ∧ S1.1 3 9 = nI g := by
  have K : ∀ {ds ts : List Mk} {m : Mk}, (ds ++ m :: ts).length ≤ 10240 → ds.length < 10240 := fun h => by rw [List.length_append, List.length_cons] at h; omega
  -- handle
  have hm1 : MK S (done ++ (31, 0, -1) :: (ruM 37 52 ++ [(32, 0, -1)] ++ todo)) := hm
  have hl1 : (done ++ (31, 0, -1) :: (ruM 37 52 ++ [(32, 0, -1)] ++ todo)).length ≤ 10240 := hl
  have p1 := s_rules_handle (d := d + 2) (K hl1) ht (by omega) hg (by omega)
  generalize hS1 : hdS (xsetI (hdS S g 6) 3 8 (nI t)) (g + 1) (nI 2) = S1 at p1
  have f1 : FrH t g S S1 := by rw [← hS1]; exact (FrH_hd (Nat.le_refl g)).trans ((FrH_3 (Or.inl rfl)).trans (FrH_hd (by omega)))
  have c1 := hc.H f1
  have m1 : MK S1 (done ++ (31, 0, -1) :: (ruM 37 52 ++ [(32, 0, -1)] ++ todo)) := by rw [← hS1]; exact hm1
  have r1 : CkRun (d + 5) xm ym [(31, 0, -1)] done (ruM 37 52 ++ [(32, 0, -1)] ++ todo) S S1 := CkRun.one m1 (fun r hr => ck_rules hm1 hl1 hc.2.2.2.2.2.1 (Or.inl rfl) p1 hr)
  have x1 : S1.1 3 9 = nI (g + 2) := by rw [← hS1]; rfl
  have y1 : S1.1 31 g = 6 := by rw [← hS1]; unfold hdS; simp (config := { decide := true }) only [xsI, show ¬ g = g + 1 by omega, and_self, and_false, false_and, if_true, if_false]
  have z1 : S1.1 31 (g + 1) = nI 2 := by rw [← hS1]; unfold hdS; simp (config := { decide := true }) only [xsI, and_self, and_false, false_and, if_true, if_false]
  have w1 : S1.1 3 8 = nI t := by rw [← hS1]; unfold hdS; simp (config := { decide := true }) only [xsI, and_self, and_false, false_and, if_true, if_false]
  -- the rule begins
  have hm2 : MK S1 ((done ++ [(31, 0, -1)].map (mkL xm ym)) ++ (36, 0, -1) :: ([(40, 0, -1), (45, 37, -1), (37, 0, -1), (1, 0, -1), (6, 52, -1), (38, 0, -1), (32, 0, -1)] ++ todo)) := r1.1
  have hl2 : ((done ++ [(31, 0, -1)].map (mkL xm ym)) ++ (36, 0, -1) :: ([(40, 0, -1), (45, 37, -1), (37, 0, -1), (1, 0, -1), (6, 52, -1), (38, 0, -1), (32, 0, -1)] ++ todo)).length ≤ 10240 := len_run (xm := xm) (ym := ym) hl1
  generalize hD2 : done ++ [(31, 0, -1)].map (mkL xm ym) = D2 at *
  have p2 := s_rules_begin (d := d + 1) (K hl2) x1 (by omega)
  generalize hS2 : xsetI (hdS (hdS (hdS S1 (g + 2) (S1.1 4 12)) (g + 2 + 1) (S1.1 4 13)) (g + 2 + 2) (S1.1 4 14)) 3 12 (S1.1 4 12) = S2 at p2
  have f2 : FrH t g S1 S2 := by rw [← hS2]; exact (FrH_hd (by omega)).trans ((FrH_hd (by omega)).trans ((FrH_hd (by omega)).trans (FrH_3 (Or.inr (Or.inr rfl)))))
  have c2 := c1.H f2
  have m2 : MK S2 (D2 ++ (36, 0, -1) :: ([(40, 0, -1), (45, 37, -1), (37, 0, -1), (1, 0, -1), (6, 52, -1), (38, 0, -1), (32, 0, -1)] ++ todo)) := by rw [← hS2]; exact hm2
  have r2 : CkRun (d + 5) xm ym [(36, 0, -1)] D2 ([(40, 0, -1), (45, 37, -1), (37, 0, -1), (1, 0, -1), (6, 52, -1), (38, 0, -1), (32, 0, -1)] ++ todo) S1 S2 := CkRun.one m2 (fun r hr => ck_rules hm2 hl2 c1.2.2.2.2.2.1 (Or.inr (Or.inl rfl)) p2 hr)
  have x2 : S2.1 3 9 = nI (g + 5) := by rw [← hS2]; rfl
  have e2 : S2.1 4 = S1.1 4 := by rw [← hS2]; rfl
  have y2 : S2.1 31 g = 6 := by rw [← hS2]; unfold hdS; simp (config := { decide := true }) only [xsI, show ¬ g = g + 2 by omega, show ¬ g = g + 2 + 1 by omega, show ¬ g = g + 2 + 2 by omega, and_self, and_false, false_and, if_true, if_false]; exact y1
  have z2 : S2.1 31 (g + 1) = nI 2 := by rw [← hS2]; unfold hdS; simp (config := { decide := true }) only [xsI, show ¬ g + 1 = g + 2 by omega, show ¬ g + 1 = g + 2 + 1 by omega, show ¬ g + 1 = g + 2 + 2 by omega, and_self, and_false, false_and, if_true, if_false]; exact z1
  have u2 : S2.1 31 (g + 2) = S2.1 4 12 := by rw [e2, ← hS2]; unfold hdS; simp (config := { decide := true }) only [xsI, show ¬ g + 2 = g + 2 + 1 by omega, show ¬ g + 2 = g + 2 + 2 by omega, and_self, and_false, false_and, if_true, if_false]
  have v2 : S2.1 31 (g + 3) = S2.1 4 13 := by rw [e2, ← hS2]; unfold hdS; simp (config := { decide := true }) only [xsI, show g + 3 = g + 2 + 1 from rfl, show ¬ g + 2 + 1 = g + 2 + 2 by omega, and_self, and_false, false_and, if_true, if_false]
  have t2 : S2.1 31 (g + 4) = S2.1 4 14 := by rw [e2, ← hS2]; unfold hdS; simp (config := { decide := true }) only [xsI, show g + 4 = g + 2 + 2 from rfl, and_self, and_false, false_and, if_true, if_false]
  have w2 : S2.1 3 8 = nI t := by rw [← hS2]; exact w1
  clear hS2 hS1 p1 p2
  -- the pattern
  have hm3 : MK S2 ((D2 ++ [(36, 0, -1)].map (mkL xm ym)) ++ (40, 0, -1) :: ([(45, 37, -1), (37, 0, -1), (1, 0, -1), (6, 52, -1), (38, 0, -1), (32, 0, -1)] ++ todo)) := r2.1
  have hl3 : ((D2 ++ [(36, 0, -1)].map (mkL xm ym)) ++ (40, 0, -1) :: ([(45, 37, -1), (37, 0, -1), (1, 0, -1), (6, 52, -1), (38, 0, -1), (32, 0, -1)] ++ todo)).length ≤ 10240 := len_run (xm := xm) (ym := ym) hl2
  generalize hD3 : D2 ++ [(36, 0, -1)].map (mkL xm ym) = D3 at *
  have r3 : CkRun (d + 5) xm ym [(40, 0, -1)] D3 ([(45, 37, -1), (37, 0, -1), (1, 0, -1), (6, 52, -1), (38, 0, -1), (32, 0, -1)] ++ todo) S2 S2 := CkRun.one hm3 (fun r hr => ck_pattern hm3 hl3 c2.2.2.2.2.2.1 (Or.inl rfl) (s_pat_skip (d := d + 3) (K hl3)) hr)
  have hm4 : MK S2 ((D3 ++ [(40, 0, -1)].map (mkL xm ym)) ++ (45, 37, -1) :: ([(37, 0, -1), (1, 0, -1), (6, 52, -1), (38, 0, -1), (32, 0, -1)] ++ todo)) := r3.1
  have hl4 : ((D3 ++ [(40, 0, -1)].map (mkL xm ym)) ++ (45, 37, -1) :: ([(37, 0, -1), (1, 0, -1), (6, 52, -1), (38, 0, -1), (32, 0, -1)] ++ todo)).length ≤ 10240 := len_run (xm := xm) (ym := ym) hl3
  generalize hD4 : D3 ++ [(40, 0, -1)].map (mkL xm ym) = D4 at *
  have p4 := s_pat_div (d := d) (K hl4) hm4.at.2.1 c2 w2 (by omega)
  have l4 : FrD t S2 (xsetI S2 25 D4.length 65542) := FrD_link
  have f4 : FrC t (xsetI S2 25 D4.length 65542) (psS (xsetI S2 25 D4.length 65542) t 6 0) := FrC_ps
  have m4 := f4.MK (hm4.lk (l := 65542))
  have tp4 : TP (psS (xsetI S2 25 D4.length 65542) t 6 0) t 6 0 := TP_ps (n := 6)
  have g4 : FrD t S2 (psS (xsetI S2 25 D4.length 65542) t 6 0) := l4.trans f4.D
  have c4 : CE (psS (xsetI S2 25 D4.length 65542) t 6 0) vs := (c2.link).C f4
  generalize psS (xsetI S2 25 D4.length 65542) t 6 0 = S4 at *
  have r4 : CkRun (d + 5) xm ym [(45, 37, -1)] D4 ([(37, 0, -1), (1, 0, -1), (6, 52, -1), (38, 0, -1), (32, 0, -1)] ++ todo) S2 S4 := CkRun.one m4 (fun r hr => ck_pattern hm4 hl4 c2.2.2.2.2.2.1 (Or.inr rfl) p4 hr)
  have hm5 : MK S4 ((D4 ++ [(45, 37, -1)].map (mkL xm ym)) ++ (37, 0, -1) :: ([(1, 0, -1), (6, 52, -1), (38, 0, -1), (32, 0, -1)] ++ todo)) := r4.1
  have hl5 : ((D4 ++ [(45, 37, -1)].map (mkL xm ym)) ++ (37, 0, -1) :: ([(1, 0, -1), (6, 52, -1), (38, 0, -1), (32, 0, -1)] ++ todo)).length ≤ 10240 := len_run (xm := xm) (ym := ym) hl4
  generalize hD5 : D4 ++ [(45, 37, -1)].map (mkL xm ym) = D5 at *
  have h4 : S4.1 31 = S2.1 31 := g4.r31
  have h4b : S4.1 4 = S2.1 4 := g4.r4
  have x4 : S4.1 3 9 = nI (g + 5) := by rw [g4.2.2.1 _ (by decide)]; exact x2
  obtain ⟨S5, p5, q5⟩ := s_rules_gives (d := d) (K hl5) tp4 (by omega) x4 (by omega) (by rw [h4]; exact y2) c4.2.2.2.2.1.2.1 c4.2.2.2.2.1.2.2.2
  have f5 : FrD t S4 S5 := (FrC_top.trans q5.C).D
  have c5 : CE S5 vs := c4.C (t := t) (FrC_top.trans q5.C)
  have m5 : MK S5 (D5 ++ (37, 0, -1) :: ([(1, 0, -1), (6, 52, -1), (38, 0, -1), (32, 0, -1)] ++ todo)) := (FrC_top.trans (q5.C (t := t))).MK hm5
  have r5 : CkRun (d + 5) xm ym [(37, 0, -1)] D5 ([(1, 0, -1), (6, 52, -1), (38, 0, -1), (32, 0, -1)] ++ todo) S4 S5 := CkRun.one m5 (fun r hr => ck_rules hm5 hl5 c4.2.2.2.2.2.1 (Or.inr (Or.inr (Or.inl rfl))) p5 hr)
  have w5 : S5.1 3 8 = nI t := by rw [q5.r3]; rfl
  -- what is given
  have hm6 : MK S5 ((D5 ++ [(37, 0, -1)].map (mkL xm ym)) ++ (1, 0, -1) :: ([(6, 52, -1), (38, 0, -1), (32, 0, -1)] ++ todo)) := r5.1
  have hl6 : ((D5 ++ [(37, 0, -1)].map (mkL xm ym)) ++ (1, 0, -1) :: ([(6, 52, -1), (38, 0, -1), (32, 0, -1)] ++ todo)).length ≤ 10240 := len_run (xm := xm) (ym := ym) hl5
  generalize hD6 : D5 ++ [(37, 0, -1)].map (mkL xm ym) = D6 at *
  have r6 := ck_skip (d := d + 3) (xm := xm) (ym := ym) hm6 hl6 c5.2.2.2.2.2.1 (Or.inl rfl)
  have hm7 : MK S5 ((D6 ++ [(1, 0, -1)].map (mkL xm ym)) ++ atM 25 52 :: ([(38, 0, -1), (32, 0, -1)] ++ todo)) := r6.1
  have hl7 : ((D6 ++ [(1, 0, -1)].map (mkL xm ym)) ++ atM 25 52 :: ([(38, 0, -1), (32, 0, -1)] ++ todo)).length ≤ 10240 := len_run (xm := xm) (ym := ym) hl6
  generalize hD7 : D6 ++ [(1, 0, -1)].map (mkL xm ym) = D7 at *
  obtain ⟨S7, n, r7, c7, tp7, f7, g7⟩ := ck_atom (d := d + 1) (a := (25, 52)) hm7 hl7 c5 hy w5 (by omega)
  have hm8 : MK S7 ((D7 ++ [atM 25 52].map (mkL xm ym)) ++ (38, 0, -1) :: ([(32, 0, -1)] ++ todo)) := r7.1
  have hl8 : ((D7 ++ [atM 25 52].map (mkL xm ym)) ++ (38, 0, -1) :: ([(32, 0, -1)] ++ todo)).length ≤ 10240 := len_run (xm := xm) (ym := ym) hl7
  generalize hD8 : D7 ++ [atM 25 52].map (mkL xm ym) = D8 at *
  have h7 : S7.1 31 = S2.1 31 := g7.r31.trans (f5.r31.trans h4)
  have h7b : S7.1 4 = S2.1 4 := g7.r4.trans (f5.r4.trans h4b)
  have x7 : S7.1 3 9 = nI (g + 1 + 4) := by rw [g7.2.2.1 _ (by decide), f5.2.2.1 _ (by decide)]; exact x4
  obtain ⟨S8, p8, q8⟩ := s_rules_end (d := d) (g := g + 1) (a := 2) (K hl8) tp7 (by omega) x7 (by omega) (by rw [h7]; exact z2) (by rw [h7, h7b]; exact u2) (by rw [h7, h7b]; exact v2) (by rw [h7, h7b]; exact t2) c7.2.2.2.2.1.1 f7 c7.2.2.2.2.1.2.2.1
  have f8 : FrH t g S7 S8 := ((FrH_3 (Or.inr (Or.inl rfl))).trans ((FrH_3 (Or.inr (Or.inl rfl))).trans ((FrH_3 (Or.inr (Or.inl rfl))).trans (FrH_3 (Or.inl rfl))))).trans q8.H
  have c8 := c7.H f8
  have m8 : MK S8 (D8 ++ (38, 0, -1) :: ([(32, 0, -1)] ++ todo)) := (q8.C (t := t)).MK hm8
  have r8 : CkRun (d + 5) xm ym [(38, 0, -1)] D8 ([(32, 0, -1)] ++ todo) S7 S8 := CkRun.one m8 (fun r hr => ck_rules hm8 hl8 c7.2.2.2.2.2.1 (Or.inr (Or.inr (Or.inr (Or.inl rfl)))) p8 hr)
  have w8 : S8.1 3 8 = nI t := by rw [q8.r3]; rfl
  have x8 : S8.1 3 9 = nI (g + 2) := by rw [q8.r3]; rfl
  have z8 : S8.1 31 (g + 1) = nI 2 := by rw [q8.r31]; show S7.1 31 (g + 1) = _; rw [h7]; exact z2
  have hm9 : MK S8 ((D8 ++ [(38, 0, -1)].map (mkL xm ym)) ++ (32, 0, -1) :: todo) := r8.1
  have hl9 : ((D8 ++ [(38, 0, -1)].map (mkL xm ym)) ++ (32, 0, -1) :: todo).length ≤ 10240 := len_run (xm := xm) (ym := ym) hl8
  have p9 := s_rules_hend (d := d + 2) (K hl9) w8 (by omega) x8 (by omega) z8
  have f9 : FrH t g S8 (psS (xsetI (xsetI S8 3 9 (nI (g + 1))) 3 9 (nI g)) t (nI 2) 0) := (FrH_3 (Or.inr (Or.inl rfl))).trans ((FrH_3 (Or.inr (Or.inl rfl))).trans FrC_ps.D.H)
  have m9 : MK (psS (xsetI (xsetI S8 3 9 (nI (g + 1))) 3 9 (nI g)) t (nI 2) 0) ((D8 ++ [(38, 0, -1)].map (mkL xm ym)) ++ (32, 0, -1) :: todo) := (FrC_ps (t := t)).MK (MK_3 (MK_3 hm9))
  have r9 : CkRun (d + 5) xm ym [(32, 0, -1)] (D8 ++ [(38, 0, -1)].map (mkL xm ym)) todo S8 _ := CkRun.one m9 (fun r hr => ck_rules hm9 hl9 c8.2.2.2.2.2.1 (Or.inr (Or.inr (Or.inr (Or.inr (Or.inl rfl))))) p9 hr)
  have tp9 : TP (psS (xsetI (xsetI S8 3 9 (nI (g + 1))) 3 9 (nI g)) t (nI 2) 0) t 2 0 := TP_ps
  have x9 : (psS (xsetI (xsetI S8 3 9 (nI (g + 1))) 3 9 (nI g)) t (nI 2) 0).1 3 9 = nI g := rfl
  generalize psS (xsetI (xsetI S8 3 9 (nI (g + 1))) 3 9 (nI g)) t (nI 2) 0 = S9 at *
  subst hD8 hD7 hD6 hD5 hD4 hD3 hD2
  exact ⟨S9, r1.app (r2.app (r3.app (r4.app (r5.app (r6.app (r7.app (r8.app r9))))))), c8.H f9, tp9, f1.trans (f2.trans (g4.H.trans (f5.H.trans (g7.H.trans (f8.trans f9))))), x9⟩
/-- what an expression is made of may stand here -/
def ExOk (vs : List Va) (xm ym : Nat) : Ex → Prop
  | .inl a => a.1 = 27
  | .inr b => AtOk vs xm ym b.1 ∧ OaOk vs xm ym b.2.1 ∧ (∃ c cs, b.2.1 = c :: cs) ∧ (b.2.2 = none ∨ (b.2.2 = some (37, 52) ∧ AtOk vs xm ym (25, 52)))
theorem ck_ex {d t g xm ym : Nat} {S : xS} {vs : List Va} {done todo : List Mk} {e : Ex} (hm : MK S (done ++ (exM e ++ todo))) (hl : (done ++ (exM e ++ todo)).length ≤ 10240) (hc : CE S vs) (he : ExOk vs xm ym e) (ht : S.1 3 8 = nI t) (ht2 : t < 90) (hg : S.1 3 9 = nI g) (hg2 : g < 80) :
    ∃ S1 n f, CkRun (d + 5) xm ym (exM e) done todo S S1 ∧ CE S1 vs ∧ TP S1 t n f ∧ Fi S1 n 2 ∧ (f = 0 ∨ f = 1) ∧ FrH t g S S1 ∧ S1.1 3 9 = nI g := by
  match e, he with
  | .inl a, he =>
    have hm1 : MK S (done ++ (1, 0, -1) :: ([atM a.1 a.2] ++ todo)) := hm
    have hl1 : (done ++ (1, 0, -1) :: ([atM a.1 a.2] ++ todo)).length ≤ 10240 := hl
    have r1 := ck_skip (d := d + 3) (xm := xm) (ym := ym) hm1 hl1 hc.2.2.2.2.2.1 (Or.inl rfl)
    obtain ⟨S1, n, r2, c2, tp2, f2, g2⟩ := ck_atom (d := d + 1) (a := a) r1.1 (len_run (xm := xm) (ym := ym) hl1) hc (Or.inl he) ht (by omega)
    exact ⟨S1, n, 1, r1.app r2, c2, tp2, f2, Or.inr rfl, g2.H, by rw [g2.2.2.1 _ (by decide)]; exact hg⟩
  | .inr (a, cs0, h), ⟨ha, ho, ⟨c, cs, hcs⟩, hh⟩ =>
    obtain rfl : cs0 = c :: cs := hcs
    rcases hh with hh | ⟨hh, hy⟩
    · obtain rfl : h = none := hh
      have hm1 : MK S (done ++ (1, 0, -1) :: ((1, 0, -1) :: atM a.1 a.2 :: chM (c :: cs) ++ todo)) := hm
      have hl1 : (done ++ (1, 0, -1) :: ((1, 0, -1) :: atM a.1 a.2 :: chM (c :: cs) ++ todo)).length ≤ 10240 := hl
      have r1 := ck_skip (d := d + 3) (xm := xm) (ym := ym) hm1 hl1 hc.2.2.2.2.2.1 (Or.inl rfl)
      have hl2 := len_run (xm := xm) (ym := ym) hl1
      have r2 := ck_skip (d := d + 3) (xm := xm) (ym := ym) r1.1 hl2 hc.2.2.2.2.2.1 (Or.inl rfl)
      have hl3 := len_run (xm := xm) (ym := ym) hl2
      obtain ⟨S3, n, r3, c3, tp3, f3, g3⟩ := ck_atom (d := d + 1) (a := a) r2.1 hl3 hc ha ht (by omega)
      obtain ⟨S4, r4, c4, tp4, g4⟩ := ck_ch (d := d) r3.1 (len_run (xm := xm) (ym := ym) hl3) c3 ho (by omega) tp3 f3
      exact ⟨S4, 2, 0, r1.app (r2.app (r3.app r4)), c4, tp4, c4.2.2.2.2.1.1, Or.inl rfl, (g3.trans g4).H, by rw [(g3.trans g4).2.2.1 _ (by decide)]; exact hg⟩
    · obtain rfl : h = some (37, 52) := hh
      have hm1 : MK S (done ++ (1, 0, -1) :: ((2, 0, -1) :: atM a.1 a.2 :: (chM (c :: cs) ++ haT) ++ todo)) := hm
      have hl1 : (done ++ (1, 0, -1) :: ((2, 0, -1) :: atM a.1 a.2 :: (chM (c :: cs) ++ haT) ++ todo)).length ≤ 10240 := hl
      have r1 := ck_skip (d := d + 3) (xm := xm) (ym := ym) hm1 hl1 hc.2.2.2.2.2.1 (Or.inl rfl)
      have hl2 := len_run (xm := xm) (ym := ym) hl1
      have r2 := ck_skip (d := d + 3) (xm := xm) (ym := ym) r1.1 hl2 hc.2.2.2.2.2.1 (Or.inr rfl)
      have hl3 := len_run (xm := xm) (ym := ym) hl2
      obtain ⟨S3, n, r3, c3, tp3, f3, g3⟩ := ck_atom (d := d + 1) (a := a) r2.1 hl3 hc ha ht (by omega)
      have hl4 : (((done ++ [(1, 0, -1)].map (mkL xm ym) ++ [(2, 0, -1)].map (mkL xm ym)) ++ [atM a.1 a.2].map (mkL xm ym)) ++ (chM (c :: cs) ++ (haT ++ todo))).length ≤ 10240 := by
        rw [← List.append_assoc (chM (c :: cs))]; exact len_run (xm := xm) (ym := ym) hl3
      have hm4 : MK S3 (((done ++ [(1, 0, -1)].map (mkL xm ym) ++ [(2, 0, -1)].map (mkL xm ym)) ++ [atM a.1 a.2].map (mkL xm ym)) ++ (chM (c :: cs) ++ (haT ++ todo))) := by
        rw [← List.append_assoc (chM (c :: cs))]; exact r3.1
      obtain ⟨S4, r4, c4, tp4, g4⟩ := ck_ch (d := d) hm4 hl4 c3 ho (by omega) tp3 f3
      have hl5 : (((done ++ [(1, 0, -1)].map (mkL xm ym) ++ [(2, 0, -1)].map (mkL xm ym) ++ [atM a.1 a.2].map (mkL xm ym)) ++ (chM (c :: cs)).map (mkL xm ym)) ++ (haT ++ todo)).length ≤ 10240 := by
        simp only [List.length_append, List.length_map] at hl4 ⊢
        omega
      obtain ⟨S5, r5, c5, tp5, g5, x5⟩ := ck_ha (d := d) r4.1 hl5 c4 hy tp4 (by omega) (by rw [(g3.trans g4).2.2.1 _ (by decide)]; exact hg) hg2
      refine ⟨S5, 2, 0, r1.app (r2.app (CkRun.app (m2 := chM (c :: cs) ++ haT) ?_ (r4.app r5))), c5, tp5, c5.2.2.2.2.1.1, Or.inl rfl, (g3.trans g4).H.trans g5, x5⟩
      exact r3
