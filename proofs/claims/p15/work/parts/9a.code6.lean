/-! Coder: expressions, all of them. -/
/-- the marks of handle Div => y, linked -/
def haL (ym : Nat) : List Mk := [(31, 0, -1), (36, 0, -1), (40, 0, -1), (45, 37, 65542), (37, 0, -1), (1, 0, -1), (6, 52, nI ym), (38, 0, -1), (32, 0, -1)]
theorem haL_eq (xm ym : Nat) : haT.map (mkL xm ym) = haL ym := rfl
theorem ln1 {done todo : List Mk} {m : Mk} (h : (done ++ m :: todo).length ≤ 10240) : ((done ++ [m]) ++ todo).length ≤ 10240 := by rw [List.append_assoc]; exact h
theorem mk1 {S : xS} {done todo : List Mk} {m : Mk} (h : MK S (done ++ m :: todo)) : MK S ((done ++ [m]) ++ todo) := by rw [List.append_assoc]; exact h
/-- the orders behind an expression that may be handled -/
def haO (b e dep py : Nat) : List Or3 := [(19, 0, 0), (8, nI (b + e + 9), 0), (25, nI dep, 0), (29, 26, fxX (b + e + 8)), (3, nI py, 0), (11, 1, 0), (8, nI (b + e + 9), 0), (20, 0, 0)]
set_option maxHeartbeats 4000000 in
set_option maxRecDepth 100000 in
theorem cd_ha {d ym py : Nat} {S : xS} {A B : List Or3} {dep : Nat} {hl : List Int32} {done todo : List Mk} (hm : MK S (done ++ (haL ym ++ todo))) (hL : (done ++ (haL ym ++ todo)).length ≤ 10240) (h : CT S (A ++ (18, 0, 0) :: B) (dep + 4) (hl ++ [nI A.length])) (hn : A.length + B.length < 40000) (hh : hl.length < 20) (hy : WH S ym py) :
    ∃ S1, CdRun (d + 4) (haL ym) done S S1 ∧ CT S1 (A ++ (18, nI (A.length + B.length + 3), 0) :: (B ++ haO A.length B.length dep py)) (dep + 1) hl ∧ FrX S S1 := by
  have K : ∀ {ds ts : List Mk} {m : Mk}, (ds ++ m :: ts).length ≤ 10240 → ds.length < 10240 := fun h => by rw [List.length_append, List.length_cons] at h; omega
  have hN : (A ++ (18, 0, 0) :: B).length = A.length + B.length + 1 := by rw [List.length_append, List.length_cons]; omega
  -- handle
  have m1 : MK S (done ++ (31, 0, -1) :: ([(36, 0, -1), (40, 0, -1), (45, 37, 65542), (37, 0, -1), (1, 0, -1), (6, 52, nI ym), (38, 0, -1), (32, 0, -1)] ++ todo)) := hm
  have l1 : (done ++ (31, 0, -1) :: ([(36, 0, -1), (40, 0, -1), (45, 37, 65542), (37, 0, -1), (1, 0, -1), (6, 52, nI ym), (38, 0, -1), (32, 0, -1)] ++ todo)).length ≤ 10240 := hL
  obtain ⟨S1, p1, c1, f1⟩ := cs_handle (d := d) (k := done.length) h (by rw [hN]; omega) (by omega)
  rw [hN] at c1
  have r1 : CdRun (d + 4) [(31, 0, -1)] done S S1 := CdRun.one (fun r hr => cd_rules m1 l1 (Or.inl rfl) p1 hr)
  -- the rule begins
  have m2 : MK S1 ((done ++ [(31, 0, -1)]) ++ (36, 0, -1) :: ([(40, 0, -1), (45, 37, 65542), (37, 0, -1), (1, 0, -1), (6, 52, nI ym), (38, 0, -1), (32, 0, -1)] ++ todo)) := f1.1.MK (mk1 m1)
  have l2 := ln1 l1
  obtain ⟨S2, p2, c2, f2, b2⟩ := cs_rbegin (d := d + 1) (k := (done ++ [(31, 0, -1)]).length) c1 (by simp only [List.length_append, List.length_cons, List.length_nil]; omega)
  have r2 : CdRun (d + 4) [(36, 0, -1)] (done ++ [(31, 0, -1)]) S1 S2 := CdRun.one (fun r hr => cd_rules m2 l2 (Or.inr (Or.inl rfl)) p2 hr)
  have m3 := f2.MK (mk1 m2)
  have l3 := ln1 l2
  -- the pattern
  have r3 : CdRun (d + 4) [(40, 0, -1)] _ S2 S2 := CdRun.one (fun r hr => cd_pattern m3 l3 (Or.inl rfl) (cs_pskip (d := d + 2) (K l3)) hr)
  have m4 := mk1 m3
  have l4 := ln1 l3
  obtain ⟨S4, p4, c4, f4, b4⟩ := cs_pdiv (d := d) (K l4) c2 (by simp only [List.length_append, List.length_cons, List.length_nil]; omega) m4.at.2.2.1 b2
  have r4 : CdRun (d + 4) [(45, 37, 65542)] _ S2 S4 := CdRun.one (fun r hr => cd_pattern m4 l4 (Or.inr rfl) p4 hr)
  have m5 := f4.MK (mk1 m4)
  have l5 := ln1 l4
  obtain ⟨S5, p5, c5, f5⟩ := cs_gives (d := d) (k := _) c4 (by simp only [List.length_append, List.length_cons, List.length_nil]; omega) b4
  have r5 : CdRun (d + 4) [(37, 0, -1)] _ S4 S5 := CdRun.one (fun r hr => cd_rules m5 l5 (Or.inr (Or.inr (Or.inl rfl))) p5 hr)
  -- what is given
  have m6 := f5.1.MK (mk1 m5)
  have l6 := ln1 l5
  have r6 := cd_skip (d := d + 1) m6 l6
  have m7 := mk1 m6
  have l7 := ln1 l6
  have y5 : WH S5 ym py := ((hy.X f1.1).X f2).X f4 |>.X f5.1
  obtain ⟨S7, r7, c7, f7⟩ := cd_atom (d := d) (xm := ym) (px := py) (a := (25, 52)) m7 l7 c5 (by simp only [List.length_append, List.length_cons, List.length_nil]; omega) (Or.inr ⟨rfl, Or.inr rfl⟩) y5 y5
  have m8 := f7.1.MK (mk1 m7)
  have l8 := ln1 l7
  -- the rule ends
  have e7 : A ++ (18, nI (A.length + B.length + 1 + 2), 0) :: (B ++ [(19, 0, 0), (8, -1, 0)]) ++ [(25, nI dep, 0)] ++ [(29, 26, -256)] ++ [atO py py (25, 52)] = (A ++ (18, nI (A.length + B.length + 3), 0) :: (B ++ [(19, 0, 0), (8, -1, 0), (25, nI dep, 0)])) ++ (29, 26, -256) :: [(3, nI py, 0)] := by
    simp only [List.append_assoc, List.cons_append, List.nil_append]; rfl
  have e7b : (A ++ (18, nI (A.length + B.length + 1 + 2), 0) :: (B ++ [(19, 0, 0), (8, -1, 0)]) ++ [(25, nI dep, 0)]).length = (A ++ (18, nI (A.length + B.length + 3), 0) :: (B ++ [(19, 0, 0), (8, -1, 0), (25, nI dep, 0)])).length := by
    simp only [List.length_append, List.length_cons, List.length_nil]; omega
  rw [e7, e7b] at c7
  have hN8 : ((A ++ (18, nI (A.length + B.length + 3), 0) :: (B ++ [(19, 0, 0), (8, -1, 0), (25, nI dep, 0)])) ++ (29, 26, -256) :: [(3, nI py, 0)]).length = A.length + B.length + 6 := by
    simp only [List.length_append, List.length_cons, List.length_nil]; omega
  obtain ⟨S8, p8, c8, f8⟩ := cs_rend (d := d) (k := _) c7 (by rw [hN8]; omega)
  rw [hN8] at c8
  have r8 : CdRun (d + 4) [(38, 0, -1)] _ S7 S8 := CdRun.one (fun r hr => cd_rules m8 l8 (Or.inr (Or.inr (Or.inr (Or.inl rfl)))) p8 hr)
  have m9 := f8.1.MK (mk1 m8)
  have l9 := ln1 l8
  -- the match ends
  have hP : (A ++ (18, nI (A.length + B.length + 3), 0) :: (B ++ [(19, 0, 0)])).length = A.length + B.length + 1 + 1 := by
    simp only [List.length_append, List.length_cons, List.length_nil]; omega
  have e8 : (A ++ (18, nI (A.length + B.length + 3), 0) :: (B ++ [(19, 0, 0), (8, -1, 0), (25, nI dep, 0)])) ++ (29, 26, fxX (A.length + B.length + 6 + 2)) :: ([(3, nI py, 0)] ++ [(11, 1, 0), (8, nI (A.length + B.length + 1 + 1), 0)]) = (A ++ (18, nI (A.length + B.length + 3), 0) :: (B ++ [(19, 0, 0)])) ++ (8, -1, 0) :: ([(25, nI dep, 0), (29, 26, fxX (A.length + B.length + 8)), (3, nI py, 0), (11, 1, 0)] ++ (8, nI (A ++ (18, nI (A.length + B.length + 3), 0) :: (B ++ [(19, 0, 0)])).length, 0) :: []) := by
    rw [hP]
    simp only [List.append_assoc, List.cons_append, List.nil_append]
  have hQ : ((A ++ (18, nI (A.length + B.length + 3), 0) :: (B ++ [(19, 0, 0)])) ++ (8, -1, 0) :: [(25, nI dep, 0), (29, 26, fxX (A.length + B.length + 8)), (3, nI py, 0), (11, 1, 0)]).length = A.length + B.length + 6 + 1 := by
    simp only [List.length_append, List.length_cons, List.length_nil]; omega
  rw [e8, ← hQ] at c8
  obtain ⟨S9, p9, c9, f9⟩ := cs_hend (d := d) (k := _) (L := A.length + B.length + 9) (by simp only [List.length_append, List.length_cons, List.length_nil]; omega) c8 (by omega)
  have r9 : CdRun (d + 4) [(32, 0, -1)] _ S8 S9 := CdRun.one (fun r hr => cd_rules m9 l9 (Or.inr (Or.inr (Or.inr (Or.inr (Or.inl rfl))))) p9 hr)
  refine ⟨S9, r1.app (r2.app (r3.app (r4.app (r5.app (r6.app (r7.app (r8.app r9))))))), ?_, f1.1.trans (f2.trans (f4.trans (f5.1.trans (f7.1.trans (f8.1.trans f9.1)))))⟩
  have e9 : A ++ (18, nI (A.length + B.length + 3), 0) :: (B ++ haO A.length B.length dep py) = (A ++ (18, nI (A.length + B.length + 3), 0) :: (B ++ [(19, 0, 0)])) ++ (8, nI (A.length + B.length + 9), 0) :: ([(25, nI dep, 0), (29, 26, fxX (A.length + B.length + 8)), (3, nI py, 0), (11, 1, 0)] ++ (8, nI (A.length + B.length + 9), 0) :: ([] ++ [(20, 0, 0)])) := by
    unfold haO
    simp only [List.append_assoc, List.cons_append, List.nil_append]
  rw [e9]; exact c9
