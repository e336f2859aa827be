/-! Machine: a program runs (how 0). -/
theorem gr_end {d n tr : Nat} {a b v : Int32} {S : xS} {ws : List Int32} {os A B : List Or3} (ho : os = A ++ (23, 0, 0) :: B) (hM : MC S A.length (ws ++ [v]) tr) (hc : CO S os) (hn : os.length < 60000) (hk : n < 100000) : ∃ S1, GoRun (d + 4) n 1 a b S S1 ∧ DN S1 0 v ∧ FrU S S1 := by
  have hat : os[A.length]? = some (23, 0, 0) := by rw [ho]; exact os_at
  have m1 := hM.next (nx' := A.length + 1)
  have p1 := m_end (d := d + 1) m1
  exact ⟨_, fun r hr => go_trouble hM hc hat hn hk (Or.inr (Or.inr (Or.inr rfl))) p1 m1.2.2.2.2.1.2.1 hr, ⟨rfl, rfl, hM.2.2.2.2.1.2.2.1, hM.2.2.2.2.1.2.2.2.1, hM.2.2.2.2.1.2.2.2.2⟩, FrU_7.trans (FrU_7.trans FrU_7)⟩
def wd (v : Int) : Int32 := Int32.ofInt v * 2 + 1
set_option maxHeartbeats 4000000 in
set_option maxRecDepth 100000 in
theorem gr_prog {d : Nat} {a b : Int32} {S : xS} {v0 v1 : Int} {ls : List Ln} (hl : ls.length ≤ 60) (hM : MC S 0 [] 0) (hc : CO S (prO v0 v1 ls)) :
    (∀ u, evL (wd v0) (wd v1) (ls.map lnD) = some u → ∃ S1 m, m ≤ 5000 ∧ GoRun (d + 4) 0 m a b S S1 ∧ DN S1 0 u.1 ∧ FrU S S1) ∧ (evL (wd v0) (wd v1) (ls.map lnD) = none → ∃ S1 m, m ≤ 5000 ∧ GoRun (d + 4) 0 m a b S S1 ∧ DN S1 1 26 ∧ FrU S S1) := by
  generalize hos : prO v0 v1 ls = os at *
  have hn : os.length < 20000 := by
    rw [← hos]
    unfold prO
    have h1 := lnsO_le ls 1 3 8 4
    have q0 : (lnO 0 0 0 0 (.inl (27, Int32.ofInt v0))).length = 4 := rfl
    have q1 : (lnO 0 0 4 2 (.inl (27, Int32.ofInt v1))).length = 4 := rfl
    simp only [List.length_append, List.length_cons, List.length_nil, q0, q1]
    omega
  have ho0 : os = [] ++ (lnO 0 0 ([] : List Or3).length ([] : List Int32).length (.inl (27, Int32.ofInt v0)) ++ (lnO 0 0 4 2 (.inl (27, Int32.ofInt v1)) ++ (lnsO 1 3 8 4 (ls.map lnD) ++ [(3, nI (endP 1 3 4 (ls.map lnD)).1, 0), (23, 0, 0)]))) := by
    rw [← hos]
    unfold prO
    rw [List.nil_append, List.append_assoc, List.append_assoc]
    rfl
  obtain ⟨g0, -⟩ := gr_line (d := d) (n := 0) (px := 0) (py := 0) (a := a) (b := b) (wx := 0) (wy := 0) (ws := []) (A := []) (show os.length < 50000 by omega) (by decide) (show ExP [] 0 0 0 0 (.inl (27, Int32.ofInt v0)) from rfl) ho0 hM hc (by decide)
  obtain ⟨S1, m1, hm1, r1, M1, f1⟩ := g0 (wd v0) rfl
  have hc1 := f1.CO hc
  have M1' : MC S1 (lnO 0 0 0 0 (.inl (27, Int32.ofInt v0))).length [wd v0, wd v0] 0 := M1
  have ho1 : os = lnO 0 0 0 0 (.inl (27, Int32.ofInt v0)) ++ (lnO 0 0 (lnO 0 0 0 0 (.inl (27, Int32.ofInt v0))).length [wd v0, wd v0].length (.inl (27, Int32.ofInt v1)) ++ (lnsO 1 3 8 4 (ls.map lnD) ++ [(3, nI (endP 1 3 4 (ls.map lnD)).1, 0), (23, 0, 0)])) := ho0
  obtain ⟨g1, -⟩ := gr_line (d := d) (n := 0 + m1) (px := 0) (py := 0) (a := a) (b := b) (wx := 0) (wy := 0) (ws := [wd v0, wd v0]) (show os.length < 50000 by omega) (by show 2 < 900; decide) (show ExP _ 0 0 0 0 (.inl (27, Int32.ofInt v1)) from rfl) ho1 M1' hc1 (by omega)
  obtain ⟨S2, m2, hm2, r2, M2, f2⟩ := g1 (wd v1) rfl
  have hc2 := f2.CO hc1
  have M2' : MC S2 (lnO 0 0 0 0 (.inl (27, Int32.ofInt v0)) ++ lnO 0 0 4 2 (.inl (27, Int32.ofInt v1))).length [wd v0, wd v0, wd v1, wd v1] 0 := M2
  have ho2 : os = (lnO 0 0 0 0 (.inl (27, Int32.ofInt v0)) ++ lnO 0 0 4 2 (.inl (27, Int32.ofInt v1))) ++ (lnsO 1 3 (lnO 0 0 0 0 (.inl (27, Int32.ofInt v0)) ++ lnO 0 0 4 2 (.inl (27, Int32.ofInt v1))).length [wd v0, wd v0, wd v1, wd v1].length (ls.map lnD) ++ [(3, nI (endP 1 3 4 (ls.map lnD)).1, 0), (23, 0, 0)]) := by
    rw [List.append_assoc]; exact ho1
  obtain ⟨g2, g3⟩ := gr_lines (d := d) (a := a) (b := b) (show os.length < 50000 by omega) ls S2 [wd v0, wd v0, wd v1, wd v1] (0 + m1 + m2) 1 3 (wd v0) (wd v1) _ _ (by show 4 + 2 * ls.length < 900; omega) rfl rfl ho2 M2' hc2 (by omega)
  refine ⟨fun u hu => ?_, fun hu => ?_⟩
  · obtain ⟨S3, m3, ws3, hm3, r3, M3, x3, l3, f3⟩ := g2 u hu
    have hc3 := f3.CO hc2
    generalize hA : lnO 0 0 0 0 (.inl (27, Int32.ofInt v0)) ++ lnO 0 0 4 2 (.inl (27, Int32.ofInt v1)) = A at *
    have hAl : A.length = 8 := by rw [← hA]; rfl
    have hwl : [wd v0, wd v0, wd v1, wd v1].length = 4 := rfl
    rw [hAl, hwl] at M3
    rw [hAl, hwl] at ho2
    rw [hwl] at x3 l3
    have l4 : (A ++ lnsO 1 3 8 4 (ls.map lnD)).length = 8 + (lnsO 1 3 8 4 (ls.map lnD)).length := by rw [List.length_append, hAl]
    have ho3 : os = (A ++ lnsO 1 3 8 4 (ls.map lnD)) ++ (3, nI (endP 1 3 4 (ls.map lnD)).1, 0) :: [(23, 0, 0)] := by rw [List.append_assoc]; exact ho2
    rw [← l4] at M3
    have hat : os[(A ++ lnsO 1 3 8 4 (ls.map lnD)).length]? = some (3, nI (endP 1 3 4 (ls.map lnD)).1, 0) := by rw [ho3]; exact os_at
    obtain ⟨S4, p4, M4, f4⟩ := m_local (d := d + 1) (M3.next (nx' := (A ++ lnsO 1 3 8 4 (ls.map lnD)).length + 1)) (by omega) x3
    have r4 : GoRun (d + 4) (0 + m1 + m2 + m3) 1 a b S3 S4 := fun r hr => go_simple M3 hc3 hat (by omega) (by omega) (Or.inr (Or.inl rfl)) p4 M4.2.2.2.2.1.2.1 hr
    have f4' : FrU S3 S4 := FrU_7.trans f4.U
    have ho4 : os = ((A ++ lnsO 1 3 8 4 (ls.map lnD)) ++ [(3, nI (endP 1 3 4 (ls.map lnD)).1, 0)]) ++ (23, 0, 0) :: [] := by rw [List.append_assoc (A ++ _)]; exact ho3
    have l5 : ((A ++ lnsO 1 3 8 4 (ls.map lnD)) ++ [((3 : Int32), nI (endP 1 3 4 (ls.map lnD)).1, (0 : Int32))]).length = (A ++ lnsO 1 3 8 4 (ls.map lnD)).length + 1 := by rw [List.length_append]; rfl
    rw [← l5] at M4
    obtain ⟨S5, r5, q5, f5⟩ := gr_end (d := d) (n := 0 + m1 + m2 + m3 + 1) (a := a) (b := b) ho4 M4 (f4'.CO hc3) (by omega) (by omega)
    exact ⟨S5, m1 + (m2 + (m3 + (1 + 1))), by omega, r1.trans (r2.trans (r3.trans (r4.trans r5))), q5, f1.trans (f2.trans (f3.trans (f4'.trans f5)))⟩
  · obtain ⟨S3, m3, hm3, r3, q3, f3⟩ := g3 hu
    exact ⟨S3, m1 + (m2 + m3), by omega, r1.trans (r2.trans r3), q3, f1.trans (f2.trans f3)⟩
