/-! Machine: a line. -/
theorem gr_num {d n tr : Nat} {a b v : Int32} {S : xS} {ws : List Int32} {os A B : List Or3} (ho : os = A ++ (1, v, 0) :: B) (hM : MC S A.length ws tr) (hc : CO S os) (hn : os.length < 60000) (hk : n < 100000) (hw : ws.length < 1000) : ∃ S1, GoRun (d + 4) n 1 a b S S1 ∧ MC S1 (A.length + 1) (ws ++ [v]) tr ∧ FrU S S1 := by
  have hat : os[A.length]? = some (1, v, 0) := by rw [ho]; exact os_at
  obtain ⟨S1, p1, c1, f1⟩ := m_const (d := d + 1) (hM.next (nx' := A.length + 1)) hw v
  exact ⟨S1, fun r hr => go_simple hM hc hat hn hk (Or.inl rfl) p1 c1.2.2.2.2.1.2.1 hr, c1, FrU_7.trans f1.U⟩
/-- an expression, and where x and y are on the pile -/
def ExP (ws : List Int32) (px py : Nat) (wx wy : Int32) : Ex → Prop
  | .inl a => a.1 = 27
  | .inr b => (ws[px]? = some wx ∧ ws[py]? = some wy) ∧ OaV b.2.1 ∧ (∃ c cs, b.2.1 = c :: cs) ∧ b.2.1.length ≤ 3
theorem gr_ex {d n px py : Nat} {a b wx wy : Int32} {S : xS} {ws : List Int32} {os A B : List Or3} {e : Ex} (hn : os.length < 50000) (hw : ws.length < 900) (he : ExP ws px py wx wy e) (ho : os = A ++ (exO px py A.length ws.length e ++ B)) (hM : MC S A.length ws 0) (hc : CO S os) (hk : n + 100 < 100000) :
    (∀ u, exW wx wy e = some u → ∃ S1 m, m ≤ 30 ∧ GoRun (d + 4) n m a b S S1 ∧ MC S1 (A.length + (exO px py A.length ws.length e).length) (ws ++ [u]) 0 ∧ FrU S S1) ∧ (exW wx wy e = none → ∃ S1 m, m ≤ 30 ∧ GoRun (d + 4) n m a b S S1 ∧ DN S1 1 26 ∧ FrU S S1) := by
  match e, he with
  | .inl (k, v), he =>
    obtain rfl : k = 27 := he
    refine ⟨fun u hu => ?_, fun hu => (by cases hu)⟩
    obtain rfl : v * 2 + 1 = u := Option.some.inj hu
    have ho1 : os = A ++ (1, v * 2 + 1, 0) :: B := ho
    obtain ⟨S1, r1, m1, f1⟩ := gr_num (d := d) (n := n) (a := a) (b := b) ho1 hM hc (by omega) (by omega) (by omega)
    exact ⟨S1, 1, by decide, r1, m1, f1⟩
  | .inr (q, cs0, h), ⟨⟨hx, hy⟩, hv, ⟨c, cs, hcs⟩, h3⟩ =>
    obtain rfl : cs0 = c :: cs := hcs
    have h3' : cs.length + 1 ≤ 3 := h3
    cases h with
    | none =>
      have ho1 : os = A ++ (exE px py q (c :: cs) ++ B) := ho
      obtain ⟨g1, g2⟩ := gr_exE (a := a) (b := b) (n := n) (Rz_0 (d := d) (ws := ws)) (by omega) (by omega) hx hy ho1 hM hc (by omega) hv
      refine ⟨fun u hu => ?_, fun hu => ?_⟩
      · obtain ⟨S1, r1, m1, f1⟩ := g1 u hu
        refine ⟨S1, _, by omega, r1, ?_, f1⟩
        rw [← exE_len (px := px) (py := py) (q := q) (c := c)] at m1
        exact m1
      · obtain ⟨S1, m, hm, r1, q1, f1⟩ := g2 hu
        exact ⟨S1, m, by omega, r1, q1, f1⟩
    | some hh =>
      have ho1 : os = A ++ ((18, nI (A.length + (exE px py q (c :: cs)).length + 3), 0) :: (exE px py q (c :: cs) ++ (haO A.length (exE px py q (c :: cs)).length ws.length py ++ B))) := by
        rw [ho]
        unfold exO
        rw [List.cons_append, List.append_assoc]
      refine ⟨fun u hu => ?_, fun hu => (by cases hu)⟩
      obtain ⟨S1, m, hm, r1, m1, f1⟩ := gr_han (d := d) (n := n) (a := a) (b := b) hn hw hx hy ho1 hM hc (by omega) hv
      have hu' : (evC wx wy (atW wx wy q) (c :: cs)).getD wy = u := Option.some.inj hu
      rw [hu'] at m1
      refine ⟨S1, m, by omega, r1, ?_, f1⟩
      have e9 : (exO px py A.length ws.length (.inr (q, c :: cs, some hh))).length = (exE px py q (c :: cs)).length + 9 := by
        unfold exO haO
        simp only [List.length_append, List.length_cons, List.length_nil]
      rw [e9, ← Nat.add_assoc]
      exact m1
theorem gr_line {d n px py : Nat} {a b wx wy : Int32} {S : xS} {ws : List Int32} {os A B : List Or3} {e : Ex} (hn : os.length < 50000) (hw : ws.length < 900) (he : ExP ws px py wx wy e) (ho : os = A ++ (lnO px py A.length ws.length e ++ B)) (hM : MC S A.length ws 0) (hc : CO S os) (hk : n + 200 < 100000) :
    (∀ u, exW wx wy e = some u → ∃ S1 m, m ≤ 40 ∧ GoRun (d + 4) n m a b S S1 ∧ MC S1 (A.length + (lnO px py A.length ws.length e).length) ((ws ++ [u]) ++ [u]) 0 ∧ FrU S S1) ∧ (exW wx wy e = none → ∃ S1 m, m ≤ 40 ∧ GoRun (d + 4) n m a b S S1 ∧ DN S1 1 26 ∧ FrU S S1) := by
  have ho1 : os = A ++ (exO px py A.length ws.length e ++ ([(25, nI ws.length, 0), (30, 0, 0), (31, 1, 0)] ++ B)) := by
    rw [ho]; unfold lnO; rw [List.append_assoc (exO px py A.length ws.length e)]
  obtain ⟨g1, g2⟩ := gr_ex (d := d) (n := n) (a := a) (b := b) hn hw he ho1 hM hc (by omega)
  refine ⟨fun u hu => ?_, fun hu => ?_⟩
  · obtain ⟨S1, m, hm, r1, m1, f1⟩ := g1 u hu
    have hc1 := f1.CO hc
    generalize hE : exO px py A.length ws.length e = E at *
    have l1 : (A ++ E).length = A.length + E.length := List.length_append
    have ho2 : os = (A ++ E) ++ (25, nI ws.length, 0) :: ((30, 0, 0) :: ((31, 1, 0) :: B)) := by rw [List.append_assoc]; exact ho1
    have he : (ws ++ [u])[ws.length]? = some u := by rw [List.getElem?_append_right (Nat.le_refl _), Nat.sub_self]; rfl
    rw [← l1] at m1
    obtain ⟨S2, r2, m2, f2, h16⟩ := gr_match (d := d) (n := n + m) (a := a) (b := b) ho2 m1 hc1 (by omega) (by omega) he
    have hc2 := f2.CO hc1
    have l2 : ((A ++ E) ++ [((25 : Int32), nI ws.length, (0 : Int32))]).length = (A ++ E).length + 1 := by rw [List.length_append]; rfl
    have ho3 : os = ((A ++ E) ++ [(25, nI ws.length, 0)]) ++ (30, 0, 0) :: ((31, 1, 0) :: B) := by rw [List.append_assoc (A ++ E)]; exact ho2
    rw [← l2] at m2
    obtain ⟨S3, r3, m3, f3, h144⟩ := gr_keep (d := d) (n := n + m + 1) (a := a) (b := b) ho3 m2 hc2 (by omega) (by omega) h16
    have hc3 := f3.CO hc2
    have l3 : (((A ++ E) ++ [((25 : Int32), nI ws.length, (0 : Int32))]) ++ [(30, 0, 0)]).length = (A ++ E).length + 1 + 1 := by rw [List.length_append, l2]; rfl
    have ho4 : os = (((A ++ E) ++ [(25, nI ws.length, 0)]) ++ [(30, 0, 0)]) ++ (31, 1, 0) :: B := by rw [List.append_assoc ((A ++ E) ++ _)]; exact ho3
    rw [l2, ← l3] at m3
    obtain ⟨S4, r4, m4, f4⟩ := gr_bind (d := d) (n := n + m + 1 + 1) (a := a) (b := b) ho4 m3 hc3 (by omega) (by omega) (by rw [List.length_append, List.length_singleton]; omega) h144
    refine ⟨S4, m + (1 + (1 + 1)), by omega, r1.trans (r2.trans (r3.trans r4)), ?_, f1.trans (f2.trans (f3.trans f4))⟩
    rw [l3, l1] at m4
    have e9 : (lnO px py A.length ws.length e).length = E.length + 3 := by unfold lnO; rw [hE, List.length_append]; rfl
    rw [e9]
    exact m4
  · obtain ⟨S1, m, hm, r1, q1, f1⟩ := g2 hu
    exact ⟨S1, m, by omega, r1, q1, f1⟩
