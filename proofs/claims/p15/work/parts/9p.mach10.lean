/-! Machine: lines, a program. -/
/-- x and y behind some lines, none where Div is raised -/
def evL (wx wy : Int32) : List De → Option (Int32 × Int32)
  | [] => some (wx, wy)
  | c :: cs => match exW wx wy c.2 with
    | none => none
    | some u => evL (if c.1 = 51 then u else wx) (if c.1 = 51 then wy else u) cs
theorem lnD_P {ws : List Int32} {px py : Nat} {wx wy : Int32} (hx : ws[px]? = some wx) (hy : ws[py]? = some wy) (l : Ln) : ExP ws px py wx wy (lnD l).2 := by
  obtain ⟨a, k, o, b⟩ := l
  obtain ⟨h1, h2, h3⟩ := opO_v k (laI_v o)
  exact ⟨⟨hx, hy⟩, h1, h2, h3⟩
set_option maxHeartbeats 4000000 in
set_option maxRecDepth 100000 in
theorem gr_lines {d : Nat} {a b : Int32} {os : List Or3} (hn : os.length < 50000) : ∀ (ls : List Ln) (S : xS) (ws : List Int32) (n px py : Nat) (wx wy : Int32) (A B : List Or3), ws.length + 2 * ls.length < 900 → ws[px]? = some wx → ws[py]? = some wy → os = A ++ (lnsO px py A.length ws.length (ls.map lnD) ++ B) → MC S A.length ws 0 → CO S os → n + 40 * ls.length + 200 < 100000 →
    (∀ u, evL wx wy (ls.map lnD) = some u → ∃ S1 m ws1, m ≤ 40 * ls.length ∧ GoRun (d + 4) n m a b S S1 ∧ MC S1 (A.length + (lnsO px py A.length ws.length (ls.map lnD)).length) ws1 0 ∧ ws1[(endP px py ws.length (ls.map lnD)).1]? = some u.1 ∧ ws1.length = ws.length + 2 * ls.length ∧ FrU S S1) ∧ (evL wx wy (ls.map lnD) = none → ∃ S1 m, m ≤ 40 * ls.length ∧ GoRun (d + 4) n m a b S S1 ∧ DN S1 1 26 ∧ FrU S S1)
  | [], S, ws, n, px, py, wx, wy, A, B, _, hx, hy, ho, hM, hc, hk => by
    refine ⟨fun u hu => ?_, fun hu => (by cases hu)⟩
    obtain rfl : (wx, wy) = u := Option.some.inj hu
    exact ⟨S, 0, ws, Nat.le_refl _, GoRun.zero, hM, hx, rfl, ⟨rfl, fun _ _ _ => rfl, fun _ _ _ => rfl⟩⟩
  | l :: ls, S, ws, n, px, py, wx, wy, A, B, hw, hx, hy, ho, hM, hc, hk => by
    rw [List.length_cons] at hw hk
    have e1 : lnsO px py A.length ws.length ((l :: ls).map lnD) = lnO px py A.length ws.length (lnD l).2 ++ lnsO (if (lnD l).1 = 51 then ws.length + 1 else px) (if (lnD l).1 = 51 then py else ws.length + 1) (A.length + (lnO px py A.length ws.length (lnD l).2).length) (ws.length + 2) (ls.map lnD) := rfl
    have e2 : evL wx wy ((l :: ls).map lnD) = match exW wx wy (lnD l).2 with
      | none => none
      | some u => evL (if (lnD l).1 = 51 then u else wx) (if (lnD l).1 = 51 then wy else u) (ls.map lnD) := rfl
    have e3 : endP px py ws.length ((l :: ls).map lnD) = endP (if (lnD l).1 = 51 then ws.length + 1 else px) (if (lnD l).1 = 51 then py else ws.length + 1) (ws.length + 2) (ls.map lnD) := rfl
    rw [e1, List.append_assoc] at ho
    rw [e1, e2, e3]
    obtain ⟨g1, g2⟩ := gr_line (d := d) (n := n) (a := a) (b := b) hn (by omega) (lnD_P hx hy l) ho hM hc (by omega)
    cases hu : exW wx wy (lnD l).2 with
    | none =>
      refine ⟨fun u hu2 => (by cases hu2), fun _ => ?_⟩
      obtain ⟨S1, m, hm, r1, q1, f1⟩ := g2 hu
      exact ⟨S1, m, by rw [List.length_cons]; omega, r1, q1, f1⟩
    | some u0 =>
      obtain ⟨S1, m, hm, r1, m1, f1⟩ := g1 u0 hu
      have hc1 := f1.CO hc
      have l1 : (A ++ lnO px py A.length ws.length (lnD l).2).length = A.length + (lnO px py A.length ws.length (lnD l).2).length := List.length_append
      have lw : ((ws ++ [u0]) ++ [u0]).length = ws.length + 2 := by rw [List.length_append, List.length_append]; rfl
      have nw : ((ws ++ [u0]) ++ [u0])[ws.length + 1]? = some u0 := by rw [List.getElem?_append_right (by rw [List.length_append, List.length_singleton]; omega), List.length_append, List.length_singleton, Nat.sub_self]; rfl
      have ap : ∀ {p : Nat} {w : Int32}, ws[p]? = some w → ((ws ++ [u0]) ++ [u0])[p]? = some w := fun {p w} h => by rw [List.append_assoc, List.getElem?_append_left (List.getElem?_eq_some_iff.mp h).1]; exact h
      have hx1 : ((ws ++ [u0]) ++ [u0])[if (lnD l).1 = 51 then ws.length + 1 else px]? = some (if (lnD l).1 = 51 then u0 else wx) := by
        by_cases q : (lnD l).1 = 51
        · rw [if_pos q, if_pos q]; exact nw
        · rw [if_neg q, if_neg q]; exact ap hx
      have hy1 : ((ws ++ [u0]) ++ [u0])[if (lnD l).1 = 51 then py else ws.length + 1]? = some (if (lnD l).1 = 51 then wy else u0) := by
        by_cases q : (lnD l).1 = 51
        · rw [if_pos q, if_pos q]; exact ap hy
        · rw [if_neg q, if_neg q]; exact nw
      have ho1 : os = (A ++ lnO px py A.length ws.length (lnD l).2) ++ (lnsO (if (lnD l).1 = 51 then ws.length + 1 else px) (if (lnD l).1 = 51 then py else ws.length + 1) (A ++ lnO px py A.length ws.length (lnD l).2).length ((ws ++ [u0]) ++ [u0]).length (ls.map lnD) ++ B) := by
        rw [l1, lw, List.append_assoc]; exact ho
      rw [← l1] at m1
      obtain ⟨k1, k2⟩ := gr_lines hn ls S1 ((ws ++ [u0]) ++ [u0]) (n + m) _ _ _ _ (A ++ lnO px py A.length ws.length (lnD l).2) B (by rw [lw]; omega) hx1 hy1 ho1 m1 hc1 (by omega)
      rw [l1, lw] at k1
      refine ⟨fun u hu2 => ?_, fun hu2 => ?_⟩
      · obtain ⟨S2, m2, ws2, hm2, r2, n2, x2, y2, f2⟩ := k1 u hu2
        refine ⟨S2, m + m2, ws2, by rw [List.length_cons]; omega, r1.trans r2, ?_, x2, by rw [y2, List.length_cons]; omega, f1.trans f2⟩
        rw [List.length_append, ← Nat.add_assoc]
        exact n2
      · obtain ⟨S2, m2, hm2, r2, q2, f2⟩ := k2 hu2
        exact ⟨S2, m + m2, by rw [List.length_cons]; omega, r1.trans r2, q2, f1.trans f2⟩
