/-! Machine: an expression, handled or not. -/
def exW (wx wy : Int32) : Ex → Option Int32
  | .inl a => some (atW wx wy a)
  | .inr (a, cs, none) => evC wx wy (atW wx wy a) cs
  | .inr (a, cs, some _) => some ((evC wx wy (atW wx wy a) cs).getD wy)
/-- what an expression may be -/
def ExS : Ex → Prop
  | .inl a => a.1 = 27
  | .inr b => atV b.1 ∧ OaV b.2.1 ∧ (∃ c cs, b.2.1 = c :: cs) ∧ b.2.1.length ≤ 3
theorem exE_len {px py : Nat} {q : Int32 × Int32} {c : Oa} {cs : List Oa} : (exE px py q (c :: cs)).length = 2 * cs.length + 3 := by show (chO px py (c :: cs)).length + 1 = _; rw [chO_len, List.length_cons]; omega
set_option maxHeartbeats 4000000 in
set_option maxRecDepth 100000 in
theorem gr_han {d px py : Nat} {a b wx wy : Int32} {ws : List Int32} {os A B : List Or3} {n : Nat} {S : xS} {q : Int32 × Int32} {c : Oa} {cs : List Oa} (hn : os.length < 50000) (hw : ws.length < 900) (hx : ws[px]? = some wx) (hy : ws[py]? = some wy) (ho : os = A ++ ((18, nI (A.length + (exE px py q (c :: cs)).length + 3), 0) :: (exE px py q (c :: cs) ++ (haO A.length (exE px py q (c :: cs)).length ws.length py ++ B)))) (hM : MC S A.length ws 0) (hc : CO S os) (hk : n + 2 * cs.length + 20 < 100000) (hv : OaV (c :: cs)) :
    ∃ S1 m, m ≤ 2 * cs.length + 12 ∧ GoRun (d + 4) n m a b S S1 ∧ MC S1 (A.length + (exE px py q (c :: cs)).length + 9) (ws ++ [(evC wx wy (atW wx wy q) (c :: cs)).getD wy]) 0 ∧ FrU S S1 := by
  generalize hE : exE px py q (c :: cs) = E at *
  have hEl : E.length = 2 * cs.length + 3 := by rw [← hE]; exact exE_len
  have hAl : A.length + E.length + 9 ≤ os.length := by
    have := congrArg List.length ho
    unfold haO at this
    simp only [List.length_append, List.length_cons, List.length_nil] at this
    omega
  obtain ⟨S1, r1, m1, f1⟩ := gr_try (d := d) (n := n) (a := a) (b := b) ho hM hc (by omega) (by omega) (by omega)
  have l1 : (A ++ [((18 : Int32), nI (A.length + E.length + 3), (0 : Int32))]).length = A.length + 1 := by rw [List.length_append]; rfl
  have ho1 : os = (A ++ [(18, nI (A.length + E.length + 3), 0)]) ++ (E ++ (haO A.length E.length ws.length py ++ B)) := by rw [List.append_assoc]; exact ho
  have ap : ∀ {p : Nat} {w : Int32} {vs us : List Int32}, us[p]? = some w → (us ++ vs)[p]? = some w := fun {p w vs us} h => by rw [List.getElem?_append_left (List.getElem?_eq_some_iff.mp h).1]; exact h
  rw [← l1] at m1
  have ho1' : os = (A ++ [(18, nI (A.length + E.length + 3), 0)]) ++ (exE px py q (c :: cs) ++ (haO A.length E.length ws.length py ++ B)) := by rw [hE]; exact ho1
  obtain ⟨g1, g2⟩ := gr_exE (a := a) (b := b) (n := n + 1) (Rz_h (d := d) (lab := A.length + E.length + 3) (ws := ws) (by omega)) (by omega) (by simp only [List.length_append, List.length_cons, List.length_nil]; omega) (ap (ap (ap hx))) (ap (ap (ap hy))) ho1' m1 (f1.CO hc) (by omega) hv
  have hc1 := f1.CO hc
  unfold haO at ho1
  cases hu : evC wx wy (atW wx wy q) (c :: cs) with
  | some u =>
    obtain ⟨S2, r2, m2, f2⟩ := g1 u hu
    have hc2 := f2.CO hc1
    have ho2 : os = ((A ++ [(18, nI (A.length + E.length + 3), 0)]) ++ E) ++ (19, 0, 0) :: ((8, nI (A.length + E.length + 9), 0) :: ([(25, nI ws.length, 0), (29, 26, fxX (A.length + E.length + 8)), (3, nI py, 0), (11, 1, 0), (8, nI (A.length + E.length + 9), 0), (20, 0, 0)] ++ B)) := by rw [List.append_assoc (A ++ _)]; exact ho1
    have l2 : ((A ++ [((18 : Int32), nI (A.length + E.length + 3), (0 : Int32))]) ++ E).length = A.length + 1 + (2 * cs.length + 3) := by rw [List.length_append, l1, hEl]
    rw [l1, ← l2] at m2
    obtain ⟨S3, r3, m3, f3⟩ := gr_tried (d := d) (n := n + 1 + (2 * cs.length + 3)) (a := a) (b := b) ho2 m2 hc2 (by omega) (by omega) (by decide)
    have hc3 := f3.CO hc2
    have l3 : (((A ++ [((18 : Int32), nI (A.length + E.length + 3), (0 : Int32))]) ++ E) ++ [(19, 0, 0)]).length = A.length + 1 + (2 * cs.length + 3) + 1 := by rw [List.length_append, l2]; rfl
    have ho3 : os = (((A ++ [(18, nI (A.length + E.length + 3), 0)]) ++ E) ++ [(19, 0, 0)]) ++ (8, nI (A.length + E.length + 9), 0) :: ([(25, nI ws.length, 0), (29, 26, fxX (A.length + E.length + 8)), (3, nI py, 0), (11, 1, 0), (8, nI (A.length + E.length + 9), 0), (20, 0, 0)] ++ B) := by rw [List.append_assoc ((A ++ _) ++ E)]; exact ho2
    rw [l2, ← l3] at m3
    obtain ⟨S4, r4, m4, f4⟩ := gr_jump (d := d) (n := n + 1 + (2 * cs.length + 3) + 1) (a := a) (b := b) ho3 m3 hc3 (by omega) (by omega)
    exact ⟨S4, 1 + ((2 * cs.length + 3) + (1 + 1)), by omega, r1.trans (r2.trans (r3.trans r4)), m4, f1.trans (f2.trans (f3.trans f4))⟩
  | none =>
    obtain ⟨S2, m, hm, r2, m2, f2⟩ := g2 hu
    have hc2 := f2.CO hc1
    have l4 : (((A ++ [((18 : Int32), nI (A.length + E.length + 3), (0 : Int32))]) ++ E) ++ [(19, 0, 0), (8, nI (A.length + E.length + 9), 0)]).length = A.length + E.length + 3 := by rw [List.length_append, List.length_append, l1]; show _ + 2 = _; omega
    have ho4 : os = (((A ++ [(18, nI (A.length + E.length + 3), 0)]) ++ E) ++ [(19, 0, 0), (8, nI (A.length + E.length + 9), 0)]) ++ (25, nI ws.length, 0) :: ((29, 26, fxX (A.length + E.length + 8)) :: ((3, nI py, 0) :: ((11, 1, 0) :: ((8, nI (A.length + E.length + 9), 0) :: ((20, 0, 0) :: B))))) := by
      rw [ho1]; simp only [List.append_assoc, List.cons_append, List.nil_append]
    have he : (ws ++ [(26 : Int32)])[ws.length]? = some 26 := by rw [List.getElem?_append_right (Nat.le_refl _), Nat.sub_self]; rfl
    generalize ((A ++ [((18 : Int32), nI (A.length + E.length + 3), (0 : Int32))]) ++ E) ++ [(19, 0, 0), (8, nI (A.length + E.length + 9), 0)] = A4 at *
    rw [← l4] at m2
    obtain ⟨S3, r3, m3, f3, h16⟩ := gr_match (d := d) (n := n + 1 + m) (a := a) (b := b) ho4 m2 hc2 (by omega) (by omega) he
    have hc3 := f3.CO hc2
    have ho5 : os = (A4 ++ [(25, nI ws.length, 0)]) ++ (29, 26, fxX (A.length + E.length + 8)) :: ((3, nI py, 0) :: ((11, 1, 0) :: ((8, nI (A.length + E.length + 9), 0) :: ((20, 0, 0) :: B)))) := by rw [List.append_assoc]; exact ho4
    have l5 : (A4 ++ [((25 : Int32), nI ws.length, (0 : Int32))]).length = A4.length + 1 := by rw [List.length_append]; rfl
    rw [← l5] at m3
    obtain ⟨S4, r4, m4, f4⟩ := gr_same (d := d) (n := n + 1 + m + 1) (a := a) (b := b) ho5 m3 hc3 (by omega) (by omega) (by omega) h16
    have hc4 := f4.CO hc3
    have ho6 : os = ((A4 ++ [(25, nI ws.length, 0)]) ++ [(29, 26, fxX (A.length + E.length + 8))]) ++ atO py py (25, 52) :: ((11, 1, 0) :: ((8, nI (A.length + E.length + 9), 0) :: ((20, 0, 0) :: B))) := by rw [List.append_assoc (A4 ++ _)]; exact ho5
    have l6 : ((A4 ++ [((25 : Int32), nI ws.length, (0 : Int32))]) ++ [(29, 26, fxX (A.length + E.length + 8))]).length = A4.length + 1 + 1 := by rw [List.length_append, l5]; rfl
    rw [l5, ← l6] at m4
    obtain ⟨S5, r5, m5, f5⟩ := gr_atom (d := d) (n := n + 1 + m + 1 + 1) (a := a) (b := b) ho6 m4 hc4 (by omega) (by omega) (by rw [List.length_append, List.length_singleton]; omega) (ap hy) (ap hy)
    have hc5 := f5.CO hc4
    have ho7 : os = (((A4 ++ [(25, nI ws.length, 0)]) ++ [(29, 26, fxX (A.length + E.length + 8))]) ++ [atO py py (25, 52)]) ++ (11, 1, 0) :: ((8, nI (A.length + E.length + 9), 0) :: ((20, 0, 0) :: B)) := by rw [List.append_assoc ((A4 ++ _) ++ _)]; exact ho6
    have l7 : (((A4 ++ [((25 : Int32), nI ws.length, (0 : Int32))]) ++ [(29, 26, fxX (A.length + E.length + 8))]) ++ [atO py py (25, 52)]).length = A4.length + 1 + 1 + 1 := by rw [List.length_append, l6]; rfl
    rw [l6, ← l7] at m5
    obtain ⟨S6, r6, m6, f6⟩ := gr_slide (d := d) (n := n + 1 + m + 1 + 1 + 1) (a := a) (b := b) ho7 m5 hc5 (by omega) (by omega)
    have hc6 := f6.CO hc5
    have ho8 : os = ((((A4 ++ [(25, nI ws.length, 0)]) ++ [(29, 26, fxX (A.length + E.length + 8))]) ++ [atO py py (25, 52)]) ++ [(11, 1, 0)]) ++ (8, nI (A.length + E.length + 9), 0) :: ((20, 0, 0) :: B) := by rw [List.append_assoc (((A4 ++ _) ++ _) ++ _)]; exact ho7
    have l8 : ((((A4 ++ [((25 : Int32), nI ws.length, (0 : Int32))]) ++ [(29, 26, fxX (A.length + E.length + 8))]) ++ [atO py py (25, 52)]) ++ [(11, 1, 0)]).length = A4.length + 1 + 1 + 1 + 1 := by rw [List.length_append, l7]; rfl
    rw [l7, ← l8] at m6
    obtain ⟨S7, r7, m7, f7⟩ := gr_jump (d := d) (n := n + 1 + m + 1 + 1 + 1 + 1) (a := a) (b := b) ho8 m6 hc6 (by omega) (by omega)
    exact ⟨S7, 1 + (m + (1 + (1 + (1 + (1 + 1))))), by omega, r1.trans (r2.trans (r3.trans (r4.trans (r5.trans (r6.trans r7))))), m7, f1.trans (f2.trans (f3.trans (f4.trans (f5.trans (f6.trans f7)))))⟩
