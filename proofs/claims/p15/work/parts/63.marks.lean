/-! Parser: tokens as they come, marks as they are laid. -/
/-- the lexer's own: its fields, the text, its rows -/
def lxC (a : Nat) : Prop := a = 1 ∨ a = 13 ∨ (16 ≤ a ∧ a ≤ 21)
def LxS (S S1 : xS) : Prop := ∀ a, lxC a → S1.1 a = S.1 a
theorem LxS.refl {S : xS} : LxS S S := fun _ _ => rfl
theorem LxS.trans {S S1 S2 : xS} (h : LxS S S1) (h2 : LxS S1 S2) : LxS S S2 := fun a ha => (h2 a ha).trans (h a ha)
/-- what a token leaves as it is -/
def FrR (S S1 : xS) : Prop := S1.2 = S.2 ∧ ∀ a, ¬ lxC a → S1.1 a = S.1 a
/-- tokens (kind, meaning of names and numbers) that come one behind another -/
def Rd (F : xS → Prop) : List (Int32 × Int32) → xS → Prop
  | [], S => S.1 1 13 = 54 ∧ S.1 1 16 = 0 ∧ F S
  | (k, m) :: ts, S => S.1 1 13 = k ∧ (k = 25 ∨ k = 27 → S.1 1 15 = m) ∧ S.1 1 16 = 0 ∧ ∀ S1, LxS S S1 → ∀ d, ∃ S2, XC SK MT (d + 3) 124 [.ref 1] S1 = some (none, S2) ∧ FrR S1 S2 ∧ Rd F ts S2
def StF (F : xS → Prop) : Prop := ∀ S S1, LxS S S1 → F S → F S1
theorem Rd.of {F : xS → Prop} (hF : StF F) {ts : List (Int32 × Int32)} {S S1 : xS} (h : Rd F ts S) (hl : LxS S S1) : Rd F ts S1 := by
  cases ts with
  | nil => exact ⟨by rw [hl 1 (Or.inl rfl)]; exact h.1, by rw [hl 1 (Or.inl rfl)]; exact h.2.1, hF S S1 hl h.2.2⟩
  | cons t ts => exact ⟨by rw [hl 1 (Or.inl rfl)]; exact h.1, by rw [hl 1 (Or.inl rfl)]; exact h.2.1, by rw [hl 1 (Or.inl rfl)]; exact h.2.2.1, fun S2 h2 => h.2.2.2 S2 (hl.trans h2)⟩
abbrev Mk := Int32 × Int32 × Int32
/-- the marks: op, says, link; no home yet -/
def MK (S : xS) (ms : List Mk) : Prop := S.1 2 5 = nI ms.length ∧ ∀ i (m : Mk), ms[i]? = some m → S.1 22 i = m.1 ∧ S.1 23 i = m.2.1 ∧ S.1 25 i = m.2.2 ∧ S.1 26 i = -1
/-- the parser's own cells -/
def paC (a : Nat) : Prop := a = 2 ∨ (22 ≤ a ∧ a ≤ 26)
/-- what the parser leaves as it is: other cells, and its own fields but marks -/
def FrP (S S1 : xS) : Prop := S1.2 = S.2 ∧ (∀ a, ¬ lxC a → ¬ paC a → S1.1 a = S.1 a) ∧ ∀ q, ¬ q = 5 → S1.1 2 q = S.1 2 q
theorem FrP.refl {S : xS} : FrP S S := ⟨rfl, fun _ _ _ => rfl, fun _ _ => rfl⟩
theorem FrP.trans {S S1 S2 : xS} (h : FrP S S1) (h2 : FrP S1 S2) : FrP S S2 := ⟨h2.1.trans h.1, fun a q r => (h2.2.1 a q r).trans (h.2.1 a q r), fun q r => (h2.2.2 q r).trans (h.2.2 q r)⟩
theorem FrR.P {S S1 : xS} (h : FrR S S1) : FrP S S1 := ⟨h.1, fun a q _ => h.2 a q, fun q _ => by rw [h.2 _ (by unfold lxC; decide)]⟩
theorem FrR.MK {S S1 : xS} {ms : List Mk} (h : FrR S S1) (hm : MK S ms) : MK S1 ms := by
  refine ⟨by rw [h.2 _ (by unfold lxC; decide)]; exact hm.1, fun i m q => ?_⟩
  rw [h.2 22 (by unfold lxC; decide), h.2 23 (by unfold lxC; decide), h.2 25 (by unfold lxC; decide), h.2 26 (by unfold lxC; decide)]
  exact hm.2 i m q
theorem pAdd_L {S : xS} {m : Nat} {a b c : Int32} : LxS S (pAdd S m a b c) := by
  intro q hq
  unfold pAdd
  rw [xsR (by unfold lxC at hq; omega), xsR (by unfold lxC at hq; omega), xsR (by unfold lxC at hq; omega), xsR (by unfold lxC at hq; omega), xsR (by unfold lxC at hq; omega), xsR (by unfold lxC at hq; omega)]
theorem pAdd_P {S : xS} {m : Nat} {a b c : Int32} : FrP S (pAdd S m a b c) := by
  refine ⟨rfl, fun q _ hq => ?_, fun q hq => ?_⟩
  · unfold pAdd
    rw [xsR (by unfold paC at hq; omega), xsR (by unfold paC at hq; omega), xsR (by unfold paC at hq; omega), xsR (by unfold paC at hq; omega), xsR (by unfold paC at hq; omega), xsR (by unfold paC at hq; omega)]
  · unfold pAdd
    rw [xsI, if_neg (by omega), xsI, if_neg (by omega), xsI, if_neg (by omega), xsI, if_neg (by omega), xsI, if_neg (by omega), xsI, if_neg (by omega)]
theorem pAdd_M {S : xS} {ms : List Mk} {a b c : Int32} (h : MK S ms) : MK (pAdd S ms.length a b c) (ms ++ [(a, b, -1)]) := by
  refine ⟨?_, fun i m q => ?_⟩
  · unfold pAdd
    rw [xsI, if_pos ⟨rfl, rfl⟩, List.length_append]
    rfl
  · unfold pAdd
    rcases Nat.lt_or_ge i ms.length with z | z
    · rw [List.getElem?_append_left z] at q
      obtain ⟨h1, h2, h3, h4⟩ := h.2 i m q
      have hne : ¬ i = ms.length := by omega
      simp (config := { decide := true }) only [xsI, hne, and_false, false_and, if_false]
      exact ⟨h1, h2, h3, h4⟩
    · rw [List.getElem?_append_right z] at q
      have hi : i = ms.length := by
        have := (List.getElem?_eq_some_iff.mp q).1
        rw [List.length_singleton] at this
        omega
      subst hi
      rw [Nat.sub_self] at q
      obtain rfl : (a, b, -1) = m := Option.some.inj q
      simp (config := { decide := true }) only [xsI, and_false, false_and, true_and, and_self, if_true, if_false]
/-- where the parser is: tokens to come, marks laid, so many open, none waits -/
def PS (F : xS → Prop) (S : xS) (ts : List (Int32 × Int32)) (ms : List Mk) (o : Nat) : Prop := Rd F ts S ∧ MK S ms ∧ S.1 2 10 = nI o
/-- a mark is laid -/
theorem PS.add {F : xS → Prop} (hF : StF F) {S : xS} {ts : List (Int32 × Int32)} {ms : List Mk} {o : Nat} (h : PS F S ts ms o) (hm : ms.length < 10240) {a b c : Int32} : ∃ S1, (∀ d, XC SK MT (d + 2) 183 [.ref 2, .int a, .int b, .int c] S = some (some (.int (nI ms.length)), S1)) ∧ PS F S1 ts (ms ++ [(a, b, -1)]) o ∧ FrP S S1 ∧ S1.1 1 = S.1 1 :=
  ⟨pAdd S ms.length a b c, fun _ => s_add h.2.1.1 hm, ⟨h.1.of hF pAdd_L, pAdd_M h.2.1, by rw [pAdd_P.2.2 _ (by decide)]; exact h.2.2⟩, pAdd_P, pAdd_L 1 (Or.inl rfl)⟩
/-- a token comes -/
theorem PS.step {F : xS → Prop} {S : xS} {k m : Int32} {ts : List (Int32 × Int32)} {ms : List Mk} {o : Nat} (h : PS F S ((k, m) :: ts) ms o) (d : Nat) : ∃ S1, XC SK MT (d + 3) 124 [.ref 1] S = some (none, S1) ∧ PS F S1 ts ms o ∧ FrP S S1 := by
  obtain ⟨S1, h1, h2, h3⟩ := h.1.2.2.2 S LxS.refl d
  exact ⟨S1, h1, ⟨h3, h2.MK h.2.1, by rw [h2.P.2.2 _ (by decide)]; exact h.2.2⟩, h2.P⟩
