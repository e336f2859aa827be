/-! Where words are laid: what is landed on. -/
def tg (o : Or3) : Option Int32 := if o.1 = 8 then some o.2.1 else if o.1 = 9 then some o.2.1 else if o.1 = 15 then some o.2.1 else if o.1 = 18 then some o.2.1 else if o.1 = 28 then some (o.2.2 >>> ((8 : Int32) &&& 31)) else if o.1 = 29 then some (o.2.2 >>> ((8 : Int32) &&& 31)) else none
theorem ldm_tg (o : Or3) (row : Nat → Int32) : ldm o row = (match tg o with | some l => prow row l 1 | none => row) := by
  unfold ldm tg
  repeat' split
  all_goals first | rfl | simp_all
theorem prow_1 {row : Nat → Int32} {l : Int32} {k : Nat} (h : row k = 1) : prow row l 1 k = 1 := by
  unfold prow
  split
  · exact h
  split
  · exact h
  · show (if k = l.toNatClampNeg then 1 else row k) = 1
    split
    · rfl
    · exact h
theorem prow_k {row : Nat → Int32} {k : Nat} (hk : k < 65536) : prow row (nI k) 1 k = 1 := by
  unfold prow
  rw [if_neg (nI_pos (by omega)), if_neg (nI_ge hk (by decide)), nI_clamp (by omega)]
  exact if_pos rfl
theorem prow_o {row : Nat → Int32} {l : Int32} {k : Nat} (h : l ≠ nI k) : prow row l 1 k = row k := by
  unfold prow
  by_cases h1 : l < 0
  · rw [if_pos h1]
  rw [if_neg h1]
  split
  · rfl
  · refine if_neg (fun q => h ?_)
    obtain ⟨j, hj, rfl⟩ := nI_of h1
    rw [nI_clamp hj] at q
    rw [q]
theorem ldms_1 {k : Nat} : ∀ (os : List Or3) (row : Nat → Int32), row k = 1 → ldms os row k = 1
  | [], _, h => h
  | o :: os, row, h => ldms_1 os (ldm o row) (by
    rw [ldm_tg]
    split
    · exact prow_1 h
    · exact h)
theorem ldms_y {k : Nat} (hk : k < 65536) : ∀ (os : List Or3) (row : Nat → Int32), (∃ o ∈ os, tg o = some (nI k)) → ldms os row k = 1
  | [], _, h => by obtain ⟨o, h, _⟩ := h; cases h
  | o :: os, row, h => by
    obtain ⟨p, hp, ht⟩ := h
    rcases List.mem_cons.mp hp with rfl | hp
    · refine ldms_1 os (ldm p row) ?_
      rw [ldm_tg, ht]
      exact prow_k hk
    · exact ldms_y hk os (ldm o row) ⟨p, hp, ht⟩
theorem ldms_n {k : Nat} : ∀ (os : List Or3) (row : Nat → Int32), (∀ o ∈ os, tg o ≠ some (nI k)) → ldms os row k = row k
  | [], _, _ => rfl
  | o :: os, row, h => by
    show ldms os (ldm o row) k = row k
    rw [ldms_n os (ldm o row) (fun p hp => h p (List.mem_cons_of_mem _ hp)), ldm_tg]
    have h1 := h o (List.mem_cons_self ..)
    cases ht : tg o with
    | none => rfl
    | some l =>
      rw [ht] at h1
      exact prow_o (fun q => h1 (by rw [q]))
/-- the row of landings, from an order on -/
def HR (R : Nat → Int32) (b : Nat) (os : List Or3) : Prop := ∀ k, b ≤ k → k < b + os.length → ((∃ o ∈ os, tg o = some (nI k)) → R k = 1) ∧ ((∀ o ∈ os, tg o ≠ some (nI k)) → R k = 0)
/-- jumps stay within -/
def TB (b : Nat) (os : List Or3) : Prop := ∀ o ∈ os, ∀ l, tg o = some l → ∃ k, b ≤ k ∧ k < b + os.length ∧ l = nI k
theorem TB.none {b : Nat} {os : List Or3} (h : ∀ o ∈ os, tg o = none) : TB b os := fun o ho l hl => by
  rw [h o ho] at hl
  cases hl
theorem TB.app {b : Nat} {os os' : List Or3} (h : TB b os) (h' : TB (b + os.length) os') : TB b (os ++ os') := fun o ho l hl => by
  rw [List.length_append]
  rcases List.mem_append.mp ho with ho | ho
  · obtain ⟨k, h1, h2, h3⟩ := h o ho l hl
    exact ⟨k, h1, by omega, h3⟩
  · obtain ⟨k, h1, h2, h3⟩ := h' o ho l hl
    exact ⟨k, by omega, by omega, h3⟩
theorem TB.not {b k : Nat} {os : List Or3} (h : TB b os) (hb : b + os.length < 2 ^ 31) (hk : k < 2 ^ 31) (q : k < b ∨ b + os.length ≤ k) : ∀ o ∈ os, tg o ≠ some (nI k) := fun o ho ht => by
  obtain ⟨j, h1, h2, h3⟩ := h o ho _ ht
  have := (nI_eq (by omega) (by omega)).mp h3
  omega
theorem HR.split {R : Nat → Int32} {b : Nat} {os os' : List Or3} (h : HR R b (os ++ os')) (h1 : TB b os) (h2 : TB (b + os.length) os') (hb : b + os.length + os'.length < 2 ^ 31) : HR R b os ∧ HR R (b + os.length) os' := by
  refine ⟨fun k k1 k2 => ⟨fun ⟨o, ho, ht⟩ => (h k k1 (by rw [List.length_append]; omega)).1 ⟨o, List.mem_append_left _ ho, ht⟩, fun hn => (h k k1 (by rw [List.length_append]; omega)).2 (fun o ho => ?_)⟩, fun k k1 k2 => ⟨fun ⟨o, ho, ht⟩ => (h k (by omega) (by rw [List.length_append]; omega)).1 ⟨o, List.mem_append_right _ ho, ht⟩, fun hn => (h k (by omega) (by rw [List.length_append]; omega)).2 (fun o ho => ?_)⟩⟩
  · rcases List.mem_append.mp ho with ho | ho
    · exact hn o ho
    · exact h2.not (by omega) (by omega) (by omega) o ho
  · rcases List.mem_append.mp ho with ho | ho
    · exact h1.not (by omega) (by omega) (by omega) o ho
    · exact hn o ho
section
variable {s m : Int32} {px py b dep : Nat}
theorem tg_at (q : Int32 × Int32) : tg (atO px py q) = none := by
  unfold atO
  split
  · simp (config := { decide := true }) only [tg, if_false, ite_false]
  split <;> simp (config := { decide := true }) only [tg, if_false, ite_false]
theorem tg_7 : tg (7, s, m) = none := by simp (config := { decide := true }) only [tg, if_false, ite_false]
theorem tg_3 : tg (3, s, m) = none := by simp (config := { decide := true }) only [tg, if_false, ite_false]
theorem tg_11 : tg (11, s, m) = none := by simp (config := { decide := true }) only [tg, if_false, ite_false]
theorem tg_19 : tg (19, s, m) = none := by simp (config := { decide := true }) only [tg, if_false, ite_false]
theorem tg_20 : tg (20, s, m) = none := by simp (config := { decide := true }) only [tg, if_false, ite_false]
theorem tg_23 : tg (23, s, m) = none := by simp (config := { decide := true }) only [tg, if_false, ite_false]
theorem tg_25 : tg (25, s, m) = none := by simp (config := { decide := true }) only [tg, if_false, ite_false]
theorem tg_30 : tg (30, s, m) = none := by simp (config := { decide := true }) only [tg, if_false, ite_false]
theorem tg_31 : tg (31, s, m) = none := by simp (config := { decide := true }) only [tg, if_false, ite_false]
theorem tg_8 : tg (8, s, m) = some s := by simp (config := { decide := true }) only [tg, if_true, ite_true]
theorem tg_18 : tg (18, s, m) = some s := by simp (config := { decide := true }) only [tg, if_true, ite_true, if_false, ite_false]
theorem tg_29 {x : Nat} (hx : x < 2 ^ 20) : tg (29, s, fxX x) = some (nI x) := by
  have e := (fxX_n hx).2
  simp (config := { decide := true }) only [tg, if_true, ite_true, if_false, ite_false, e]
theorem tg_oa : ∀ (cs : List Oa) (k : Int32), ∀ o ∈ oaO px py k cs, tg o = none
  | [], k, o, ho => by
    obtain rfl := List.mem_singleton.mp ho
    exact tg_7
  | c :: cs, k, o, ho => by
    rcases List.mem_cons.mp ho with rfl | ho
    · exact tg_7
    rcases List.mem_cons.mp ho with rfl | ho
    · exact tg_at _
    · exact tg_oa cs c.1.1 o ho
theorem tg_exE (q : Int32 × Int32) (cs : List Oa) : ∀ o ∈ exE px py q cs, tg o = none := fun o ho => by
  rcases List.mem_cons.mp ho with rfl | ho
  · exact tg_at _
  cases cs with
  | nil => cases ho
  | cons c cs =>
    rcases List.mem_cons.mp ho with rfl | ho
    · exact tg_at _
    · exact tg_oa cs c.1.1 o ho
theorem tg_end : ∀ o ∈ [(25, nI dep, 0), (30, 0, 0), ((31, 1, 0) : Or3)], tg o = none := fun o ho => by
  rcases List.mem_cons.mp ho with rfl | ho
  · exact tg_25
  rcases List.mem_cons.mp ho with rfl | ho
  · exact tg_30
  obtain rfl := List.mem_singleton.mp ho
  exact tg_31
theorem tg_plain (q : Int32 × Int32) (cs : List Oa) : ∀ o ∈ lnO px py b dep (.inr (q, cs, none)), tg o = none := fun o ho => by
  rcases List.mem_append.mp ho with ho | ho
  · exact tg_exE q cs o ho
  · exact tg_end o ho
theorem tg_num (q : Int32 × Int32) : ∀ o ∈ lnO px py b dep (.inl q), tg o = none := fun o ho => by
  rcases List.mem_append.mp ho with ho | ho
  · obtain rfl := List.mem_singleton.mp ho
    exact tg_at _
  · exact tg_end o ho
/-- the jumps of a line that is handled -/
theorem tg_han (q : Int32 × Int32) (cs : List Oa) (h : Int32 × Int32) {e : Nat} (he : (exE px py q cs).length = e) (hb : b + e < 900000) : ∀ o ∈ lnO px py b dep (.inr (q, cs, some h)), tg o = none ∨ tg o = some (nI (b + e + 3)) ∨ tg o = some (nI (b + e + 8)) ∨ tg o = some (nI (b + e + 9)) := fun o ho => by
  rcases List.mem_append.mp ho with ho | ho
  · have ho : o ∈ (18, nI (b + (exE px py q cs).length + 3), 0) :: (exE px py q cs ++ haO b (exE px py q cs).length dep py) := ho
    rw [he] at ho
    rcases List.mem_cons.mp ho with rfl | ho
    · exact Or.inr (Or.inl tg_18)
    rcases List.mem_append.mp ho with ho | ho
    · exact Or.inl (tg_exE q cs o ho)
    unfold haO at ho
    rcases List.mem_cons.mp ho with rfl | ho
    · exact Or.inl tg_19
    rcases List.mem_cons.mp ho with rfl | ho
    · exact Or.inr (Or.inr (Or.inr tg_8))
    rcases List.mem_cons.mp ho with rfl | ho
    · exact Or.inl tg_25
    rcases List.mem_cons.mp ho with rfl | ho
    · exact Or.inr (Or.inr (Or.inl (tg_29 (by omega))))
    rcases List.mem_cons.mp ho with rfl | ho
    · exact Or.inl tg_3
    rcases List.mem_cons.mp ho with rfl | ho
    · exact Or.inl tg_11
    rcases List.mem_cons.mp ho with rfl | ho
    · exact Or.inr (Or.inr (Or.inr tg_8))
    obtain rfl := List.mem_singleton.mp ho
    exact Or.inl tg_20
  · exact Or.inl (tg_end o ho)
theorem mem_han (q : Int32 × Int32) (cs : List Oa) (h : Int32 × Int32) {e : Nat} (he : (exE px py q cs).length = e) : (18, nI (b + e + 3), 0) ∈ lnO px py b dep (.inr (q, cs, some h)) ∧ (29, 26, fxX (b + e + 8)) ∈ lnO px py b dep (.inr (q, cs, some h)) ∧ (8, nI (b + e + 9), 0) ∈ lnO px py b dep (.inr (q, cs, some h)) ∧ (lnO px py b dep (.inr (q, cs, some h))).length = e + 12 := by
  have e1 : lnO px py b dep (.inr (q, cs, some h)) = ((18, nI (b + e + 3), 0) :: (exE px py q cs ++ haO b e dep py)) ++ [(25, nI dep, 0), (30, 0, 0), (31, 1, 0)] := by
    show ((18, nI (b + (exE px py q cs).length + 3), 0) :: (exE px py q cs ++ haO b (exE px py q cs).length dep py)) ++ _ = _
    rw [he]
  rw [e1]
  refine ⟨List.mem_append_left _ (List.mem_cons_self ..), List.mem_append_left _ (List.mem_cons_of_mem _ (List.mem_append_right _ ?_)), List.mem_append_left _ (List.mem_cons_of_mem _ (List.mem_append_right _ ?_)), ?_⟩
  · unfold haO
    simp only [List.mem_cons, true_or, or_true]
  · unfold haO
    simp only [List.mem_cons, true_or, or_true]
  · simp only [List.length_append, List.length_cons, List.length_nil, he]
    show e + 8 + 1 + 3 = _
    omega
end
