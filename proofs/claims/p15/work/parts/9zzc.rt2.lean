/-! The Library run: what holds between orders. -/
def LCh (h : Nat) : List Int32 := if h = 1 then LC1 else LC2
def ePush (h : Nat) : Nat := if h = 1 then 19863 else 19860
def eBind (h : Nat) : Nat := if h = 1 then 20076 else 20042
def eDivide (h : Nat) : Nat := if h = 1 then 20190 else 20133
def eRaise (h : Nat) : Nat := if h = 1 then 20220 else 20159
def eOpen (h : Nat) : Nat := if h = 1 then 20240 else 20174
def eOpened (h : Nat) : Nat := if h = 1 then 20253 else 20183
def eFinish (h : Nat) : Nat := if h = 1 then 19862 else 19859
/-- the words from 19840 on -/
def CD (code m : Nat → Int32) : Prop := ∀ j, 19840 ≤ j → m j = code j
theorem CD.upd {code m : Nat → Int32} {k : Nat} {v : Int32} (h : CD code m) (hk : k < 19840) : CD code (upd m k v) := fun j hj => (pk_un (by omega)).trans (h j hj)
theorem CD.lib {L : List Int32} {code m : Nat → Int32} (h : CD code m) (hL : CMl L code) : CMl L m := fun i w hw => (h _ (by omega)).trans (hL i w hw)
/-- registers and memory: the pile, the innermost handle -/
def RI (code : Nat → Int32) (a : Int32) (r m : Nat → Int32) (ws : List Int32) (tr : Nat) : Prop := CD code m ∧ r 0 = 0 ∧ r 16 = nI (4 * (5632 + ws.length)) ∧ r 17 = nI (4 * 5632) ∧ r 23 = 46528 ∧ r 21 = nI (4 * tr) ∧ r 18 = m 272 ∧ r 20 = a ∧ m 275 = 0 ∧ m 276 = 0 ∧ ∀ i w, ws[i]? = some w → m (5632 + i) = w
section
variable {S0 : xS} {code r m r' : Nat → Int32} {a : Int32} {ws : List Int32} {tr ret : Nat}
theorem RI.keep (h : RI code a r m ws tr) (e0 : r' 0 = r 0) (e16 : r' 16 = r 16) (e17 : r' 17 = r 17) (e23 : r' 23 = r 23) (e21 : r' 21 = r 21) (e18 : r' 18 = r 18) (e20 : r' 20 = r 20) : RI code a r' m ws tr := by
  obtain ⟨h1, h2, h3, h4, h5, h6, h7, h8, h9, h10, h11⟩ := h
  exact ⟨h1, e0.trans h2, e16.trans h3, e17.trans h4, e23.trans h5, e21.trans h6, e18.trans h7, e20.trans h8, h9, h10, h11⟩
theorem RI.mem {k : Nat} {v : Int32} (h : RI code a r m ws tr) (hk : k < 5632) (k1 : k ≠ 272) (k2 : k ≠ 275) (k3 : k ≠ 276) : RI code a r (upd m k v) ws tr := by
  obtain ⟨h1, h2, h3, h4, h5, h6, h7, h8, h9, h10, h11⟩ := h
  exact ⟨h1.upd (by omega), h2, h3, h4, h5, h6, h7.trans (pk_un (Ne.symm k1)).symm, h8, (pk_un (Ne.symm k2)).trans h9, (pk_un (Ne.symm k3)).trans h10, fun i w hi => (pk_un (by omega)).trans (h11 i w hi)⟩
/-- a word in the place behind the pile, the register of the pile behind it -/
theorem RI.word {v : Int32} (h : RI code a r m ws tr) (hn : ws.length < 2000) (e0 : r' 0 = r 0) (e16 : r' 16 = nI (4 * (5632 + ws.length + 1))) (e17 : r' 17 = r 17) (e23 : r' 23 = r 23) (e21 : r' 21 = r 21) (e18 : r' 18 = r 18) (e20 : r' 20 = r 20) : RI code a r' (upd m (5632 + ws.length) v) (ws ++ [v]) tr := by
  obtain ⟨h1, h2, h3, h4, h5, h6, h7, h8, h9, h10, h11⟩ := h
  refine ⟨h1.upd (by omega), e0.trans h2, ?_, e17.trans h4, e23.trans h5, e21.trans h6, (e18.trans h7).trans (pk_un (by omega)).symm, e20.trans h8, (pk_un (by omega)).trans h9, (pk_un (by omega)).trans h10, fun i w hi => ?_⟩
  · rw [e16, List.length_append, List.length_singleton, Nat.add_assoc]
  · rcases Nat.lt_or_ge i ws.length with z | z
    · rw [List.getElem?_append_left z] at hi
      exact (pk_un (by omega)).trans (h11 i w hi)
    · rw [List.getElem?_append_right z] at hi
      have e : i = ws.length := by have := (List.getElem?_eq_some_iff.mp hi).1; rw [List.length_singleton] at this; omega
      subst e
      rw [Nat.sub_self] at hi
      obtain rfl : v = w := Option.some.inj hi
      exact pk_us
/-- words fall off -/
theorem RI.fall {vs : List Int32} (h : RI code a r m (ws ++ vs) tr) (e0 : r' 0 = r 0) (e16 : r' 16 = nI (4 * (5632 + ws.length))) (e17 : r' 17 = r 17) (e23 : r' 23 = r 23) (e21 : r' 21 = r 21) (e18 : r' 18 = r 18) (e20 : r' 20 = r 20) : RI code a r' m ws tr := by
  obtain ⟨h1, h2, h3, h4, h5, h6, h7, h8, h9, h10, h11⟩ := h
  exact ⟨h1, e0.trans h2, e16, e17.trans h4, e23.trans h5, e21.trans h6, e18.trans h7, e20.trans h8, h9, h10, fun i w hi => h11 i w (by rw [List.getElem?_append_left (List.getElem?_eq_some_iff.mp hi).1]; exact hi)⟩
theorem RI.tries {tr' : Nat} (h : RI code a r m ws tr) (e0 : r' 0 = r 0) (e16 : r' 16 = r 16) (e17 : r' 17 = r 17) (e23 : r' 23 = r 23) (e21 : r' 21 = nI (4 * tr')) (e18 : r' 18 = r 18) (e20 : r' 20 = r 20) : RI code a r' m ws tr' := by
  obtain ⟨h1, h2, h3, h4, h5, h6, h7, h8, h9, h10, h11⟩ := h
  exact ⟨h1, e0.trans h2, e16.trans h3, e17.trans h4, e23.trans h5, e21, e18.trans h7, e20.trans h8, h9, h10, h11⟩
theorem RI.set {vs : List Int32} {tr' : Nat} {v : Int32} (h : RI code a r m (ws ++ vs) tr) (hn : ws.length < 2000) (e16 : r' 16 = nI (4 * (5632 + ws.length + 1))) (e21 : r' 21 = nI (4 * tr')) (e0 : r' 0 = r 0) (e17 : r' 17 = r 17) (e23 : r' 23 = r 23) (e18 : r' 18 = r 18) (e20 : r' 20 = r 20) : RI code a r' (upd m (5632 + ws.length) v) (ws ++ [v]) tr' := by
  have k1 : RI code a (fun j => if j = 16 then nI (4 * (5632 + ws.length)) else r j) m ws tr := h.fall rfl rfl rfl rfl rfl rfl rfl
  have k2 : RI code a (fun j => if j = 21 then nI (4 * tr') else if j = 16 then nI (4 * (5632 + ws.length)) else r j) m ws tr' := k1.tries rfl rfl rfl rfl rfl rfl rfl
  exact k2.word hn e0 e16 e17 e23 e21 e18 e20
theorem RI.at {A B : List Int32} {w : Int32} (h : RI code a r m (A ++ w :: B) tr) : m (5632 + A.length) = w := h.2.2.2.2.2.2.2.2.2.2 A.length w (by rw [List.getElem?_append_right (Nat.le_refl _), Nat.sub_self]; rfl)
theorem ri_push {hw : Nat} (hh : hw = 1 ∨ hw = 2) (hL : CMl (LCh hw) code) (h : RI code a r m ws tr) (hn : ws.length < 1000) (h31 : r 31 = nI (4 * ret)) : ∃ r' m', RT S0 20 r m (ePush hw) r' m' ret ∧ RI code a r' m' (ws ++ [r 4]) tr ∧ (∀ j, j ≠ 1 → j ≠ 16 → j ≠ 22 → r' j = r j) ∧ ∀ j, j < 5632 → m' j = m j := by
  rcases hh with rfl | rfl
  · obtain ⟨r', x, e16, er⟩ := rt_push1 (S0 := S0) (h.1.lib hL) h.2.1 h.2.2.1 h.2.2.2.2.1 (by omega) h31
    exact ⟨r', _, x, h.word (by omega) (er 0 (by decide) (by decide) (by decide)) e16 (er 17 (by decide) (by decide) (by decide)) (er 23 (by decide) (by decide) (by decide)) (er 21 (by decide) (by decide) (by decide)) (er 18 (by decide) (by decide) (by decide)) (er 20 (by decide) (by decide) (by decide)), er, fun j hj => pk_un (by omega)⟩
  · obtain ⟨r', x, e16, er⟩ := rt_push2 (S0 := S0) (h.1.lib hL) h.2.1 h.2.2.1 h.2.2.2.2.1 (by omega) h31
    exact ⟨r', _, x, h.word (by omega) (er 0 (by decide) (by decide) (by decide)) e16 (er 17 (by decide) (by decide) (by decide)) (er 23 (by decide) (by decide) (by decide)) (er 21 (by decide) (by decide) (by decide)) (er 18 (by decide) (by decide) (by decide)) (er 20 (by decide) (by decide) (by decide)), er, fun j hj => pk_un (by omega)⟩
end
