/-! Lexer: the tokens out of the bytes. -/
/-- the table of names, as it is in Sx -/
def Tb (Sx S : xS) : Prop := (∀ a, lxC a → ¬ a = 1 → ¬ a = 17 → S.1 a = Sx.1 a) ∧ ∀ q, q < 11 → S.1 1 q = Sx.1 1 q
theorem Tb.known {Sx S : xS} {w : List Nat} {m : Nat} (h : Tb Sx S) (hk : Known Sx w m) : Known S w m := by
  obtain ⟨hN, a, h1, h2, h3, h4, h5, h6, h7, h8⟩ := hk
  exact ⟨hN, a, h1, h2, by rw [h.1 _ (by unfold lxC; decide) (by decide) (by decide)]; exact h3, h4, by rw [h.1 _ (by unfold lxC; decide) (by decide) (by decide)]; exact h5, h6, by rw [h.1 _ (by unfold lxC; decide) (by decide) (by decide)]; exact h7, fun j b hj => by rw [h.1 _ (by unfold lxC; decide) (by decide) (by decide)]; exact h8 j b hj⟩
theorem Tb.L {Sx S S1 : xS} (h : Tb Sx S) (hf : FrL S S1) : Tb Sx S1 := ⟨fun a q1 q2 q3 => by rw [hf.2.1 a q2 q3]; exact h.1 a q1 q2 q3, fun q hq => by rw [hf.2.2 q hq]; exact h.2 q hq⟩
theorem Tb.S {Sx S S1 : xS} (h : Tb Sx S) (hf : LxS S S1) : Tb Sx S1 := ⟨fun a q1 q2 q3 => by rw [hf a q1]; exact h.1 a q1 q2 q3, fun q hq => by rw [hf 1 (Or.inl rfl)]; exact h.2 q hq⟩
theorem LX.S {S S1 : xS} {p t : Nat} {bs : List Nat} (h : LX S p bs t) (hf : LxS S S1) : LX S1 p bs t :=
  ⟨h.1.of (hf _ (by unfold lxC; decide)) (by rw [hf 1 (Or.inl rfl)]), by rw [hf 1 (Or.inl rfl)]; exact h.2.1, by rw [hf 1 (Or.inl rfl)]; exact h.2.2.1, by rw [hf 1 (Or.inl rfl)]; exact h.2.2.2⟩
theorem FrL.R {S S1 : xS} (h : FrL S S1) : FrR S S1 := ⟨h.1, fun a ha => h.2.1 a (fun z => ha (Or.inl z)) (fun z => ha (by unfold lxC; omega))⟩
theorem next_end {d : Nat} {S : xS} {p t : Nat} (h : LX S p [] t) : ∃ S2, XC SK MT (d + 3) 124 [.ref 1] S = some (none, S2) ∧ S2.1 1 13 = 54 ∧ S2.1 1 16 = 0 ∧ FrL S S2 := by
  have e0 : lpk (S.1 1 10) (S.1 13) (nI p) = -1 := by
    have h9 := TX_end h.1
    rw [List.length_nil, Nat.add_zero] at h9
    exact h9
  refine ⟨_, step_end (skip_0 h.2.1 e0 rfl ⟨by decide, by decide, by decide, fun z => absurd z.1 (by decide)⟩) h.2.2.1 h, by rw [xsI, if_pos ⟨rfl, rfl⟩], ?_, rfl, fun a ha hb => by rw [xsR ha, xsR ha], fun q hq => by rw [xsI, if_neg (by omega), xsI, if_neg (by omega)]⟩
  rw [xsI, if_neg (by decide), xsI, if_neg (by decide)]; exact h.2.2.1
/-- bytes that are a token, nx behind them -/
def It (Sx : xS) (u : List Nat) (km : Int32 × Int32) (nx : Int32) : Prop :=
  (∃ pre w mm, u = pre ++ w ∧ Pre pre ∧ isName w ∧ lPart nx = false ∧ Known Sx w mm ∧ km.1 = (if mm < 25 then nI mm else 25) ∧ (25 ≤ mm → km.2 = nI mm)) ∨
  (∃ pre b, u = pre ++ [b] ∧ Pre pre ∧ lone b nx ∧ ¬ nx = 42 ∧ km.1 = sgk b ∧ ¬ (km.1 = 25 ∨ km.1 = 27)) ∨
  (∃ pre, u = pre ++ [61, 62] ∧ Pre pre ∧ km.1 = 39) ∨
  ∃ v w, u = 32 :: nby v w ∧ (∀ b ∈ w, isDig b) ∧ 0 < w.length ∧ lPart nx = false ∧ w.length ≤ 200 ∧ dv w = v.natAbs ∧ (-2 ^ 30 ≤ v ∧ v < 2 ^ 30) ∧ km = (27, Int32.ofInt v)
theorem wd_low : ∀ m, m < 25 → ¬ (nI m = 25 ∨ nI m = 27) := by decide +kernel
theorem It.next {d : Nat} {Sx S : xS} {u rest : List Nat} {km : Int32 × Int32} {p t : Nat} (h : It Sx u km (hdI rest)) (hT : Tb Sx S) (hL : LX S p (u ++ rest) t) (ht : t < 2000) :
    ∃ S', XC SK MT (d + 3) 124 [.ref 1] S = some (none, S') ∧ S'.1 1 13 = km.1 ∧ (km.1 = 25 ∨ km.1 = 27 → S'.1 1 15 = km.2) ∧ LX S' (p + u.length) rest (t + 1) ∧ FrL S S' := by
  rcases h with ⟨pre, w, mm, rfl, h1, h2, h3, h4, h5, h6⟩ | ⟨pre, b, rfl, h1, h2, h3, h4, h5⟩ | ⟨pre, rfl, h1, h2⟩ | ⟨v, w, rfl, h1, h2, h3, h4, h5, h6, rfl⟩
  · rw [List.append_assoc] at hL
    obtain ⟨S', a1, a2, a3, a4⟩ := next_word (d := d) hL h1 h2 h3 (hT.known h4) ht
    refine ⟨S', a1, by rw [h5]; exact a2.1, fun z => ?_, by rw [List.length_append, ← Nat.add_assoc]; exact a3, a4⟩
    rcases Nat.lt_or_ge mm 25 with q | q
    · rw [h5, if_pos q] at z; exact absurd z (wd_low mm q)
    · rw [h6 q]; exact a2.2.1
  · rw [List.append_assoc] at hL
    obtain ⟨S', m, a1, a2, a3, a4⟩ := next_sign (d := d) hL h1 h2 h3 ht
    exact ⟨S', a1, by rw [h4]; exact a2.1, fun z => absurd z h5, by rw [List.length_append, ← Nat.add_assoc]; exact a3, a4⟩
  · rw [List.append_assoc] at hL
    obtain ⟨S', m, a1, a2, a3, a4⟩ := next_gives (d := d) hL h1 ht
    exact ⟨S', a1, by rw [h2]; exact a2.1, fun z => absurd z (by rw [h2]; decide), by rw [List.length_append, ← Nat.add_assoc]; exact a3, a4⟩
  · obtain ⟨S', a1, a2, a3, a4⟩ := next_number (d := d) hL h1 h2 h3 h4 h5 h6 ht
    exact ⟨S', a1, a2.1, fun _ => a2.2.1, by rw [List.length_cons, show p + ((nby v w).length + 1) = p + 1 + (nby v w).length by omega]; exact a3, a4⟩
abbrev Itm := List Nat × (Int32 × Int32)
def itB (is : List Itm) : List Nat := is.flatMap (fun i => i.1)
def itT (is : List Itm) : List (Int32 × Int32) := is.map (fun i => i.2)
theorem itB_app {a b : List Itm} : itB (a ++ b) = itB a ++ itB b := List.flatMap_append
theorem itT_app {a b : List Itm} : itT (a ++ b) = itT a ++ itT b := List.map_append
def Its (Sx : xS) : List Itm → List Nat → Prop
  | [], _ => True
  | i :: is, r => It Sx i.1 i.2 (hdI (itB is ++ r)) ∧ Its Sx is r
theorem Its.app {Sx : xS} : ∀ {a b : List Itm} {r : List Nat}, Its Sx a (itB b ++ r) → Its Sx b r → Its Sx (a ++ b) r
  | [], _, _, _, h => h
  | i :: is, b, r, h, h2 => ⟨by show It Sx i.1 i.2 (hdI (itB (is ++ b) ++ r)); rw [itB_app, List.append_assoc]; exact h.1, Its.app h.2 h2⟩
/-- at the end: the table -/
def TbF (Sx : xS) (S : xS) : Prop := Tb Sx S
theorem TbF_st {Sx : xS} : StF (TbF Sx) := fun _ _ h1 h2 => Tb.S h2 h1
theorem Rd_its {Sx : xS} : ∀ (is : List Itm) (S : xS) (p t : Nat) (km : Int32 × Int32), Its Sx is [] → Tb Sx S → LX S p (itB is) t → t + is.length < 2000 → S.1 1 13 = km.1 → (km.1 = 25 ∨ km.1 = 27 → S.1 1 15 = km.2) → Rd (TbF Sx) (km :: itT is) S := by
  intro is
  induction is with
  | nil =>
    intro S p t km _ hT hL ht hk hm
    refine ⟨hk, hm, hL.2.2.1, fun S1 h1 d => ?_⟩
    obtain ⟨S2, a1, a2, a3, a4⟩ := next_end (d := d) (hL.S h1)
    exact ⟨S2, a1, a4.R, a2, a3, (hT.S h1).L a4⟩
  | cons i is ih =>
    intro S p t km hi hT hL ht hk hm
    refine ⟨hk, hm, hL.2.2.1, fun S1 h1 d => ?_⟩
    rw [List.length_cons] at ht
    have hL1 : LX S1 p (i.1 ++ itB is) t := hL.S h1
    have hi1 := hi.1
    rw [List.append_nil] at hi1
    obtain ⟨S2, a1, a2, a3, a4, a5⟩ := hi1.next (d := d) (hT.S h1) hL1 (by omega)
    exact ⟨S2, a1, a5.R, ih S2 _ _ i.2 hi.2 ((hT.S h1).L a5) a4 (by omega) a2 a3⟩
