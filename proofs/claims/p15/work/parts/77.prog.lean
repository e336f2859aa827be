/-! Parser: the program. -/
theorem Kat.of {S S1 : xS} {w : List Nat} {m hN a : Nat} (h : Kat S w m hN a) (hf : ∀ a, 16 ≤ a → a ≤ 21 → S1.1 a = S.1 a) : Kat S1 w m hN a := by
  obtain ⟨a1, a2, a3, a4, a5, a6, a7, a8⟩ := h
  exact ⟨a1, a2, by rw [hf _ (by decide) (by decide)]; exact a3, a4, by rw [hf _ (by decide) (by decide)]; exact a5, a6, by rw [hf _ (by decide) (by decide)]; exact a7, fun j b hj => by rw [hf _ (by decide) (by decide)]; exact a8 j b hj⟩
/-- the table of names as the constructor leaves it -/
def KnC (S : xS) : Prop := Kat S [118, 97, 108] 23 289 89 ∧ Kat S [105, 110] 14 293 58 ∧ Kat S [100, 105, 118] 5 145 24 ∧ Kat S [109, 111, 100] 16 258 63 ∧ Kat S [104, 97, 110, 100, 108, 101] 12 40 50 ∧ Kat S [68, 105, 118] 37 113 144 ∧ Kat S [105, 110, 116] 25 495 97 ∧ S.1 20 120 = -1 ∧ S.1 20 121 = -1 ∧ S.1 1 9 = nI 194 ∧ Hd S
theorem paS_row {S : xS} {a : Nat} (h : ¬ a = 2) : (paS S).1 a = S.1 a := by
  unfold paS
  rw [xsR h, xsR h, xsR h, xsR h, xsR h]
theorem bg_row {S : xS} {z : Int32} {a : Nat} (h : ¬ a = 1) (h2 : ¬ a = 2) : (opS (paS S) z).1 a = S.1 a := by rw [opS_row h, paS_row h2]
theorem KnC.b {S : xS} {z : Int32} (h : KnC S) : KnB (opS (paS S) z) := by
  obtain ⟨a1, a2, a3, a4, a5, a6, a7, a8, a9, a10, a11⟩ := h
  have hf : ∀ a, 16 ≤ a → a ≤ 21 → (opS (paS S) z).1 a = S.1 a := fun a q1 q2 => bg_row (by omega) (by omega)
  exact ⟨a1.of hf, a2.of hf, a3.of hf, a4.of hf, a5.of hf, a6.of hf, by rw [hf _ (by decide) (by decide)]; exact a8, by rw [hf _ (by decide) (by decide)]; exact a9, opS_names, by rw [opS_pool]; exact a10⟩
/-- what the parser has changed: the lexer's, its own -/
def FrZ (S S1 : xS) : Prop := S1.2 = S.2 ∧ ∀ a, ¬ lxC a → ¬ paC a → ¬ a = 27 → ¬ a = 28 → S1.1 a = S.1 a
theorem lnD_ok (l : Ln) : exOk (lnD l).2 := by
  obtain ⟨a, h, o, b⟩ := l
  have hl : (laI o).2.1 = 25 ∨ (laI o).2.1 = 27 := by
    cases o with
    | none => exact Or.inl rfl
    | some v => exact Or.inr rfl
  have k42 : kOp 42 := Or.inr (Or.inl rfl)
  have k43 : kOp 43 := Or.inr (Or.inr rfl)
  have k5 : kOp 5 := Or.inl (Or.inl rfl)
  have k16 : kOp 16 := Or.inl (Or.inr (Or.inl rfl))
  have k41 : kOp 41 := Or.inl (Or.inr (Or.inr rfl))
  have s1 : kStr 43 ≤ kStr 42 := by decide
  have s2 : kStr 42 ≤ kStr 41 := by decide
  have s3 : kStr 43 ≤ kStr 43 := by decide
  show boOk _
  refine ⟨Or.inl rfl, ?_, ?_⟩
  · match h with
    | 0 => exact ⟨k42, hl, trivial⟩
    | 1 => exact ⟨k43, hl, trivial⟩
    | 2 => exact ⟨k41, hl, trivial⟩
    | 3 => exact ⟨k5, hl, trivial⟩
    | 4 => exact ⟨k16, hl, trivial⟩
    | 5 => exact ⟨k42, Or.inl rfl, k43, s1, hl, trivial⟩
    | 6 => exact ⟨k41, Or.inl rfl, k42, s2, hl, trivial⟩
    | n + 7 => exact ⟨k43, Or.inl rfl, k43, s3, Or.inl rfl, k43, s3, hl, trivial⟩
  · match h with
    | 0 => exact (show 1 ≤ 3 by decide)
    | 1 => exact (show 1 ≤ 3 by decide)
    | 2 => exact (show 1 ≤ 3 by decide)
    | 3 => exact (show 1 ≤ 3 by decide)
    | 4 => exact (show 1 ≤ 3 by decide)
    | 5 => exact (show 2 ≤ 3 by decide)
    | 6 => exact (show 2 ≤ 3 by decide)
    | n + 7 => exact (show 3 ≤ 3 by decide)
theorem prC_ok {v0 v1 : Int} {ls : List Ln} : ∀ c ∈ prC v0 v1 ls, exOk c.2 := by
  intro c hc
  rcases List.mem_cons.mp hc with rfl | hc
  · exact Or.inr rfl
  rcases List.mem_cons.mp hc with rfl | hc
  · exact Or.inr rfl
  obtain ⟨l, -, rfl⟩ := List.mem_map.mp hc
  exact lnD_ok l
theorem s_prog {d : Nat} {S : xS} {v0 v1 : Int} {ls : List Ln} (hK : KnC S) (h0 : inR v0) (h1 : inR v1) (hl : ∀ l ∈ ls, lnOk l) (hn : ls.length ≤ 90) (hb : ∀ j b, (prB v0 v1 ls)[j]? = some b → S.1 13 j = nI b ∧ b < 128) (hz : (prB v0 v1 ls).length ≤ 8192) :
    ∃ S2, XC SK MT (d + 17) 182 [.ref 2, .int (nI (prB v0 v1 ls).length)] S = some (some (.int 1), S2) ∧ MK S2 (prM (prC v0 v1 ls) 51) ∧ FrZ S S2 ∧ S2.1 1 16 = 0 ∧ Tb (S2x (opS (paS S) (nI (prB v0 v1 ls).length))) S2 := by
  have hH : Hd (paS S) := hK.2.2.2.2.2.2.2.2.2.2
  have hb2 : ∀ j b, (prB v0 v1 ls)[j]? = some b → (paS S).1 13 j = nI b ∧ b < 128 := hb
  have hL := opS_LX (S := paS S) hb2 hz
  obtain ⟨S1, a1, a2, a3⟩ := rd_prog (Sx := opS (paS S) (nI (prB v0 v1 ls).length)) hK.b h0 h1 hl hn ⟨fun _ _ _ _ => rfl, fun _ _ => rfl⟩ hL (d + 13)
  have hpa : S1.1 2 = (paS S).1 2 := by rw [a2.2 _ (by unfold lxC; decide), opS_row (by decide)]
  have hPS : PS (TbF (S2x (opS (paS S) (nI (prB v0 v1 ls).length)))) S1 (prT (prC v0 v1 ls) 51) [] 0 := ⟨a3, ⟨by rw [hpa]; rfl, fun i m q => by cases q⟩, by rw [hpa]; rfl⟩
  obtain ⟨S2, b1, b2, b3, b4⟩ := s_parse (d := d) TbF_st (s_open hH) a1 (by show S1.1 _ _ = _; rw [hpa]; rfl) hPS (by unfold prC; rw [List.length_cons, List.length_cons, List.length_map]; omega) prC_ok
  refine ⟨S2, b1, b3, ⟨b4.1.trans a2.1, fun a q1 q2 q3 q4 => ?_⟩, b2.2.1, b2.2.2⟩
  rw [b4.2.1 a q1 q2 q3 q4, a2.2 a q1, bg_row (fun z => q1 (Or.inl z)) (fun z => q2 (Or.inl z))]
