/-! The Lexer's table of names, as reading asks for it. -/
/-- the known names -/
def L51 : List (List Nat) := (kSt 245).1
/-- the Lexer's cells among all -/
def Emb (S0 S : xS) : Prop := S0.1 16 = S.1 1 ∧ S0.1 18 = S.1 3 ∧ S0.1 19 = S.1 4 ∧ S0.1 20 = S.1 5 ∧ S0.1 1 7 = S.1 0 7 ∧ S0.1 1 8 = S.1 0 8 ∧ S0.1 1 9 = S.1 0 8
theorem Kat_of {S0 S : xS} {w : List Nat} {m hN a : Nat} (hE : Emb S0 S) (hT : NmT S L51) (hw : L51.getD m [] = w) (hm : m < L51.length) (hh : hsN w = hN) (hd : hdU L51 hN L51.length = some m) (ha : (L51.take m).flatten.length = a) (hz : a + w.length ≤ 12288) (hl : L51.length ≤ 2000) : Kat S0 w m hN a := by
  obtain ⟨e1, e2, e3, e4, -, -, -⟩ := hE
  obtain ⟨b1, b2, b3, b4, b5⟩ := hT
  obtain ⟨c1, c2, c3⟩ := b4 m hm
  obtain ⟨g1, g2⟩ := hsN_eq w
  subst hw hh ha
  refine ⟨g1, g2, ?_, by omega, ?_, hz, ?_, fun j b hj => ?_⟩
  · show S0.1 20 _ = _
    rw [e4, b5 _ g2, hd]; rfl
  · show S0.1 18 _ = _
    rw [e2]; exact c1
  · show S0.1 19 _ = _
    rw [e3]; exact c2
  · show S0.1 16 _ = _
    rw [e1]; exact (b3 _ _ (flat_at hj)).1
theorem L51_len : L51.length = 51 := by decide +kernel
theorem L51_fl : L51.flatten.length = 194 := by decide +kernel
theorem KnC_of {S0 S : xS} (hE : Emb S0 S) (hT : NmT S L51) : KnC S0 := by
  have hl : L51.length ≤ 2000 := by rw [L51_len]; decide
  refine ⟨Kat_of hE hT (by decide +kernel) (by decide +kernel) (by decide +kernel) (by decide +kernel) (by decide +kernel) (by decide) hl, Kat_of hE hT (by decide +kernel) (by decide +kernel) (by decide +kernel) (by decide +kernel) (by decide +kernel) (by decide) hl, Kat_of hE hT (by decide +kernel) (by decide +kernel) (by decide +kernel) (by decide +kernel) (by decide +kernel) (by decide) hl, Kat_of hE hT (by decide +kernel) (by decide +kernel) (by decide +kernel) (by decide +kernel) (by decide +kernel) (by decide) hl, Kat_of hE hT (by decide +kernel) (by decide +kernel) (by decide +kernel) (by decide +kernel) (by decide +kernel) (by decide) hl, Kat_of hE hT (by decide +kernel) (by decide +kernel) (by decide +kernel) (by decide +kernel) (by decide +kernel) (by decide) hl, Kat_of hE hT (by decide +kernel) (by decide +kernel) (by decide +kernel) (by decide +kernel) (by decide +kernel) (by decide) hl, ?_, ?_, ?_, fun k hk => ?_⟩
  · show S0.1 20 120 = -1
    rw [hE.2.2.2.1, hT.2.2.2.2 120 (by decide), show hdU L51 120 L51.length = none by decide +kernel]; rfl
  · show S0.1 20 121 = -1
    rw [hE.2.2.2.1, hT.2.2.2.2 121 (by decide), show hdU L51 121 L51.length = none by decide +kernel]; rfl
  · show S0.1 1 9 = nI 194
    rw [hE.2.2.2.2.2.2, hT.2.1, L51_fl]
  · show S0.1 20 k < 51
    rw [hE.2.2.2.1, hT.2.2.2.2 k hk]
    cases hq : hdU L51 k L51.length with
    | none => exact (by decide : (-1 : Int32) < 51)
    | some q =>
      have h1 := hdU_lt _ _ hq
      rw [L51_len] at h1
      exact nI_lt (b := 51) h1 (by decide)
