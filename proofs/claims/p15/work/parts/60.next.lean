/-! Lexer: the next token, blanks ahead of it and all. -/
def Pre (l : List Nat) : Prop := l = [] ∨ l = [32] ∨ l = [10]
/-- what stays but in the lexer and its scratch row -/
def Fr1 (S S' : xS) : Prop := S'.2 = S.2 ∧ (∀ a, ¬ a = 1 → S'.1 a = S.1 a) ∧ ∀ q, q < 11 → S'.1 1 q = S.1 1 q
theorem hd_peek {S : xS} {p : Nat} {u : List Nat} (h : TX S p u) : lpk (S.1 1 10) (S.1 13) (nI p) = hdI u := TX_next (w := []) h
theorem hd_peek2 {S : xS} {p b : Nat} {u : List Nat} (h : TX S p (b :: u)) : lpk (S.1 1 10) (S.1 13) (nI (p + 1)) = hdI u := TX_next (w := [b]) h
theorem skip_any {d : Nat} {S : xS} {p t b : Nat} {pre u : List Nat} (h : LX S p (pre ++ b :: u) t) (hp : Pre pre) (hs : Stop (nI b) (hdI u)) :
    ∃ S1, XC SK MT (d + 2) 125 [.ref 1] S = some (none, S1) ∧ LX S1 (p + pre.length) (b :: u) t ∧ Fr1 S S1 ∧ (pre = [32] → lpk (S1.1 1 10) (S1.1 13) (nI p) = 32) := by
  obtain ⟨hT, hh, h1, h2⟩ := h
  rcases hp with rfl | hp
  · exact ⟨S, skip_0 hh (hd_peek (u := b :: u) hT) (hd_peek2 (u := u) hT) hs, ⟨hT, hh, h1, h2⟩, ⟨rfl, fun _ _ => rfl, fun _ _ => rfl⟩, fun z => by cases z⟩
  · obtain ⟨z, rfl, hz⟩ : ∃ z, pre = [z] ∧ (nI z = 32 ∨ nI z = 10) := by
      rcases hp with rfl | rfl
      · exact ⟨32, rfl, Or.inl rfl⟩
      · exact ⟨10, rfl, Or.inr rfl⟩
    have hT1 : TX S (p + 1) (b :: u) := TX.tail (as := [z]) hT
    have e0 : lpk (S.1 1 10) (S.1 13) (nI p) = nI z := hd_peek (u := z :: b :: u) hT
    refine ⟨xsetI S 1 11 (nI (p + 1)), skip_1 hh hz e0 (hd_peek (u := b :: u) hT1) (hd_peek2 (u := u) hT1) hs, ⟨hT1.of (xsR (by decide)) (by rw [xsI, if_neg (by decide)]), by rw [xsI, if_pos ⟨rfl, rfl⟩]; rfl, by rw [xsI, if_neg (by decide)]; exact h1, by rw [xsI, if_neg (by decide)]; exact h2⟩, ⟨rfl, fun a ha => xsR ha, fun q hq => by rw [xsI, if_neg (by omega)]⟩, fun hz2 => ?_⟩
    rw [xsI, if_neg (by decide), xsR (by decide), e0]
    obtain rfl : z = 32 := by simpa using hz2
    rfl
theorem let_facts : ∀ b, b < 128 → (lLetter (nI b) = true → (¬ nI b = 9 ∧ ¬ nI b = 10 ∧ ¬ nI b = 32 ∧ ¬ nI b = 40)) := by decide +kernel
theorem Fr1.L {S S1 S' : xS} (h1 : Fr1 S S1) (h2 : FrL S1 S') : FrL S S' := ⟨by rw [h2.1, h1.1], fun a ha hb => by rw [h2.2.1 a ha hb, h1.2.1 a ha], fun q hq => by rw [h2.2.2 q hq, h1.2.2 q hq]⟩
theorem next_word {d : Nat} {S : xS} {p t m : Nat} {pre w rest : List Nat} (h : LX S p (pre ++ (w ++ rest)) t) (hp : Pre pre) (hw : isName w) (hc : lPart (hdI rest) = false) (hk : Known S w m) (ht : t < 2000) :
    ∃ S', XC SK MT (d + 3) 124 [.ref 1] S = some (none, S') ∧ Tok S' (if m < 25 then nI m else 25) (nI m) (p + pre.length) ∧ LX S' (p + pre.length + w.length) rest (t + 1) ∧ FrL S S' := by
  obtain ⟨b, hb0, hb1⟩ := hw.2.1
  obtain ⟨w', rfl⟩ : ∃ w', w = b :: w' := by
    cases w with
    | nil => cases hb0
    | cons x w' => obtain rfl : x = b := Option.some.inj hb0; exact ⟨w', rfl⟩
  have h128 : b < 128 := (h.1.1 pre.length b (by rw [List.getElem?_append_right (Nat.le_refl _), Nat.sub_self]; rfl)).2
  obtain ⟨a1, a2, a3, a4⟩ := let_facts b h128 hb1
  obtain ⟨S1, hs, hl, hf, -⟩ := skip_any (d := d) h hp ⟨a1, a2, a3, fun z => a4 z.1⟩
  obtain ⟨S', g1, g2, g3, g4⟩ := step_word hs h.2.2.1 hl hw hc (hk.of (fun a ha _ => hf.2.1 a ha)) ht
  exact ⟨S', g1, g2, g3, hf.L g4⟩
theorem next_sign {d : Nat} {S : xS} {p t b : Nat} {pre rest : List Nat} (h : LX S p (pre ++ (b :: rest)) t) (hp : Pre pre) (hb : lone b (hdI rest)) (h42 : ¬ hdI rest = 42) (ht : t < 2000) :
    ∃ S' m, XC SK MT (d + 3) 124 [.ref 1] S = some (none, S') ∧ Tok S' (sgk b) m (p + pre.length) ∧ LX S' (p + pre.length + 1) rest (t + 1) ∧ FrL S S' := by
  obtain ⟨g0, g1, g2, g3, g4, g5, g6, g7, g8, -⟩ := lone_facts hb
  obtain ⟨S1, hs, hl, hf, -⟩ := skip_any (d := d) h hp ⟨g6, g7, g8, fun z => h42 z.2⟩
  obtain ⟨S', m, g1, g2, g3, g4⟩ := step_sign hs h.2.2.1 hl hb ht
  exact ⟨S', m, g1, g2, g3, hf.L g4⟩
theorem next_gives {d : Nat} {S : xS} {p t : Nat} {pre rest : List Nat} (h : LX S p (pre ++ (61 :: 62 :: rest)) t) (hp : Pre pre) (ht : t < 2000) :
    ∃ S' m, XC SK MT (d + 3) 124 [.ref 1] S = some (none, S') ∧ Tok S' 39 m (p + pre.length) ∧ LX S' (p + pre.length + 2) rest (t + 1) ∧ FrL S S' := by
  obtain ⟨S1, hs, hl, hf, -⟩ := skip_any (d := d) h hp ⟨by decide, by decide, by decide, fun z => absurd z.1 (by decide)⟩
  obtain ⟨S', m, g1, g2, g3, g4⟩ := step_gives hs h.2.2.1 hl ht
  exact ⟨S', m, g1, g2, g3, hf.L g4⟩
/-- the bytes of a number -/
def nby (v : Int) (w : List Nat) : List Nat := if v < 0 then 126 :: w else w
theorem next_number {d : Nat} {S : xS} {p t : Nat} {v : Int} {w rest : List Nat} (h : LX S p (32 :: (nby v w ++ rest)) t) (hw : ∀ b ∈ w, isDig b) (h0 : 0 < w.length) (hc : lPart (hdI rest) = false) (hl : w.length ≤ 200) (hv : dv w = v.natAbs) (hr : -2 ^ 30 ≤ v ∧ v < 2 ^ 30) (ht : t < 2000) :
    ∃ S', XC SK MT (d + 3) 124 [.ref 1] S = some (none, S') ∧ Tok S' 27 (Int32.ofInt v) (p + 1) ∧ LX S' (p + 1 + (nby v w).length) rest (t + 1) ∧ FrL S S' := by
  by_cases hn : v < 0
  · have e : nby v w = 126 :: w := if_pos hn
    rw [e] at h ⊢
    have h9 : LX S p ([32] ++ 126 :: (w ++ rest)) t := h
    obtain ⟨S1, hs, hl1, hf, hz⟩ := skip_any (d := d) h9 (Or.inr (Or.inl rfl)) ⟨by decide, by decide, by decide, fun z => absurd z.1 (by decide)⟩
    obtain ⟨S', g1, g2, g3, g4⟩ := step_numberN (z := 32) hs h.2.2.1 hl1 (hz rfl) (by decide) (by decide) hw h0 hc hl (by omega) ht
    refine ⟨S', g1, ?_, ?_, hf.L g4⟩
    · rw [hv] at g2
      have e9 : (-(lN v.natAbs)).toInt32 = Int32.ofInt v := by
        have e7 : -(lN v.natAbs) = Int64.ofInt v := by
          have e6 : v = -((v.natAbs : Nat) : Int) := by omega
          have e5 : lN v.natAbs = Int64.ofInt ((v.natAbs : Nat) : Int) := (Int64.ofInt_eq_ofNat).symm
          rw [e5, ← Int64.ofInt_neg, ← e6]
        rw [e7]
        apply Int32.toInt.inj
        rw [Int64.toInt_toInt32, Int64.toInt_ofInt_of_le (by omega) (by omega), Int32.toInt_ofInt_of_le (by omega) (by omega)]
        exact Int.bmod_eq_of_le (by omega) (by omega)
      rw [← e9]; exact g2
    · rw [List.length_cons, show p + 1 + (w.length + 1) = p + 1 + 1 + w.length by omega]; exact g3
  · have e : nby v w = w := if_neg hn
    rw [e] at h ⊢
    obtain ⟨b, w', rfl⟩ : ∃ b w', w = b :: w' := by
      cases w with
      | nil => cases h0
      | cons x w' => exact ⟨x, w', rfl⟩
    have hd := hw b List.mem_cons_self
    have h9 : LX S p ([32] ++ b :: (w' ++ rest)) t := h
    have h128 : b < 128 := (h9.1.1 1 b rfl).2
    obtain ⟨-, -, a1, a2, a3, a4⟩ := dig_facts b h128 hd.1 hd.2
    obtain ⟨S1, hs, hl1, hf, hz⟩ := skip_any (d := d) h9 (Or.inr (Or.inl rfl)) ⟨a1, a2, a3, fun z => a4 z.1⟩
    obtain ⟨S', g1, g2, g3, g4⟩ := step_number (w := b :: w') hs h.2.2.1 hl1 hw h0 hc hl (by omega) ht
    refine ⟨S', g1, ?_, g3, hf.L g4⟩
    rw [hv] at g2
    have e9 : nI v.natAbs = Int32.ofInt v := by
      have e6 : v = ((v.natAbs : Nat) : Int) := by omega
      have e5 : nI v.natAbs = Int32.ofInt ((v.natAbs : Nat) : Int) := (Int32.ofInt_eq_ofNat).symm
      rw [e5, ← e6]
    rw [← e9]; exact g2
