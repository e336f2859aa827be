/-! Compile, then go: what the one leaves is what the other takes. -/
theorem s_cg {S : xS} {h d : Nat} {v0 v1 : Int} {ls : List Ln} (hh : h = 1 ∨ h = 2) (hls : ls.length ≤ 60) (hc : CO S (prO v0 v1 ls)) : ∃ S2 code, XC SK MT (d + 7) 104 [.ref 8, .int (nI h)] S = some (none, S2) ∧ CD code (S2.1 14) ∧ CMl (LCh h) code ∧ CUs code (adP (nI h) v0 v1 ls) (lNh (nI h)) (uPr (nI h) v0 v1 (ls.map lnD)) ∧ S2.2 = S.2 ∧ ∀ c, ¬ c = 9 → ¬ c = 62 → ¬ c = 63 → ¬ c = 64 → ¬ c = 65 → ¬ c = 14 → S2.1 c = S.1 c := by
  have hw : nI h = 1 ∨ nI h = 2 := by rcases hh with rfl | rfl; exact Or.inl rfl; exact Or.inr rfl
  obtain ⟨S', e, hA⟩ := cp_prog (d := d) (S := S) (v0 := v0) (v1 := v1) (ls := ls) hw hls hc
  refine ⟨_, codeF S' (prA (nI h) v0 v1 ls), e, fun j hj => ?_, code_lib hh hA hls, code_all hA hw, ?_, fun c c1 c2 c3 c4 c5 c6 => ?_⟩
  · rw [memS_at, if_pos ⟨rfl, hj⟩]
    rfl
  · show S'.2 = S.2
    exact hA.f2
  · funext j
    rw [memS_at, if_neg (fun q => c6 q.1), hA.fr c j c1 c3 c4 c5 c6]
    show (if c = 62 then _ else S.1 c j) = S.1 c j
    exact if_neg c2
