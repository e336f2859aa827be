/-! Orders run from the code: units. -/
def clL (ad : Int32 → Int32) (n : Nat) (fs : List (Nat × Int32)) : Nat → List Int32 → List Int32
  | _, [] => []
  | j, x :: xs => clu ad n fs j x :: clL ad n fs (j + 1) xs
theorem clL_at {ad : Int32 → Int32} {n : Nat} {fs : List (Nat × Int32)} : ∀ (xs : List Int32) (j i : Nat) (v : Int32), (clL ad n fs j xs)[i]? = some v → ∃ x, xs[i]? = some x ∧ clu ad n fs (j + i) x = v
  | [], _, _, _, h => by cases h
  | x :: xs, j, 0, v, h => ⟨x, rfl, Option.some.inj h⟩
  | x :: xs, j, i + 1, v, h => by
    obtain ⟨y, h1, h2⟩ := clL_at xs (j + 1) i v h
    exact ⟨y, h1, by rw [show j + (i + 1) = j + 1 + i from by omega]; exact h2⟩
/-- a unit of the code -/
def CU (code : Nat → Int32) (ad : Int32 → Int32) (n : Nat) (u : Un) : Prop := ∀ i x, u.1[i]? = some x → code (19840 + (n + i)) = clu ad n u.2 i x
theorem cu_cb {code : Nat → Int32} {ad : Int32 → Int32} {n : Nat} {u : Un} (h : CU code ad n u) : CB code (19840 + n) (clL ad n u.2 0 u.1) := fun i v hv => by
  obtain ⟨x, h1, h2⟩ := clL_at u.1 0 i v hv
  rw [Nat.zero_add] at h2
  rw [← h2, Nat.add_assoc]
  exact h i x h1
/-- units one behind another -/
def CUs (code : Nat → Int32) (ad : Int32 → Int32) : Nat → List Un → Prop
  | _, [] => True
  | n, u :: us => CU code ad n u ∧ CUs code ad (n + u.1.length) us
theorem CUs.app {code : Nat → Int32} {ad : Int32 → Int32} : ∀ {us vs : List Un} {n : Nat}, CUs code ad n (us ++ vs) → CUs code ad n us ∧ CUs code ad (unN us n) vs
  | [], _, _, h => ⟨trivial, h⟩
  | u :: us, vs, n, h => by
    obtain ⟨h1, h2⟩ := h
    obtain ⟨h3, h4⟩ := CUs.app (us := us) h2
    exact ⟨⟨h1, h3⟩, h4⟩
theorem code_all {S0 S : xS} {w : Int32} {v0 v1 : Int} {ls : List Ln} (h : AS S0 S (prA w v0 v1 ls)) (hw : w = 1 ∨ w = 2) : CUs (codeF S (prA w v0 v1 ls)) (adP w v0 v1 ls) (lNh w) (uPr w v0 v1 (ls.map lnD)) := by
  have key : ∀ (U2 U1 : List Un), uPr w v0 v1 (ls.map lnD) = U1 ++ U2 → CUs (codeF S (prA w v0 v1 ls)) (adP w v0 v1 ls) (unN U1 (lNh w)) U2 := by
    intro U2
    induction U2 with
    | nil => intro _ _; trivial
    | cons u U2 ih =>
      intro U1 hu
      refine ⟨fun i x hi => code_unit h hw hu hi, ?_⟩
      have := ih (U1 ++ [u]) (by rw [hu, List.append_assoc]; rfl)
      rw [unN_app] at this
      exact this
  exact key _ [] rfl
theorem clW_jal {L : Nat} {p : Int32} (hL : L < 67108864) : clW (nI L) p wJal = nI (201326592 + L) := ((if_neg (by decide)).trans (if_pos (by decide))).trans (wJal_n hL)
theorem clW_j {L : Nat} {p : Int32} (hL : L < 67108864) : clW (nI L) p wJ = nI (134217728 + L) := (if_pos (by decide)).trans (wJ_n hL)
def ADo (ad : Int32 → Int32) (h : Nat) : Prop := ad 65536 = nI (ePush h) ∧ ad 65544 = nI (eBind h) ∧ ad 65549 = nI (eDivide h) ∧ ad 65550 = nI (eRaise h) ∧ ad 65551 = nI (eOpen h) ∧ ad 65552 = nI (eOpened h) ∧ ad 65561 = nI (eFinish h)
theorem AD_lib {h : Nat} (hh : h = 1 ∨ h = 2) {v0 v1 : Int} {ls : List Ln} (hls : ls.length ≤ 60) : ADo (adP (nI h) v0 v1 ls) h := by
  have hm : (ls.map lnD).length ≤ 60 := by rw [List.length_map]; exact hls
  have k : ∀ (l : Nat) (v : Nat), 65536 ≤ l → l < 100000 → lkL (lLh (nI h)) (nI l) = some v → adP (nI h) v0 v1 ls (nI l) = nI (19840 + v) := fun l v h1 h2 h3 => by
    have z : lkL (prA (nI h) v0 v1 ls).lb (nI l) = some v := (lib_lab (lnD_Xs ls) hm h1 h2).trans h3
    unfold adP adL
    rw [z]
  rcases hh with rfl | rfl
  · exact ⟨k 65536 23 (by decide) (by decide) (by decide +kernel), k 65544 236 (by decide) (by decide) (by decide +kernel), k 65549 350 (by decide) (by decide) (by decide +kernel), k 65550 380 (by decide) (by decide) (by decide +kernel), k 65551 400 (by decide) (by decide) (by decide +kernel), k 65552 413 (by decide) (by decide) (by decide +kernel), k 65561 22 (by decide) (by decide) (by decide +kernel)⟩
  · exact ⟨k 65536 20 (by decide) (by decide) (by decide +kernel), k 65544 202 (by decide) (by decide) (by decide +kernel), k 65549 293 (by decide) (by decide) (by decide +kernel), k 65550 319 (by decide) (by decide) (by decide +kernel), k 65551 334 (by decide) (by decide) (by decide +kernel), k 65552 343 (by decide) (by decide) (by decide +kernel), k 65561 19 (by decide) (by decide) (by decide +kernel)⟩
section
variable {S0 : xS} {code r m : Nat → Int32} {a : Int32} {ws : List Int32} {tr n h : Nat} {ad : Int32 → Int32}
theorem lo_and (s : Int32) : s &&& 65535 = 0 ↔ s.toBitVec.toNat % 65536 = 0 := by
  rw [pk_and s 16 (by decide)]
  constructor
  · intro q
    exact (nI_eq (a := s.toBitVec.toNat % 65536) (b := 0) (by omega) (by decide)).mp q
  · intro q
    rw [show s.toBitVec.toNat % 2 ^ 16 = 0 from q]
    rfl
/-- a number -/
theorem ru_1 (hh : h = 1 ∨ h = 2) (hA : ADo ad h) (hL : CMl (LCh h) code) (hI : RI code a r m ws tr) (hn : ws.length < 900) (h2 : n < 200000) (s : Int32) (hc : CU code ad n (u1 (nI h) s)) : ∃ r' m', RT S0 300 r m (19840 + n) r' m' (19840 + (n + (u1 (nI h) s).1.length)) ∧ RI code a r' m' (ws ++ [s]) tr ∧ ∀ j, j < 5632 → m' j = m j := by
  have a1 := hA.1
  have hb := cu_cb hc
  by_cases h1 : s < (-32768) ∨ 32767 < s
  · by_cases h3 : s &&& 65535 = 0
    · rcases hh with rfl | rfl
      · have e : u1 (nI 1) s = ([wLui 4 s, wJal, 0], [(1, 65536)]) := (if_pos h1).trans ((if_pos h3).trans (if_pos rfl))
        rw [e] at hb ⊢
        have hb : CB code (19840 + n) [wLui 4 s, clW (ad 65536) (nI (19840 + (n + 1))) wJal, 0] := hb
        rw [a1, clW_jal (by decide)] at hb
        exact ox1z_1 hL hI hn (by omega) (by omega) ((lo_and s).mp h3) hb
      · have e : u1 (nI 2) s = ([wJal, wLui 4 s], [(0, 65536)]) := (if_pos h1).trans ((if_pos h3).trans (if_neg (by decide)))
        rw [e] at hb ⊢
        have hb : CB code (19840 + n) [clW (ad 65536) (nI (19840 + (n + 0))) wJal, wLui 4 s] := hb
        rw [a1, clW_jal (by decide)] at hb
        exact ox1z_2 hL hI hn (by omega) (by omega) ((lo_and s).mp h3) hb
    · rcases hh with rfl | rfl
      · have e : u1 (nI 1) s = ([wLui 4 s, wOri 4 s, wJal, 0], [(2, 65536)]) := (if_pos h1).trans ((if_neg h3).trans (if_pos rfl))
        rw [e] at hb ⊢
        have hb : CB code (19840 + n) [wLui 4 s, wOri 4 s, clW (ad 65536) (nI (19840 + (n + 2))) wJal, 0] := hb
        rw [a1, clW_jal (by decide)] at hb
        exact ox1l_1 hL hI hn (by omega) (by omega) (fun q => h3 ((lo_and s).mpr q)) hb
      · have e : u1 (nI 2) s = ([wLui 4 s, wJal, wOri 4 s], [(1, 65536)]) := (if_pos h1).trans ((if_neg h3).trans (if_neg (by decide)))
        rw [e] at hb ⊢
        have hb : CB code (19840 + n) [wLui 4 s, clW (ad 65536) (nI (19840 + (n + 1))) wJal, wOri 4 s] := hb
        rw [a1, clW_jal (by decide)] at hb
        exact ox1l_2 hL hI hn (by omega) (by omega) (fun q => h3 ((lo_and s).mpr q)) hb
  · have h1a : ¬ s < (-32768) := fun q => h1 (Or.inl q)
    have h1b : ¬ 32767 < s := fun q => h1 (Or.inr q)
    rcases hh with rfl | rfl
    · have e : u1 (nI 1) s = ([wSet 4 s, wJal, 0], [(1, 65536)]) := (if_neg h1).trans (if_pos rfl)
      rw [e] at hb ⊢
      have hb : CB code (19840 + n) [wSet 4 s, clW (ad 65536) (nI (19840 + (n + 1))) wJal, 0] := hb
      rw [a1, clW_jal (by decide)] at hb
      exact ox1s_1 hL hI hn (by omega) (by omega) h1a h1b hb
    · have e : u1 (nI 2) s = ([wJal, wSet 4 s], [(0, 65536)]) := (if_neg h1).trans (if_neg (by decide))
      rw [e] at hb ⊢
      have hb : CB code (19840 + n) [clW (ad 65536) (nI (19840 + (n + 0))) wJal, wSet 4 s] := hb
      rw [a1, clW_jal (by decide)] at hb
      exact ox1s_2 hL hI hn (by omega) (by omega) h1a h1b hb
/-- a place -/
theorem ru_3 (hh : h = 1 ∨ h = 2) (hA : ADo ad h) (hL : CMl (LCh h) code) (hI : RI code a r m ws tr) (hn : ws.length < 900) (h2 : n < 200000) {p : Nat} {v : Int32} (hp : ws[p]? = some v) (hc : CU code ad n (u3 (nI h) p)) : ∃ r' m', RT S0 300 r m (19840 + n) r' m' (19840 + (n + (u3 (nI h) p).1.length)) ∧ RI code a r' m' (ws ++ [v]) tr ∧ ∀ j, j < 5632 → m' j = m j := by
  have a1 := hA.1
  have hb := cu_cb hc
  have hpl : p < 1000 := by have := (List.getElem?_eq_some_iff.mp hp).1; omega
  rcases hh with rfl | rfl
  · have e : u3 (nI 1) p = ([wLw 4 (nI p * 4) 17, 0, wJal, 0], [(2, 65536)]) := if_pos rfl
    rw [e] at hb ⊢
    have hb : CB code (19840 + n) [wLw 4 (nI p * 4) 17, 0, clW (ad 65536) (nI (19840 + (n + 2))) wJal, 0] := hb
    rw [a1, clW_jal (by decide)] at hb
    exact ox3_1 hL hI hn (by omega) (by omega) hp hpl hb
  · have e : u3 (nI 2) p = ([wLw 4 (nI p * 4) 17, wJal, 0], [(1, 65536)]) := if_neg (by decide)
    rw [e] at hb ⊢
    have hb : CB code (19840 + n) [wLw 4 (nI p * 4) 17, clW (ad 65536) (nI (19840 + (n + 1))) wJal, 0] := hb
    rw [a1, clW_jal (by decide)] at hb
    exact ox3_2 hL hI hn (by omega) (by omega) hp hpl hb
end
