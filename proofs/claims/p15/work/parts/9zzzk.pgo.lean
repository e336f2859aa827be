/-! Processor: go, for a program. -/
set_option maxHeartbeats 4000000 in
theorem s_pgo {S : xS} {code : Nat → Int32} {a b : Int32} {h d : Nat} {v0 v1 : Int} {ls : List Ln} (hh : h = 1 ∨ h = 2) (hls : ls.length ≤ 60) (hD : CD code (S.1 14)) (hL : CMl (LCh h) code) (hc : CUs code (adP (nI h) v0 v1 ls) (lNh (nI h)) (uPr (nI h) v0 v1 (ls.map lnD))) :
    (∀ u, evL (wd v0) (wd v1) (ls.map lnD) = some u → ∃ S1, XC SK MT (d + 4) 225 [.ref 11, .int a, .int b, .ref 15] S = some (some (.int 0), S1) ∧ CN S1 u.1 ∧ FrPr S S1) ∧
    (evL (wd v0) (wd v1) (ls.map lnD) = none → ∃ S1, XC SK MT (d + 4) 225 [.ref 11, .int a, .int b, .ref 15] S = some (some (.int 1), S1) ∧ CN S1 26 ∧ FrPr S S1) := by
  obtain ⟨S', r0, hP, hz, hg⟩ := go_beg (S := S) (a := a) (b := b)
  have hD' : CD code (upd (upd (S.1 14) 274 (b * 4)) 278 a) := (hD.upd (by decide)).upd (by decide)
  have st : ∃ r' m', RT S 40 r0 (upd (upd (S.1 14) 274 (b * 4)) 278 a) 19840 r' m' (19840 + lNh (nI h)) ∧ RI code a r' m' [] 0 := by
    rcases hh with rfl | rfl
    · exact rt_start1 hL hD' hz pk_us
    · exact rt_start2 hL hD' hz pk_us
  obtain ⟨r1, m1, y1, k1⟩ := st
  obtain ⟨p1, p2⟩ := sm_prog (S0 := S) hh hls hL k1 hc
  have e12 : code (eFinish h) = 12 := by
    rcases hh with rfl | rfl
    · exact hL 22 12 (by decide +kernel)
    · exact hL 19 12 (by decide +kernel)
  have eF : 19840 ≤ eFinish h ∧ eFinish h < 281984 := by rcases hh with rfl | rfl <;> decide
  have fin : ∀ (r2 m2 : Nat → Int32) (ws : List Int32) (e v : Int32), RT S 400000 r1 m1 (19840 + lNh (nI h)) r2 m2 (eFinish h) → RI code a r2 m2 ws 0 → r2 2 = e → r2 3 = v → ∃ S1, XC SK MT (d + 4) 225 [.ref 11, .int a, .int b, .ref 15] S = some (some (.int e), S1) ∧ CN S1 v ∧ FrPr S S1 := by
    intro r2 m2 ws e v y2 k2 g2 g3
    obtain ⟨k, h1, l1, w1, hk, x⟩ := (y1.trans y2) (S.1 11 5) (S.1 11 6) (S.1 11 8)
    obtain ⟨S2, hP2, hr⟩ := x d 0 a b S' (by omega) hP
    obtain ⟨i1, i2, i3, i4, i5, i6, i7, i8, i9, i10, i11⟩ := k2
    obtain ⟨S3, q1, q2, q3⟩ := go_end (d := d) (n := 0 + k) (a := a) (b := b) hP2 (by omega) eF.2 ((i1 _ eF.1).trans e12) i8 i7 i9 i10
    rw [g2] at q1
    rw [g3] at q2
    refine ⟨S3, ?_, q2, q3⟩
    rw [XC_iff]
    exact ⟨Nat.le_of_ble_eq_true rfl, hg d _ (hr _ q1)⟩
  refine ⟨fun u hu => ?_, fun hu => ?_⟩
  · obtain ⟨r2, m2, ws, y2, k2, g2, g3⟩ := p1 u hu
    exact fin r2 m2 ws 0 u.1 y2 k2 g2 g3
  · obtain ⟨r2, m2, ws, y2, k2, g2, g3⟩ := p2 hu
    exact fin r2 m2 ws 1 26 y2 k2 g2 g3
