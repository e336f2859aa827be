/-! Orders run from the code: a program. -/
theorem lnD_R (ls : List Ln) : ∀ c ∈ ls.map lnD, ExL c.2 ∧ ExR c.2 := fun c hc => by
  refine ⟨lnD_Xs ls c hc, ?_⟩
  obtain ⟨l, _, rfl⟩ := List.mem_map.mp hc
  exact trivial
set_option maxHeartbeats 4000000 in
theorem sm_prog {S0 : xS} {code r m : Nat → Int32} {a : Int32} {h : Nat} {v0 v1 : Int} {ls : List Ln} (hh : h = 1 ∨ h = 2) (hls : ls.length ≤ 60) (hL : CMl (LCh h) code) (hI : RI code a r m [] 0) (hc : CUs code (adP (nI h) v0 v1 ls) (lNh (nI h)) (uPr (nI h) v0 v1 (ls.map lnD))) :
    (∀ u, evL (wd v0) (wd v1) (ls.map lnD) = some u → ∃ r' m' ws', RT S0 400000 r m (19840 + lNh (nI h)) r' m' (eFinish h) ∧ RI code a r' m' ws' 0 ∧ r' 2 = 0 ∧ r' 3 = u.1) ∧
    (evL (wd v0) (wd v1) (ls.map lnD) = none → ∃ r' m' ws', RT S0 400000 r m (19840 + lNh (nI h)) r' m' (eFinish h) ∧ RI code a r' m' ws' 0 ∧ r' 2 = 1 ∧ r' 3 = 26) := by
  have hA := AD_lib (v0 := v0) (v1 := v1) (ls := ls) hh hls
  have hw : nI h = 1 ∨ nI h = 2 := by rcases hh with rfl | rfl; exact Or.inl rfl; exact Or.inr rfl
  have hAL := AL_prog (v0 := v0) (v1 := v1) (ls := ls) hw hls
  have hm : (ls.map lnD).length ≤ 60 := by rw [List.length_map]; exact hls
  have h3 : lNh (nI h) ≤ 674 := by rcases hh with rfl | rfl <;> decide
  generalize adP (nI h) v0 v1 ls = ad at hA hAL hc
  obtain ⟨hcA, hcB⟩ := CUs.app hc
  obtain ⟨hc01, hc23⟩ := CUs.app hcA
  obtain ⟨hc0, hc1⟩ := CUs.app hc01
  obtain ⟨hc2, hc3⟩ := CUs.app hc23
  obtain ⟨hc4, hc56⟩ := CUs.app hcB
  obtain ⟨hc5, hc6⟩ := CUs.app hc56
  have b0 : unN [uAt (nI h) 0 0 (27, Int32.ofInt v0)] (lNh (nI h)) ≤ lNh (nI h) + 11 := unN_le _ _ (gU_1 g_at)
  obtain ⟨r1, m1, y1, k1, _⟩ := ru_num (S0 := S0) hh hA hL hI (by decide) (by omega) (q := (27, Int32.ofInt v0)) rfl hc0.1
  obtain ⟨r2, m2, y2, k2⟩ := sm_end (S0 := S0) (ws := []) (v := wd v0) hh hA hL (by decide) k1 (by omega) hc1
  have b1 := unN_le ([uAt (nI h) 0 0 (27, Int32.ofInt v0)] ++ [u25 0, u30, u31 (nI h)]) (lNh (nI h)) ((gU_1 g_at).app g_H3)
  have b1 : unN ([uAt (nI h) 0 0 (27, Int32.ofInt v0)] ++ [u25 0, u30, u31 (nI h)]) (lNh (nI h)) ≤ lNh (nI h) + 44 := b1
  obtain ⟨r3, m3, y3, k3, _⟩ := ru_num (S0 := S0) hh hA hL k2 (Nat.lt_of_lt_of_le (show 2 < 3 by decide) (by decide)) (by omega) (q := (27, Int32.ofInt v1)) rfl hc2.1
  have b2 : unN [uAt (nI h) 0 0 (27, Int32.ofInt v1)] (unN ([uAt (nI h) 0 0 (27, Int32.ofInt v0)] ++ [u25 0, u30, u31 (nI h)]) (lNh (nI h))) ≤ unN ([uAt (nI h) 0 0 (27, Int32.ofInt v0)] ++ [u25 0, u30, u31 (nI h)]) (lNh (nI h)) + 11 := unN_le _ _ (gU_1 g_at)
  obtain ⟨r4, m4, y4, k4⟩ := sm_end (S0 := S0) (ws := [wd v0, wd v0]) (v := wd v1) hh hA hL (Nat.lt_of_lt_of_le (show 2 < 3 by decide) (by decide)) k3 (by omega) hc3
  have y14 := ((y1.trans y2).trans y3).trans y4
  have b5 := unN_le (([uAt (nI h) 0 0 (27, Int32.ofInt v0)] ++ [u25 0, u30, u31 (nI h)]) ++ ([uAt (nI h) 0 0 (27, Int32.ofInt v1)] ++ [u25 2, u30, u31 (nI h)])) (lNh (nI h)) (((gU_1 g_at).app g_H3).app ((gU_1 g_at).app g_H3))
  have b5 : unN (([uAt (nI h) 0 0 (27, Int32.ofInt v0)] ++ [u25 0, u30, u31 (nI h)]) ++ ([uAt (nI h) 0 0 (27, Int32.ofInt v1)] ++ [u25 2, u30, u31 (nI h)])) (lNh (nI h)) ≤ lNh (nI h) + 88 := b5
  have y14 : RT S0 (300 + 400 + 300 + 400) r m (19840 + lNh (nI h)) r4 m4 (19840 + unN (([uAt (nI h) 0 0 (27, Int32.ofInt v0)] ++ [u25 0, u30, u31 (nI h)]) ++ ([uAt (nI h) 0 0 (27, Int32.ofInt v1)] ++ [u25 2, u30, u31 (nI h)])) (lNh (nI h))) := y14
  generalize unN (([uAt (nI h) 0 0 (27, Int32.ofInt v0)] ++ [u25 0, u30, u31 (nI h)]) ++ ([uAt (nI h) 0 0 (27, Int32.ofInt v1)] ++ [u25 2, u30, u31 (nI h)])) (lNh (nI h)) = N at *
  have k4 : RI code a r4 m4 [wd v0, wd v0, wd v1, wd v1] 0 := k4
  obtain ⟨p1, p2⟩ := sm_lines (S0 := S0) hh hA hL (ls.map lnD) [wd v0, wd v0, wd v1, wd v1] 1 3 8 N (wd v0) (wd v1) r4 m4 (lnD_R ls) (by show 4 + _ < _; omega) rfl rfl k4 (by omega) hAL hc4
  have b6 := unN_le (uLs (nI h) 1 3 8 4 (ls.map lnD)) N (uLs_g _ _ _ _ _)
  have b7 := uLs_len (w := nI h) (ls.map lnD) 1 3 8 4 (lnD_Xs ls)
  have b8 : unN [u3 (nI h) (endP 1 3 4 (ls.map lnD)).1] (unN (uLs (nI h) 1 3 8 4 (ls.map lnD)) N) ≤ unN (uLs (nI h) 1 3 8 4 (ls.map lnD)) N + 11 := unN_le _ _ (gU_1 g_3)
  refine ⟨fun u hu => ?_, fun hu => ?_⟩
  · obtain ⟨r5, m5, ws5, y5, k5, x5, l5⟩ := p1 u hu
    have l5 : ws5.length = 4 + 2 * (ls.map lnD).length := l5
    obtain ⟨r6, m6, y6, k6, _⟩ := ru_3 (S0 := S0) hh hA hL k5 (by omega) (by show unN (uLs (nI h) 1 3 8 4 (ls.map lnD)) N < _; omega) x5 hc5.1
    obtain ⟨r7, y7, k7, g2, g3⟩ := ru_23 (S0 := S0) hh hA hL k6 (by omega) (by show unN [u3 (nI h) (endP 1 3 4 (ls.map lnD)).1] (unN (uLs (nI h) 1 3 8 4 (ls.map lnD)) N) < _; omega) hc6.1
    exact ⟨r7, m6, _, (((y14.trans y5).trans y6).trans y7).mono (by omega), k7, g2, g3⟩
  · obtain ⟨r5, m5, ws5, y5, k5, g5⟩ := p2 hu
    obtain ⟨r6, y6, k6, g2, g3⟩ := ri_raise0 (S0 := S0) hh hL k5
    exact ⟨r6, m5, _, ((y14.trans y5).trans y6).mono (by omega), k6, g2, g3.trans g5⟩
