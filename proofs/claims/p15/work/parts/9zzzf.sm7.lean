/-! Orders run from the code: a line that is handled. -/
section
variable {S0 : xS} {code r m : Nat → Int32} {a : Int32} {ws : List Int32} {n h : Nat} {ad : Int32 → Int32}
theorem sm_h1 {px py b L3 L9 : Nat} {wx wy : Int32} {q : Int32 × Int32} {c : Oa} {cs : List Oa} (hh : h = 1 ∨ h = 2) (hA : ADo ad h) (hL : CMl (LCh h) code) (hw : ws.length < 850) (hx : ws[px]? = some wx) (hy : ws[py]? = some wy) (hv : OaV (c :: cs)) (hI : RI code a r m ws 0) (hn : n + 100 * cs.length + 1000 < 200000) (h3 : ad (nI (b + (2 * cs.length + 3) + 3)) = nI L3) (h3b : L3 < 1000000) (h9 : ad (nI (b + (2 * cs.length + 3) + 9)) = nI L9) (h9b : L9 < 1000000) (hc : CUs code ad n (uH1 (nI h) px py b ws.length q c cs)) :
    (∀ u, evC wx wy (atW wx wy q) (c :: cs) = some u → ∃ r' m', RT S0 (600 * cs.length + 2000) r m (19840 + n) r' m' L9 ∧ RI code a r' m' (ws ++ [u]) 0) ∧
    (evC wx wy (atW wx wy q) (c :: cs) = none → ∃ r' m', RT S0 (600 * cs.length + 2000) r m (19840 + n) r' m' L3 ∧ RI code a r' m' (ws ++ [26]) 0) := by
  have hk := (hv c (List.mem_cons_self ..)).1
  have hv' : OaV cs := fun d hd => hv d (List.mem_cons_of_mem _ hd)
  obtain ⟨hc1, hcr⟩ := CUs.app hc
  obtain ⟨hc2, hcr⟩ := CUs.app hcr
  obtain ⟨hc3, hcr⟩ := CUs.app hcr
  obtain ⟨hc4, hcr⟩ := CUs.app hcr
  obtain ⟨hc5, hc6⟩ := CUs.app hcr
  obtain ⟨r1, m1, y1, k1, _⟩ := ru_18 (S0 := S0) hh hA hL h3 h3b hI (by omega) (by omega) hc1.1
  generalize hW : ((ws ++ [nI (4 * 0) + 1]) ++ [nI (4 * L3) + 1]) ++ [nI (4 * 5632) + 1] = W at k1
  have hWl : W.length = ws.length + 3 := by rw [← hW]; simp only [List.length_append, List.length_singleton]
  have hWx : W[px]? = some wx := by rw [← hW]; exact at_app (at_app (at_app hx))
  have hWy : W[py]? = some wy := by rw [← hW]; exact at_app (at_app (at_app hy))
  have g1 : unN [u18 (nI (b + (2 * cs.length + 3) + 3))] n = n + 4 := rfl
  rw [g1] at hc2 hc3 hc4 hc5 hc6
  have b1 := unN_le [uAt (nI h) px py q] (n + 4) (gU_1 g_at)
  have b2 := unN_le [uAt (nI h) px py c.2] (unN [uAt (nI h) px py q] (n + 4)) (gU_1 g_at)
  have b3 := unN_le (uOa (nI h) px py c.1.1 cs) (unN [uAt (nI h) px py c.2] (unN [uAt (nI h) px py q] (n + 4))) (uOa_g _ _).1
  have b4 := unN_le (uOT (nI h) (laO c.1.1 cs)) (unN (uOa (nI h) px py c.1.1 cs) (unN [uAt (nI h) px py c.2] (unN [uAt (nI h) px py q] (n + 4)))) g_ot.1
  have b5 := (g_ot (w := nI h) (k := laO c.1.1 cs)).2
  rw [(uOa_g c.1.1 cs).2] at b3
  simp only [List.length_cons, List.length_nil] at b1 b2
  obtain ⟨r2, m2, y2, k2, _⟩ := ru_at (S0 := S0) hh hA hL k1 (by omega) (by omega) hWx hWy q hc2.1
  obtain ⟨r3, m3, y3, k3, _⟩ := ru_at (S0 := S0) hh hA hL k2 (by rw [List.length_append, List.length_singleton]; omega) (by omega) (at_app hWx) (at_app hWy) c.2 hc3.1
  have y13 := (y1.trans y2).trans y3
  have raise : ∀ (r9 m9 : Nat → Int32) (vs : List Int32) (N : Nat), RT S0 N r m (19840 + n) r9 m9 (eRaise h) → RI code a r9 m9 (W ++ vs) (5632 + ws.length) → r9 4 = 26 → N + 30 ≤ 600 * cs.length + 2000 → ∃ r' m', RT S0 (600 * cs.length + 2000) r m (19840 + n) r' m' L3 ∧ RI code a r' m' (ws ++ [26]) 0 := by
    intro r9 m9 vs N y9 k9 g9 hN
    have e : W ++ vs = ws ++ (nI (4 * 0) + 1) :: (nI (4 * L3) + 1) :: (nI (4 * 5632) + 1) :: vs := by
      rw [← hW]
      simp only [List.append_assoc, List.cons_append, List.nil_append]
    rw [e] at k9
    obtain ⟨r8, m8, y8, k8, _⟩ := ri_raise (S0 := S0) hh hL k9 (by omega)
    rw [g9] at k8
    exact ⟨r8, m8, (y9.trans y8).mono hN, k8⟩
  have ev : evC wx wy (atW wx wy q) (c :: cs) = evO wx wy c.1.1 (atW wx wy q) (atW wx wy c.2) cs := rfl
  rw [ev]
  rcases sm_oaI (S0 := S0) hh hA hL (by omega) hWx hWy cs c.1.1 (atW wx wy q) (atW wx wy c.2) r3 m3 _ hk hv' k3 (by omega) hc4 with ⟨r4, m4, v', x', y4, k4, _, e4⟩ | ⟨e4, r4, m4, vs, y4, k4, g4, _⟩
  · rw [e4]
    rw [← hW] at k4
    obtain ⟨h5, h6⟩ := ru_ot (S0 := S0) hh hA hL (laO_c hk cs hv') k4 (by omega) (by omega) hc5
    refine ⟨fun u hu => ?_, fun hu => ?_⟩
    · obtain ⟨r5, m5, y5, k5, _⟩ := h5 u hu
      have y6 := ru_8 (S0 := S0) hh hA hL h9 h9b k5 (by rw [List.length_append, List.length_singleton]; omega) (by omega) hc6.1
      exact ⟨r5, m5, (((y13.trans y4).trans y5).trans y6).mono (by omega), k5⟩
    · obtain ⟨r5, y5, k5, g5⟩ := h6 hu
      rw [hW, List.append_assoc] at k5
      exact raise r5 m4 _ _ ((y13.trans y4).trans y5) k5 g5 (by omega)
  · rw [e4]
    exact ⟨fun u hu => (by cases hu), fun _ => raise r4 m4 vs _ (y13.trans y4) k4 g4 (by omega)⟩
/-- a line that is handled -/
theorem sm_han {px py b L8 : Nat} {wx wy : Int32} {q : Int32 × Int32} {c : Oa} {cs : List Oa} (hh : h = 1 ∨ h = 2) (hA : ADo ad h) (hL : CMl (LCh h) code) (hw : ws.length < 850) (hx : ws[px]? = some wx) (hy : ws[py]? = some wy) (hv : OaV (c :: cs)) (hI : RI code a r m ws 0) (hn : n + 100 * cs.length + 3000 < 200000) (h3 : ad (nI (b + (2 * cs.length + 3) + 3)) = nI (19840 + unN (uH1 (nI h) px py b ws.length q c cs) n)) (h8 : ad (nI (b + (2 * cs.length + 3) + 8)) = nI L8) (h8b : L8 < 1000000) (h9 : ad (nI (b + (2 * cs.length + 3) + 9)) = nI (19840 + unN (uH1 (nI h) px py b ws.length q c cs ++ (uH2 (nI h) py b ws.length cs ++ [u20 (nI h)])) n)) (hc : CUs code ad n (uHa (nI h) px py b ws.length q c cs)) :
    ∃ r' m', RT S0 (600 * cs.length + 4000) r m (19840 + n) r' m' (19840 + unN (uHa (nI h) px py b ws.length q c cs) n) ∧ RI code a r' m' ((ws ++ [(evC wx wy (atW wx wy q) (c :: cs)).getD wy]) ++ [(evC wx wy (atW wx wy q) (c :: cs)).getD wy]) 0 := by
  obtain ⟨hc1, hcr⟩ := CUs.app hc
  obtain ⟨hc2, hcr⟩ := CUs.app hcr
  obtain ⟨_, hc4⟩ := CUs.app hcr
  have b1 := unN_le (uH1 (nI h) px py b ws.length q c cs) n g_H1
  have b1' := H1_len (w := nI h) (px := px) (py := py) (b := b) (dep := ws.length) (q := q) (c := c) (cs := cs)
  have b2 := unN_le (uH2 (nI h) py b ws.length cs) (unN (uH1 (nI h) px py b ws.length q c cs) n) g_H2
  have b2' := H2_len (w := nI h) (py := py) (b := b) (dep := ws.length) (cs := cs)
  have b3 := unN_le [u20 (nI h)] (unN (uH2 (nI h) py b ws.length cs) (unN (uH1 (nI h) px py b ws.length q c cs) n)) (gU_1 g_20)
  simp only [List.length_cons, List.length_nil] at b3
  rw [unN_app, unN_app] at h9
  obtain ⟨p1, p2⟩ := sm_h1 (S0 := S0) hh hA hL hw hx hy hv hI (by omega) h3 (by omega) h9 (by omega) hc1
  have fin : ∀ (r9 m9 : Nat → Int32) (u : Int32) (N : Nat), RT S0 N r m (19840 + n) r9 m9 (19840 + unN [u20 (nI h)] (unN (uH2 (nI h) py b ws.length cs) (unN (uH1 (nI h) px py b ws.length q c cs) n))) → RI code a r9 m9 (ws ++ [u]) 0 → N + 400 ≤ 600 * cs.length + 4000 → ∃ r' m', RT S0 (600 * cs.length + 4000) r m (19840 + n) r' m' (19840 + unN (uHa (nI h) px py b ws.length q c cs) n) ∧ RI code a r' m' ((ws ++ [u]) ++ [u]) 0 := by
    intro r9 m9 u N y9 k9 hN
    obtain ⟨r8, m8, y8, k8⟩ := sm_end (S0 := S0) hh hA hL (by omega) k9 (by omega) hc4
    have e : unN (uHa (nI h) px py b ws.length q c cs) n = unN [u25 ws.length, u30, u31 (nI h)] (unN [u20 (nI h)] (unN (uH2 (nI h) py b ws.length cs) (unN (uH1 (nI h) px py b ws.length q c cs) n))) := by
      unfold uHa
      rw [unN_app, unN_app, unN_app]
      rfl
    rw [e]
    exact ⟨r8, m8, (y9.trans y8).mono hN, k8⟩
  cases hev : evC wx wy (atW wx wy q) (c :: cs) with
  | some u =>
    obtain ⟨r5, m5, y5, k5⟩ := p1 u hev
    exact fin r5 m5 u _ y5 k5 (by omega)
  | none =>
    obtain ⟨r5, m5, y5, k5⟩ := p2 hev
    obtain ⟨r6, m6, y6, k6⟩ := sm_h2 (S0 := S0) (L8 := L8) hh hA hL (by omega) hy k5 (by omega) h8 h8b h9 (by omega) hc2
    exact fin r6 m6 wy _ (y5.trans y6) k6 (by omega)
end
