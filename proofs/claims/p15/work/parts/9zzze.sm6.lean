/-! Orders run from the code: what is handled. -/
section
variable {S0 : xS} {code r m : Nat → Int32} {a : Int32} {ws : List Int32} {tr n h : Nat} {ad : Int32 → Int32}
set_option maxHeartbeats 4000000 in
set_option maxRecDepth 100000 in
theorem ru_29 (hh : h = 1 ∨ h = 2) (hA : ADo ad h) (hL : CMl (LCh h) code) {l : Int32} {L : Nat} (hl : ad l = nI L) (hLL : L < 1000000) (hI : RI code a r m ws tr) (hn : ws.length < 900) (h2 : n < 200000) (h16 : m 16 = 26) (hc : CU code ad n (u29 (nI h) l)) : ∃ r', RT S0 30 r m (19840 + n) r' m (19840 + (n + (u29 (nI h) l).1.length)) ∧ RI code a r' m ws tr := by
  have hb := cu_cb hc
  rcases hh with rfl | rfl
  · have e : u29 (nI 1) l = ([wLw 8 64 0, 0, wSet 9 26, wOv 4 8 9, 0, wJ, 0], [(5, l)]) := if_pos rfl
    rw [e] at hb ⊢
    have hb : CB code (19840 + n) [wLw 8 64 0, 0, wSet 9 26, wOv 4 8 9, 0, clW (ad l) (nI (19840 + (n + 5))) wJ, 0] := hb
    rw [hl, clW_j (by omega), show wLw 8 64 0 = 2349334592 from by decide, show wSet 9 26 = 604569626 from by decide, show wOv 4 8 9 = 285802499 from by decide] at hb
    exact ox29_1 hL hI hn (by omega) (by omega) h16 hb
  · have e : u29 (nI 2) l = ([wLw 8 64 0, wSet 9 26, wOv 4 8 9, 0, wJ, 0], [(4, l)]) := if_neg (by decide)
    rw [e] at hb ⊢
    have hb : CB code (19840 + n) [wLw 8 64 0, wSet 9 26, wOv 4 8 9, 0, clW (ad l) (nI (19840 + (n + 4))) wJ, 0] := hb
    rw [hl, clW_j (by omega), show wLw 8 64 0 = 2349334592 from by decide, show wSet 9 26 = 604569626 from by decide, show wOv 4 8 9 = 285802499 from by decide] at hb
    exact ox29_2 hL hI hn (by omega) (by omega) h16 hb
set_option maxHeartbeats 4000000 in
set_option maxRecDepth 100000 in
theorem ru_sj (hh : h = 1 ∨ h = 2) (hA : ADo ad h) (hL : CMl (LCh h) code) {l : Int32} {L : Nat} {v x : Int32} (hl : ad l = nI L) (hLL : L < 1000000) (hI : RI code a r m ((ws ++ [v]) ++ [x]) tr) (hn : ws.length < 890) (h2 : n + 100 < 200000) (hc : CUs code ad n (uSJ (nI h) l)) : ∃ r' m', RT S0 100 r m (19840 + n) r' m' L ∧ RI code a r' m' (ws ++ [x]) tr := by
  rcases hh with rfl | rfl
  · have e : uSJ (nI 1) l = [u11, u8 l] := if_pos rfl
    rw [e] at hc
    obtain ⟨hc1, hc2, _⟩ := hc
    have hb : CB code (19840 + n) [wLw 8 (-4) 16, 0, wAdd 16 16 (-4), wSw 8 (-4) 16] := cu_cb hc1
    rw [show wLw 8 (-4) 16 = 2382954492 from by decide, show wAdd 16 16 (-4) = 638648316 from by decide, show wSw 8 (-4) 16 = 2919825404 from by decide] at hb
    obtain ⟨r1, m1, y1, k1, _⟩ := ox11_1 (S0 := S0) hL hI (by omega) (by omega) (by omega) hb
    have y2 := ru_8 (S0 := S0) (Or.inl rfl) hA hL hl hLL k1 (by rw [List.length_append, List.length_singleton]; omega) (by show n + 4 < _; omega) hc2
    exact ⟨r1, m1, (y1.trans y2).mono (by decide), k1⟩
  · have e : uSJ (nI 2) l = [u11j l] := if_neg (by decide)
    rw [e] at hc
    have hb : CB code (19840 + n) [wLw 8 (-4) 16, wAdd 16 16 (-4), clW (ad l) (nI (19840 + (n + 2))) wJ, wSw 8 (-4) 16] := cu_cb hc.1
    rw [hl, clW_j (by omega), show wLw 8 (-4) 16 = 2382954492 from by decide, show wAdd 16 16 (-4) = 638648316 from by decide, show wSw 8 (-4) 16 = 2919825404 from by decide] at hb
    obtain ⟨r1, m1, y1, k1, _⟩ := ox11j_2 (S0 := S0) hL hI (by omega) (by omega) (by omega) hLL hb
    exact ⟨r1, m1, y1.mono (by decide), k1⟩
/-- a line that isn't handled -/
theorem sm_plain {px py : Nat} {wx wy : Int32} {q : Int32 × Int32} {c : Oa} {cs : List Oa} (hh : h = 1 ∨ h = 2) (hA : ADo ad h) (hL : CMl (LCh h) code) (hw : ws.length < 880) (hx : ws[px]? = some wx) (hy : ws[py]? = some wy) (hv : OaV (c :: cs)) (hI : RI code a r m ws tr) (hn : n + 100 * cs.length + 1000 < 200000) (hc : CUs code ad n (uPl (nI h) px py ws.length q c cs)) :
    (∀ u, evC wx wy (atW wx wy q) (c :: cs) = some u → ∃ r' m', RT S0 (600 * cs.length + 1300) r m (19840 + n) r' m' (19840 + unN (uPl (nI h) px py ws.length q c cs) n) ∧ RI code a r' m' ((ws ++ [u]) ++ [u]) tr) ∧
    (evC wx wy (atW wx wy q) (c :: cs) = none → ∃ r' m' vs, RT S0 (600 * cs.length + 1300) r m (19840 + n) r' m' (eRaise h) ∧ RI code a r' m' (ws ++ vs) tr ∧ r' 4 = 26) := by
  have e : uPl (nI h) px py ws.length q c cs = ([uAt (nI h) px py q] ++ ([uAt (nI h) px py c.2] ++ (uOa (nI h) px py c.1.1 cs ++ [uOp (nI h) (laO c.1.1 cs)]))) ++ [u25 ws.length, u30, u31 (nI h)] := by
    unfold uPl
    simp only [List.append_assoc, List.cons_append, List.nil_append]
  rw [e] at hc ⊢
  obtain ⟨hc1, hc2⟩ := CUs.app hc
  obtain ⟨h1, h2⟩ := sm_exE (S0 := S0) hh hA hL (by omega) hx hy hv hI (by omega) hc1
  have b := unN_le ([uAt (nI h) px py q] ++ ([uAt (nI h) px py c.2] ++ (uOa (nI h) px py c.1.1 cs ++ [uOp (nI h) (laO c.1.1 cs)]))) n ((gU_1 g_at).app ((gU_1 g_at).app (gU.app (uOa_g _ _).1 (gU_1 g_op))))
  have bl : ([uAt (nI h) px py q] ++ ([uAt (nI h) px py c.2] ++ (uOa (nI h) px py c.1.1 cs ++ [uOp (nI h) (laO c.1.1 cs)]))).length = 2 * cs.length + 3 := by
    simp only [List.length_append, List.length_cons, List.length_nil, (uOa_g c.1.1 cs).2]
    omega
  rw [bl] at b
  refine ⟨fun u hu => ?_, fun hu => ?_⟩
  · obtain ⟨r1, m1, y1, k1, _⟩ := h1 u hu
    obtain ⟨r2, m2, y2, k2⟩ := sm_end (S0 := S0) hh hA hL (by omega) k1 (by omega) hc2
    rw [unN_app]
    exact ⟨r2, m2, (y1.trans y2).mono (by omega), k2⟩
  · obtain ⟨r1, m1, vs, y1, k1, g1, _⟩ := h2 hu
    exact ⟨r1, m1, vs, y1.mono (by omega), k1, g1⟩
/-- behind a Div that is handled: y, in its place -/
theorem sm_h2 {py b L8 L9 : Nat} {wy : Int32} {cs : List Oa} (hh : h = 1 ∨ h = 2) (hA : ADo ad h) (hL : CMl (LCh h) code) (hw : ws.length < 880) (hy : ws[py]? = some wy) (hI : RI code a r m (ws ++ [26]) tr) (hn : n + 1000 < 200000) (h8 : ad (nI (b + (2 * cs.length + 3) + 8)) = nI L8) (h8b : L8 < 1000000) (h9 : ad (nI (b + (2 * cs.length + 3) + 9)) = nI L9) (h9b : L9 < 1000000) (hc : CUs code ad n (uH2 (nI h) py b ws.length cs)) : ∃ r' m', RT S0 600 r m (19840 + n) r' m' L9 ∧ RI code a r' m' (ws ++ [wy]) tr := by
  obtain ⟨hc12, hc34⟩ := CUs.app hc
  obtain ⟨hc1, hc2, _⟩ := hc12
  obtain ⟨hc3, hc4⟩ := CUs.app hc34
  have hl : (ws ++ [26]).length < 900 := by rw [List.length_append, List.length_singleton]; omega
  have hp : (ws ++ [(26 : Int32)])[ws.length]? = some 26 := by rw [List.getElem?_append_right (Nat.le_refl _), Nat.sub_self]; rfl
  have g2 := unG_len (g_29 (w := nI h) (l := nI (b + (2 * cs.length + 3) + 8)))
  have g3 := unG_len (g_3 (w := nI h) (p := py))
  obtain ⟨r1, m1, y1, k1, f1⟩ := ru_25 (S0 := S0) hh hA hL hI hl (by omega) hp hc1
  obtain ⟨r2, y2, k2⟩ := ru_29 (S0 := S0) hh hA hL h8 h8b k1 hl (by show n + 3 < _; omega) f1 hc2
  obtain ⟨r3, m3, y3, k3, _⟩ := ru_3 (S0 := S0) hh hA hL k2 hl (by show n + 3 + _ < _; omega) (at_app hy) hc3.1
  obtain ⟨r4, m4, y4, k4⟩ := ru_sj (S0 := S0) hh hA hL h9 h9b k3 (by omega) (by show n + 3 + _ + _ + 100 < _; omega) hc4
  exact ⟨r4, m4, (((y1.trans y2).trans y3).trans y4).mono (by decide), k4⟩
end
