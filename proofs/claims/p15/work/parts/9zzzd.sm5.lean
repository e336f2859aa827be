/-! Orders run from the code: the last operator of what is handled. -/
section
variable {S0 : xS} {code r m : Nat → Int32} {a : Int32} {ws : List Int32} {tr n h : Nat} {ad : Int32 → Int32}
set_option maxHeartbeats 4000000 in
set_option maxRecDepth 100000 in
theorem ru_addT (hA : ADo ad 2) (hL : CMl (LCh 2) code) {v x b c : Int32} {t : Nat} (hI : RI code a r m ((((((ws ++ [nI (4 * t) + 1]) ++ [b]) ++ [c])) ++ [v]) ++ [x]) tr) (hn : ws.length < 890) (h2 : n < 200000) (hc : CU code ad n uAddT) : ∃ r' m', RT S0 300 r m (19840 + n) r' m' (19840 + (n + uAddT.1.length)) ∧ RI code a r' m' (ws ++ [v + x - 1]) t ∧ ∀ j, j < 5632 → m' j = m j := by
  have a1 := hA.2.2.2.2.2.1
  have hb : CB code (19840 + n) ([wLw 8 (-8) 16, wLw 9 (-4) 16, wAdd 16 16 (-4), wThree 33 10 8 9, wAdd 10 10 (-1), clW (ad 65552) (nI (19840 + (n + 5))) wJal, wSw 10 (-4) 16]) := by
    have z := cu_cb hc
    unfold uAddT at z
    simp (config := { decide := true }) only [clL, clu, if_true, if_false, ite_true, ite_false] at z
    exact z
  rw [a1, clW_jal (by decide), show nI (201326592 + eOpened 2) = 201346775 from by decide, show ([wLw 8 (-8) 16, wLw 9 (-4) 16, wAdd 16 16 (-4), wThree 33 10 8 9, wAdd 10 10 (-1), 201346775, wSw 10 (-4) 16] : List Int32) = [2382954488, 2383020028, 638648316, 17387553, 625672191, 201346775, 2919956476] from by decide] at hb
  obtain ⟨r1, m1, y1, k1, g31, f1⟩ := oxaddT2 (S0 := S0) hL hI (by simp only [List.length_append, List.length_singleton]; omega) (by omega) (by omega) hb
  obtain ⟨r2, m2, y2, k2, f2⟩ := ri_opened (S0 := S0) (ret := 19840 + n + 7) (Or.inr rfl) hL k1 (by omega) g31
  exact ⟨r2, m2, (y1.trans y2).mono (by decide), k2, fun j hj => (f2 j hj).trans (f1 j hj)⟩
set_option maxHeartbeats 4000000 in
set_option maxRecDepth 100000 in
theorem ru_subT (hA : ADo ad 2) (hL : CMl (LCh 2) code) {v x b c : Int32} {t : Nat} (hI : RI code a r m ((((((ws ++ [nI (4 * t) + 1]) ++ [b]) ++ [c])) ++ [v]) ++ [x]) tr) (hn : ws.length < 890) (h2 : n < 200000) (hc : CU code ad n uSubT) : ∃ r' m', RT S0 300 r m (19840 + n) r' m' (19840 + (n + uSubT.1.length)) ∧ RI code a r' m' (ws ++ [v - x + 1]) t ∧ ∀ j, j < 5632 → m' j = m j := by
  have a1 := hA.2.2.2.2.2.1
  have hb : CB code (19840 + n) ([wLw 8 (-8) 16, wLw 9 (-4) 16, wAdd 16 16 (-4), wThree 35 10 8 9, wAdd 10 10 1, clW (ad 65552) (nI (19840 + (n + 5))) wJal, wSw 10 (-4) 16]) := by
    have z := cu_cb hc
    unfold uSubT at z
    simp (config := { decide := true }) only [clL, clu, if_true, if_false, ite_true, ite_false] at z
    exact z
  rw [a1, clW_jal (by decide), show nI (201326592 + eOpened 2) = 201346775 from by decide, show ([wLw 8 (-8) 16, wLw 9 (-4) 16, wAdd 16 16 (-4), wThree 35 10 8 9, wAdd 10 10 1, 201346775, wSw 10 (-4) 16] : List Int32) = [2382954488, 2383020028, 638648316, 17387555, 625606657, 201346775, 2919956476] from by decide] at hb
  obtain ⟨r1, m1, y1, k1, g31, f1⟩ := oxsubT2 (S0 := S0) hL hI (by simp only [List.length_append, List.length_singleton]; omega) (by omega) (by omega) hb
  obtain ⟨r2, m2, y2, k2, f2⟩ := ri_opened (S0 := S0) (ret := 19840 + n + 7) (Or.inr rfl) hL k1 (by omega) g31
  exact ⟨r2, m2, (y1.trans y2).mono (by decide), k2, fun j hj => (f2 j hj).trans (f1 j hj)⟩
set_option maxHeartbeats 4000000 in
set_option maxRecDepth 100000 in
theorem ru_mulT (hA : ADo ad 2) (hL : CMl (LCh 2) code) {v x b c : Int32} {t : Nat} (hI : RI code a r m ((((((ws ++ [nI (4 * t) + 1]) ++ [b]) ++ [c])) ++ [v]) ++ [x]) tr) (hn : ws.length < 890) (h2 : n < 200000) (hc : CU code ad n uMulT) : ∃ r' m', RT S0 300 r m (19840 + n) r' m' (19840 + (n + uMulT.1.length)) ∧ RI code a r' m' (ws ++ [(v - 1) * sr x + 1]) t ∧ ∀ j, j < 5632 → m' j = m j := by
  have a1 := hA.2.2.2.2.2.1
  have hb : CB code (19840 + n) ([wLw 8 (-8) 16, wLw 9 (-4) 16, wAdd 16 16 (-4), wAdd 8 8 (-1), wShift 3 9 9 1, wThree 24 0 8 9, wThree 18 10 0 0, wAdd 10 10 1, clW (ad 65552) (nI (19840 + (n + 8))) wJal, wSw 10 (-4) 16]) := by
    have z := cu_cb hc
    unfold uMulT at z
    simp (config := { decide := true }) only [clL, clu, if_true, if_false, ite_true, ite_false] at z
    exact z
  rw [a1, clW_jal (by decide), show nI (201326592 + eOpened 2) = 201346775 from by decide, show ([wLw 8 (-8) 16, wLw 9 (-4) 16, wAdd 16 16 (-4), wAdd 8 8 (-1), wShift 3 9 9 1, wThree 24 0 8 9, wThree 18 10 0 0, wAdd 10 10 1, 201346775, wSw 10 (-4) 16] : List Int32) = [2382954488, 2383020028, 638648316, 621346815, 608323, 17367064, 20498, 625606657, 201346775, 2919956476] from by decide] at hb
  obtain ⟨r1, m1, y1, k1, g31, f1⟩ := oxmulT2 (S0 := S0) hL hI (by simp only [List.length_append, List.length_singleton]; omega) (by omega) (by omega) hb
  obtain ⟨r2, m2, y2, k2, f2⟩ := ri_opened (S0 := S0) (ret := 19840 + n + 10) (Or.inr rfl) hL k1 (by omega) g31
  exact ⟨r2, m2, (y1.trans y2).mono (by decide), k2, fun j hj => (f2 j hj).trans (f1 j hj)⟩
theorem ru_ot (hh : h = 1 ∨ h = 2) (hA : ADo ad h) (hL : CMl (LCh h) code) {k v x b c : Int32} {t : Nat} (hk : kCal k) (hI : RI code a r m ((((((ws ++ [nI (4 * t) + 1]) ++ [b]) ++ [c])) ++ [v]) ++ [x]) tr) (hn : ws.length < 890) (h2 : n + 100 < 200000) (hc : CUs code ad n (uOT (nI h) k)) : (∀ u, opW k v x = some u → ∃ r' m', RT S0 600 r m (19840 + n) r' m' (19840 + unN (uOT (nI h) k) n) ∧ RI code a r' m' (ws ++ [u]) t ∧ ∀ j, j < 5632 → m' j = m j) ∧ (opW k v x = none → ∃ r', RT S0 600 r m (19840 + n) r' m (eRaise h) ∧ RI code a r' m ((((((ws ++ [nI (4 * t) + 1]) ++ [b]) ++ [c])) ++ [v]) ++ [x]) tr ∧ r' 4 = 26) := by
  have hl : (((ws ++ [nI (4 * t) + 1]) ++ [b]) ++ [c]).length < 900 := by simp only [List.length_append, List.length_singleton]; omega
  have two : ∀ (_ : uOT (nI h) k = [uOp (nI h) k, u19]), (∀ u, opW k v x = some u → ∃ r' m', RT S0 600 r m (19840 + n) r' m' (19840 + unN (uOT (nI h) k) n) ∧ RI code a r' m' (ws ++ [u]) t ∧ ∀ j, j < 5632 → m' j = m j) ∧ (opW k v x = none → ∃ r', RT S0 600 r m (19840 + n) r' m (eRaise h) ∧ RI code a r' m ((((((ws ++ [nI (4 * t) + 1]) ++ [b]) ++ [c])) ++ [v]) ++ [x]) tr ∧ r' 4 = 26) := by
    intro e
    rw [e] at hc ⊢
    obtain ⟨hc1, hc2, _⟩ := hc
    have g1 := unG_len (g_op (w := nI h) (k := k))
    obtain ⟨h3, h4⟩ := ru_op (S0 := S0) hh hA hL hk hI hl (by omega) hc1
    refine ⟨fun u hu => ?_, fun hu => ?_⟩
    · obtain ⟨r1, m1, y1, k1, f1⟩ := h3 u hu
      obtain ⟨r2, m2, y2, k2, f2⟩ := ru_19 (S0 := S0) hh hA hL k1 (by omega) (by omega) hc2
      exact ⟨r2, m2, (y1.trans y2).mono (by decide), k2, fun j hj => (f2 j hj).trans (f1 j hj)⟩
    · obtain ⟨r1, y1, k1, g1⟩ := h4 hu
      exact ⟨r1, y1.mono (by decide), k1, g1⟩
  rcases hh with rfl | rfl
  · exact two (if_pos rfl)
  · rcases kC hk with rfl | rfl | rfl | rfl | rfl
    · exact two (by rw [uOp_5]; unfold uOT; simp (config := { decide := true }) only [if_true, if_false, ite_true, ite_false])
    · exact two (by rw [uOp_16]; unfold uOT; simp (config := { decide := true }) only [if_true, if_false, ite_true, ite_false])
    · have e : uOT (nI 2) 41 = [uMulT] := by unfold uOT; simp (config := { decide := true }) only [if_true, if_false, ite_true, ite_false]
      rw [e] at hc ⊢
      rw [opW_41]
      refine ⟨fun u hu => ?_, fun hu => (by cases hu)⟩
      obtain rfl := Option.some.inj hu
      obtain ⟨r1, m1, y1, k1, f1⟩ := ru_mulT (S0 := S0) hA hL hI hn (by omega) hc.1
      exact ⟨r1, m1, y1.mono (by decide), k1, f1⟩
    · have e : uOT (nI 2) 42 = [uAddT] := by unfold uOT; simp (config := { decide := true }) only [if_true, if_false, ite_true, ite_false]
      rw [e] at hc ⊢
      rw [opW_42]
      refine ⟨fun u hu => ?_, fun hu => (by cases hu)⟩
      obtain rfl := Option.some.inj hu
      obtain ⟨r1, m1, y1, k1, f1⟩ := ru_addT (S0 := S0) hA hL hI hn (by omega) hc.1
      exact ⟨r1, m1, y1.mono (by decide), k1, f1⟩
    · have e : uOT (nI 2) 43 = [uSubT] := by unfold uOT; simp (config := { decide := true }) only [if_true, if_false, ite_true, ite_false]
      rw [e] at hc ⊢
      rw [opW_43]
      refine ⟨fun u hu => ?_, fun hu => (by cases hu)⟩
      obtain rfl := Option.some.inj hu
      obtain ⟨r1, m1, y1, k1, f1⟩ := ru_subT (S0 := S0) hA hL hI hn (by omega) hc.1
      exact ⟨r1, m1, y1.mono (by decide), k1, f1⟩
/-- a chain up to its last operator -/
theorem sm_oaI {px py : Nat} {wx wy : Int32} (hh : h = 1 ∨ h = 2) (hA : ADo ad h) (hL : CMl (LCh h) code) (hw : ws.length < 890) (hx : ws[px]? = some wx) (hy : ws[py]? = some wy) : ∀ (cs : List Oa) (k v x : Int32) (r m : Nat → Int32) (n : Nat), kCal k → OaV cs → RI code a r m ((ws ++ [v]) ++ [x]) tr → n + 100 * cs.length + 100 < 200000 → CUs code ad n (uOa (nI h) px py k cs) →
    (∃ r' m' v' x', RT S0 (600 * cs.length) r m (19840 + n) r' m' (19840 + unN (uOa (nI h) px py k cs) n) ∧ RI code a r' m' ((ws ++ [v']) ++ [x']) tr ∧ (∀ j, j < 5632 → m' j = m j) ∧ evO wx wy k v x cs = opW (laO k cs) v' x') ∨
    (evO wx wy k v x cs = none ∧ ∃ r' m' vs, RT S0 (600 * cs.length) r m (19840 + n) r' m' (eRaise h) ∧ RI code a r' m' (ws ++ vs) tr ∧ r' 4 = 26 ∧ vs.length ≤ 2)
  | [], k, v, x, r, m, n, hk, _, hI, hn, hc => Or.inl ⟨r, m, v, x, RT.zero, hI, fun _ _ => rfl, rfl⟩
  | c :: cs, k, v, x, r, m, n, hk, hv, hI, hn, hc => by
    have hlen : (c :: cs).length = cs.length + 1 := rfl
    rw [hlen] at hn ⊢
    obtain ⟨hc1, hc2, hc3⟩ := hc
    have g1 := unG_len (g_op (w := nI h) (k := k))
    have g2 := unG_len (g_at (w := nI h) (px := px) (py := py) (q := c.2))
    obtain ⟨h1, h2⟩ := ru_op (S0 := S0) hh hA hL hk hI (by omega) (by omega) hc1
    have ev : evO wx wy k v x (c :: cs) = (match opW k v x with | none => none | some u => evO wx wy c.1.1 u (atW wx wy c.2) cs) := rfl
    rw [ev]
    cases ho : opW k v x with
    | none =>
      obtain ⟨r', y, k1, g4⟩ := h2 ho
      exact Or.inr ⟨rfl, r', m, [v, x], y.mono (by omega), by rw [List.append_assoc] at k1; exact k1, g4, Nat.le_refl _⟩
    | some u =>
      obtain ⟨r1, m1, y1, k1, f1⟩ := h1 u ho
      obtain ⟨r2, m2, y2, k2, f2⟩ := ru_at (S0 := S0) hh hA hL k1 (by rw [List.length_append, List.length_singleton]; omega) (by omega) (at_app hx) (at_app hy) c.2 hc2
      rcases sm_oaI hh hA hL hw hx hy cs c.1.1 u (atW wx wy c.2) r2 m2 (n + (uOp (nI h) k).1.length + (uAt (nI h) px py c.2).1.length) (hv c (List.mem_cons_self ..)).1 (fun d hd => hv d (List.mem_cons_of_mem _ hd)) k2 (by omega) hc3 with ⟨r3, m3, v', x', y3, k3, f3, e3⟩ | ⟨e3, r3, m3, vs, y3, k3, g4, l⟩
      · exact Or.inl ⟨r3, m3, v', x', ((y1.trans y2).trans y3).mono (by omega), k3, fun j hj => (f3 j hj).trans ((f2 j hj).trans (f1 j hj)), e3⟩
      · exact Or.inr ⟨e3, r3, m3, vs, ((y1.trans y2).trans y3).mono (by omega), k3, g4, l⟩
end
