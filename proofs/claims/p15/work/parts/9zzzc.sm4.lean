/-! Orders run from the code: a chain. -/
section
variable {S0 : xS} {code : Nat → Int32} {a : Int32} {tr h : Nat} {ad : Int32 → Int32} {ws : List Int32} {px py : Nat} {wx wy : Int32}
theorem at_app {ws vs : List Int32} {p : Nat} {v : Int32} (h : ws[p]? = some v) : (ws ++ vs)[p]? = some v := by
  rw [List.getElem?_append_left (List.getElem?_eq_some_iff.mp h).1]
  exact h
/-- a chain of operators behind its first two words -/
theorem sm_oa (hh : h = 1 ∨ h = 2) (hA : ADo ad h) (hL : CMl (LCh h) code) (hw : ws.length < 890) (hx : ws[px]? = some wx) (hy : ws[py]? = some wy) : ∀ (cs : List Oa) (k v x : Int32) (r m : Nat → Int32) (n : Nat), kCal k → OaV cs → RI code a r m ((ws ++ [v]) ++ [x]) tr → n + 100 * cs.length + 100 < 200000 → CUs code ad n (uOa (nI h) px py k cs ++ [uOp (nI h) (laO k cs)]) →
    (∀ u, evO wx wy k v x cs = some u → ∃ r' m', RT S0 (600 * cs.length + 300) r m (19840 + n) r' m' (19840 + unN (uOa (nI h) px py k cs ++ [uOp (nI h) (laO k cs)]) n) ∧ RI code a r' m' (ws ++ [u]) tr ∧ ∀ j, j < 5632 → m' j = m j) ∧
    (evO wx wy k v x cs = none → ∃ r' m' vs, RT S0 (600 * cs.length + 300) r m (19840 + n) r' m' (eRaise h) ∧ RI code a r' m' (ws ++ vs) tr ∧ r' 4 = 26 ∧ vs.length ≤ 2)
  | [], k, v, x, r, m, n, hk, _, hI, hn, hc => by
    obtain ⟨h1, h2⟩ := ru_op (S0 := S0) hh hA hL hk hI (by omega) (by omega) hc.1
    refine ⟨fun u hu => h1 u hu, fun hu => ?_⟩
    obtain ⟨r', y, k1, g4⟩ := h2 hu
    exact ⟨r', m, [v, x], y, by rw [List.append_assoc] at k1; exact k1, g4, Nat.le_refl _⟩
  | c :: cs, k, v, x, r, m, n, hk, hv, hI, hn, hc => by
    have hlen : (c :: cs).length = cs.length + 1 := rfl
    rw [hlen] at hn ⊢
    obtain ⟨hc1, hc2, hc3⟩ := hc
    have g1 := unG_len (g_op (w := nI h) (k := k))
    have g2 := unG_len (g_at (w := nI h) (px := px) (py := py) (q := c.2))
    obtain ⟨h1, h2⟩ := ru_op (S0 := S0) hh hA hL hk hI (by omega) (by omega) hc1
    have ev : evO wx wy k v x (c :: cs) = (match opW k v x with | none => none | some u => evO wx wy c.1.1 u (atW wx wy c.2) cs) := rfl
    rw [ev]
    cases ho : opW k v x with
    | none =>
      refine ⟨fun u hu => (by cases hu), fun _ => ?_⟩
      obtain ⟨r', y, k1, g4⟩ := h2 ho
      exact ⟨r', m, [v, x], y.mono (by omega), by rw [List.append_assoc] at k1; exact k1, g4, Nat.le_refl _⟩
    | some u =>
      obtain ⟨r1, m1, y1, k1, f1⟩ := h1 u ho
      obtain ⟨r2, m2, y2, k2, f2⟩ := ru_at (S0 := S0) hh hA hL k1 (by rw [List.length_append, List.length_singleton]; omega) (by omega) (at_app hx) (at_app hy) c.2 hc2
      obtain ⟨h3, h4⟩ := sm_oa hh hA hL hw hx hy cs c.1.1 u (atW wx wy c.2) r2 m2 (n + (uOp (nI h) k).1.length + (uAt (nI h) px py c.2).1.length) (hv c (List.mem_cons_self ..)).1 (fun d hd => hv d (List.mem_cons_of_mem _ hd)) k2 (by omega) hc3
      refine ⟨fun z hz => ?_, fun hz => ?_⟩
      · obtain ⟨r3, m3, y3, k3, f3⟩ := h3 z hz
        exact ⟨r3, m3, ((y1.trans y2).trans y3).mono (by omega), k3, fun j hj => (f3 j hj).trans ((f2 j hj).trans (f1 j hj))⟩
      · obtain ⟨r3, m3, vs, y3, k3, g4, l⟩ := h4 hz
        exact ⟨r3, m3, vs, ((y1.trans y2).trans y3).mono (by omega), k3, g4, l⟩
/-- an expression's words, in all: two words, then the chain -/
theorem sm_exE (hh : h = 1 ∨ h = 2) (hA : ADo ad h) (hL : CMl (LCh h) code) (hw : ws.length < 890) (hx : ws[px]? = some wx) (hy : ws[py]? = some wy) {q : Int32 × Int32} {c : Oa} {cs : List Oa} {r m : Nat → Int32} {n : Nat} (hv : OaV (c :: cs)) (hI : RI code a r m ws tr) (hn : n + 100 * cs.length + 200 < 200000) (hc : CUs code ad n ([uAt (nI h) px py q] ++ ([uAt (nI h) px py c.2] ++ (uOa (nI h) px py c.1.1 cs ++ [uOp (nI h) (laO c.1.1 cs)])))) :
    (∀ u, evC wx wy (atW wx wy q) (c :: cs) = some u → ∃ r' m', RT S0 (600 * cs.length + 900) r m (19840 + n) r' m' (19840 + unN ([uAt (nI h) px py q] ++ ([uAt (nI h) px py c.2] ++ (uOa (nI h) px py c.1.1 cs ++ [uOp (nI h) (laO c.1.1 cs)]))) n) ∧ RI code a r' m' (ws ++ [u]) tr ∧ ∀ j, j < 5632 → m' j = m j) ∧
    (evC wx wy (atW wx wy q) (c :: cs) = none → ∃ r' m' vs, RT S0 (600 * cs.length + 900) r m (19840 + n) r' m' (eRaise h) ∧ RI code a r' m' (ws ++ vs) tr ∧ r' 4 = 26 ∧ vs.length ≤ 2) := by
  obtain ⟨hc1, hc2, hc3⟩ := hc
  have g1 := unG_len (g_at (w := nI h) (px := px) (py := py) (q := q))
  have g2 := unG_len (g_at (w := nI h) (px := px) (py := py) (q := c.2))
  obtain ⟨r1, m1, y1, k1, f1⟩ := ru_at (S0 := S0) hh hA hL hI (by omega) (by omega) hx hy q hc1
  obtain ⟨r2, m2, y2, k2, f2⟩ := ru_at (S0 := S0) hh hA hL k1 (by rw [List.length_append, List.length_singleton]; omega) (by omega) (at_app hx) (at_app hy) c.2 hc2
  obtain ⟨h3, h4⟩ := sm_oa (S0 := S0) hh hA hL hw hx hy cs c.1.1 (atW wx wy q) (atW wx wy c.2) r2 m2 (n + (uAt (nI h) px py q).1.length + (uAt (nI h) px py c.2).1.length) (hv c (List.mem_cons_self ..)).1 (fun d hd => hv d (List.mem_cons_of_mem _ hd)) k2 (by omega) hc3
  refine ⟨fun z hz => ?_, fun hz => ?_⟩
  · obtain ⟨r3, m3, y3, k3, f3⟩ := h3 z hz
    exact ⟨r3, m3, ((y1.trans y2).trans y3).mono (by omega), k3, fun j hj => (f3 j hj).trans ((f2 j hj).trans (f1 j hj))⟩
  · obtain ⟨r3, m3, vs, y3, k3, g4, l⟩ := h4 hz
    exact ⟨r3, m3, vs, ((y1.trans y2).trans y3).mono (by omega), k3, g4, l⟩
/-- the value bound: to the temps, kept, bound -/
theorem sm_end (hh : h = 1 ∨ h = 2) (hA : ADo ad h) (hL : CMl (LCh h) code) {v : Int32} {r m : Nat → Int32} {n : Nat} (hw : ws.length < 890) (hI : RI code a r m (ws ++ [v]) tr) (hn : n + 100 < 200000) (hc : CUs code ad n [u25 ws.length, u30, u31 (nI h)]) : ∃ r' m', RT S0 400 r m (19840 + n) r' m' (19840 + unN [u25 ws.length, u30, u31 (nI h)] n) ∧ RI code a r' m' ((ws ++ [v]) ++ [v]) tr := by
  obtain ⟨hc1, hc2, hc3, _⟩ := hc
  have hl : (ws ++ [v]).length < 900 := by rw [List.length_append, List.length_singleton]; omega
  have hp : (ws ++ [v])[ws.length]? = some v := by rw [List.getElem?_append_right (Nat.le_refl _), Nat.sub_self]; rfl
  obtain ⟨r1, m1, y1, k1, f1⟩ := ru_25 (S0 := S0) hh hA hL hI hl (by omega) hp hc1
  obtain ⟨r2, m2, y2, k2, f2⟩ := ru_30 (S0 := S0) hh hA hL k1 hl (by show n + 3 < _; omega) hc2
  obtain ⟨r3, m3, y3, k3, f3⟩ := ru_31 (S0 := S0) hh hA hL k2 hl (by show n + 3 + 3 < _; omega) hc3
  rw [f2, f1] at k3
  exact ⟨r3, m3, ((y1.trans y2).trans y3).mono (by decide), k3⟩
end
