/-! Orders run from the code: lines, one behind another. -/
def ALn (ad : Int32 → Int32) (w : Int32) (px py b dep n : Nat) : Ex → Prop
  | .inr (q, c :: cs, some _) => ad (nI (b + (2 * cs.length + 3) + 3)) = nI (19840 + unN (uH1 w px py b dep q c cs) n) ∧ (∃ L, L < 1000000 ∧ ad (nI (b + (2 * cs.length + 3) + 8)) = nI L) ∧ ad (nI (b + (2 * cs.length + 3) + 9)) = nI (19840 + unN (uH1 w px py b dep q c cs ++ (uH2 w py b dep cs ++ [u20 w])) n)
  | _ => True
def ALs (ad : Int32 → Int32) (w : Int32) : Nat → Nat → Nat → Nat → Nat → List De → Prop
  | _, _, _, _, _, [] => True
  | px, py, b, dep, n, c :: cs => ALn ad w px py b dep n c.2 ∧ ALs ad w (if c.1 = 51 then dep + 1 else px) (if c.1 = 51 then py else dep + 1) (b + (lnO px py b dep c.2).length) (dep + 2) (unN (uLn w px py b dep c.2) n) cs
/-- operators alone -/
def ExR : Ex → Prop
  | .inl _ => False
  | .inr _ => True
section
variable {S0 : xS} {code : Nat → Int32} {a : Int32} {h : Nat} {ad : Int32 → Int32}
theorem sm_any {ws : List Int32} {px py b n : Nat} {wx wy : Int32} {r m : Nat → Int32} (hh : h = 1 ∨ h = 2) (hA : ADo ad h) (hL : CMl (LCh h) code) (hw : ws.length < 850) (hx : ws[px]? = some wx) (hy : ws[py]? = some wy) (hI : RI code a r m ws 0) (hn : n + 4000 < 200000) : ∀ (e : Ex), ExL e → ExR e → ALn ad (nI h) px py b ws.length n e → CUs code ad n (uLn (nI h) px py b ws.length e) →
    (∀ u, exW wx wy e = some u → ∃ r' m', RT S0 6000 r m (19840 + n) r' m' (19840 + unN (uLn (nI h) px py b ws.length e) n) ∧ RI code a r' m' ((ws ++ [u]) ++ [u]) 0) ∧
    (exW wx wy e = none → ∃ r' m' vs, RT S0 6000 r m (19840 + n) r' m' (eRaise h) ∧ RI code a r' m' (ws ++ vs) 0 ∧ r' 4 = 26)
  | .inl _, _, hr, _, _ => hr.elim
  | .inr (_, [], _), he, _, _, _ => by
    obtain ⟨_, ⟨c, cs, h2⟩, _⟩ := he
    cases h2
  | .inr (q, c :: cs, none), he, _, _, hc => by
    have h3 : (c :: cs).length ≤ 3 := he.2.2
    rw [List.length_cons] at h3
    obtain ⟨p1, p2⟩ := sm_plain (S0 := S0) hh hA hL (by omega) hx hy he.1 hI (by omega) hc
    refine ⟨fun u hu => ?_, fun hu => ?_⟩
    · obtain ⟨r1, m1, y1, k1⟩ := p1 u hu
      exact ⟨r1, m1, y1.mono (by omega), k1⟩
    · obtain ⟨r1, m1, vs, y1, k1, g1⟩ := p2 hu
      exact ⟨r1, m1, vs, y1.mono (by omega), k1, g1⟩
  | .inr (q, c :: cs, some x), he, _, hl, hc => by
    have h3 : (c :: cs).length ≤ 3 := he.2.2
    rw [List.length_cons] at h3
    obtain ⟨l3, ⟨L8, l8, l8'⟩, l9⟩ := hl
    obtain ⟨r1, m1, y1, k1⟩ := sm_han (S0 := S0) hh hA hL hw hx hy he.1 hI (by omega) l3 l8' l8 l9 hc
    refine ⟨fun u hu => ?_, fun hu => (by cases hu)⟩
    have hu : some ((evC wx wy (atW wx wy q) (c :: cs)).getD wy) = some u := hu
    obtain rfl := Option.some.inj hu
    exact ⟨r1, m1, y1.mono (by omega), k1⟩
theorem sm_lines (hh : h = 1 ∨ h = 2) (hA : ADo ad h) (hL : CMl (LCh h) code) : ∀ (cs : List De) (ws : List Int32) (px py b n : Nat) (wx wy : Int32) (r m : Nat → Int32), (∀ c ∈ cs, ExL c.2 ∧ ExR c.2) → ws.length + 2 * cs.length < 850 → ws[px]? = some wx → ws[py]? = some wy → RI code a r m ws 0 → n + 220 * cs.length + 4000 < 200000 → ALs ad (nI h) px py b ws.length n cs → CUs code ad n (uLs (nI h) px py b ws.length cs) →
    (∀ u, evL wx wy cs = some u → ∃ r' m' ws', RT S0 (6000 * cs.length) r m (19840 + n) r' m' (19840 + unN (uLs (nI h) px py b ws.length cs) n) ∧ RI code a r' m' ws' 0 ∧ ws'[(endP px py ws.length cs).1]? = some u.1 ∧ ws'.length = ws.length + 2 * cs.length) ∧
    (evL wx wy cs = none → ∃ r' m' vs, RT S0 (6000 * cs.length) r m (19840 + n) r' m' (eRaise h) ∧ RI code a r' m' vs 0 ∧ r' 4 = 26)
  | [], ws, px, py, b, n, wx, wy, r, m, _, _, hx, hy, hI, _, _, _ => by
    refine ⟨fun u hu => ?_, fun hu => (by cases hu)⟩
    obtain rfl := Option.some.inj hu
    exact ⟨r, m, ws, RT.zero, hI, hx, rfl⟩
  | c :: cs, ws, px, py, b, n, wx, wy, r, m, he, hw, hx, hy, hI, hn, hl, hc => by
    rw [List.length_cons] at hw hn ⊢
    obtain ⟨hl1, hl2⟩ := hl
    obtain ⟨hc1, hc2⟩ := CUs.app (us := uLn (nI h) px py b ws.length c.2) hc
    obtain ⟨e1, e2⟩ := he c (List.mem_cons_self ..)
    obtain ⟨p1, p2⟩ := sm_any (S0 := S0) hh hA hL (by omega) hx hy hI (by omega) c.2 e1 e2 hl1 hc1
    have ev : evL wx wy (c :: cs) = (match exW wx wy c.2 with | none => none | some u => evL (if c.1 = 51 then u else wx) (if c.1 = 51 then wy else u) cs) := rfl
    have b1 := unN_le (uLn (nI h) px py b ws.length c.2) n (uLn_g c.2)
    have b2 := uLn_len (w := nI h) (px := px) (py := py) (b := b) (dep := ws.length) c.2 e1
    rw [ev]
    cases ho : exW wx wy c.2 with
    | none =>
      refine ⟨fun u hu => (by cases hu), fun _ => ?_⟩
      obtain ⟨r1, m1, vs, y1, k1, g1⟩ := p2 ho
      exact ⟨r1, m1, ws ++ vs, y1.mono (by omega), k1, g1⟩
    | some u =>
      obtain ⟨r1, m1, y1, k1⟩ := p1 u ho
      have hlen : ((ws ++ [u]) ++ [u]).length = ws.length + 2 := by simp only [List.length_append, List.length_singleton]
      have hu : ((ws ++ [u]) ++ [u])[ws.length + 1]? = some u := by
        rw [List.getElem?_append_right (by rw [List.length_append, List.length_singleton]; exact Nat.le_refl _), List.length_append, List.length_singleton, Nat.sub_self]
        rfl
      have hx' : ((ws ++ [u]) ++ [u])[if c.1 = 51 then ws.length + 1 else px]? = some (if c.1 = 51 then u else wx) := by
        by_cases q : c.1 = 51
        · rw [if_pos q, if_pos q]; exact hu
        · rw [if_neg q, if_neg q]; exact at_app (at_app hx)
      have hy' : ((ws ++ [u]) ++ [u])[if c.1 = 51 then py else ws.length + 1]? = some (if c.1 = 51 then wy else u) := by
        by_cases q : c.1 = 51
        · rw [if_pos q, if_pos q]; exact at_app (at_app hy)
        · rw [if_neg q, if_neg q]; exact hu
      have ih := sm_lines hh hA hL cs ((ws ++ [u]) ++ [u]) (if c.1 = 51 then ws.length + 1 else px) (if c.1 = 51 then py else ws.length + 1) (b + (lnO px py b ws.length c.2).length) (unN (uLn (nI h) px py b ws.length c.2) n) (if c.1 = 51 then u else wx) (if c.1 = 51 then wy else u) r1 m1 (fun d hd => he d (List.mem_cons_of_mem _ hd)) (by rw [hlen]; omega) hx' hy' k1 (by omega) (by rw [hlen]; exact hl2) (by rw [hlen]; exact hc2)
      rw [hlen] at ih
      obtain ⟨q1, q2⟩ := ih
      refine ⟨fun z hz => ?_, fun hz => ?_⟩
      · obtain ⟨r2, m2, ws', y2, k2, x2, l2⟩ := q1 z hz
        have e : unN (uLs (nI h) px py b ws.length (c :: cs)) n = unN (uLs (nI h) (if c.1 = 51 then ws.length + 1 else px) (if c.1 = 51 then py else ws.length + 1) (b + (lnO px py b ws.length c.2).length) (ws.length + 2) cs) (unN (uLn (nI h) px py b ws.length c.2) n) := unN_app _ _ _
        rw [e]
        exact ⟨r2, m2, ws', (y1.trans y2).mono (by omega), k2, x2, by omega⟩
      · obtain ⟨r2, m2, vs, y2, k2, g2⟩ := q2 hz
        exact ⟨r2, m2, vs, (y1.trans y2).mono (by omega), k2, g2⟩
end
