/-! Orders run from the code: operators by their meaning, handles. -/
section
variable {w : Int32}
theorem uOp_5 : uOp w 5 = uDv w 0 := by unfold uOp; simp (config := { decide := true }) only [if_true, if_false, ite_true, ite_false]
theorem uOp_16 : uOp w 16 = uDv w 1 := by unfold uOp; simp (config := { decide := true }) only [if_true, if_false, ite_true, ite_false]
theorem uOp_41 : uOp w 41 = uMul w := by unfold uOp; simp (config := { decide := true }) only [if_true, if_false, ite_true, ite_false]
theorem uOp_42 : uOp w 42 = uAdd w := by unfold uOp; simp (config := { decide := true }) only [if_true, if_false, ite_true, ite_false]
theorem uOp_43 : uOp w 43 = uSub w := by unfold uOp; simp (config := { decide := true }) only [if_true, if_false, ite_true, ite_false]
theorem opW_42 (v x : Int32) : opW 42 v x = some (v + x - 1) := by unfold opW; simp (config := { decide := true }) only [if_true, ite_true]
theorem opW_43 (v x : Int32) : opW 43 v x = some (v - x + 1) := by unfold opW; simp (config := { decide := true }) only [if_true, ite_true, if_false, ite_false]
theorem opW_41 (v x : Int32) : opW 41 v x = some ((v - 1) * sr x + 1) := by unfold opW; simp (config := { decide := true }) only [if_true, ite_true, if_false, ite_false]
theorem opW_5 (v x : Int32) : opW 5 v x = if sr x = 0 then none else some (fdW (sr v) (sr x) * 2 + 1) := by unfold opW; simp (config := { decide := true }) only [if_true, ite_true, if_false, ite_false]
theorem opW_16 (v x : Int32) : opW 16 v x = if sr x = 0 then none else some (fmW (sr v) (sr x) * 2 + 1) := by unfold opW; simp (config := { decide := true }) only [if_true, ite_true, if_false, ite_false]
end
section
variable {S0 : xS} {code r m : Nat → Int32} {a : Int32} {ws : List Int32} {tr n h : Nat} {ad : Int32 → Int32}
/-- an operator -/
theorem ru_op (hh : h = 1 ∨ h = 2) (hA : ADo ad h) (hL : CMl (LCh h) code) {k v x : Int32} (hk : kCal k) (hI : RI code a r m ((ws ++ [v]) ++ [x]) tr) (hn : ws.length < 900) (h2 : n < 200000) (hc : CU code ad n (uOp (nI h) k)) : (∀ u, opW k v x = some u → ∃ r' m', RT S0 300 r m (19840 + n) r' m' (19840 + (n + (uOp (nI h) k).1.length)) ∧ RI code a r' m' (ws ++ [u]) tr ∧ ∀ j, j < 5632 → m' j = m j) ∧ (opW k v x = none → ∃ r', RT S0 300 r m (19840 + n) r' m (eRaise h) ∧ RI code a r' m ((ws ++ [v]) ++ [x]) tr ∧ r' 4 = 26) := by
  rcases kC hk with rfl | rfl | rfl | rfl | rfl
  · rw [uOp_5] at hc ⊢
    obtain ⟨h3, h4⟩ := ru_div0 (S0 := S0) hh hA hL hI hn h2 hc
    rw [opW_5]
    by_cases hz : sr x = 0
    · rw [if_pos hz]
      exact ⟨fun u hu => (by cases hu), fun _ => h4 hz⟩
    · rw [if_neg hz]
      exact ⟨fun u hu => by obtain rfl := Option.some.inj hu; exact h3 hz, fun hu => (by cases hu)⟩
  · rw [uOp_16] at hc ⊢
    obtain ⟨h3, h4⟩ := ru_div1 (S0 := S0) hh hA hL hI hn h2 hc
    rw [opW_16]
    by_cases hz : sr x = 0
    · rw [if_pos hz]
      exact ⟨fun u hu => (by cases hu), fun _ => h4 hz⟩
    · rw [if_neg hz]
      exact ⟨fun u hu => by obtain rfl := Option.some.inj hu; exact h3 hz, fun hu => (by cases hu)⟩
  · rw [uOp_41] at hc ⊢
    rw [opW_41]
    exact ⟨fun u hu => by obtain rfl := Option.some.inj hu; exact ru_mul hh hA hL hI hn h2 hc, fun hu => (by cases hu)⟩
  · rw [uOp_42] at hc ⊢
    rw [opW_42]
    exact ⟨fun u hu => by obtain rfl := Option.some.inj hu; exact ru_add hh hA hL hI hn h2 hc, fun hu => (by cases hu)⟩
  · rw [uOp_43] at hc ⊢
    rw [opW_43]
    exact ⟨fun u hu => by obtain rfl := Option.some.inj hu; exact ru_sub hh hA hL hI hn h2 hc, fun hu => (by cases hu)⟩
/-- the word of a name or a number -/
theorem ru_at (hh : h = 1 ∨ h = 2) (hA : ADo ad h) (hL : CMl (LCh h) code) (hI : RI code a r m ws tr) (hn : ws.length < 900) (h2 : n < 200000) {px py : Nat} {wx wy : Int32} (hx : ws[px]? = some wx) (hy : ws[py]? = some wy) (q : Int32 × Int32) (hc : CU code ad n (uAt (nI h) px py q)) : ∃ r' m', RT S0 300 r m (19840 + n) r' m' (19840 + (n + (uAt (nI h) px py q).1.length)) ∧ RI code a r' m' (ws ++ [atW wx wy q]) tr ∧ ∀ j, j < 5632 → m' j = m j := by
  unfold uAt at hc ⊢
  unfold atW
  by_cases h1 : q.1 = 27
  · rw [if_pos h1] at hc ⊢
    rw [if_pos h1]
    exact ru_1 hh hA hL hI hn h2 _ hc
  · rw [if_neg h1] at hc ⊢
    rw [if_neg h1]
    by_cases h3 : q.2 = 51
    · rw [if_pos h3] at hc ⊢
      rw [if_pos h3]
      exact ru_3 hh hA hL hI hn h2 hx hc
    · rw [if_neg h3] at hc ⊢
      rw [if_neg h3]
      exact ru_3 hh hA hL hI hn h2 hy hc
/-- a number alone -/
theorem ru_num (hh : h = 1 ∨ h = 2) (hA : ADo ad h) (hL : CMl (LCh h) code) (hI : RI code a r m ws tr) (hn : ws.length < 900) (h2 : n < 200000) {px py : Nat} {q : Int32 × Int32} (hq : q.1 = 27) (hc : CU code ad n (uAt (nI h) px py q)) : ∃ r' m', RT S0 300 r m (19840 + n) r' m' (19840 + (n + (uAt (nI h) px py q).1.length)) ∧ RI code a r' m' (ws ++ [q.2 * 2 + 1]) tr ∧ ∀ j, j < 5632 → m' j = m j := by
  unfold uAt at hc ⊢
  rw [if_pos hq] at hc ⊢
  exact ru_1 hh hA hL hI hn h2 _ hc
theorem clW_lui {L : Nat} {p : Int32} (hL : L < 1000000) : clW (nI L) p (scW0 5) = nI (1006960640 + 4 * L / 65536) := by
  have e : nI L * 4 = nI (4 * L) := by rw [Nat.mul_comm]; exact pk_mul L 4
  unfold clW
  rw [if_neg (by decide), if_neg (by decide), if_pos (by decide), e, pk_shrN (by omega) _ 16 (by decide)]
  exact or16 (C := 1006960640) (by decide) (by decide) (by decide) (by omega)
theorem clW_ori {L : Nat} {p : Int32} (hL : L < 1000000) : clW (nI L) p (scW1 5) = nI (883228672 + (4 * L + 1) % 65536) := by
  have e : nI L * 4 + 1 = nI (4 * L + 1) := by rw [show nI L * 4 = nI (4 * L) from by rw [Nat.mul_comm]; exact pk_mul L 4, nA1]
  unfold clW
  rw [if_neg (by decide), if_neg (by decide), if_neg (by decide), if_pos (by decide), e, n_lo (by omega)]
  exact or16 (C := 883228672) (by decide) (by decide) (by decide) (by omega)
/-- a handle opened -/
theorem ru_18 (hh : h = 1 ∨ h = 2) (hA : ADo ad h) (hL : CMl (LCh h) code) {l : Int32} {L : Nat} (hl : ad l = nI L) (hLL : L < 1000000) (hI : RI code a r m ws tr) (hn : ws.length < 900) (h2 : n < 200000) (hc : CU code ad n (u18 l)) : ∃ r' m', RT S0 300 r m (19840 + n) r' m' (19840 + (n + 4)) ∧ RI code a r' m' (((ws ++ [nI (4 * tr) + 1]) ++ [nI (4 * L) + 1]) ++ [nI (4 * 5632) + 1]) (5632 + ws.length) ∧ ∀ j, j < 5632 → m' j = m j := by
  have a1 := hA.2.2.2.2.1
  have hb : CB code (19840 + n) [clW (ad l) (nI (19840 + (n + 0))) (scW0 5), clW (ad l) (nI (19840 + (n + 1))) (scW1 5), clW (ad 65551) (nI (19840 + (n + 2))) wJal, 0] := by
    have z := cu_cb hc
    unfold u18 at z
    simp (config := { decide := true }) only [clL, clu, if_true, if_false, ite_true, ite_false] at z
    exact z
  rcases hh with rfl | rfl
  · rw [hl, a1, clW_jal (by decide), clW_lui hLL, clW_ori hLL] at hb
    exact ox18_1 hL hI hn (by omega) (by omega) hLL hb
  · rw [hl, a1, clW_jal (by decide), clW_lui hLL, clW_ori hLL] at hb
    exact ox18_2 hL hI hn (by omega) (by omega) hLL hb
/-- a handle closed -/
theorem ru_19 (hh : h = 1 ∨ h = 2) (hA : ADo ad h) (hL : CMl (LCh h) code) {b c v : Int32} {t : Nat} (hI : RI code a r m ((((ws ++ [nI (4 * t) + 1]) ++ [b]) ++ [c]) ++ [v]) tr) (hn : ws.length < 900) (h2 : n < 200000) (hc : CU code ad n u19) : ∃ r' m', RT S0 300 r m (19840 + n) r' m' (19840 + (n + 2)) ∧ RI code a r' m' (ws ++ [v]) t ∧ ∀ j, j < 5632 → m' j = m j := by
  have a1 := hA.2.2.2.2.2.1
  have hb : CB code (19840 + n) [clW (ad 65552) (nI (19840 + (n + 0))) wJal, 0] := cu_cb hc
  rcases hh with rfl | rfl
  · rw [a1, clW_jal (by decide)] at hb
    exact ox19_1 hL hI hn (by omega) (by omega) hb
  · rw [a1, clW_jal (by decide)] at hb
    exact ox19_2 hL hI hn (by omega) (by omega) hb
end
