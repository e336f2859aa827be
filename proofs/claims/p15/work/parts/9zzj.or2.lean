/-! Orders run by the processor: operators. -/
theorem mul32 (x y : Int32) : (x.toInt64 * y.toInt64).toInt32 = x * y := by
  rw [Int64.toInt32_mul, Int32.toInt32_toInt64, Int32.toInt32_toInt64]
set_option maxHeartbeats 4000000 in
set_option maxRecDepth 100000 in
theorem oxadd1 {S0 : xS} {code r m : Nat → Int32} {a : Int32} {ws : List Int32} {tr q : Nat} {v w : Int32} (hL : CMl LC1 code) (h : RI code a r m ((ws ++ [v]) ++ [w]) tr) (hn : ws.length < 900) (h1 : 19840 ≤ q) (h2 : q < 281000) (hb : CB code q [2382954488, 0, 2383020028, 0, 638648316, 17387553, 625672191, 2919956476]) : ∃ r' m', RT S0 300 r m q r' m' (q + 8) ∧ RI code a r' m' (ws ++ [v + w - 1]) tr ∧ ∀ j, j < 5632 → m' j = m j := by
  have hT := h
  have h : RI code a r m (ws ++ [v, w]) tr := by rw [List.append_assoc] at h; exact h
  have hc := h.1.lib hL
  have h0 := h.2.1
  have h16 : r 16 = nI (4 * (5632 + ws.length + 2)) := by have := h.2.2.1; rw [List.length_append] at this; exact this
  have a8 : (r 16 + (-8)) >>> ((2 : Int32) &&& 31) = nI (5632 + ws.length) := ad4 h16 (nm4 (x := 5632 + ws.length) (c := 2) (by decide)) (by omega)
  have a9 : (r 16 + (-4)) >>> ((2 : Int32) &&& 31) = nI (5632 + ws.length + 1) := ad4 h16 (nm4 (x := 5632 + ws.length + 1) (c := 1) (by decide)) (by omega)
  have a12 : r 16 + (-4) = nI (4 * (5632 + ws.length + 1)) := by rw [h16]; exact nm4 (x := 5632 + ws.length + 1) (c := 1) (by decide)
  have as : ((r 16 + (-4)) + (-4)) >>> ((2 : Int32) &&& 31) = nI (5632 + ws.length) := ad4 a12 (nm4 (x := 5632 + ws.length) (c := 1) (by decide)) (by omega)
  have v0 : m (5632 + ws.length) = v := h.at
  have v1 : m (5632 + ws.length + 1) = w := by
    have := h.2.2.2.2.2.2.2.2.2.2 (ws.length + 1) w (by rw [List.getElem?_append_right (by omega), show ws.length + 1 - ws.length = 1 from by omega]; rfl)
    rw [← Nat.add_assoc] at this; exact this
  have f0 : m (q) = 2382954488 := (h.1 _ (by omega)).trans (hb 0 _ rfl)
  have f1 : m (q + 1) = 0 := (h.1 _ (by omega)).trans (hb 1 _ rfl)
  have f2 : m (q + 2) = 2383020028 := (h.1 _ (by omega)).trans (hb 2 _ rfl)
  have f3 : m (q + 3) = 0 := (h.1 _ (by omega)).trans (hb 3 _ rfl)
  have f4 : m (q + 4) = 638648316 := (h.1 _ (by omega)).trans (hb 4 _ rfl)
  have f5 : m (q + 5) = 17387553 := (h.1 _ (by omega)).trans (hb 5 _ rfl)
  have f6 : m (q + 6) = 625672191 := (h.1 _ (by omega)).trans (hb 6 _ rfl)
  have f7 : m (q + 7) = 2919956476 := (h.1 _ (by omega)).trans (hb 7 _ rfl)
  have x := fun (h l lw : Int32) => r_lw (S0 := S0) (q := q) (r := r) (m := m) (p := q + 1) (h := h) (l := l) (lt := 0) (lw := lw) (by omega) f0 (by decide) (sa := 16) (t := 8) (i := (-8)) (k := (5632 + ws.length)) (by decide) (by decide) (by decide) (by decide) (by decide) (by decide) a8 (by omega)
  have x := fun (h l lw : Int32) => (x h l lw).trans (r_sll (by omega) f1 (by decide) (sb := 0) (t := 0) (dd := 0) (by decide) (by decide) (by decide) (by decide) (by decide) (by decide) (by decide))
  have x := fun (h l lw : Int32) => (x h l lw).trans (r_lw (by omega) f2 (by decide) (sa := 16) (t := 9) (i := (-4)) (k := (5632 + ws.length + 1)) (by decide) (by decide) (by decide) (by decide) (by decide) (by decide) a9 (by omega))
  have x := fun (h l lw : Int32) => (x h l lw).trans (r_sll (by omega) f3 (by decide) (sb := 0) (t := 0) (dd := 0) (by decide) (by decide) (by decide) (by decide) (by decide) (by decide) (by decide))
  have x := fun (h l lw : Int32) => (x h l lw).trans (r_addiu (by omega) f4 (by decide) (sa := 16) (t := 16) (i := (-4)) (by decide) (by decide) (by decide) (by decide) (by decide) (by decide))
  have x := fun (h l lw : Int32) => (x h l lw).trans (r_addu (by omega) f5 (by decide) (sa := 8) (sb := 9) (t := 10) (by decide) (by decide) (by decide) (by decide) (by decide) (by decide) (by decide) (by decide))
  have x := fun (h l lw : Int32) => (x h l lw).trans (r_addiu (by omega) f6 (by decide) (sa := 10) (t := 10) (i := (-1)) (by decide) (by decide) (by decide) (by decide) (by decide) (by decide))
  have x := fun (h l lw : Int32) => (x h l lw).trans (r_sw (by omega) f7 (by decide) (sa := 16) (t := 10) (i := (-4)) (k := (5632 + ws.length)) (by decide) (by decide) (by decide) (by decide) (by decide) (by decide) as (by omega))
  simp only [wr0] at x
  have y := RT.mk (N := 30) x (by decide)
  generalize hr7 : (wr _ _ _ : Nat → Int32) = r7 at y
  have e10 : r7 10 = v + w - 1 := by
    rw [← v0, ← v1]
    subst hr7
    show m (5632 + ws.length) + m (5632 + ws.length + 1) + (-1) = _
    rw [sM1]
  rw [e10] at y
  have k7 := h.set (r' := r7) (tr' := tr) (v := v + w - 1) (by omega) (by subst hr7; exact a12) (by subst hr7; exact h.2.2.2.2.2.1) (by subst hr7; rfl) (by subst hr7; rfl) (by subst hr7; rfl) (by subst hr7; rfl) (by subst hr7; rfl)
  exact ⟨r7, _, y.mono (by decide), k7, fun j hj => pk_un (by omega)⟩
set_option maxHeartbeats 4000000 in
set_option maxRecDepth 100000 in
theorem oxsub1 {S0 : xS} {code r m : Nat → Int32} {a : Int32} {ws : List Int32} {tr q : Nat} {v w : Int32} (hL : CMl LC1 code) (h : RI code a r m ((ws ++ [v]) ++ [w]) tr) (hn : ws.length < 900) (h1 : 19840 ≤ q) (h2 : q < 281000) (hb : CB code q [2382954488, 0, 2383020028, 0, 638648316, 17387555, 625606657, 2919956476]) : ∃ r' m', RT S0 300 r m q r' m' (q + 8) ∧ RI code a r' m' (ws ++ [v - w + 1]) tr ∧ ∀ j, j < 5632 → m' j = m j := by
  have hT := h
  have h : RI code a r m (ws ++ [v, w]) tr := by rw [List.append_assoc] at h; exact h
  have hc := h.1.lib hL
  have h0 := h.2.1
  have h16 : r 16 = nI (4 * (5632 + ws.length + 2)) := by have := h.2.2.1; rw [List.length_append] at this; exact this
  have a8 : (r 16 + (-8)) >>> ((2 : Int32) &&& 31) = nI (5632 + ws.length) := ad4 h16 (nm4 (x := 5632 + ws.length) (c := 2) (by decide)) (by omega)
  have a9 : (r 16 + (-4)) >>> ((2 : Int32) &&& 31) = nI (5632 + ws.length + 1) := ad4 h16 (nm4 (x := 5632 + ws.length + 1) (c := 1) (by decide)) (by omega)
  have a12 : r 16 + (-4) = nI (4 * (5632 + ws.length + 1)) := by rw [h16]; exact nm4 (x := 5632 + ws.length + 1) (c := 1) (by decide)
  have as : ((r 16 + (-4)) + (-4)) >>> ((2 : Int32) &&& 31) = nI (5632 + ws.length) := ad4 a12 (nm4 (x := 5632 + ws.length) (c := 1) (by decide)) (by omega)
  have v0 : m (5632 + ws.length) = v := h.at
  have v1 : m (5632 + ws.length + 1) = w := by
    have := h.2.2.2.2.2.2.2.2.2.2 (ws.length + 1) w (by rw [List.getElem?_append_right (by omega), show ws.length + 1 - ws.length = 1 from by omega]; rfl)
    rw [← Nat.add_assoc] at this; exact this
  have f0 : m (q) = 2382954488 := (h.1 _ (by omega)).trans (hb 0 _ rfl)
  have f1 : m (q + 1) = 0 := (h.1 _ (by omega)).trans (hb 1 _ rfl)
  have f2 : m (q + 2) = 2383020028 := (h.1 _ (by omega)).trans (hb 2 _ rfl)
  have f3 : m (q + 3) = 0 := (h.1 _ (by omega)).trans (hb 3 _ rfl)
  have f4 : m (q + 4) = 638648316 := (h.1 _ (by omega)).trans (hb 4 _ rfl)
  have f5 : m (q + 5) = 17387555 := (h.1 _ (by omega)).trans (hb 5 _ rfl)
  have f6 : m (q + 6) = 625606657 := (h.1 _ (by omega)).trans (hb 6 _ rfl)
  have f7 : m (q + 7) = 2919956476 := (h.1 _ (by omega)).trans (hb 7 _ rfl)
  have x := fun (h l lw : Int32) => r_lw (S0 := S0) (q := q) (r := r) (m := m) (p := q + 1) (h := h) (l := l) (lt := 0) (lw := lw) (by omega) f0 (by decide) (sa := 16) (t := 8) (i := (-8)) (k := (5632 + ws.length)) (by decide) (by decide) (by decide) (by decide) (by decide) (by decide) a8 (by omega)
  have x := fun (h l lw : Int32) => (x h l lw).trans (r_sll (by omega) f1 (by decide) (sb := 0) (t := 0) (dd := 0) (by decide) (by decide) (by decide) (by decide) (by decide) (by decide) (by decide))
  have x := fun (h l lw : Int32) => (x h l lw).trans (r_lw (by omega) f2 (by decide) (sa := 16) (t := 9) (i := (-4)) (k := (5632 + ws.length + 1)) (by decide) (by decide) (by decide) (by decide) (by decide) (by decide) a9 (by omega))
  have x := fun (h l lw : Int32) => (x h l lw).trans (r_sll (by omega) f3 (by decide) (sb := 0) (t := 0) (dd := 0) (by decide) (by decide) (by decide) (by decide) (by decide) (by decide) (by decide))
  have x := fun (h l lw : Int32) => (x h l lw).trans (r_addiu (by omega) f4 (by decide) (sa := 16) (t := 16) (i := (-4)) (by decide) (by decide) (by decide) (by decide) (by decide) (by decide))
  have x := fun (h l lw : Int32) => (x h l lw).trans (r_subu (by omega) f5 (by decide) (sa := 8) (sb := 9) (t := 10) (by decide) (by decide) (by decide) (by decide) (by decide) (by decide) (by decide) (by decide))
  have x := fun (h l lw : Int32) => (x h l lw).trans (r_addiu (by omega) f6 (by decide) (sa := 10) (t := 10) (i := 1) (by decide) (by decide) (by decide) (by decide) (by decide) (by decide))
  have x := fun (h l lw : Int32) => (x h l lw).trans (r_sw (by omega) f7 (by decide) (sa := 16) (t := 10) (i := (-4)) (k := (5632 + ws.length)) (by decide) (by decide) (by decide) (by decide) (by decide) (by decide) as (by omega))
  simp only [wr0] at x
  have y := RT.mk (N := 30) x (by decide)
  generalize hr7 : (wr _ _ _ : Nat → Int32) = r7 at y
  have e10 : r7 10 = v - w + 1 := by
    rw [← v0, ← v1]
    subst hr7
    show m (5632 + ws.length) - m (5632 + ws.length + 1) + 1 = _
    rfl
  rw [e10] at y
  have k7 := h.set (r' := r7) (tr' := tr) (v := v - w + 1) (by omega) (by subst hr7; exact a12) (by subst hr7; exact h.2.2.2.2.2.1) (by subst hr7; rfl) (by subst hr7; rfl) (by subst hr7; rfl) (by subst hr7; rfl) (by subst hr7; rfl)
  exact ⟨r7, _, y.mono (by decide), k7, fun j hj => pk_un (by omega)⟩
set_option maxHeartbeats 4000000 in
set_option maxRecDepth 100000 in
theorem oxmul1 {S0 : xS} {code r m : Nat → Int32} {a : Int32} {ws : List Int32} {tr q : Nat} {v w : Int32} (hL : CMl LC1 code) (h : RI code a r m ((ws ++ [v]) ++ [w]) tr) (hn : ws.length < 900) (h1 : 19840 ≤ q) (h2 : q < 281000) (hb : CB code q [2382954488, 0, 2383020028, 0, 638648316, 621346815, 608323, 17367064, 20498, 625606657, 2919956476]) : ∃ r' m', RT S0 300 r m q r' m' (q + 11) ∧ RI code a r' m' (ws ++ [(v - 1) * sr w + 1]) tr ∧ ∀ j, j < 5632 → m' j = m j := by
  have hT := h
  have h : RI code a r m (ws ++ [v, w]) tr := by rw [List.append_assoc] at h; exact h
  have hc := h.1.lib hL
  have h0 := h.2.1
  have h16 : r 16 = nI (4 * (5632 + ws.length + 2)) := by have := h.2.2.1; rw [List.length_append] at this; exact this
  have a8 : (r 16 + (-8)) >>> ((2 : Int32) &&& 31) = nI (5632 + ws.length) := ad4 h16 (nm4 (x := 5632 + ws.length) (c := 2) (by decide)) (by omega)
  have a9 : (r 16 + (-4)) >>> ((2 : Int32) &&& 31) = nI (5632 + ws.length + 1) := ad4 h16 (nm4 (x := 5632 + ws.length + 1) (c := 1) (by decide)) (by omega)
  have a12 : r 16 + (-4) = nI (4 * (5632 + ws.length + 1)) := by rw [h16]; exact nm4 (x := 5632 + ws.length + 1) (c := 1) (by decide)
  have as : ((r 16 + (-4)) + (-4)) >>> ((2 : Int32) &&& 31) = nI (5632 + ws.length) := ad4 a12 (nm4 (x := 5632 + ws.length) (c := 1) (by decide)) (by omega)
  have v0 : m (5632 + ws.length) = v := h.at
  have v1 : m (5632 + ws.length + 1) = w := by
    have := h.2.2.2.2.2.2.2.2.2.2 (ws.length + 1) w (by rw [List.getElem?_append_right (by omega), show ws.length + 1 - ws.length = 1 from by omega]; rfl)
    rw [← Nat.add_assoc] at this; exact this
  have f0 : m (q) = 2382954488 := (h.1 _ (by omega)).trans (hb 0 _ rfl)
  have f1 : m (q + 1) = 0 := (h.1 _ (by omega)).trans (hb 1 _ rfl)
  have f2 : m (q + 2) = 2383020028 := (h.1 _ (by omega)).trans (hb 2 _ rfl)
  have f3 : m (q + 3) = 0 := (h.1 _ (by omega)).trans (hb 3 _ rfl)
  have f4 : m (q + 4) = 638648316 := (h.1 _ (by omega)).trans (hb 4 _ rfl)
  have f5 : m (q + 5) = 621346815 := (h.1 _ (by omega)).trans (hb 5 _ rfl)
  have f6 : m (q + 6) = 608323 := (h.1 _ (by omega)).trans (hb 6 _ rfl)
  have f7 : m (q + 7) = 17367064 := (h.1 _ (by omega)).trans (hb 7 _ rfl)
  have f8 : m (q + 8) = 20498 := (h.1 _ (by omega)).trans (hb 8 _ rfl)
  have f9 : m (q + 9) = 625606657 := (h.1 _ (by omega)).trans (hb 9 _ rfl)
  have f10 : m (q + 10) = 2919956476 := (h.1 _ (by omega)).trans (hb 10 _ rfl)
  have x := fun (h l lw : Int32) => r_lw (S0 := S0) (q := q) (r := r) (m := m) (p := q + 1) (h := h) (l := l) (lt := 0) (lw := lw) (by omega) f0 (by decide) (sa := 16) (t := 8) (i := (-8)) (k := (5632 + ws.length)) (by decide) (by decide) (by decide) (by decide) (by decide) (by decide) a8 (by omega)
  have x := fun (h l lw : Int32) => (x h l lw).trans (r_sll (by omega) f1 (by decide) (sb := 0) (t := 0) (dd := 0) (by decide) (by decide) (by decide) (by decide) (by decide) (by decide) (by decide))
  have x := fun (h l lw : Int32) => (x h l lw).trans (r_lw (by omega) f2 (by decide) (sa := 16) (t := 9) (i := (-4)) (k := (5632 + ws.length + 1)) (by decide) (by decide) (by decide) (by decide) (by decide) (by decide) a9 (by omega))
  have x := fun (h l lw : Int32) => (x h l lw).trans (r_sll (by omega) f3 (by decide) (sb := 0) (t := 0) (dd := 0) (by decide) (by decide) (by decide) (by decide) (by decide) (by decide) (by decide))
  have x := fun (h l lw : Int32) => (x h l lw).trans (r_addiu (by omega) f4 (by decide) (sa := 16) (t := 16) (i := (-4)) (by decide) (by decide) (by decide) (by decide) (by decide) (by decide))
  have x := fun (h l lw : Int32) => (x h l lw).trans (r_addiu (by omega) f5 (by decide) (sa := 8) (t := 8) (i := (-1)) (by decide) (by decide) (by decide) (by decide) (by decide) (by decide))
  have x := fun (h l lw : Int32) => (x h l lw).trans (r_sra (by omega) f6 (by decide) (sb := 9) (t := 9) (dd := 1) (by decide) (by decide) (by decide) (by decide) (by decide) (by decide) (by decide))
  have x := fun (h l lw : Int32) => (x h l lw).trans (r_mult (by omega) f7 (by decide) (sa := 8) (sb := 9) (by decide) (by decide) (by decide) (by decide) (by decide) (by decide))
  have x := fun (h l lw : Int32) => (x h l lw).trans (r_mflo (by omega) f8 (by decide) (t := 10) (by decide) (by decide) (by decide) (by decide))
  have x := fun (h l lw : Int32) => (x h l lw).trans (r_addiu (by omega) f9 (by decide) (sa := 10) (t := 10) (i := 1) (by decide) (by decide) (by decide) (by decide) (by decide) (by decide))
  have x := fun (h l lw : Int32) => (x h l lw).trans (r_sw (by omega) f10 (by decide) (sa := 16) (t := 10) (i := (-4)) (k := (5632 + ws.length)) (by decide) (by decide) (by decide) (by decide) (by decide) (by decide) as (by omega))
  simp only [wr0] at x
  have y := RT.mk (N := 30) x (by decide)
  generalize hr7 : (wr _ _ _ : Nat → Int32) = r7 at y
  have e10 : r7 10 = (v - 1) * sr w + 1 := by
    rw [← v0, ← v1]
    subst hr7
    show ((m (5632 + ws.length) + (-1)).toInt64 * (sr (m (5632 + ws.length + 1))).toInt64).toInt32 + 1 = _
    rw [mul32, sM1]
  rw [e10] at y
  have k7 := h.set (r' := r7) (tr' := tr) (v := (v - 1) * sr w + 1) (by omega) (by subst hr7; exact a12) (by subst hr7; exact h.2.2.2.2.2.1) (by subst hr7; rfl) (by subst hr7; rfl) (by subst hr7; rfl) (by subst hr7; rfl) (by subst hr7; rfl)
  exact ⟨r7, _, y.mono (by decide), k7, fun j hj => pk_un (by omega)⟩
set_option maxHeartbeats 4000000 in
set_option maxRecDepth 100000 in
theorem oxadd2 {S0 : xS} {code r m : Nat → Int32} {a : Int32} {ws : List Int32} {tr q : Nat} {v w : Int32} (hL : CMl LC2 code) (h : RI code a r m ((ws ++ [v]) ++ [w]) tr) (hn : ws.length < 900) (h1 : 19840 ≤ q) (h2 : q < 281000) (hb : CB code q [2382954488, 2383020028, 638648316, 17387553, 625672191, 2919956476]) : ∃ r' m', RT S0 300 r m q r' m' (q + 6) ∧ RI code a r' m' (ws ++ [v + w - 1]) tr ∧ ∀ j, j < 5632 → m' j = m j := by
  have hT := h
  have h : RI code a r m (ws ++ [v, w]) tr := by rw [List.append_assoc] at h; exact h
  have hc := h.1.lib hL
  have h0 := h.2.1
  have h16 : r 16 = nI (4 * (5632 + ws.length + 2)) := by have := h.2.2.1; rw [List.length_append] at this; exact this
  have a8 : (r 16 + (-8)) >>> ((2 : Int32) &&& 31) = nI (5632 + ws.length) := ad4 h16 (nm4 (x := 5632 + ws.length) (c := 2) (by decide)) (by omega)
  have a9 : (r 16 + (-4)) >>> ((2 : Int32) &&& 31) = nI (5632 + ws.length + 1) := ad4 h16 (nm4 (x := 5632 + ws.length + 1) (c := 1) (by decide)) (by omega)
  have a12 : r 16 + (-4) = nI (4 * (5632 + ws.length + 1)) := by rw [h16]; exact nm4 (x := 5632 + ws.length + 1) (c := 1) (by decide)
  have as : ((r 16 + (-4)) + (-4)) >>> ((2 : Int32) &&& 31) = nI (5632 + ws.length) := ad4 a12 (nm4 (x := 5632 + ws.length) (c := 1) (by decide)) (by omega)
  have v0 : m (5632 + ws.length) = v := h.at
  have v1 : m (5632 + ws.length + 1) = w := by
    have := h.2.2.2.2.2.2.2.2.2.2 (ws.length + 1) w (by rw [List.getElem?_append_right (by omega), show ws.length + 1 - ws.length = 1 from by omega]; rfl)
    rw [← Nat.add_assoc] at this; exact this
  have f0 : m (q) = 2382954488 := (h.1 _ (by omega)).trans (hb 0 _ rfl)
  have f1 : m (q + 1) = 2383020028 := (h.1 _ (by omega)).trans (hb 1 _ rfl)
  have f2 : m (q + 2) = 638648316 := (h.1 _ (by omega)).trans (hb 2 _ rfl)
  have f3 : m (q + 3) = 17387553 := (h.1 _ (by omega)).trans (hb 3 _ rfl)
  have f4 : m (q + 4) = 625672191 := (h.1 _ (by omega)).trans (hb 4 _ rfl)
  have f5 : m (q + 5) = 2919956476 := (h.1 _ (by omega)).trans (hb 5 _ rfl)
  have x := fun (h l lw : Int32) => r_lw (S0 := S0) (q := q) (r := r) (m := m) (p := q + 1) (h := h) (l := l) (lt := 0) (lw := lw) (by omega) f0 (by decide) (sa := 16) (t := 8) (i := (-8)) (k := (5632 + ws.length)) (by decide) (by decide) (by decide) (by decide) (by decide) (by decide) a8 (by omega)
  have x := fun (h l lw : Int32) => (x h l lw).trans (r_lw (by omega) f1 (by decide) (sa := 16) (t := 9) (i := (-4)) (k := (5632 + ws.length + 1)) (by decide) (by decide) (by decide) (by decide) (by decide) (by decide) a9 (by omega))
  have x := fun (h l lw : Int32) => (x h l lw).trans (r_addiu (by omega) f2 (by decide) (sa := 16) (t := 16) (i := (-4)) (by decide) (by decide) (by decide) (by decide) (by decide) (by decide))
  have x := fun (h l lw : Int32) => (x h l lw).trans (r_addu (by omega) f3 (by decide) (sa := 8) (sb := 9) (t := 10) (by decide) (by decide) (by decide) (by decide) (by decide) (by decide) (by decide) (by decide))
  have x := fun (h l lw : Int32) => (x h l lw).trans (r_addiu (by omega) f4 (by decide) (sa := 10) (t := 10) (i := (-1)) (by decide) (by decide) (by decide) (by decide) (by decide) (by decide))
  have x := fun (h l lw : Int32) => (x h l lw).trans (r_sw (by omega) f5 (by decide) (sa := 16) (t := 10) (i := (-4)) (k := (5632 + ws.length)) (by decide) (by decide) (by decide) (by decide) (by decide) (by decide) as (by omega))
  simp only [wr0] at x
  have y := RT.mk (N := 30) x (by decide)
  generalize hr7 : (wr _ _ _ : Nat → Int32) = r7 at y
  have e10 : r7 10 = v + w - 1 := by
    rw [← v0, ← v1]
    subst hr7
    show m (5632 + ws.length) + m (5632 + ws.length + 1) + (-1) = _
    rw [sM1]
  rw [e10] at y
  have k7 := h.set (r' := r7) (tr' := tr) (v := v + w - 1) (by omega) (by subst hr7; exact a12) (by subst hr7; exact h.2.2.2.2.2.1) (by subst hr7; rfl) (by subst hr7; rfl) (by subst hr7; rfl) (by subst hr7; rfl) (by subst hr7; rfl)
  exact ⟨r7, _, y.mono (by decide), k7, fun j hj => pk_un (by omega)⟩
set_option maxHeartbeats 4000000 in
set_option maxRecDepth 100000 in
theorem oxsub2 {S0 : xS} {code r m : Nat → Int32} {a : Int32} {ws : List Int32} {tr q : Nat} {v w : Int32} (hL : CMl LC2 code) (h : RI code a r m ((ws ++ [v]) ++ [w]) tr) (hn : ws.length < 900) (h1 : 19840 ≤ q) (h2 : q < 281000) (hb : CB code q [2382954488, 2383020028, 638648316, 17387555, 625606657, 2919956476]) : ∃ r' m', RT S0 300 r m q r' m' (q + 6) ∧ RI code a r' m' (ws ++ [v - w + 1]) tr ∧ ∀ j, j < 5632 → m' j = m j := by
  have hT := h
  have h : RI code a r m (ws ++ [v, w]) tr := by rw [List.append_assoc] at h; exact h
  have hc := h.1.lib hL
  have h0 := h.2.1
  have h16 : r 16 = nI (4 * (5632 + ws.length + 2)) := by have := h.2.2.1; rw [List.length_append] at this; exact this
  have a8 : (r 16 + (-8)) >>> ((2 : Int32) &&& 31) = nI (5632 + ws.length) := ad4 h16 (nm4 (x := 5632 + ws.length) (c := 2) (by decide)) (by omega)
  have a9 : (r 16 + (-4)) >>> ((2 : Int32) &&& 31) = nI (5632 + ws.length + 1) := ad4 h16 (nm4 (x := 5632 + ws.length + 1) (c := 1) (by decide)) (by omega)
  have a12 : r 16 + (-4) = nI (4 * (5632 + ws.length + 1)) := by rw [h16]; exact nm4 (x := 5632 + ws.length + 1) (c := 1) (by decide)
  have as : ((r 16 + (-4)) + (-4)) >>> ((2 : Int32) &&& 31) = nI (5632 + ws.length) := ad4 a12 (nm4 (x := 5632 + ws.length) (c := 1) (by decide)) (by omega)
  have v0 : m (5632 + ws.length) = v := h.at
  have v1 : m (5632 + ws.length + 1) = w := by
    have := h.2.2.2.2.2.2.2.2.2.2 (ws.length + 1) w (by rw [List.getElem?_append_right (by omega), show ws.length + 1 - ws.length = 1 from by omega]; rfl)
    rw [← Nat.add_assoc] at this; exact this
  have f0 : m (q) = 2382954488 := (h.1 _ (by omega)).trans (hb 0 _ rfl)
  have f1 : m (q + 1) = 2383020028 := (h.1 _ (by omega)).trans (hb 1 _ rfl)
  have f2 : m (q + 2) = 638648316 := (h.1 _ (by omega)).trans (hb 2 _ rfl)
  have f3 : m (q + 3) = 17387555 := (h.1 _ (by omega)).trans (hb 3 _ rfl)
  have f4 : m (q + 4) = 625606657 := (h.1 _ (by omega)).trans (hb 4 _ rfl)
  have f5 : m (q + 5) = 2919956476 := (h.1 _ (by omega)).trans (hb 5 _ rfl)
  have x := fun (h l lw : Int32) => r_lw (S0 := S0) (q := q) (r := r) (m := m) (p := q + 1) (h := h) (l := l) (lt := 0) (lw := lw) (by omega) f0 (by decide) (sa := 16) (t := 8) (i := (-8)) (k := (5632 + ws.length)) (by decide) (by decide) (by decide) (by decide) (by decide) (by decide) a8 (by omega)
  have x := fun (h l lw : Int32) => (x h l lw).trans (r_lw (by omega) f1 (by decide) (sa := 16) (t := 9) (i := (-4)) (k := (5632 + ws.length + 1)) (by decide) (by decide) (by decide) (by decide) (by decide) (by decide) a9 (by omega))
  have x := fun (h l lw : Int32) => (x h l lw).trans (r_addiu (by omega) f2 (by decide) (sa := 16) (t := 16) (i := (-4)) (by decide) (by decide) (by decide) (by decide) (by decide) (by decide))
  have x := fun (h l lw : Int32) => (x h l lw).trans (r_subu (by omega) f3 (by decide) (sa := 8) (sb := 9) (t := 10) (by decide) (by decide) (by decide) (by decide) (by decide) (by decide) (by decide) (by decide))
  have x := fun (h l lw : Int32) => (x h l lw).trans (r_addiu (by omega) f4 (by decide) (sa := 10) (t := 10) (i := 1) (by decide) (by decide) (by decide) (by decide) (by decide) (by decide))
  have x := fun (h l lw : Int32) => (x h l lw).trans (r_sw (by omega) f5 (by decide) (sa := 16) (t := 10) (i := (-4)) (k := (5632 + ws.length)) (by decide) (by decide) (by decide) (by decide) (by decide) (by decide) as (by omega))
  simp only [wr0] at x
  have y := RT.mk (N := 30) x (by decide)
  generalize hr7 : (wr _ _ _ : Nat → Int32) = r7 at y
  have e10 : r7 10 = v - w + 1 := by
    rw [← v0, ← v1]
    subst hr7
    show m (5632 + ws.length) - m (5632 + ws.length + 1) + 1 = _
    rfl
  rw [e10] at y
  have k7 := h.set (r' := r7) (tr' := tr) (v := v - w + 1) (by omega) (by subst hr7; exact a12) (by subst hr7; exact h.2.2.2.2.2.1) (by subst hr7; rfl) (by subst hr7; rfl) (by subst hr7; rfl) (by subst hr7; rfl) (by subst hr7; rfl)
  exact ⟨r7, _, y.mono (by decide), k7, fun j hj => pk_un (by omega)⟩
set_option maxHeartbeats 4000000 in
set_option maxRecDepth 100000 in
theorem oxmul2 {S0 : xS} {code r m : Nat → Int32} {a : Int32} {ws : List Int32} {tr q : Nat} {v w : Int32} (hL : CMl LC2 code) (h : RI code a r m ((ws ++ [v]) ++ [w]) tr) (hn : ws.length < 900) (h1 : 19840 ≤ q) (h2 : q < 281000) (hb : CB code q [2382954488, 2383020028, 638648316, 621346815, 608323, 17367064, 20498, 625606657, 2919956476]) : ∃ r' m', RT S0 300 r m q r' m' (q + 9) ∧ RI code a r' m' (ws ++ [(v - 1) * sr w + 1]) tr ∧ ∀ j, j < 5632 → m' j = m j := by
  have hT := h
  have h : RI code a r m (ws ++ [v, w]) tr := by rw [List.append_assoc] at h; exact h
  have hc := h.1.lib hL
  have h0 := h.2.1
  have h16 : r 16 = nI (4 * (5632 + ws.length + 2)) := by have := h.2.2.1; rw [List.length_append] at this; exact this
  have a8 : (r 16 + (-8)) >>> ((2 : Int32) &&& 31) = nI (5632 + ws.length) := ad4 h16 (nm4 (x := 5632 + ws.length) (c := 2) (by decide)) (by omega)
  have a9 : (r 16 + (-4)) >>> ((2 : Int32) &&& 31) = nI (5632 + ws.length + 1) := ad4 h16 (nm4 (x := 5632 + ws.length + 1) (c := 1) (by decide)) (by omega)
  have a12 : r 16 + (-4) = nI (4 * (5632 + ws.length + 1)) := by rw [h16]; exact nm4 (x := 5632 + ws.length + 1) (c := 1) (by decide)
  have as : ((r 16 + (-4)) + (-4)) >>> ((2 : Int32) &&& 31) = nI (5632 + ws.length) := ad4 a12 (nm4 (x := 5632 + ws.length) (c := 1) (by decide)) (by omega)
  have v0 : m (5632 + ws.length) = v := h.at
  have v1 : m (5632 + ws.length + 1) = w := by
    have := h.2.2.2.2.2.2.2.2.2.2 (ws.length + 1) w (by rw [List.getElem?_append_right (by omega), show ws.length + 1 - ws.length = 1 from by omega]; rfl)
    rw [← Nat.add_assoc] at this; exact this
  have f0 : m (q) = 2382954488 := (h.1 _ (by omega)).trans (hb 0 _ rfl)
  have f1 : m (q + 1) = 2383020028 := (h.1 _ (by omega)).trans (hb 1 _ rfl)
  have f2 : m (q + 2) = 638648316 := (h.1 _ (by omega)).trans (hb 2 _ rfl)
  have f3 : m (q + 3) = 621346815 := (h.1 _ (by omega)).trans (hb 3 _ rfl)
  have f4 : m (q + 4) = 608323 := (h.1 _ (by omega)).trans (hb 4 _ rfl)
  have f5 : m (q + 5) = 17367064 := (h.1 _ (by omega)).trans (hb 5 _ rfl)
  have f6 : m (q + 6) = 20498 := (h.1 _ (by omega)).trans (hb 6 _ rfl)
  have f7 : m (q + 7) = 625606657 := (h.1 _ (by omega)).trans (hb 7 _ rfl)
  have f8 : m (q + 8) = 2919956476 := (h.1 _ (by omega)).trans (hb 8 _ rfl)
  have x := fun (h l lw : Int32) => r_lw (S0 := S0) (q := q) (r := r) (m := m) (p := q + 1) (h := h) (l := l) (lt := 0) (lw := lw) (by omega) f0 (by decide) (sa := 16) (t := 8) (i := (-8)) (k := (5632 + ws.length)) (by decide) (by decide) (by decide) (by decide) (by decide) (by decide) a8 (by omega)
  have x := fun (h l lw : Int32) => (x h l lw).trans (r_lw (by omega) f1 (by decide) (sa := 16) (t := 9) (i := (-4)) (k := (5632 + ws.length + 1)) (by decide) (by decide) (by decide) (by decide) (by decide) (by decide) a9 (by omega))
  have x := fun (h l lw : Int32) => (x h l lw).trans (r_addiu (by omega) f2 (by decide) (sa := 16) (t := 16) (i := (-4)) (by decide) (by decide) (by decide) (by decide) (by decide) (by decide))
  have x := fun (h l lw : Int32) => (x h l lw).trans (r_addiu (by omega) f3 (by decide) (sa := 8) (t := 8) (i := (-1)) (by decide) (by decide) (by decide) (by decide) (by decide) (by decide))
  have x := fun (h l lw : Int32) => (x h l lw).trans (r_sra (by omega) f4 (by decide) (sb := 9) (t := 9) (dd := 1) (by decide) (by decide) (by decide) (by decide) (by decide) (by decide) (by decide))
  have x := fun (h l lw : Int32) => (x h l lw).trans (r_mult (by omega) f5 (by decide) (sa := 8) (sb := 9) (by decide) (by decide) (by decide) (by decide) (by decide) (by decide))
  have x := fun (h l lw : Int32) => (x h l lw).trans (r_mflo (by omega) f6 (by decide) (t := 10) (by decide) (by decide) (by decide) (by decide))
  have x := fun (h l lw : Int32) => (x h l lw).trans (r_addiu (by omega) f7 (by decide) (sa := 10) (t := 10) (i := 1) (by decide) (by decide) (by decide) (by decide) (by decide) (by decide))
  have x := fun (h l lw : Int32) => (x h l lw).trans (r_sw (by omega) f8 (by decide) (sa := 16) (t := 10) (i := (-4)) (k := (5632 + ws.length)) (by decide) (by decide) (by decide) (by decide) (by decide) (by decide) as (by omega))
  simp only [wr0] at x
  have y := RT.mk (N := 30) x (by decide)
  generalize hr7 : (wr _ _ _ : Nat → Int32) = r7 at y
  have e10 : r7 10 = (v - 1) * sr w + 1 := by
    rw [← v0, ← v1]
    subst hr7
    show ((m (5632 + ws.length) + (-1)).toInt64 * (sr (m (5632 + ws.length + 1))).toInt64).toInt32 + 1 = _
    rw [mul32, sM1]
  rw [e10] at y
  have k7 := h.set (r' := r7) (tr' := tr) (v := (v - 1) * sr w + 1) (by omega) (by subst hr7; exact a12) (by subst hr7; exact h.2.2.2.2.2.1) (by subst hr7; rfl) (by subst hr7; rfl) (by subst hr7; rfl) (by subst hr7; rfl) (by subst hr7; rfl)
  exact ⟨r7, _, y.mono (by decide), k7, fun j hj => pk_un (by omega)⟩
set_option maxHeartbeats 4000000 in
set_option maxRecDepth 100000 in
theorem oxaddT2 {S0 : xS} {code r m : Nat → Int32} {a : Int32} {ws : List Int32} {tr q : Nat} {v w : Int32} (hL : CMl LC2 code) (h : RI code a r m ((ws ++ [v]) ++ [w]) tr) (hn : ws.length < 900) (h1 : 19840 ≤ q) (h2 : q < 281000) (hb : CB code q [2382954488, 2383020028, 638648316, 17387553, 625672191, 201346775, 2919956476]) : ∃ r' m', RT S0 30 r m q r' m' 20183 ∧ RI code a r' m' (ws ++ [v + w - 1]) tr ∧ r' 31 = nI (4 * (q + 7)) ∧ ∀ j, j < 5632 → m' j = m j := by
  have hT := h
  have h : RI code a r m (ws ++ [v, w]) tr := by rw [List.append_assoc] at h; exact h
  have hc := h.1.lib hL
  have h0 := h.2.1
  have h16 : r 16 = nI (4 * (5632 + ws.length + 2)) := by have := h.2.2.1; rw [List.length_append] at this; exact this
  have a8 : (r 16 + (-8)) >>> ((2 : Int32) &&& 31) = nI (5632 + ws.length) := ad4 h16 (nm4 (x := 5632 + ws.length) (c := 2) (by decide)) (by omega)
  have a9 : (r 16 + (-4)) >>> ((2 : Int32) &&& 31) = nI (5632 + ws.length + 1) := ad4 h16 (nm4 (x := 5632 + ws.length + 1) (c := 1) (by decide)) (by omega)
  have a12 : r 16 + (-4) = nI (4 * (5632 + ws.length + 1)) := by rw [h16]; exact nm4 (x := 5632 + ws.length + 1) (c := 1) (by decide)
  have as : ((r 16 + (-4)) + (-4)) >>> ((2 : Int32) &&& 31) = nI (5632 + ws.length) := ad4 a12 (nm4 (x := 5632 + ws.length) (c := 1) (by decide)) (by omega)
  have v0 : m (5632 + ws.length) = v := h.at
  have v1 : m (5632 + ws.length + 1) = w := by
    have := h.2.2.2.2.2.2.2.2.2.2 (ws.length + 1) w (by rw [List.getElem?_append_right (by omega), show ws.length + 1 - ws.length = 1 from by omega]; rfl)
    rw [← Nat.add_assoc] at this; exact this
  have f0 : m (q) = 2382954488 := (h.1 _ (by omega)).trans (hb 0 _ rfl)
  have f1 : m (q + 1) = 2383020028 := (h.1 _ (by omega)).trans (hb 1 _ rfl)
  have f2 : m (q + 2) = 638648316 := (h.1 _ (by omega)).trans (hb 2 _ rfl)
  have f3 : m (q + 3) = 17387553 := (h.1 _ (by omega)).trans (hb 3 _ rfl)
  have f4 : m (q + 4) = 625672191 := (h.1 _ (by omega)).trans (hb 4 _ rfl)
  have f5 : m (q + 5) = 201346775 := (h.1 _ (by omega)).trans (hb 5 _ rfl)
  have f6 : m (q + 6) = 2919956476 := (h.1 _ (by omega)).trans (hb 6 _ rfl)
  have x := fun (h l lw : Int32) => r_lw (S0 := S0) (q := q) (r := r) (m := m) (p := q + 1) (h := h) (l := l) (lt := 0) (lw := lw) (by omega) f0 (by decide) (sa := 16) (t := 8) (i := (-8)) (k := (5632 + ws.length)) (by decide) (by decide) (by decide) (by decide) (by decide) (by decide) a8 (by omega)
  have x := fun (h l lw : Int32) => (x h l lw).trans (r_lw (by omega) f1 (by decide) (sa := 16) (t := 9) (i := (-4)) (k := (5632 + ws.length + 1)) (by decide) (by decide) (by decide) (by decide) (by decide) (by decide) a9 (by omega))
  have x := fun (h l lw : Int32) => (x h l lw).trans (r_addiu (by omega) f2 (by decide) (sa := 16) (t := 16) (i := (-4)) (by decide) (by decide) (by decide) (by decide) (by decide) (by decide))
  have x := fun (h l lw : Int32) => (x h l lw).trans (r_addu (by omega) f3 (by decide) (sa := 8) (sb := 9) (t := 10) (by decide) (by decide) (by decide) (by decide) (by decide) (by decide) (by decide) (by decide))
  have x := fun (h l lw : Int32) => (x h l lw).trans (r_addiu (by omega) f4 (by decide) (sa := 10) (t := 10) (i := (-1)) (by decide) (by decide) (by decide) (by decide) (by decide) (by decide))
  have x := fun (h l lw : Int32) => (x h l lw).trans (r_jal (by omega) f5 (by decide) (A := 20183) (by decide) (by decide))
  have x := fun (h l lw : Int32) => (x h l lw).trans (r_sw (by omega) f6 (by decide) (sa := 16) (t := 10) (i := (-4)) (k := (5632 + ws.length)) (by decide) (by decide) (by decide) (by decide) (by decide) (by decide) as (by omega))
  simp only [wr0] at x
  have y := RT.mk (N := 30) x (by decide)
  generalize hr7 : (wr _ _ _ : Nat → Int32) = r7 at y
  have e10 : r7 10 = v + w - 1 := by
    rw [← v0, ← v1]
    subst hr7
    show m (5632 + ws.length) + m (5632 + ws.length + 1) + (-1) = _
    rw [sM1]
  rw [e10] at y
  have k7 := h.set (r' := r7) (tr' := tr) (v := v + w - 1) (by omega) (by subst hr7; exact a12) (by subst hr7; exact h.2.2.2.2.2.1) (by subst hr7; rfl) (by subst hr7; rfl) (by subst hr7; rfl) (by subst hr7; rfl) (by subst hr7; rfl)
  exact ⟨r7, _, y, k7, by subst hr7; rfl, fun j hj => pk_un (by omega)⟩
set_option maxHeartbeats 4000000 in
set_option maxRecDepth 100000 in
theorem oxsubT2 {S0 : xS} {code r m : Nat → Int32} {a : Int32} {ws : List Int32} {tr q : Nat} {v w : Int32} (hL : CMl LC2 code) (h : RI code a r m ((ws ++ [v]) ++ [w]) tr) (hn : ws.length < 900) (h1 : 19840 ≤ q) (h2 : q < 281000) (hb : CB code q [2382954488, 2383020028, 638648316, 17387555, 625606657, 201346775, 2919956476]) : ∃ r' m', RT S0 30 r m q r' m' 20183 ∧ RI code a r' m' (ws ++ [v - w + 1]) tr ∧ r' 31 = nI (4 * (q + 7)) ∧ ∀ j, j < 5632 → m' j = m j := by
  have hT := h
  have h : RI code a r m (ws ++ [v, w]) tr := by rw [List.append_assoc] at h; exact h
  have hc := h.1.lib hL
  have h0 := h.2.1
  have h16 : r 16 = nI (4 * (5632 + ws.length + 2)) := by have := h.2.2.1; rw [List.length_append] at this; exact this
  have a8 : (r 16 + (-8)) >>> ((2 : Int32) &&& 31) = nI (5632 + ws.length) := ad4 h16 (nm4 (x := 5632 + ws.length) (c := 2) (by decide)) (by omega)
  have a9 : (r 16 + (-4)) >>> ((2 : Int32) &&& 31) = nI (5632 + ws.length + 1) := ad4 h16 (nm4 (x := 5632 + ws.length + 1) (c := 1) (by decide)) (by omega)
  have a12 : r 16 + (-4) = nI (4 * (5632 + ws.length + 1)) := by rw [h16]; exact nm4 (x := 5632 + ws.length + 1) (c := 1) (by decide)
  have as : ((r 16 + (-4)) + (-4)) >>> ((2 : Int32) &&& 31) = nI (5632 + ws.length) := ad4 a12 (nm4 (x := 5632 + ws.length) (c := 1) (by decide)) (by omega)
  have v0 : m (5632 + ws.length) = v := h.at
  have v1 : m (5632 + ws.length + 1) = w := by
    have := h.2.2.2.2.2.2.2.2.2.2 (ws.length + 1) w (by rw [List.getElem?_append_right (by omega), show ws.length + 1 - ws.length = 1 from by omega]; rfl)
    rw [← Nat.add_assoc] at this; exact this
  have f0 : m (q) = 2382954488 := (h.1 _ (by omega)).trans (hb 0 _ rfl)
  have f1 : m (q + 1) = 2383020028 := (h.1 _ (by omega)).trans (hb 1 _ rfl)
  have f2 : m (q + 2) = 638648316 := (h.1 _ (by omega)).trans (hb 2 _ rfl)
  have f3 : m (q + 3) = 17387555 := (h.1 _ (by omega)).trans (hb 3 _ rfl)
  have f4 : m (q + 4) = 625606657 := (h.1 _ (by omega)).trans (hb 4 _ rfl)
  have f5 : m (q + 5) = 201346775 := (h.1 _ (by omega)).trans (hb 5 _ rfl)
  have f6 : m (q + 6) = 2919956476 := (h.1 _ (by omega)).trans (hb 6 _ rfl)
  have x := fun (h l lw : Int32) => r_lw (S0 := S0) (q := q) (r := r) (m := m) (p := q + 1) (h := h) (l := l) (lt := 0) (lw := lw) (by omega) f0 (by decide) (sa := 16) (t := 8) (i := (-8)) (k := (5632 + ws.length)) (by decide) (by decide) (by decide) (by decide) (by decide) (by decide) a8 (by omega)
  have x := fun (h l lw : Int32) => (x h l lw).trans (r_lw (by omega) f1 (by decide) (sa := 16) (t := 9) (i := (-4)) (k := (5632 + ws.length + 1)) (by decide) (by decide) (by decide) (by decide) (by decide) (by decide) a9 (by omega))
  have x := fun (h l lw : Int32) => (x h l lw).trans (r_addiu (by omega) f2 (by decide) (sa := 16) (t := 16) (i := (-4)) (by decide) (by decide) (by decide) (by decide) (by decide) (by decide))
  have x := fun (h l lw : Int32) => (x h l lw).trans (r_subu (by omega) f3 (by decide) (sa := 8) (sb := 9) (t := 10) (by decide) (by decide) (by decide) (by decide) (by decide) (by decide) (by decide) (by decide))
  have x := fun (h l lw : Int32) => (x h l lw).trans (r_addiu (by omega) f4 (by decide) (sa := 10) (t := 10) (i := 1) (by decide) (by decide) (by decide) (by decide) (by decide) (by decide))
  have x := fun (h l lw : Int32) => (x h l lw).trans (r_jal (by omega) f5 (by decide) (A := 20183) (by decide) (by decide))
  have x := fun (h l lw : Int32) => (x h l lw).trans (r_sw (by omega) f6 (by decide) (sa := 16) (t := 10) (i := (-4)) (k := (5632 + ws.length)) (by decide) (by decide) (by decide) (by decide) (by decide) (by decide) as (by omega))
  simp only [wr0] at x
  have y := RT.mk (N := 30) x (by decide)
  generalize hr7 : (wr _ _ _ : Nat → Int32) = r7 at y
  have e10 : r7 10 = v - w + 1 := by
    rw [← v0, ← v1]
    subst hr7
    show m (5632 + ws.length) - m (5632 + ws.length + 1) + 1 = _
    rfl
  rw [e10] at y
  have k7 := h.set (r' := r7) (tr' := tr) (v := v - w + 1) (by omega) (by subst hr7; exact a12) (by subst hr7; exact h.2.2.2.2.2.1) (by subst hr7; rfl) (by subst hr7; rfl) (by subst hr7; rfl) (by subst hr7; rfl) (by subst hr7; rfl)
  exact ⟨r7, _, y, k7, by subst hr7; rfl, fun j hj => pk_un (by omega)⟩
set_option maxHeartbeats 4000000 in
set_option maxRecDepth 100000 in
theorem oxmulT2 {S0 : xS} {code r m : Nat → Int32} {a : Int32} {ws : List Int32} {tr q : Nat} {v w : Int32} (hL : CMl LC2 code) (h : RI code a r m ((ws ++ [v]) ++ [w]) tr) (hn : ws.length < 900) (h1 : 19840 ≤ q) (h2 : q < 281000) (hb : CB code q [2382954488, 2383020028, 638648316, 621346815, 608323, 17367064, 20498, 625606657, 201346775, 2919956476]) : ∃ r' m', RT S0 30 r m q r' m' 20183 ∧ RI code a r' m' (ws ++ [(v - 1) * sr w + 1]) tr ∧ r' 31 = nI (4 * (q + 10)) ∧ ∀ j, j < 5632 → m' j = m j := by
  have hT := h
  have h : RI code a r m (ws ++ [v, w]) tr := by rw [List.append_assoc] at h; exact h
  have hc := h.1.lib hL
  have h0 := h.2.1
  have h16 : r 16 = nI (4 * (5632 + ws.length + 2)) := by have := h.2.2.1; rw [List.length_append] at this; exact this
  have a8 : (r 16 + (-8)) >>> ((2 : Int32) &&& 31) = nI (5632 + ws.length) := ad4 h16 (nm4 (x := 5632 + ws.length) (c := 2) (by decide)) (by omega)
  have a9 : (r 16 + (-4)) >>> ((2 : Int32) &&& 31) = nI (5632 + ws.length + 1) := ad4 h16 (nm4 (x := 5632 + ws.length + 1) (c := 1) (by decide)) (by omega)
  have a12 : r 16 + (-4) = nI (4 * (5632 + ws.length + 1)) := by rw [h16]; exact nm4 (x := 5632 + ws.length + 1) (c := 1) (by decide)
  have as : ((r 16 + (-4)) + (-4)) >>> ((2 : Int32) &&& 31) = nI (5632 + ws.length) := ad4 a12 (nm4 (x := 5632 + ws.length) (c := 1) (by decide)) (by omega)
  have v0 : m (5632 + ws.length) = v := h.at
  have v1 : m (5632 + ws.length + 1) = w := by
    have := h.2.2.2.2.2.2.2.2.2.2 (ws.length + 1) w (by rw [List.getElem?_append_right (by omega), show ws.length + 1 - ws.length = 1 from by omega]; rfl)
    rw [← Nat.add_assoc] at this; exact this
  have f0 : m (q) = 2382954488 := (h.1 _ (by omega)).trans (hb 0 _ rfl)
  have f1 : m (q + 1) = 2383020028 := (h.1 _ (by omega)).trans (hb 1 _ rfl)
  have f2 : m (q + 2) = 638648316 := (h.1 _ (by omega)).trans (hb 2 _ rfl)
  have f3 : m (q + 3) = 621346815 := (h.1 _ (by omega)).trans (hb 3 _ rfl)
  have f4 : m (q + 4) = 608323 := (h.1 _ (by omega)).trans (hb 4 _ rfl)
  have f5 : m (q + 5) = 17367064 := (h.1 _ (by omega)).trans (hb 5 _ rfl)
  have f6 : m (q + 6) = 20498 := (h.1 _ (by omega)).trans (hb 6 _ rfl)
  have f7 : m (q + 7) = 625606657 := (h.1 _ (by omega)).trans (hb 7 _ rfl)
  have f8 : m (q + 8) = 201346775 := (h.1 _ (by omega)).trans (hb 8 _ rfl)
  have f9 : m (q + 9) = 2919956476 := (h.1 _ (by omega)).trans (hb 9 _ rfl)
  have x := fun (h l lw : Int32) => r_lw (S0 := S0) (q := q) (r := r) (m := m) (p := q + 1) (h := h) (l := l) (lt := 0) (lw := lw) (by omega) f0 (by decide) (sa := 16) (t := 8) (i := (-8)) (k := (5632 + ws.length)) (by decide) (by decide) (by decide) (by decide) (by decide) (by decide) a8 (by omega)
  have x := fun (h l lw : Int32) => (x h l lw).trans (r_lw (by omega) f1 (by decide) (sa := 16) (t := 9) (i := (-4)) (k := (5632 + ws.length + 1)) (by decide) (by decide) (by decide) (by decide) (by decide) (by decide) a9 (by omega))
  have x := fun (h l lw : Int32) => (x h l lw).trans (r_addiu (by omega) f2 (by decide) (sa := 16) (t := 16) (i := (-4)) (by decide) (by decide) (by decide) (by decide) (by decide) (by decide))
  have x := fun (h l lw : Int32) => (x h l lw).trans (r_addiu (by omega) f3 (by decide) (sa := 8) (t := 8) (i := (-1)) (by decide) (by decide) (by decide) (by decide) (by decide) (by decide))
  have x := fun (h l lw : Int32) => (x h l lw).trans (r_sra (by omega) f4 (by decide) (sb := 9) (t := 9) (dd := 1) (by decide) (by decide) (by decide) (by decide) (by decide) (by decide) (by decide))
  have x := fun (h l lw : Int32) => (x h l lw).trans (r_mult (by omega) f5 (by decide) (sa := 8) (sb := 9) (by decide) (by decide) (by decide) (by decide) (by decide) (by decide))
  have x := fun (h l lw : Int32) => (x h l lw).trans (r_mflo (by omega) f6 (by decide) (t := 10) (by decide) (by decide) (by decide) (by decide))
  have x := fun (h l lw : Int32) => (x h l lw).trans (r_addiu (by omega) f7 (by decide) (sa := 10) (t := 10) (i := 1) (by decide) (by decide) (by decide) (by decide) (by decide) (by decide))
  have x := fun (h l lw : Int32) => (x h l lw).trans (r_jal (by omega) f8 (by decide) (A := 20183) (by decide) (by decide))
  have x := fun (h l lw : Int32) => (x h l lw).trans (r_sw (by omega) f9 (by decide) (sa := 16) (t := 10) (i := (-4)) (k := (5632 + ws.length)) (by decide) (by decide) (by decide) (by decide) (by decide) (by decide) as (by omega))
  simp only [wr0] at x
  have y := RT.mk (N := 30) x (by decide)
  generalize hr7 : (wr _ _ _ : Nat → Int32) = r7 at y
  have e10 : r7 10 = (v - 1) * sr w + 1 := by
    rw [← v0, ← v1]
    subst hr7
    show ((m (5632 + ws.length) + (-1)).toInt64 * (sr (m (5632 + ws.length + 1))).toInt64).toInt32 + 1 = _
    rw [mul32, sM1]
  rw [e10] at y
  have k7 := h.set (r' := r7) (tr' := tr) (v := (v - 1) * sr w + 1) (by omega) (by subst hr7; exact a12) (by subst hr7; exact h.2.2.2.2.2.1) (by subst hr7; rfl) (by subst hr7; rfl) (by subst hr7; rfl) (by subst hr7; rfl) (by subst hr7; rfl)
  exact ⟨r7, _, y, k7, by subst hr7; rfl, fun j hj => pk_un (by omega)⟩
set_option maxHeartbeats 4000000 in
set_option maxRecDepth 100000 in
theorem oxdiv0_1 {S0 : xS} {code r m : Nat → Int32} {a : Int32} {ws : List Int32} {tr q : Nat} {v w : Int32} (hL : CMl LC1 code) (h : RI code a r m ((ws ++ [v]) ++ [w]) tr) (hn : ws.length < 900) (h1 : 19840 ≤ q) (h2 : q < 281000) (hb : CB code q [604307456, 201346782, 0]) : (¬ sr w = 0 → ∃ r' m', RT S0 300 r m q r' m' (q + 3) ∧ RI code a r' m' (ws ++ [fdW (sr v) (sr w) * 2 + 1]) tr ∧ ∀ j, j < 5632 → m' j = m j) ∧ (sr w = 0 → ∃ r', RT S0 300 r m q r' m (eRaise 1) ∧ RI code a r' m ((ws ++ [v]) ++ [w]) tr ∧ r' 4 = 26) := by
  have f0 : m (q) = 604307456 := (h.1 _ (by omega)).trans (hb 0 _ rfl)
  have f1 : m (q + 1) = 201346782 := (h.1 _ (by omega)).trans (hb 1 _ rfl)
  have f2 : m (q + 2) = 0 := (h.1 _ (by omega)).trans (hb 2 _ rfl)
  have x := fun (h l lw : Int32) => r_addiu (S0 := S0) (q := q) (r := r) (m := m) (p := q + 1) (h := h) (l := l) (lt := 0) (lw := lw) (by omega) f0 (by decide) (sa := 0) (t := 5) (i := 0) (by decide) (by decide) (by decide) (by decide) (by decide) (by decide)
  have x := fun (h l lw : Int32) => (x h l lw).trans (r_jal (by omega) f1 (by decide) (A := 20190) (by decide) (by decide))
  have x := fun (h l lw : Int32) => (x h l lw).trans (r_sll (by omega) f2 (by decide) (sb := 0) (t := 0) (dd := 0) (by decide) (by decide) (by decide) (by decide) (by decide) (by decide) (by decide))
  simp only [wr0] at x
  have y1 := RT.mk (N := 30) x (by decide)
  generalize hr1 : (wr _ _ _ : Nat → Int32) = r1 at y1
  have k1 : RI code a r1 m ((ws ++ [v]) ++ [w]) tr := by subst hr1; exact h.keep rfl rfl rfl rfl rfl rfl rfl
  have g5 : r1 5 = 0 := by subst hr1; exact (congrArg (· + 0) h.2.1).trans (by decide)
  have g31 : r1 31 = nI (4 * (q + 3)) := by subst hr1; rfl
  refine ⟨fun hz => ?_, fun hz => ?_⟩
  · obtain ⟨r2, m2, y2, k2, n2⟩ := ri_div0 (S0 := S0) (ret := q + 3) (Or.inl rfl) hL k1 (by omega) hz g5 g31
    exact ⟨r2, m2, (y1.trans y2).mono (by decide), k2, n2⟩
  · obtain ⟨r2, y2, k2, n2⟩ := ri_divZ (S0 := S0) (Or.inl rfl) hL k1 (by omega) hz
    exact ⟨r2, (y1.trans y2).mono (by decide), k2, n2⟩
set_option maxHeartbeats 4000000 in
set_option maxRecDepth 100000 in
theorem oxdiv1_1 {S0 : xS} {code r m : Nat → Int32} {a : Int32} {ws : List Int32} {tr q : Nat} {v w : Int32} (hL : CMl LC1 code) (h : RI code a r m ((ws ++ [v]) ++ [w]) tr) (hn : ws.length < 900) (h1 : 19840 ≤ q) (h2 : q < 281000) (hb : CB code q [604307457, 201346782, 0]) : (¬ sr w = 0 → ∃ r' m', RT S0 300 r m q r' m' (q + 3) ∧ RI code a r' m' (ws ++ [fmW (sr v) (sr w) * 2 + 1]) tr ∧ ∀ j, j < 5632 → m' j = m j) ∧ (sr w = 0 → ∃ r', RT S0 300 r m q r' m (eRaise 1) ∧ RI code a r' m ((ws ++ [v]) ++ [w]) tr ∧ r' 4 = 26) := by
  have f0 : m (q) = 604307457 := (h.1 _ (by omega)).trans (hb 0 _ rfl)
  have f1 : m (q + 1) = 201346782 := (h.1 _ (by omega)).trans (hb 1 _ rfl)
  have f2 : m (q + 2) = 0 := (h.1 _ (by omega)).trans (hb 2 _ rfl)
  have x := fun (h l lw : Int32) => r_addiu (S0 := S0) (q := q) (r := r) (m := m) (p := q + 1) (h := h) (l := l) (lt := 0) (lw := lw) (by omega) f0 (by decide) (sa := 0) (t := 5) (i := 1) (by decide) (by decide) (by decide) (by decide) (by decide) (by decide)
  have x := fun (h l lw : Int32) => (x h l lw).trans (r_jal (by omega) f1 (by decide) (A := 20190) (by decide) (by decide))
  have x := fun (h l lw : Int32) => (x h l lw).trans (r_sll (by omega) f2 (by decide) (sb := 0) (t := 0) (dd := 0) (by decide) (by decide) (by decide) (by decide) (by decide) (by decide) (by decide))
  simp only [wr0] at x
  have y1 := RT.mk (N := 30) x (by decide)
  generalize hr1 : (wr _ _ _ : Nat → Int32) = r1 at y1
  have k1 : RI code a r1 m ((ws ++ [v]) ++ [w]) tr := by subst hr1; exact h.keep rfl rfl rfl rfl rfl rfl rfl
  have g5 : r1 5 = 1 := by subst hr1; exact (congrArg (· + 1) h.2.1).trans (by decide)
  have g31 : r1 31 = nI (4 * (q + 3)) := by subst hr1; rfl
  refine ⟨fun hz => ?_, fun hz => ?_⟩
  · obtain ⟨r2, m2, y2, k2, n2⟩ := ri_div1 (S0 := S0) (ret := q + 3) (Or.inl rfl) hL k1 (by omega) hz g5 g31
    exact ⟨r2, m2, (y1.trans y2).mono (by decide), k2, n2⟩
  · obtain ⟨r2, y2, k2, n2⟩ := ri_divZ (S0 := S0) (Or.inl rfl) hL k1 (by omega) hz
    exact ⟨r2, (y1.trans y2).mono (by decide), k2, n2⟩
set_option maxHeartbeats 4000000 in
set_option maxRecDepth 100000 in
theorem oxdiv0_2 {S0 : xS} {code r m : Nat → Int32} {a : Int32} {ws : List Int32} {tr q : Nat} {v w : Int32} (hL : CMl LC2 code) (h : RI code a r m ((ws ++ [v]) ++ [w]) tr) (hn : ws.length < 900) (h1 : 19840 ≤ q) (h2 : q < 281000) (hb : CB code q [201346725, 604307456]) : (¬ sr w = 0 → ∃ r' m', RT S0 300 r m q r' m' (q + 2) ∧ RI code a r' m' (ws ++ [fdW (sr v) (sr w) * 2 + 1]) tr ∧ ∀ j, j < 5632 → m' j = m j) ∧ (sr w = 0 → ∃ r', RT S0 300 r m q r' m (eRaise 2) ∧ RI code a r' m ((ws ++ [v]) ++ [w]) tr ∧ r' 4 = 26) := by
  have f0 : m (q) = 201346725 := (h.1 _ (by omega)).trans (hb 0 _ rfl)
  have f1 : m (q + 1) = 604307456 := (h.1 _ (by omega)).trans (hb 1 _ rfl)
  have x := fun (h l lw : Int32) => r_jal (S0 := S0) (q := q) (r := r) (m := m) (p := q + 1) (h := h) (l := l) (lt := 0) (lw := lw) (by omega) f0 (by decide) (A := 20133) (by decide) (by decide)
  have x := fun (h l lw : Int32) => (x h l lw).trans (r_addiu (by omega) f1 (by decide) (sa := 0) (t := 5) (i := 0) (by decide) (by decide) (by decide) (by decide) (by decide) (by decide))
  simp only [wr0] at x
  have y1 := RT.mk (N := 30) x (by decide)
  generalize hr1 : (wr _ _ _ : Nat → Int32) = r1 at y1
  have k1 : RI code a r1 m ((ws ++ [v]) ++ [w]) tr := by subst hr1; exact h.keep rfl rfl rfl rfl rfl rfl rfl
  have g5 : r1 5 = 0 := by subst hr1; exact (congrArg (· + 0) h.2.1).trans (by decide)
  have g31 : r1 31 = nI (4 * (q + 2)) := by subst hr1; rfl
  refine ⟨fun hz => ?_, fun hz => ?_⟩
  · obtain ⟨r2, m2, y2, k2, n2⟩ := ri_div0 (S0 := S0) (ret := q + 2) (Or.inr rfl) hL k1 (by omega) hz g5 g31
    exact ⟨r2, m2, (y1.trans y2).mono (by decide), k2, n2⟩
  · obtain ⟨r2, y2, k2, n2⟩ := ri_divZ (S0 := S0) (Or.inr rfl) hL k1 (by omega) hz
    exact ⟨r2, (y1.trans y2).mono (by decide), k2, n2⟩
set_option maxHeartbeats 4000000 in
set_option maxRecDepth 100000 in
theorem oxdiv1_2 {S0 : xS} {code r m : Nat → Int32} {a : Int32} {ws : List Int32} {tr q : Nat} {v w : Int32} (hL : CMl LC2 code) (h : RI code a r m ((ws ++ [v]) ++ [w]) tr) (hn : ws.length < 900) (h1 : 19840 ≤ q) (h2 : q < 281000) (hb : CB code q [201346725, 604307457]) : (¬ sr w = 0 → ∃ r' m', RT S0 300 r m q r' m' (q + 2) ∧ RI code a r' m' (ws ++ [fmW (sr v) (sr w) * 2 + 1]) tr ∧ ∀ j, j < 5632 → m' j = m j) ∧ (sr w = 0 → ∃ r', RT S0 300 r m q r' m (eRaise 2) ∧ RI code a r' m ((ws ++ [v]) ++ [w]) tr ∧ r' 4 = 26) := by
  have f0 : m (q) = 201346725 := (h.1 _ (by omega)).trans (hb 0 _ rfl)
  have f1 : m (q + 1) = 604307457 := (h.1 _ (by omega)).trans (hb 1 _ rfl)
  have x := fun (h l lw : Int32) => r_jal (S0 := S0) (q := q) (r := r) (m := m) (p := q + 1) (h := h) (l := l) (lt := 0) (lw := lw) (by omega) f0 (by decide) (A := 20133) (by decide) (by decide)
  have x := fun (h l lw : Int32) => (x h l lw).trans (r_addiu (by omega) f1 (by decide) (sa := 0) (t := 5) (i := 1) (by decide) (by decide) (by decide) (by decide) (by decide) (by decide))
  simp only [wr0] at x
  have y1 := RT.mk (N := 30) x (by decide)
  generalize hr1 : (wr _ _ _ : Nat → Int32) = r1 at y1
  have k1 : RI code a r1 m ((ws ++ [v]) ++ [w]) tr := by subst hr1; exact h.keep rfl rfl rfl rfl rfl rfl rfl
  have g5 : r1 5 = 1 := by subst hr1; exact (congrArg (· + 1) h.2.1).trans (by decide)
  have g31 : r1 31 = nI (4 * (q + 2)) := by subst hr1; rfl
  refine ⟨fun hz => ?_, fun hz => ?_⟩
  · obtain ⟨r2, m2, y2, k2, n2⟩ := ri_div1 (S0 := S0) (ret := q + 2) (Or.inr rfl) hL k1 (by omega) hz g5 g31
    exact ⟨r2, m2, (y1.trans y2).mono (by decide), k2, n2⟩
  · obtain ⟨r2, y2, k2, n2⟩ := ri_divZ (S0 := S0) (Or.inr rfl) hL k1 (by omega) hz
    exact ⟨r2, (y1.trans y2).mono (by decide), k2, n2⟩
