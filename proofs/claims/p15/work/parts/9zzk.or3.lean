/-! Orders run by the processor: jumps, handles, names. -/
set_option maxHeartbeats 4000000 in
set_option maxRecDepth 100000 in
theorem ox8_1 {S0 : xS} {code r m : Nat → Int32} {a : Int32} {ws : List Int32} {tr q : Nat} {L : Nat} (hL : CMl LC1 code) (h : RI code a r m ws tr) (hn : ws.length < 900) (h1 : 19840 ≤ q) (h2 : q < 281000) (hLL : L < 1000000) (hb : CB code q [nI (134217728 + L), 0]) : RT S0 30 r m q r m L := by
  have f0 : m (q) = nI (134217728 + L) := (h.1 _ (by omega)).trans (hb 0 _ rfl)
  have f1 : m (q + 1) = 0 := (h.1 _ (by omega)).trans (hb 1 _ rfl)
  have jK : asK (nI (134217728 + L)) = 2 := by rw [n_K (by omega), show (134217728 + L) / 67108864 = 2 from by omega]; rfl
  have jJ : nI (134217728 + L) &&& 67108863 = nI L := by rw [n_J (by omega), show (134217728 + L) % 67108864 = L from by omega]
  have x := fun (h l lw : Int32) => r_j (S0 := S0) (q := q) (r := r) (m := m) (p := q + 1) (h := h) (l := l) (lt := 0) (lw := lw) (by omega) f0 (by decide) jK (A := L) jJ
  have x := fun (h l lw : Int32) => (x h l lw).trans (r_sll (by omega) f1 (by decide) (sb := 0) (t := 0) (dd := 0) (by decide) (by decide) (by decide) (by decide) (by decide) (by decide) (by decide))
  simp only [wr0] at x
  have y := RT.mk (N := 30) x (by decide)
  exact y
set_option maxHeartbeats 4000000 in
set_option maxRecDepth 100000 in
theorem ox11_1 {S0 : xS} {code r m : Nat → Int32} {a : Int32} {ws : List Int32} {tr q : Nat} {v w : Int32} (hL : CMl LC1 code) (h : RI code a r m ((ws ++ [v]) ++ [w]) tr) (hn : ws.length < 900) (h1 : 19840 ≤ q) (h2 : q < 281000) (hb : CB code q [2382954492, 0, 638648316, 2919825404]) : ∃ r' m', RT S0 30 r m q r' m' (q + 4) ∧ RI code a r' m' (ws ++ [w]) tr ∧ ∀ j, j < 5632 → m' j = m j := by
  have hT := h
  have h : RI code a r m (ws ++ [v, w]) tr := by rw [List.append_assoc] at h; exact h
  have hc := h.1.lib hL
  have h0 := h.2.1
  have h16 : r 16 = nI (4 * (5632 + ws.length + 2)) := by have := h.2.2.1; rw [List.length_append] at this; exact this
  have a8 : (r 16 + (-8)) >>> ((2 : Int32) &&& 31) = nI (5632 + ws.length) := ad4 h16 (nm4 (x := 5632 + ws.length) (c := 2) (by decide)) (by omega)
  have a9 : (r 16 + (-4)) >>> ((2 : Int32) &&& 31) = nI (5632 + ws.length + 1) := ad4 h16 (nm4 (x := 5632 + ws.length + 1) (c := 1) (by decide)) (by omega)
  have a12 : r 16 + (-4) = nI (4 * (5632 + ws.length + 1)) := by rw [h16]; exact nm4 (x := 5632 + ws.length + 1) (c := 1) (by decide)
  have as : ((r 16 + (-4)) + (-4)) >>> ((2 : Int32) &&& 31) = nI (5632 + ws.length) := ad4 a12 (nm4 (x := 5632 + ws.length) (c := 1) (by decide)) (by omega)
  have v0 : m (5632 + ws.length) = v := h.at
  have v1 : m (5632 + ws.length + 1) = w := by
    have := h.2.2.2.2.2.2.2.2.2.2 (ws.length + 1) w (by rw [List.getElem?_append_right (by omega), show ws.length + 1 - ws.length = 1 from by omega]; rfl)
    rw [← Nat.add_assoc] at this; exact this
  have f0 : m (q) = 2382954492 := (h.1 _ (by omega)).trans (hb 0 _ rfl)
  have f1 : m (q + 1) = 0 := (h.1 _ (by omega)).trans (hb 1 _ rfl)
  have f2 : m (q + 2) = 638648316 := (h.1 _ (by omega)).trans (hb 2 _ rfl)
  have f3 : m (q + 3) = 2919825404 := (h.1 _ (by omega)).trans (hb 3 _ rfl)
  have x := fun (h l lw : Int32) => r_lw (S0 := S0) (q := q) (r := r) (m := m) (p := q + 1) (h := h) (l := l) (lt := 0) (lw := lw) (by omega) f0 (by decide) (sa := 16) (t := 8) (i := (-4)) (k := (5632 + ws.length + 1)) (by decide) (by decide) (by decide) (by decide) (by decide) (by decide) a9 (by omega)
  have x := fun (h l lw : Int32) => (x h l lw).trans (r_sll (by omega) f1 (by decide) (sb := 0) (t := 0) (dd := 0) (by decide) (by decide) (by decide) (by decide) (by decide) (by decide) (by decide))
  have x := fun (h l lw : Int32) => (x h l lw).trans (r_addiu (by omega) f2 (by decide) (sa := 16) (t := 16) (i := (-4)) (by decide) (by decide) (by decide) (by decide) (by decide) (by decide))
  have x := fun (h l lw : Int32) => (x h l lw).trans (r_sw (by omega) f3 (by decide) (sa := 16) (t := 8) (i := (-4)) (k := (5632 + ws.length)) (by decide) (by decide) (by decide) (by decide) (by decide) (by decide) as (by omega))
  simp only [wr0] at x
  have y := RT.mk (N := 30) x (by decide)
  generalize hr7 : (wr _ _ _ : Nat → Int32) = r7 at y
  have e8 : r7 8 = w := by rw [← v1]; subst hr7; rfl
  rw [e8] at y
  have k7 := h.set (r' := r7) (tr' := tr) (v := w) (by omega) (by subst hr7; exact a12) (by subst hr7; exact h.2.2.2.2.2.1) (by subst hr7; rfl) (by subst hr7; rfl) (by subst hr7; rfl) (by subst hr7; rfl) (by subst hr7; rfl)
  exact ⟨r7, _, y, k7, fun j hj => pk_un (by omega)⟩
set_option maxHeartbeats 4000000 in
set_option maxRecDepth 100000 in
theorem ox11j_1 {S0 : xS} {code r m : Nat → Int32} {a : Int32} {ws : List Int32} {tr q : Nat} {v w : Int32} {L : Nat} (hL : CMl LC1 code) (h : RI code a r m ((ws ++ [v]) ++ [w]) tr) (hn : ws.length < 900) (h1 : 19840 ≤ q) (h2 : q < 281000) (hLL : L < 1000000) (hb : CB code q [2382954492, 0, 638648316, 2919825404, nI (134217728 + L), 0]) : ∃ r' m', RT S0 30 r m q r' m' L ∧ RI code a r' m' (ws ++ [w]) tr ∧ ∀ j, j < 5632 → m' j = m j := by
  have hT := h
  have h : RI code a r m (ws ++ [v, w]) tr := by rw [List.append_assoc] at h; exact h
  have hc := h.1.lib hL
  have h0 := h.2.1
  have h16 : r 16 = nI (4 * (5632 + ws.length + 2)) := by have := h.2.2.1; rw [List.length_append] at this; exact this
  have a8 : (r 16 + (-8)) >>> ((2 : Int32) &&& 31) = nI (5632 + ws.length) := ad4 h16 (nm4 (x := 5632 + ws.length) (c := 2) (by decide)) (by omega)
  have a9 : (r 16 + (-4)) >>> ((2 : Int32) &&& 31) = nI (5632 + ws.length + 1) := ad4 h16 (nm4 (x := 5632 + ws.length + 1) (c := 1) (by decide)) (by omega)
  have a12 : r 16 + (-4) = nI (4 * (5632 + ws.length + 1)) := by rw [h16]; exact nm4 (x := 5632 + ws.length + 1) (c := 1) (by decide)
  have as : ((r 16 + (-4)) + (-4)) >>> ((2 : Int32) &&& 31) = nI (5632 + ws.length) := ad4 a12 (nm4 (x := 5632 + ws.length) (c := 1) (by decide)) (by omega)
  have v0 : m (5632 + ws.length) = v := h.at
  have v1 : m (5632 + ws.length + 1) = w := by
    have := h.2.2.2.2.2.2.2.2.2.2 (ws.length + 1) w (by rw [List.getElem?_append_right (by omega), show ws.length + 1 - ws.length = 1 from by omega]; rfl)
    rw [← Nat.add_assoc] at this; exact this
  have f0 : m (q) = 2382954492 := (h.1 _ (by omega)).trans (hb 0 _ rfl)
  have f1 : m (q + 1) = 0 := (h.1 _ (by omega)).trans (hb 1 _ rfl)
  have f2 : m (q + 2) = 638648316 := (h.1 _ (by omega)).trans (hb 2 _ rfl)
  have f3 : m (q + 3) = 2919825404 := (h.1 _ (by omega)).trans (hb 3 _ rfl)
  have f4 : m (q + 4) = nI (134217728 + L) := (h.1 _ (by omega)).trans (hb 4 _ rfl)
  have f5 : m (q + 5) = 0 := (h.1 _ (by omega)).trans (hb 5 _ rfl)
  have jK : asK (nI (134217728 + L)) = 2 := by rw [n_K (by omega), show (134217728 + L) / 67108864 = 2 from by omega]; rfl
  have jJ : nI (134217728 + L) &&& 67108863 = nI L := by rw [n_J (by omega), show (134217728 + L) % 67108864 = L from by omega]
  have x := fun (h l lw : Int32) => r_lw (S0 := S0) (q := q) (r := r) (m := m) (p := q + 1) (h := h) (l := l) (lt := 0) (lw := lw) (by omega) f0 (by decide) (sa := 16) (t := 8) (i := (-4)) (k := (5632 + ws.length + 1)) (by decide) (by decide) (by decide) (by decide) (by decide) (by decide) a9 (by omega)
  have x := fun (h l lw : Int32) => (x h l lw).trans (r_sll (by omega) f1 (by decide) (sb := 0) (t := 0) (dd := 0) (by decide) (by decide) (by decide) (by decide) (by decide) (by decide) (by decide))
  have x := fun (h l lw : Int32) => (x h l lw).trans (r_addiu (by omega) f2 (by decide) (sa := 16) (t := 16) (i := (-4)) (by decide) (by decide) (by decide) (by decide) (by decide) (by decide))
  have x := fun (h l lw : Int32) => (x h l lw).trans (r_sw (by omega) f3 (by decide) (sa := 16) (t := 8) (i := (-4)) (k := (5632 + ws.length)) (by decide) (by decide) (by decide) (by decide) (by decide) (by decide) as (by omega))
  have x := fun (h l lw : Int32) => (x h l lw).trans (r_j (by omega) ((pk_un (by omega)).trans f4) (by decide) jK (A := L) jJ)
  have x := fun (h l lw : Int32) => (x h l lw).trans (r_sll (by omega) ((pk_un (by omega)).trans f5) (by decide) (sb := 0) (t := 0) (dd := 0) (by decide) (by decide) (by decide) (by decide) (by decide) (by decide) (by decide))
  simp only [wr0] at x
  have y := RT.mk (N := 30) x (by decide)
  generalize hr7 : (wr _ _ _ : Nat → Int32) = r7 at y
  have e8 : r7 8 = w := by rw [← v1]; subst hr7; rfl
  rw [e8] at y
  have k7 := h.set (r' := r7) (tr' := tr) (v := w) (by omega) (by subst hr7; exact a12) (by subst hr7; exact h.2.2.2.2.2.1) (by subst hr7; rfl) (by subst hr7; rfl) (by subst hr7; rfl) (by subst hr7; rfl) (by subst hr7; rfl)
  exact ⟨r7, _, y, k7, fun j hj => pk_un (by omega)⟩
set_option maxHeartbeats 4000000 in
set_option maxRecDepth 100000 in
theorem ox18_1 {S0 : xS} {code r m : Nat → Int32} {a : Int32} {ws : List Int32} {tr q : Nat} {L : Nat} (hL : CMl LC1 code) (h : RI code a r m ws tr) (hn : ws.length < 900) (h1 : 19840 ≤ q) (h2 : q < 281000) (hLL : L < 1000000) (hb : CB code q [nI (1006960640 + 4 * L / 65536), nI (883228672 + (4 * L + 1) % 65536), 201346832, 0]) : ∃ r' m', RT S0 300 r m q r' m' (q + 4) ∧ RI code a r' m' (((ws ++ [nI (4 * tr) + 1]) ++ [nI (4 * L) + 1]) ++ [nI (4 * 5632) + 1]) (5632 + ws.length) ∧ ∀ j, j < 5632 → m' j = m j := by
  have f0 : m (q) = nI (1006960640 + 4 * L / 65536) := (h.1 _ (by omega)).trans (hb 0 _ rfl)
  have f1 : m (q + 1) = nI (883228672 + (4 * L + 1) % 65536) := (h.1 _ (by omega)).trans (hb 1 _ rfl)
  have f2 : m (q + 2) = 201346832 := (h.1 _ (by omega)).trans (hb 2 _ rfl)
  have f3 : m (q + 3) = 0 := (h.1 _ (by omega)).trans (hb 3 _ rfl)
  have uK : asK (nI (1006960640 + 4 * L / 65536)) = 15 := by rw [n_K (by omega), show (1006960640 + 4 * L / 65536) / 67108864 = 15 from by omega]; rfl
  have uB : asB (nI (1006960640 + 4 * L / 65536)) = nI 5 := by rw [n_B (by omega), show (1006960640 + 4 * L / 65536) / 65536 % 32 = 5 from by omega]
  have uI : nI (1006960640 + 4 * L / 65536) <<< ((16 : Int32) &&& 31) = nI (65536 * (4 * L / 65536)) := lui_sh (by decide) (by omega) (by omega)
  have oK : asK (nI (883228672 + (4 * L + 1) % 65536)) = 13 := by rw [n_K (by omega), show (883228672 + (4 * L + 1) % 65536) / 67108864 = 13 from by omega]; rfl
  have oA : asA (nI (883228672 + (4 * L + 1) % 65536)) = nI 5 := by rw [n_A (by omega), show (883228672 + (4 * L + 1) % 65536) / 2097152 % 32 = 5 from by omega]
  have oB : asB (nI (883228672 + (4 * L + 1) % 65536)) = nI 5 := by rw [n_B (by omega), show (883228672 + (4 * L + 1) % 65536) / 65536 % 32 = 5 from by omega]
  have oI : nI (883228672 + (4 * L + 1) % 65536) &&& 65535 = nI ((4 * L + 1) % 65536) := by rw [n_lo (by omega), show (883228672 + (4 * L + 1) % 65536) % 65536 = (4 * L + 1) % 65536 from by omega]
  have e5 : nI (65536 * (4 * L / 65536)) ||| nI ((4 * L + 1) % 65536) = nI (4 * L) + 1 := by
    rw [or16 (C := 65536 * (4 * L / 65536)) rfl (by omega) (by omega) (by omega), show 65536 * (4 * L / 65536) + (4 * L + 1) % 65536 = 4 * L + 1 from by omega, nA1]
  have x := fun (h l lw : Int32) => r_lui (S0 := S0) (q := q) (r := r) (m := m) (p := q + 1) (h := h) (l := l) (lt := 0) (lw := lw) (by omega) f0 (by decide) uK (t := 5) uB uI (by decide)
  have x := fun (h l lw : Int32) => (x h l lw).trans (r_ori (by omega) f1 (by decide) oK (sa := 5) (t := 5) oA oB oI (by decide) (by decide))
  have x := fun (h l lw : Int32) => (x h l lw).trans (r_jal (by omega) f2 (by decide) (A := 20240) (by decide) (by decide))
  have x := fun (h l lw : Int32) => (x h l lw).trans (r_sll (by omega) f3 (by decide) (sb := 0) (t := 0) (dd := 0) (by decide) (by decide) (by decide) (by decide) (by decide) (by decide) (by decide))
  simp only [wr0] at x
  have y1 := RT.mk (N := 30) x (by decide)
  generalize hr1 : (wr _ _ _ : Nat → Int32) = r1 at y1
  have k1 : RI code a r1 m ws tr := by subst hr1; exact h.keep rfl rfl rfl rfl rfl rfl rfl
  have g5 : r1 5 = nI (4 * L) + 1 := by subst hr1; exact e5
  have g31 : r1 31 = nI (4 * (q + 4)) := by subst hr1; rfl
  obtain ⟨r2, m2, y2, k2, n2⟩ := ri_open (S0 := S0) (ret := q + 4) (Or.inl rfl) hL k1 (by omega) g31
  rw [g5] at k2
  exact ⟨r2, m2, (y1.trans y2).mono (by decide), k2, n2⟩
set_option maxHeartbeats 4000000 in
set_option maxRecDepth 100000 in
theorem ox19_1 {S0 : xS} {code r m : Nat → Int32} {a : Int32} {ws : List Int32} {tr q : Nat} {b c v : Int32} {t : Nat} (hL : CMl LC1 code) (h : RI code a r m ((((ws ++ [nI (4 * t) + 1]) ++ [b]) ++ [c]) ++ [v]) tr) (hn : ws.length < 900) (h1 : 19840 ≤ q) (h2 : q < 281000) (hb : CB code q [201346845, 0]) : ∃ r' m', RT S0 300 r m q r' m' (q + 2) ∧ RI code a r' m' (ws ++ [v]) t ∧ ∀ j, j < 5632 → m' j = m j := by
  have f0 : m (q) = 201346845 := (h.1 _ (by omega)).trans (hb 0 _ rfl)
  have f1 : m (q + 1) = 0 := (h.1 _ (by omega)).trans (hb 1 _ rfl)
  have x := fun (h l lw : Int32) => r_jal (S0 := S0) (q := q) (r := r) (m := m) (p := q + 1) (h := h) (l := l) (lt := 0) (lw := lw) (by omega) f0 (by decide) (A := 20253) (by decide) (by decide)
  have x := fun (h l lw : Int32) => (x h l lw).trans (r_sll (by omega) f1 (by decide) (sb := 0) (t := 0) (dd := 0) (by decide) (by decide) (by decide) (by decide) (by decide) (by decide) (by decide))
  simp only [wr0] at x
  have y1 := RT.mk (N := 30) x (by decide)
  generalize hr1 : (wr _ _ _ : Nat → Int32) = r1 at y1
  have k1 : RI code a r1 m ((((ws ++ [nI (4 * t) + 1]) ++ [b]) ++ [c]) ++ [v]) tr := by subst hr1; exact h.keep rfl rfl rfl rfl rfl rfl rfl
  have g31 : r1 31 = nI (4 * (q + 2)) := by subst hr1; rfl
  obtain ⟨r2, m2, y2, k2, n2⟩ := ri_opened (S0 := S0) (ret := q + 2) (Or.inl rfl) hL k1 (by omega) g31
  exact ⟨r2, m2, (y1.trans y2).mono (by decide), k2, n2⟩
set_option maxHeartbeats 4000000 in
set_option maxRecDepth 100000 in
theorem ox23_1 {S0 : xS} {code r m : Nat → Int32} {a : Int32} {ws : List Int32} {tr q : Nat} {v : Int32} (hL : CMl LC1 code) (h : RI code a r m (ws ++ [v]) tr) (hn : ws.length < 900) (h1 : 19840 ≤ q) (h2 : q < 281000) (hb : CB code q [2382626812, 0, 604110848, 134237590, 0]) : ∃ r', RT S0 30 r m q r' m (eFinish 1) ∧ RI code a r' m (ws ++ [v]) tr ∧ r' 2 = 0 ∧ r' 3 = v := by
  have f0 : m (q) = 2382626812 := (h.1 _ (by omega)).trans (hb 0 _ rfl)
  have f1 : m (q + 1) = 0 := (h.1 _ (by omega)).trans (hb 1 _ rfl)
  have f2 : m (q + 2) = 604110848 := (h.1 _ (by omega)).trans (hb 2 _ rfl)
  have f3 : m (q + 3) = 134237590 := (h.1 _ (by omega)).trans (hb 3 _ rfl)
  have f4 : m (q + 4) = 0 := (h.1 _ (by omega)).trans (hb 4 _ rfl)
  have h16 : r 16 = nI (4 * (5632 + ws.length + 1)) := by have := h.2.2.1; rw [List.length_append] at this; exact this
  have a9 : (r 16 + (-4)) >>> ((2 : Int32) &&& 31) = nI (5632 + ws.length) := ad4 h16 (nm4 (x := 5632 + ws.length) (c := 1) (by decide)) (by omega)
  have v0 : m (5632 + ws.length) = v := h.at
  have x := fun (h l lw : Int32) => r_lw (S0 := S0) (q := q) (r := r) (m := m) (p := q + 1) (h := h) (l := l) (lt := 0) (lw := lw) (by omega) f0 (by decide) (sa := 16) (t := 3) (i := (-4)) (k := (5632 + ws.length)) (by decide) (by decide) (by decide) (by decide) (by decide) (by decide) a9 (by omega)
  have x := fun (h l lw : Int32) => (x h l lw).trans (r_sll (by omega) f1 (by decide) (sb := 0) (t := 0) (dd := 0) (by decide) (by decide) (by decide) (by decide) (by decide) (by decide) (by decide))
  have x := fun (h l lw : Int32) => (x h l lw).trans (r_addiu (by omega) f2 (by decide) (sa := 0) (t := 2) (i := 0) (by decide) (by decide) (by decide) (by decide) (by decide) (by decide))
  have x := fun (h l lw : Int32) => (x h l lw).trans (r_j (by omega) f3 (by decide) (A := 19862) (by decide) (by decide))
  have x := fun (h l lw : Int32) => (x h l lw).trans (r_sll (by omega) f4 (by decide) (sb := 0) (t := 0) (dd := 0) (by decide) (by decide) (by decide) (by decide) (by decide) (by decide) (by decide))
  simp only [wr0] at x
  have y := RT.mk (N := 30) x (by decide)
  generalize hr1 : (wr _ _ _ : Nat → Int32) = r1 at y
  exact ⟨r1, y, by subst hr1; exact h.keep rfl rfl rfl rfl rfl rfl rfl, by subst hr1; exact (congrArg (· + 0) h.2.1).trans (by decide), by subst hr1; exact v0⟩
set_option maxHeartbeats 4000000 in
set_option maxRecDepth 100000 in
theorem ox25_1 {S0 : xS} {code r m : Nat → Int32} {a : Int32} {ws : List Int32} {tr q : Nat} {p : Nat} {v : Int32} (hL : CMl LC1 code) (h : RI code a r m ws tr) (hn : ws.length < 900) (h1 : 19840 ≤ q) (h2 : q < 281000) (hp : ws[p]? = some v) (hpl : p < 1000) (hb : CB code q [wLw 8 (nI p * 4) 17, 0, 2886205504]) : ∃ r' m', RT S0 30 r m q r' m' (q + 3) ∧ RI code a r' m' ws tr ∧ m' 16 = v := by
  have f0 : m (q) = wLw 8 (nI p * 4) 17 := (h.1 _ (by omega)).trans (hb 0 _ rfl)
  have f1 : m (q + 1) = 0 := (h.1 _ (by omega)).trans (hb 1 _ rfl)
  have f2 : m (q + 2) = 2886205504 := (h.1 _ (by omega)).trans (hb 2 _ rfl)
  have lK : asK (wLw 8 (nI p * 4) 17) = 35 := by rw [wLw8_n (by omega), n_K (by omega), show (2384986112 + 4 * p) / 67108864 = 35 from by omega]; rfl
  have lA : asA (wLw 8 (nI p * 4) 17) = nI 17 := by rw [wLw8_n (by omega), n_A (by omega), show (2384986112 + 4 * p) / 2097152 % 32 = 17 from by omega]
  have lB : asB (wLw 8 (nI p * 4) 17) = nI 8 := by rw [wLw8_n (by omega), n_B (by omega), show (2384986112 + 4 * p) / 65536 % 32 = 8 from by omega]
  have lS : asS (wLw 8 (nI p * 4) 17) = nI (4 * p) := by rw [wLw8_n (by omega), n_Sp (by omega) (by omega), show (2384986112 + 4 * p) % 65536 = 4 * p from by omega]
  have lad : (r 17 + nI (4 * p)) >>> ((2 : Int32) &&& 31) = nI (5632 + p) := ad4 h.2.2.2.1 (np4 rfl) (by omega)
  have lv : m (5632 + p) = v := h.2.2.2.2.2.2.2.2.2.2 p v hp
  have t0 : (r 0 + 64) >>> ((2 : Int32) &&& 31) = nI 16 := ad4 (x := 0) h.2.1 (by decide) (by decide)
  have x := fun (h l lw : Int32) => r_lw (S0 := S0) (q := q) (r := r) (m := m) (p := q + 1) (h := h) (l := l) (lt := 0) (lw := lw) (by omega) f0 (by decide) lK (sa := 17) (t := 8) (k := 5632 + p) lA lB lS (by decide) (by decide) lad (by omega)
  have x := fun (h l lw : Int32) => (x h l lw).trans (r_sll (by omega) f1 (by decide) (sb := 0) (t := 0) (dd := 0) (by decide) (by decide) (by decide) (by decide) (by decide) (by decide) (by decide))
  have x := fun (h l lw : Int32) => (x h l lw).trans (r_sw (by omega) f2 (by decide) (sa := 0) (t := 8) (i := 64) (k := 16) (by decide) (by decide) (by decide) (by decide) (by decide) (by decide) t0 (by decide))
  simp only [wr0] at x
  have y := RT.mk (N := 30) x (by decide)
  generalize hr1 : (wr _ _ _ : Nat → Int32) = r1 at y
  have e8 : r1 8 = v := by subst hr1; exact lv
  rw [e8] at y
  have k1 : RI code a r1 m ws tr := by subst hr1; exact h.keep rfl rfl rfl rfl rfl rfl rfl
  exact ⟨r1, _, y, k1.mem (by decide) (by decide) (by decide) (by decide), pk_us⟩
set_option maxHeartbeats 4000000 in
set_option maxRecDepth 100000 in
theorem ox30_1 {S0 : xS} {code r m : Nat → Int32} {a : Int32} {ws : List Int32} {tr q : Nat} (hL : CMl LC1 code) (h : RI code a r m ws tr) (hn : ws.length < 900) (h1 : 19840 ≤ q) (h2 : q < 281000) (hb : CB code q [2349334592, 0, 2886206016]) : ∃ r' m', RT S0 30 r m q r' m' (q + 3) ∧ RI code a r' m' ws tr ∧ m' 144 = m 16 := by
  have f0 : m (q) = 2349334592 := (h.1 _ (by omega)).trans (hb 0 _ rfl)
  have f1 : m (q + 1) = 0 := (h.1 _ (by omega)).trans (hb 1 _ rfl)
  have f2 : m (q + 2) = 2886206016 := (h.1 _ (by omega)).trans (hb 2 _ rfl)
  have t0 : (r 0 + 64) >>> ((2 : Int32) &&& 31) = nI 16 := ad4 (x := 0) h.2.1 (by decide) (by decide)
  have t1 : (r 0 + 576) >>> ((2 : Int32) &&& 31) = nI 144 := ad4 (x := 0) h.2.1 (by decide) (by decide)
  have x := fun (h l lw : Int32) => r_lw (S0 := S0) (q := q) (r := r) (m := m) (p := q + 1) (h := h) (l := l) (lt := 0) (lw := lw) (by omega) f0 (by decide) (sa := 0) (t := 8) (i := 64) (k := 16) (by decide) (by decide) (by decide) (by decide) (by decide) (by decide) t0 (by decide)
  have x := fun (h l lw : Int32) => (x h l lw).trans (r_sll (by omega) f1 (by decide) (sb := 0) (t := 0) (dd := 0) (by decide) (by decide) (by decide) (by decide) (by decide) (by decide) (by decide))
  have x := fun (h l lw : Int32) => (x h l lw).trans (r_sw (by omega) f2 (by decide) (sa := 0) (t := 8) (i := 576) (k := 144) (by decide) (by decide) (by decide) (by decide) (by decide) (by decide) t1 (by decide))
  simp only [wr0] at x
  have y := RT.mk (N := 30) x (by decide)
  generalize hr1 : (wr _ _ _ : Nat → Int32) = r1 at y
  have e8 : r1 8 = m 16 := by subst hr1; rfl
  rw [e8] at y
  have k1 : RI code a r1 m ws tr := by subst hr1; exact h.keep rfl rfl rfl rfl rfl rfl rfl
  exact ⟨r1, _, y, k1.mem (by decide) (by decide) (by decide) (by decide), pk_us⟩
set_option maxHeartbeats 4000000 in
set_option maxRecDepth 100000 in
theorem ox29_1 {S0 : xS} {code r m : Nat → Int32} {a : Int32} {ws : List Int32} {tr q : Nat} {L : Nat} (hL : CMl LC1 code) (h : RI code a r m ws tr) (hn : ws.length < 900) (h1 : 19840 ≤ q) (h2 : q < 281000) (h16 : m 16 = 26) (hb : CB code q [2349334592, 0, 604569626, 285802499, 0, nI (134217728 + L), 0]) : ∃ r', RT S0 30 r m q r' m (q + 7) ∧ RI code a r' m ws tr := by
  have f0 : m (q) = 2349334592 := (h.1 _ (by omega)).trans (hb 0 _ rfl)
  have f1 : m (q + 1) = 0 := (h.1 _ (by omega)).trans (hb 1 _ rfl)
  have f2 : m (q + 2) = 604569626 := (h.1 _ (by omega)).trans (hb 2 _ rfl)
  have f3 : m (q + 3) = 285802499 := (h.1 _ (by omega)).trans (hb 3 _ rfl)
  have f4 : m (q + 4) = 0 := (h.1 _ (by omega)).trans (hb 4 _ rfl)
  have f5 : m (q + 5) = nI (134217728 + L) := (h.1 _ (by omega)).trans (hb 5 _ rfl)
  have f6 : m (q + 6) = 0 := (h.1 _ (by omega)).trans (hb 6 _ rfl)
  have t0 : (r 0 + 64) >>> ((2 : Int32) &&& 31) = nI 16 := ad4 (x := 0) h.2.1 (by decide) (by decide)
  have gb : m 16 = r 0 + 26 := by rw [h16, h.2.1]; decide
  have x := fun (h l lw : Int32) => r_lw (S0 := S0) (q := q) (r := r) (m := m) (p := q + 1) (h := h) (l := l) (lt := 0) (lw := lw) (by omega) f0 (by decide) (sa := 0) (t := 8) (i := 64) (k := 16) (by decide) (by decide) (by decide) (by decide) (by decide) (by decide) t0 (by decide)
  have x := fun (h l lw : Int32) => (x h l lw).trans (r_sll (by omega) f1 (by decide) (sb := 0) (t := 0) (dd := 0) (by decide) (by decide) (by decide) (by decide) (by decide) (by decide) (by decide))
  have x := fun (h l lw : Int32) => (x h l lw).trans (r_addiu (by omega) f2 (by decide) (sa := 0) (t := 9) (i := 26) (by decide) (by decide) (by decide) (by decide) (by decide) (by decide))
  have x := fun (h l lw : Int32) => (x h l lw).trans (r_beq (by omega) f3 (by decide) (by decide) (sa := 8) (sb := 9) (by decide) (by decide) (by decide) (by decide) (by exact gb)  (off := 3) (by decide))
  have x := fun (h l lw : Int32) => (x h l lw).trans (r_sll (by omega) f4 (by decide) (sb := 0) (t := 0) (dd := 0) (by decide) (by decide) (by decide) (by decide) (by decide) (by decide) (by decide))
  simp only [wr0] at x
  have y := RT.mk (N := 30) x (by decide)
  generalize hr1 : (wr _ _ _ : Nat → Int32) = r1 at y
  exact ⟨r1, y, by subst hr1; exact h.keep rfl rfl rfl rfl rfl rfl rfl⟩
set_option maxHeartbeats 4000000 in
set_option maxRecDepth 100000 in
theorem ox31_1 {S0 : xS} {code r m : Nat → Int32} {a : Int32} {ws : List Int32} {tr q : Nat} (hL : CMl LC1 code) (h : RI code a r m ws tr) (hn : ws.length < 900) (h1 : 19840 ≤ q) (h2 : q < 281000) (hb : CB code q [604307460, 201346668, 0]) : ∃ r' m', RT S0 300 r m q r' m' (q + 3) ∧ RI code a r' m' (ws ++ [m 144]) tr ∧ ∀ j, j < 5632 → m' j = m j := by
  have f0 : m (q) = 604307460 := (h.1 _ (by omega)).trans (hb 0 _ rfl)
  have f1 : m (q + 1) = 201346668 := (h.1 _ (by omega)).trans (hb 1 _ rfl)
  have f2 : m (q + 2) = 0 := (h.1 _ (by omega)).trans (hb 2 _ rfl)
  have x := fun (h l lw : Int32) => r_addiu (S0 := S0) (q := q) (r := r) (m := m) (p := q + 1) (h := h) (l := l) (lt := 0) (lw := lw) (by omega) f0 (by decide) (sa := 0) (t := 5) (i := 4) (by decide) (by decide) (by decide) (by decide) (by decide) (by decide)
  have x := fun (h l lw : Int32) => (x h l lw).trans (r_jal (by omega) f1 (by decide) (A := 20076) (by decide) (by decide))
  have x := fun (h l lw : Int32) => (x h l lw).trans (r_sll (by omega) f2 (by decide) (sb := 0) (t := 0) (dd := 0) (by decide) (by decide) (by decide) (by decide) (by decide) (by decide) (by decide))
  simp only [wr0] at x
  have y1 := RT.mk (N := 30) x (by decide)
  generalize hr1 : (wr _ _ _ : Nat → Int32) = r1 at y1
  have k1 : RI code a r1 m ws tr := by subst hr1; exact h.keep rfl rfl rfl rfl rfl rfl rfl
  have g5 : r1 5 = 4 := by subst hr1; exact (congrArg (· + 4) h.2.1).trans (by decide)
  have g31 : r1 31 = nI (4 * (q + 3)) := by subst hr1; rfl
  obtain ⟨r2, m2, y2, k2, n2⟩ := ri_bind (S0 := S0) (ret := q + 3) (Or.inl rfl) hL k1 (by omega) g5 g31
  exact ⟨r2, m2, (y1.trans y2).mono (by decide), k2, n2⟩
set_option maxHeartbeats 4000000 in
set_option maxRecDepth 100000 in
theorem ox8_2 {S0 : xS} {code r m : Nat → Int32} {a : Int32} {ws : List Int32} {tr q : Nat} {L : Nat} (hL : CMl LC2 code) (h : RI code a r m ws tr) (hn : ws.length < 900) (h1 : 19840 ≤ q) (h2 : q < 281000) (hLL : L < 1000000) (hb : CB code q [nI (134217728 + L), 0]) : RT S0 30 r m q r m L := by
  have f0 : m (q) = nI (134217728 + L) := (h.1 _ (by omega)).trans (hb 0 _ rfl)
  have f1 : m (q + 1) = 0 := (h.1 _ (by omega)).trans (hb 1 _ rfl)
  have jK : asK (nI (134217728 + L)) = 2 := by rw [n_K (by omega), show (134217728 + L) / 67108864 = 2 from by omega]; rfl
  have jJ : nI (134217728 + L) &&& 67108863 = nI L := by rw [n_J (by omega), show (134217728 + L) % 67108864 = L from by omega]
  have x := fun (h l lw : Int32) => r_j (S0 := S0) (q := q) (r := r) (m := m) (p := q + 1) (h := h) (l := l) (lt := 0) (lw := lw) (by omega) f0 (by decide) jK (A := L) jJ
  have x := fun (h l lw : Int32) => (x h l lw).trans (r_sll (by omega) f1 (by decide) (sb := 0) (t := 0) (dd := 0) (by decide) (by decide) (by decide) (by decide) (by decide) (by decide) (by decide))
  simp only [wr0] at x
  have y := RT.mk (N := 30) x (by decide)
  exact y
set_option maxHeartbeats 4000000 in
set_option maxRecDepth 100000 in
theorem ox11_2 {S0 : xS} {code r m : Nat → Int32} {a : Int32} {ws : List Int32} {tr q : Nat} {v w : Int32} (hL : CMl LC2 code) (h : RI code a r m ((ws ++ [v]) ++ [w]) tr) (hn : ws.length < 900) (h1 : 19840 ≤ q) (h2 : q < 281000) (hb : CB code q [2382954492, 638648316, 2919825404]) : ∃ r' m', RT S0 30 r m q r' m' (q + 3) ∧ RI code a r' m' (ws ++ [w]) tr ∧ ∀ j, j < 5632 → m' j = m j := by
  have hT := h
  have h : RI code a r m (ws ++ [v, w]) tr := by rw [List.append_assoc] at h; exact h
  have hc := h.1.lib hL
  have h0 := h.2.1
  have h16 : r 16 = nI (4 * (5632 + ws.length + 2)) := by have := h.2.2.1; rw [List.length_append] at this; exact this
  have a8 : (r 16 + (-8)) >>> ((2 : Int32) &&& 31) = nI (5632 + ws.length) := ad4 h16 (nm4 (x := 5632 + ws.length) (c := 2) (by decide)) (by omega)
  have a9 : (r 16 + (-4)) >>> ((2 : Int32) &&& 31) = nI (5632 + ws.length + 1) := ad4 h16 (nm4 (x := 5632 + ws.length + 1) (c := 1) (by decide)) (by omega)
  have a12 : r 16 + (-4) = nI (4 * (5632 + ws.length + 1)) := by rw [h16]; exact nm4 (x := 5632 + ws.length + 1) (c := 1) (by decide)
  have as : ((r 16 + (-4)) + (-4)) >>> ((2 : Int32) &&& 31) = nI (5632 + ws.length) := ad4 a12 (nm4 (x := 5632 + ws.length) (c := 1) (by decide)) (by omega)
  have v0 : m (5632 + ws.length) = v := h.at
  have v1 : m (5632 + ws.length + 1) = w := by
    have := h.2.2.2.2.2.2.2.2.2.2 (ws.length + 1) w (by rw [List.getElem?_append_right (by omega), show ws.length + 1 - ws.length = 1 from by omega]; rfl)
    rw [← Nat.add_assoc] at this; exact this
  have f0 : m (q) = 2382954492 := (h.1 _ (by omega)).trans (hb 0 _ rfl)
  have f1 : m (q + 1) = 638648316 := (h.1 _ (by omega)).trans (hb 1 _ rfl)
  have f2 : m (q + 2) = 2919825404 := (h.1 _ (by omega)).trans (hb 2 _ rfl)
  have x := fun (h l lw : Int32) => r_lw (S0 := S0) (q := q) (r := r) (m := m) (p := q + 1) (h := h) (l := l) (lt := 0) (lw := lw) (by omega) f0 (by decide) (sa := 16) (t := 8) (i := (-4)) (k := (5632 + ws.length + 1)) (by decide) (by decide) (by decide) (by decide) (by decide) (by decide) a9 (by omega)
  have x := fun (h l lw : Int32) => (x h l lw).trans (r_addiu (by omega) f1 (by decide) (sa := 16) (t := 16) (i := (-4)) (by decide) (by decide) (by decide) (by decide) (by decide) (by decide))
  have x := fun (h l lw : Int32) => (x h l lw).trans (r_sw (by omega) f2 (by decide) (sa := 16) (t := 8) (i := (-4)) (k := (5632 + ws.length)) (by decide) (by decide) (by decide) (by decide) (by decide) (by decide) as (by omega))
  simp only [wr0] at x
  have y := RT.mk (N := 30) x (by decide)
  generalize hr7 : (wr _ _ _ : Nat → Int32) = r7 at y
  have e8 : r7 8 = w := by rw [← v1]; subst hr7; rfl
  rw [e8] at y
  have k7 := h.set (r' := r7) (tr' := tr) (v := w) (by omega) (by subst hr7; exact a12) (by subst hr7; exact h.2.2.2.2.2.1) (by subst hr7; rfl) (by subst hr7; rfl) (by subst hr7; rfl) (by subst hr7; rfl) (by subst hr7; rfl)
  exact ⟨r7, _, y, k7, fun j hj => pk_un (by omega)⟩
set_option maxHeartbeats 4000000 in
set_option maxRecDepth 100000 in
theorem ox11j_2 {S0 : xS} {code r m : Nat → Int32} {a : Int32} {ws : List Int32} {tr q : Nat} {v w : Int32} {L : Nat} (hL : CMl LC2 code) (h : RI code a r m ((ws ++ [v]) ++ [w]) tr) (hn : ws.length < 900) (h1 : 19840 ≤ q) (h2 : q < 281000) (hLL : L < 1000000) (hb : CB code q [2382954492, 638648316, nI (134217728 + L), 2919825404]) : ∃ r' m', RT S0 30 r m q r' m' L ∧ RI code a r' m' (ws ++ [w]) tr ∧ ∀ j, j < 5632 → m' j = m j := by
  have hT := h
  have h : RI code a r m (ws ++ [v, w]) tr := by rw [List.append_assoc] at h; exact h
  have hc := h.1.lib hL
  have h0 := h.2.1
  have h16 : r 16 = nI (4 * (5632 + ws.length + 2)) := by have := h.2.2.1; rw [List.length_append] at this; exact this
  have a8 : (r 16 + (-8)) >>> ((2 : Int32) &&& 31) = nI (5632 + ws.length) := ad4 h16 (nm4 (x := 5632 + ws.length) (c := 2) (by decide)) (by omega)
  have a9 : (r 16 + (-4)) >>> ((2 : Int32) &&& 31) = nI (5632 + ws.length + 1) := ad4 h16 (nm4 (x := 5632 + ws.length + 1) (c := 1) (by decide)) (by omega)
  have a12 : r 16 + (-4) = nI (4 * (5632 + ws.length + 1)) := by rw [h16]; exact nm4 (x := 5632 + ws.length + 1) (c := 1) (by decide)
  have as : ((r 16 + (-4)) + (-4)) >>> ((2 : Int32) &&& 31) = nI (5632 + ws.length) := ad4 a12 (nm4 (x := 5632 + ws.length) (c := 1) (by decide)) (by omega)
  have v0 : m (5632 + ws.length) = v := h.at
  have v1 : m (5632 + ws.length + 1) = w := by
    have := h.2.2.2.2.2.2.2.2.2.2 (ws.length + 1) w (by rw [List.getElem?_append_right (by omega), show ws.length + 1 - ws.length = 1 from by omega]; rfl)
    rw [← Nat.add_assoc] at this; exact this
  have f0 : m (q) = 2382954492 := (h.1 _ (by omega)).trans (hb 0 _ rfl)
  have f1 : m (q + 1) = 638648316 := (h.1 _ (by omega)).trans (hb 1 _ rfl)
  have f2 : m (q + 2) = nI (134217728 + L) := (h.1 _ (by omega)).trans (hb 2 _ rfl)
  have f3 : m (q + 3) = 2919825404 := (h.1 _ (by omega)).trans (hb 3 _ rfl)
  have jK : asK (nI (134217728 + L)) = 2 := by rw [n_K (by omega), show (134217728 + L) / 67108864 = 2 from by omega]; rfl
  have jJ : nI (134217728 + L) &&& 67108863 = nI L := by rw [n_J (by omega), show (134217728 + L) % 67108864 = L from by omega]
  have x := fun (h l lw : Int32) => r_lw (S0 := S0) (q := q) (r := r) (m := m) (p := q + 1) (h := h) (l := l) (lt := 0) (lw := lw) (by omega) f0 (by decide) (sa := 16) (t := 8) (i := (-4)) (k := (5632 + ws.length + 1)) (by decide) (by decide) (by decide) (by decide) (by decide) (by decide) a9 (by omega)
  have x := fun (h l lw : Int32) => (x h l lw).trans (r_addiu (by omega) f1 (by decide) (sa := 16) (t := 16) (i := (-4)) (by decide) (by decide) (by decide) (by decide) (by decide) (by decide))
  have x := fun (h l lw : Int32) => (x h l lw).trans (r_j (by omega) f2 (by decide) jK (A := L) jJ)
  have x := fun (h l lw : Int32) => (x h l lw).trans (r_sw (by omega) f3 (by decide) (sa := 16) (t := 8) (i := (-4)) (k := (5632 + ws.length)) (by decide) (by decide) (by decide) (by decide) (by decide) (by decide) as (by omega))
  simp only [wr0] at x
  have y := RT.mk (N := 30) x (by decide)
  generalize hr7 : (wr _ _ _ : Nat → Int32) = r7 at y
  have e8 : r7 8 = w := by rw [← v1]; subst hr7; rfl
  rw [e8] at y
  have k7 := h.set (r' := r7) (tr' := tr) (v := w) (by omega) (by subst hr7; exact a12) (by subst hr7; exact h.2.2.2.2.2.1) (by subst hr7; rfl) (by subst hr7; rfl) (by subst hr7; rfl) (by subst hr7; rfl) (by subst hr7; rfl)
  exact ⟨r7, _, y, k7, fun j hj => pk_un (by omega)⟩
set_option maxHeartbeats 4000000 in
set_option maxRecDepth 100000 in
theorem ox18_2 {S0 : xS} {code r m : Nat → Int32} {a : Int32} {ws : List Int32} {tr q : Nat} {L : Nat} (hL : CMl LC2 code) (h : RI code a r m ws tr) (hn : ws.length < 900) (h1 : 19840 ≤ q) (h2 : q < 281000) (hLL : L < 1000000) (hb : CB code q [nI (1006960640 + 4 * L / 65536), nI (883228672 + (4 * L + 1) % 65536), 201346766, 0]) : ∃ r' m', RT S0 300 r m q r' m' (q + 4) ∧ RI code a r' m' (((ws ++ [nI (4 * tr) + 1]) ++ [nI (4 * L) + 1]) ++ [nI (4 * 5632) + 1]) (5632 + ws.length) ∧ ∀ j, j < 5632 → m' j = m j := by
  have f0 : m (q) = nI (1006960640 + 4 * L / 65536) := (h.1 _ (by omega)).trans (hb 0 _ rfl)
  have f1 : m (q + 1) = nI (883228672 + (4 * L + 1) % 65536) := (h.1 _ (by omega)).trans (hb 1 _ rfl)
  have f2 : m (q + 2) = 201346766 := (h.1 _ (by omega)).trans (hb 2 _ rfl)
  have f3 : m (q + 3) = 0 := (h.1 _ (by omega)).trans (hb 3 _ rfl)
  have uK : asK (nI (1006960640 + 4 * L / 65536)) = 15 := by rw [n_K (by omega), show (1006960640 + 4 * L / 65536) / 67108864 = 15 from by omega]; rfl
  have uB : asB (nI (1006960640 + 4 * L / 65536)) = nI 5 := by rw [n_B (by omega), show (1006960640 + 4 * L / 65536) / 65536 % 32 = 5 from by omega]
  have uI : nI (1006960640 + 4 * L / 65536) <<< ((16 : Int32) &&& 31) = nI (65536 * (4 * L / 65536)) := lui_sh (by decide) (by omega) (by omega)
  have oK : asK (nI (883228672 + (4 * L + 1) % 65536)) = 13 := by rw [n_K (by omega), show (883228672 + (4 * L + 1) % 65536) / 67108864 = 13 from by omega]; rfl
  have oA : asA (nI (883228672 + (4 * L + 1) % 65536)) = nI 5 := by rw [n_A (by omega), show (883228672 + (4 * L + 1) % 65536) / 2097152 % 32 = 5 from by omega]
  have oB : asB (nI (883228672 + (4 * L + 1) % 65536)) = nI 5 := by rw [n_B (by omega), show (883228672 + (4 * L + 1) % 65536) / 65536 % 32 = 5 from by omega]
  have oI : nI (883228672 + (4 * L + 1) % 65536) &&& 65535 = nI ((4 * L + 1) % 65536) := by rw [n_lo (by omega), show (883228672 + (4 * L + 1) % 65536) % 65536 = (4 * L + 1) % 65536 from by omega]
  have e5 : nI (65536 * (4 * L / 65536)) ||| nI ((4 * L + 1) % 65536) = nI (4 * L) + 1 := by
    rw [or16 (C := 65536 * (4 * L / 65536)) rfl (by omega) (by omega) (by omega), show 65536 * (4 * L / 65536) + (4 * L + 1) % 65536 = 4 * L + 1 from by omega, nA1]
  have x := fun (h l lw : Int32) => r_lui (S0 := S0) (q := q) (r := r) (m := m) (p := q + 1) (h := h) (l := l) (lt := 0) (lw := lw) (by omega) f0 (by decide) uK (t := 5) uB uI (by decide)
  have x := fun (h l lw : Int32) => (x h l lw).trans (r_ori (by omega) f1 (by decide) oK (sa := 5) (t := 5) oA oB oI (by decide) (by decide))
  have x := fun (h l lw : Int32) => (x h l lw).trans (r_jal (by omega) f2 (by decide) (A := 20174) (by decide) (by decide))
  have x := fun (h l lw : Int32) => (x h l lw).trans (r_sll (by omega) f3 (by decide) (sb := 0) (t := 0) (dd := 0) (by decide) (by decide) (by decide) (by decide) (by decide) (by decide) (by decide))
  simp only [wr0] at x
  have y1 := RT.mk (N := 30) x (by decide)
  generalize hr1 : (wr _ _ _ : Nat → Int32) = r1 at y1
  have k1 : RI code a r1 m ws tr := by subst hr1; exact h.keep rfl rfl rfl rfl rfl rfl rfl
  have g5 : r1 5 = nI (4 * L) + 1 := by subst hr1; exact e5
  have g31 : r1 31 = nI (4 * (q + 4)) := by subst hr1; rfl
  obtain ⟨r2, m2, y2, k2, n2⟩ := ri_open (S0 := S0) (ret := q + 4) (Or.inr rfl) hL k1 (by omega) g31
  rw [g5] at k2
  exact ⟨r2, m2, (y1.trans y2).mono (by decide), k2, n2⟩
set_option maxHeartbeats 4000000 in
set_option maxRecDepth 100000 in
theorem ox19_2 {S0 : xS} {code r m : Nat → Int32} {a : Int32} {ws : List Int32} {tr q : Nat} {b c v : Int32} {t : Nat} (hL : CMl LC2 code) (h : RI code a r m ((((ws ++ [nI (4 * t) + 1]) ++ [b]) ++ [c]) ++ [v]) tr) (hn : ws.length < 900) (h1 : 19840 ≤ q) (h2 : q < 281000) (hb : CB code q [201346775, 0]) : ∃ r' m', RT S0 300 r m q r' m' (q + 2) ∧ RI code a r' m' (ws ++ [v]) t ∧ ∀ j, j < 5632 → m' j = m j := by
  have f0 : m (q) = 201346775 := (h.1 _ (by omega)).trans (hb 0 _ rfl)
  have f1 : m (q + 1) = 0 := (h.1 _ (by omega)).trans (hb 1 _ rfl)
  have x := fun (h l lw : Int32) => r_jal (S0 := S0) (q := q) (r := r) (m := m) (p := q + 1) (h := h) (l := l) (lt := 0) (lw := lw) (by omega) f0 (by decide) (A := 20183) (by decide) (by decide)
  have x := fun (h l lw : Int32) => (x h l lw).trans (r_sll (by omega) f1 (by decide) (sb := 0) (t := 0) (dd := 0) (by decide) (by decide) (by decide) (by decide) (by decide) (by decide) (by decide))
  simp only [wr0] at x
  have y1 := RT.mk (N := 30) x (by decide)
  generalize hr1 : (wr _ _ _ : Nat → Int32) = r1 at y1
  have k1 : RI code a r1 m ((((ws ++ [nI (4 * t) + 1]) ++ [b]) ++ [c]) ++ [v]) tr := by subst hr1; exact h.keep rfl rfl rfl rfl rfl rfl rfl
  have g31 : r1 31 = nI (4 * (q + 2)) := by subst hr1; rfl
  obtain ⟨r2, m2, y2, k2, n2⟩ := ri_opened (S0 := S0) (ret := q + 2) (Or.inr rfl) hL k1 (by omega) g31
  exact ⟨r2, m2, (y1.trans y2).mono (by decide), k2, n2⟩
set_option maxHeartbeats 4000000 in
set_option maxRecDepth 100000 in
theorem ox23_2 {S0 : xS} {code r m : Nat → Int32} {a : Int32} {ws : List Int32} {tr q : Nat} {v : Int32} (hL : CMl LC2 code) (h : RI code a r m (ws ++ [v]) tr) (hn : ws.length < 900) (h1 : 19840 ≤ q) (h2 : q < 281000) (hb : CB code q [2382626812, 134237587, 604110848]) : ∃ r', RT S0 30 r m q r' m (eFinish 2) ∧ RI code a r' m (ws ++ [v]) tr ∧ r' 2 = 0 ∧ r' 3 = v := by
  have f0 : m (q) = 2382626812 := (h.1 _ (by omega)).trans (hb 0 _ rfl)
  have f1 : m (q + 1) = 134237587 := (h.1 _ (by omega)).trans (hb 1 _ rfl)
  have f2 : m (q + 2) = 604110848 := (h.1 _ (by omega)).trans (hb 2 _ rfl)
  have h16 : r 16 = nI (4 * (5632 + ws.length + 1)) := by have := h.2.2.1; rw [List.length_append] at this; exact this
  have a9 : (r 16 + (-4)) >>> ((2 : Int32) &&& 31) = nI (5632 + ws.length) := ad4 h16 (nm4 (x := 5632 + ws.length) (c := 1) (by decide)) (by omega)
  have v0 : m (5632 + ws.length) = v := h.at
  have x := fun (h l lw : Int32) => r_lw (S0 := S0) (q := q) (r := r) (m := m) (p := q + 1) (h := h) (l := l) (lt := 0) (lw := lw) (by omega) f0 (by decide) (sa := 16) (t := 3) (i := (-4)) (k := (5632 + ws.length)) (by decide) (by decide) (by decide) (by decide) (by decide) (by decide) a9 (by omega)
  have x := fun (h l lw : Int32) => (x h l lw).trans (r_j (by omega) f1 (by decide) (A := 19859) (by decide) (by decide))
  have x := fun (h l lw : Int32) => (x h l lw).trans (r_addiu (by omega) f2 (by decide) (sa := 0) (t := 2) (i := 0) (by decide) (by decide) (by decide) (by decide) (by decide) (by decide))
  simp only [wr0] at x
  have y := RT.mk (N := 30) x (by decide)
  generalize hr1 : (wr _ _ _ : Nat → Int32) = r1 at y
  exact ⟨r1, y, by subst hr1; exact h.keep rfl rfl rfl rfl rfl rfl rfl, by subst hr1; exact (congrArg (· + 0) h.2.1).trans (by decide), by subst hr1; exact v0⟩
set_option maxHeartbeats 4000000 in
set_option maxRecDepth 100000 in
theorem ox25_2 {S0 : xS} {code r m : Nat → Int32} {a : Int32} {ws : List Int32} {tr q : Nat} {p : Nat} {v : Int32} (hL : CMl LC2 code) (h : RI code a r m ws tr) (hn : ws.length < 900) (h1 : 19840 ≤ q) (h2 : q < 281000) (hp : ws[p]? = some v) (hpl : p < 1000) (hb : CB code q [wLw 8 (nI p * 4) 17, 0, 2886205504]) : ∃ r' m', RT S0 30 r m q r' m' (q + 3) ∧ RI code a r' m' ws tr ∧ m' 16 = v := by
  have f0 : m (q) = wLw 8 (nI p * 4) 17 := (h.1 _ (by omega)).trans (hb 0 _ rfl)
  have f1 : m (q + 1) = 0 := (h.1 _ (by omega)).trans (hb 1 _ rfl)
  have f2 : m (q + 2) = 2886205504 := (h.1 _ (by omega)).trans (hb 2 _ rfl)
  have lK : asK (wLw 8 (nI p * 4) 17) = 35 := by rw [wLw8_n (by omega), n_K (by omega), show (2384986112 + 4 * p) / 67108864 = 35 from by omega]; rfl
  have lA : asA (wLw 8 (nI p * 4) 17) = nI 17 := by rw [wLw8_n (by omega), n_A (by omega), show (2384986112 + 4 * p) / 2097152 % 32 = 17 from by omega]
  have lB : asB (wLw 8 (nI p * 4) 17) = nI 8 := by rw [wLw8_n (by omega), n_B (by omega), show (2384986112 + 4 * p) / 65536 % 32 = 8 from by omega]
  have lS : asS (wLw 8 (nI p * 4) 17) = nI (4 * p) := by rw [wLw8_n (by omega), n_Sp (by omega) (by omega), show (2384986112 + 4 * p) % 65536 = 4 * p from by omega]
  have lad : (r 17 + nI (4 * p)) >>> ((2 : Int32) &&& 31) = nI (5632 + p) := ad4 h.2.2.2.1 (np4 rfl) (by omega)
  have lv : m (5632 + p) = v := h.2.2.2.2.2.2.2.2.2.2 p v hp
  have t0 : (r 0 + 64) >>> ((2 : Int32) &&& 31) = nI 16 := ad4 (x := 0) h.2.1 (by decide) (by decide)
  have x := fun (h l lw : Int32) => r_lw (S0 := S0) (q := q) (r := r) (m := m) (p := q + 1) (h := h) (l := l) (lt := 0) (lw := lw) (by omega) f0 (by decide) lK (sa := 17) (t := 8) (k := 5632 + p) lA lB lS (by decide) (by decide) lad (by omega)
  have x := fun (h l lw : Int32) => (x h l lw).trans (r_sll (by omega) f1 (by decide) (sb := 0) (t := 0) (dd := 0) (by decide) (by decide) (by decide) (by decide) (by decide) (by decide) (by decide))
  have x := fun (h l lw : Int32) => (x h l lw).trans (r_sw (by omega) f2 (by decide) (sa := 0) (t := 8) (i := 64) (k := 16) (by decide) (by decide) (by decide) (by decide) (by decide) (by decide) t0 (by decide))
  simp only [wr0] at x
  have y := RT.mk (N := 30) x (by decide)
  generalize hr1 : (wr _ _ _ : Nat → Int32) = r1 at y
  have e8 : r1 8 = v := by subst hr1; exact lv
  rw [e8] at y
  have k1 : RI code a r1 m ws tr := by subst hr1; exact h.keep rfl rfl rfl rfl rfl rfl rfl
  exact ⟨r1, _, y, k1.mem (by decide) (by decide) (by decide) (by decide), pk_us⟩
set_option maxHeartbeats 4000000 in
set_option maxRecDepth 100000 in
theorem ox30_2 {S0 : xS} {code r m : Nat → Int32} {a : Int32} {ws : List Int32} {tr q : Nat} (hL : CMl LC2 code) (h : RI code a r m ws tr) (hn : ws.length < 900) (h1 : 19840 ≤ q) (h2 : q < 281000) (hb : CB code q [2349334592, 0, 2886206016]) : ∃ r' m', RT S0 30 r m q r' m' (q + 3) ∧ RI code a r' m' ws tr ∧ m' 144 = m 16 := by
  have f0 : m (q) = 2349334592 := (h.1 _ (by omega)).trans (hb 0 _ rfl)
  have f1 : m (q + 1) = 0 := (h.1 _ (by omega)).trans (hb 1 _ rfl)
  have f2 : m (q + 2) = 2886206016 := (h.1 _ (by omega)).trans (hb 2 _ rfl)
  have t0 : (r 0 + 64) >>> ((2 : Int32) &&& 31) = nI 16 := ad4 (x := 0) h.2.1 (by decide) (by decide)
  have t1 : (r 0 + 576) >>> ((2 : Int32) &&& 31) = nI 144 := ad4 (x := 0) h.2.1 (by decide) (by decide)
  have x := fun (h l lw : Int32) => r_lw (S0 := S0) (q := q) (r := r) (m := m) (p := q + 1) (h := h) (l := l) (lt := 0) (lw := lw) (by omega) f0 (by decide) (sa := 0) (t := 8) (i := 64) (k := 16) (by decide) (by decide) (by decide) (by decide) (by decide) (by decide) t0 (by decide)
  have x := fun (h l lw : Int32) => (x h l lw).trans (r_sll (by omega) f1 (by decide) (sb := 0) (t := 0) (dd := 0) (by decide) (by decide) (by decide) (by decide) (by decide) (by decide) (by decide))
  have x := fun (h l lw : Int32) => (x h l lw).trans (r_sw (by omega) f2 (by decide) (sa := 0) (t := 8) (i := 576) (k := 144) (by decide) (by decide) (by decide) (by decide) (by decide) (by decide) t1 (by decide))
  simp only [wr0] at x
  have y := RT.mk (N := 30) x (by decide)
  generalize hr1 : (wr _ _ _ : Nat → Int32) = r1 at y
  have e8 : r1 8 = m 16 := by subst hr1; rfl
  rw [e8] at y
  have k1 : RI code a r1 m ws tr := by subst hr1; exact h.keep rfl rfl rfl rfl rfl rfl rfl
  exact ⟨r1, _, y, k1.mem (by decide) (by decide) (by decide) (by decide), pk_us⟩
set_option maxHeartbeats 4000000 in
set_option maxRecDepth 100000 in
theorem ox29_2 {S0 : xS} {code r m : Nat → Int32} {a : Int32} {ws : List Int32} {tr q : Nat} {L : Nat} (hL : CMl LC2 code) (h : RI code a r m ws tr) (hn : ws.length < 900) (h1 : 19840 ≤ q) (h2 : q < 281000) (h16 : m 16 = 26) (hb : CB code q [2349334592, 604569626, 285802499, 0, nI (134217728 + L), 0]) : ∃ r', RT S0 30 r m q r' m (q + 6) ∧ RI code a r' m ws tr := by
  have f0 : m (q) = 2349334592 := (h.1 _ (by omega)).trans (hb 0 _ rfl)
  have f1 : m (q + 1) = 604569626 := (h.1 _ (by omega)).trans (hb 1 _ rfl)
  have f2 : m (q + 2) = 285802499 := (h.1 _ (by omega)).trans (hb 2 _ rfl)
  have f3 : m (q + 3) = 0 := (h.1 _ (by omega)).trans (hb 3 _ rfl)
  have f4 : m (q + 4) = nI (134217728 + L) := (h.1 _ (by omega)).trans (hb 4 _ rfl)
  have f5 : m (q + 5) = 0 := (h.1 _ (by omega)).trans (hb 5 _ rfl)
  have t0 : (r 0 + 64) >>> ((2 : Int32) &&& 31) = nI 16 := ad4 (x := 0) h.2.1 (by decide) (by decide)
  have gb : m 16 = r 0 + 26 := by rw [h16, h.2.1]; decide
  have x := fun (h l lw : Int32) => r_lw (S0 := S0) (q := q) (r := r) (m := m) (p := q + 1) (h := h) (l := l) (lt := 0) (lw := lw) (by omega) f0 (by decide) (sa := 0) (t := 8) (i := 64) (k := 16) (by decide) (by decide) (by decide) (by decide) (by decide) (by decide) t0 (by decide)
  have x := fun (h l lw : Int32) => (x h l lw).trans (r_addiu (by omega) f1 (by decide) (sa := 0) (t := 9) (i := 26) (by decide) (by decide) (by decide) (by decide) (by decide) (by decide))
  have x := fun (h l lw : Int32) => (x h l lw).trans (r_beq (by omega) f2 (by decide) (by decide) (sa := 8) (sb := 9) (by decide) (by decide) (by decide) (by decide) (by exact gb)  (off := 3) (by decide))
  have x := fun (h l lw : Int32) => (x h l lw).trans (r_sll (by omega) f3 (by decide) (sb := 0) (t := 0) (dd := 0) (by decide) (by decide) (by decide) (by decide) (by decide) (by decide) (by decide))
  simp only [wr0] at x
  have y := RT.mk (N := 30) x (by decide)
  generalize hr1 : (wr _ _ _ : Nat → Int32) = r1 at y
  exact ⟨r1, y, by subst hr1; exact h.keep rfl rfl rfl rfl rfl rfl rfl⟩
set_option maxHeartbeats 4000000 in
set_option maxRecDepth 100000 in
theorem ox31_2 {S0 : xS} {code r m : Nat → Int32} {a : Int32} {ws : List Int32} {tr q : Nat} (hL : CMl LC2 code) (h : RI code a r m ws tr) (hn : ws.length < 900) (h1 : 19840 ≤ q) (h2 : q < 281000) (hb : CB code q [201346634, 604307460]) : ∃ r' m', RT S0 300 r m q r' m' (q + 2) ∧ RI code a r' m' (ws ++ [m 144]) tr ∧ ∀ j, j < 5632 → m' j = m j := by
  have f0 : m (q) = 201346634 := (h.1 _ (by omega)).trans (hb 0 _ rfl)
  have f1 : m (q + 1) = 604307460 := (h.1 _ (by omega)).trans (hb 1 _ rfl)
  have x := fun (h l lw : Int32) => r_jal (S0 := S0) (q := q) (r := r) (m := m) (p := q + 1) (h := h) (l := l) (lt := 0) (lw := lw) (by omega) f0 (by decide) (A := 20042) (by decide) (by decide)
  have x := fun (h l lw : Int32) => (x h l lw).trans (r_addiu (by omega) f1 (by decide) (sa := 0) (t := 5) (i := 4) (by decide) (by decide) (by decide) (by decide) (by decide) (by decide))
  simp only [wr0] at x
  have y1 := RT.mk (N := 30) x (by decide)
  generalize hr1 : (wr _ _ _ : Nat → Int32) = r1 at y1
  have k1 : RI code a r1 m ws tr := by subst hr1; exact h.keep rfl rfl rfl rfl rfl rfl rfl
  have g5 : r1 5 = 4 := by subst hr1; exact (congrArg (· + 4) h.2.1).trans (by decide)
  have g31 : r1 31 = nI (4 * (q + 2)) := by subst hr1; rfl
  obtain ⟨r2, m2, y2, k2, n2⟩ := ri_bind (S0 := S0) (ret := q + 2) (Or.inr rfl) hL k1 (by omega) g5 g31
  exact ⟨r2, m2, (y1.trans y2).mono (by decide), k2, n2⟩
