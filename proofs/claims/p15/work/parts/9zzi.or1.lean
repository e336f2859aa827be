/-! Orders run by the processor: a number, a place. -/
/-- words from a place on -/
def CB (code : Nat → Int32) (q : Nat) (l : List Int32) : Prop := ∀ i w, l[i]? = some w → code (q + i) = w
set_option maxHeartbeats 4000000 in
set_option maxRecDepth 100000 in
theorem ox1s_1 {S0 : xS} {code r m : Nat → Int32} {a : Int32} {ws : List Int32} {tr q : Nat} {s : Int32} (hL : CMl LC1 code) (h : RI code a r m ws tr) (hn : ws.length < 900) (h1 : 19840 ≤ q) (h2 : q < 281000) (hs1 : ¬ s < (-32768)) (hs2 : ¬ 32767 < s) (hb : CB code q [wSet 4 s, 201346455, 0]) : ∃ r' m', RT S0 300 r m q r' m' (q + 3) ∧ RI code a r' m' (ws ++ [s]) tr ∧ ∀ j, j < 5632 → m' j = m j := by
  have f0 : m (q) = wSet 4 s := (h.1 _ (by omega)).trans (hb 0 _ rfl)
  have f1 : m (q + 1) = 201346455 := (h.1 _ (by omega)).trans (hb 1 _ rfl)
  have f2 : m (q + 2) = 0 := (h.1 _ (by omega)).trans (hb 2 _ rfl)
  have sb := s.toBitVec.isLt
  have sK : asK (wSet 4 s) = 9 := by rw [wSet4_n, n_K (by omega), show (604241920 + s.toBitVec.toNat % 65536) / 67108864 = 9 from by omega]; rfl
  have sA : asA (wSet 4 s) = nI 0 := by rw [wSet4_n, n_A (by omega), show (604241920 + s.toBitVec.toNat % 65536) / 2097152 % 32 = 0 from by omega]
  have sB : asB (wSet 4 s) = nI 4 := by rw [wSet4_n, n_B (by omega), show (604241920 + s.toBitVec.toNat % 65536) / 65536 % 32 = 4 from by omega]
  have sS : asS (wSet 4 s) = s := by rw [wSet4_n]; exact set_S hs1 hs2
  have x := fun (h l lw : Int32) => r_addiu (S0 := S0) (q := q) (r := r) (m := m) (p := q + 1) (h := h) (l := l) (lt := 0) (lw := lw) (by omega) f0 (by decide) sK (sa := 0) (t := 4) (i := s) sA sB sS (by decide) (by decide)
  have x := fun (h l lw : Int32) => (x h l lw).trans (r_jal (by omega) f1 (by decide) (A := 19863) (by decide) (by decide))
  have x := fun (h l lw : Int32) => (x h l lw).trans (r_sll (by omega) f2 (by decide) (sb := 0) (t := 0) (dd := 0) (by decide) (by decide) (by decide) (by decide) (by decide) (by decide) (by decide))
  simp only [wr0] at x
  have y1 := RT.mk (N := 30) x (by decide)
  generalize hr1 : (wr _ _ _ : Nat → Int32) = r1 at y1
  have k1 : RI code a r1 m ws tr := by subst hr1; exact h.keep rfl rfl rfl rfl rfl rfl rfl
  have g4 : r1 4 = s := by subst hr1; exact (congrArg (· + s) h.2.1).trans (Int32.zero_add s)
  have g31 : r1 31 = nI (4 * (q + 3)) := by subst hr1; rfl
  obtain ⟨r2, m2, y2, k2, g2, n2⟩ := ri_push (S0 := S0) (ret := q + 3) (Or.inl rfl) hL k1 (by omega) g31
  rw [g4] at k2
  exact ⟨r2, m2, (y1.trans y2).mono (by decide), k2, n2⟩
set_option maxHeartbeats 4000000 in
set_option maxRecDepth 100000 in
theorem ox1l_1 {S0 : xS} {code r m : Nat → Int32} {a : Int32} {ws : List Int32} {tr q : Nat} {s : Int32} (hL : CMl LC1 code) (h : RI code a r m ws tr) (hn : ws.length < 900) (h1 : 19840 ≤ q) (h2 : q < 281000) (hlo : ¬ s.toBitVec.toNat % 65536 = 0) (hb : CB code q [wLui 4 s, wOri 4 s, 201346455, 0]) : ∃ r' m', RT S0 300 r m q r' m' (q + 4) ∧ RI code a r' m' (ws ++ [s]) tr ∧ ∀ j, j < 5632 → m' j = m j := by
  have f0 : m (q) = wLui 4 s := (h.1 _ (by omega)).trans (hb 0 _ rfl)
  have f1 : m (q + 1) = wOri 4 s := (h.1 _ (by omega)).trans (hb 1 _ rfl)
  have f2 : m (q + 2) = 201346455 := (h.1 _ (by omega)).trans (hb 2 _ rfl)
  have f3 : m (q + 3) = 0 := (h.1 _ (by omega)).trans (hb 3 _ rfl)
  have sb := s.toBitVec.isLt
  have uK : asK (wLui 4 s) = 15 := by rw [wLui4_n, n_K (by omega), show (1006895104 + s.toBitVec.toNat / 65536) / 67108864 = 15 from by omega]; rfl
  have uB : asB (wLui 4 s) = nI 4 := by rw [wLui4_n, n_B (by omega), show (1006895104 + s.toBitVec.toNat / 65536) / 65536 % 32 = 4 from by omega]
  have uI : wLui 4 s <<< ((16 : Int32) &&& 31) = nI (65536 * (s.toBitVec.toNat / 65536)) := by rw [wLui4_n]; exact lui_sh (by decide) (by omega) (by omega)
  have oK : asK (wOri 4 s) = 13 := by rw [wOri4_n, n_K (by omega), show (881065984 + s.toBitVec.toNat % 65536) / 67108864 = 13 from by omega]; rfl
  have oA : asA (wOri 4 s) = nI 4 := by rw [wOri4_n, n_A (by omega), show (881065984 + s.toBitVec.toNat % 65536) / 2097152 % 32 = 4 from by omega]
  have oB : asB (wOri 4 s) = nI 4 := by rw [wOri4_n, n_B (by omega), show (881065984 + s.toBitVec.toNat % 65536) / 65536 % 32 = 4 from by omega]
  have oI : wOri 4 s &&& 65535 = nI (s.toBitVec.toNat % 65536) := by rw [wOri4_n, n_lo (by omega), show (881065984 + s.toBitVec.toNat % 65536) % 65536 = s.toBitVec.toNat % 65536 from by omega]
  have x := fun (h l lw : Int32) => r_lui (S0 := S0) (q := q) (r := r) (m := m) (p := q + 1) (h := h) (l := l) (lt := 0) (lw := lw) (by omega) f0 (by decide) uK (t := 4) uB uI (by decide)
  have x := fun (h l lw : Int32) => (x h l lw).trans (r_ori (by omega) f1 (by decide) oK (sa := 4) (t := 4) oA oB oI (by decide) (by decide))
  have x := fun (h l lw : Int32) => (x h l lw).trans (r_jal (by omega) f2 (by decide) (A := 19863) (by decide) (by decide))
  have x := fun (h l lw : Int32) => (x h l lw).trans (r_sll (by omega) f3 (by decide) (sb := 0) (t := 0) (dd := 0) (by decide) (by decide) (by decide) (by decide) (by decide) (by decide) (by decide))
  simp only [wr0] at x
  have y1 := RT.mk (N := 30) x (by decide)
  generalize hr1 : (wr _ _ _ : Nat → Int32) = r1 at y1
  have k1 : RI code a r1 m ws tr := by subst hr1; exact h.keep rfl rfl rfl rfl rfl rfl rfl
  have g4 : r1 4 = s := by subst hr1; show nI (65536 * (s.toBitVec.toNat / 65536)) ||| nI (s.toBitVec.toNat % 65536) = s; rw [or16 (C := 65536 * (s.toBitVec.toNat / 65536)) rfl (by omega) (by omega) (by omega), show 65536 * (s.toBitVec.toNat / 65536) + s.toBitVec.toNat % 65536 = s.toBitVec.toNat from by omega]; exact n_all s
  have g31 : r1 31 = nI (4 * (q + 4)) := by subst hr1; rfl
  obtain ⟨r2, m2, y2, k2, g2, n2⟩ := ri_push (S0 := S0) (ret := q + 4) (Or.inl rfl) hL k1 (by omega) g31
  rw [g4] at k2
  exact ⟨r2, m2, (y1.trans y2).mono (by decide), k2, n2⟩
set_option maxHeartbeats 4000000 in
set_option maxRecDepth 100000 in
theorem ox1z_1 {S0 : xS} {code r m : Nat → Int32} {a : Int32} {ws : List Int32} {tr q : Nat} {s : Int32} (hL : CMl LC1 code) (h : RI code a r m ws tr) (hn : ws.length < 900) (h1 : 19840 ≤ q) (h2 : q < 281000) (hlo : s.toBitVec.toNat % 65536 = 0) (hb : CB code q [wLui 4 s, 201346455, 0]) : ∃ r' m', RT S0 300 r m q r' m' (q + 3) ∧ RI code a r' m' (ws ++ [s]) tr ∧ ∀ j, j < 5632 → m' j = m j := by
  have f0 : m (q) = wLui 4 s := (h.1 _ (by omega)).trans (hb 0 _ rfl)
  have f1 : m (q + 1) = 201346455 := (h.1 _ (by omega)).trans (hb 1 _ rfl)
  have f2 : m (q + 2) = 0 := (h.1 _ (by omega)).trans (hb 2 _ rfl)
  have sb := s.toBitVec.isLt
  have uK : asK (wLui 4 s) = 15 := by rw [wLui4_n, n_K (by omega), show (1006895104 + s.toBitVec.toNat / 65536) / 67108864 = 15 from by omega]; rfl
  have uB : asB (wLui 4 s) = nI 4 := by rw [wLui4_n, n_B (by omega), show (1006895104 + s.toBitVec.toNat / 65536) / 65536 % 32 = 4 from by omega]
  have uI : wLui 4 s <<< ((16 : Int32) &&& 31) = nI (65536 * (s.toBitVec.toNat / 65536)) := by rw [wLui4_n]; exact lui_sh (by decide) (by omega) (by omega)
  have x := fun (h l lw : Int32) => r_lui (S0 := S0) (q := q) (r := r) (m := m) (p := q + 1) (h := h) (l := l) (lt := 0) (lw := lw) (by omega) f0 (by decide) uK (t := 4) uB uI (by decide)
  have x := fun (h l lw : Int32) => (x h l lw).trans (r_jal (by omega) f1 (by decide) (A := 19863) (by decide) (by decide))
  have x := fun (h l lw : Int32) => (x h l lw).trans (r_sll (by omega) f2 (by decide) (sb := 0) (t := 0) (dd := 0) (by decide) (by decide) (by decide) (by decide) (by decide) (by decide) (by decide))
  simp only [wr0] at x
  have y1 := RT.mk (N := 30) x (by decide)
  generalize hr1 : (wr _ _ _ : Nat → Int32) = r1 at y1
  have k1 : RI code a r1 m ws tr := by subst hr1; exact h.keep rfl rfl rfl rfl rfl rfl rfl
  have g4 : r1 4 = s := by subst hr1; show nI (65536 * (s.toBitVec.toNat / 65536)) = s; rw [show 65536 * (s.toBitVec.toNat / 65536) = s.toBitVec.toNat from by omega]; exact n_all s
  have g31 : r1 31 = nI (4 * (q + 3)) := by subst hr1; rfl
  obtain ⟨r2, m2, y2, k2, g2, n2⟩ := ri_push (S0 := S0) (ret := q + 3) (Or.inl rfl) hL k1 (by omega) g31
  rw [g4] at k2
  exact ⟨r2, m2, (y1.trans y2).mono (by decide), k2, n2⟩
set_option maxHeartbeats 4000000 in
set_option maxRecDepth 100000 in
theorem ox3_1 {S0 : xS} {code r m : Nat → Int32} {a : Int32} {ws : List Int32} {tr q : Nat} {p : Nat} {v : Int32} (hL : CMl LC1 code) (h : RI code a r m ws tr) (hn : ws.length < 900) (h1 : 19840 ≤ q) (h2 : q < 281000) (hp : ws[p]? = some v) (hpl : p < 1000) (hb : CB code q [wLw 4 (nI p * 4) 17, 0, 201346455, 0]) : ∃ r' m', RT S0 300 r m q r' m' (q + 4) ∧ RI code a r' m' (ws ++ [v]) tr ∧ ∀ j, j < 5632 → m' j = m j := by
  have f0 : m (q) = wLw 4 (nI p * 4) 17 := (h.1 _ (by omega)).trans (hb 0 _ rfl)
  have f1 : m (q + 1) = 0 := (h.1 _ (by omega)).trans (hb 1 _ rfl)
  have f2 : m (q + 2) = 201346455 := (h.1 _ (by omega)).trans (hb 2 _ rfl)
  have f3 : m (q + 3) = 0 := (h.1 _ (by omega)).trans (hb 3 _ rfl)
  have lK : asK (wLw 4 (nI p * 4) 17) = 35 := by rw [wLw4_n (by omega), n_K (by omega), show (2384723968 + 4 * p) / 67108864 = 35 from by omega]; rfl
  have lA : asA (wLw 4 (nI p * 4) 17) = nI 17 := by rw [wLw4_n (by omega), n_A (by omega), show (2384723968 + 4 * p) / 2097152 % 32 = 17 from by omega]
  have lB : asB (wLw 4 (nI p * 4) 17) = nI 4 := by rw [wLw4_n (by omega), n_B (by omega), show (2384723968 + 4 * p) / 65536 % 32 = 4 from by omega]
  have lS : asS (wLw 4 (nI p * 4) 17) = nI (4 * p) := by rw [wLw4_n (by omega), n_Sp (by omega) (by omega), show (2384723968 + 4 * p) % 65536 = 4 * p from by omega]
  have lad : (r 17 + nI (4 * p)) >>> ((2 : Int32) &&& 31) = nI (5632 + p) := ad4 h.2.2.2.1 (np4 rfl) (by omega)
  have lv : m (5632 + p) = v := h.2.2.2.2.2.2.2.2.2.2 p v hp
  have x := fun (h l lw : Int32) => r_lw (S0 := S0) (q := q) (r := r) (m := m) (p := q + 1) (h := h) (l := l) (lt := 0) (lw := lw) (by omega) f0 (by decide) lK (sa := 17) (t := 4) (k := 5632 + p) lA lB lS (by decide) (by decide) lad (by omega)
  have x := fun (h l lw : Int32) => (x h l lw).trans (r_sll (by omega) f1 (by decide) (sb := 0) (t := 0) (dd := 0) (by decide) (by decide) (by decide) (by decide) (by decide) (by decide) (by decide))
  have x := fun (h l lw : Int32) => (x h l lw).trans (r_jal (by omega) f2 (by decide) (A := 19863) (by decide) (by decide))
  have x := fun (h l lw : Int32) => (x h l lw).trans (r_sll (by omega) f3 (by decide) (sb := 0) (t := 0) (dd := 0) (by decide) (by decide) (by decide) (by decide) (by decide) (by decide) (by decide))
  simp only [wr0] at x
  have y1 := RT.mk (N := 30) x (by decide)
  generalize hr1 : (wr _ _ _ : Nat → Int32) = r1 at y1
  have k1 : RI code a r1 m ws tr := by subst hr1; exact h.keep rfl rfl rfl rfl rfl rfl rfl
  have g4 : r1 4 = v := by subst hr1; exact lv
  have g31 : r1 31 = nI (4 * (q + 4)) := by subst hr1; rfl
  obtain ⟨r2, m2, y2, k2, g2, n2⟩ := ri_push (S0 := S0) (ret := q + 4) (Or.inl rfl) hL k1 (by omega) g31
  rw [g4] at k2
  exact ⟨r2, m2, (y1.trans y2).mono (by decide), k2, n2⟩
set_option maxHeartbeats 4000000 in
set_option maxRecDepth 100000 in
theorem ox1s_2 {S0 : xS} {code r m : Nat → Int32} {a : Int32} {ws : List Int32} {tr q : Nat} {s : Int32} (hL : CMl LC2 code) (h : RI code a r m ws tr) (hn : ws.length < 900) (h1 : 19840 ≤ q) (h2 : q < 281000) (hs1 : ¬ s < (-32768)) (hs2 : ¬ 32767 < s) (hb : CB code q [201346452, wSet 4 s]) : ∃ r' m', RT S0 300 r m q r' m' (q + 2) ∧ RI code a r' m' (ws ++ [s]) tr ∧ ∀ j, j < 5632 → m' j = m j := by
  have f0 : m (q) = 201346452 := (h.1 _ (by omega)).trans (hb 0 _ rfl)
  have f1 : m (q + 1) = wSet 4 s := (h.1 _ (by omega)).trans (hb 1 _ rfl)
  have sb := s.toBitVec.isLt
  have sK : asK (wSet 4 s) = 9 := by rw [wSet4_n, n_K (by omega), show (604241920 + s.toBitVec.toNat % 65536) / 67108864 = 9 from by omega]; rfl
  have sA : asA (wSet 4 s) = nI 0 := by rw [wSet4_n, n_A (by omega), show (604241920 + s.toBitVec.toNat % 65536) / 2097152 % 32 = 0 from by omega]
  have sB : asB (wSet 4 s) = nI 4 := by rw [wSet4_n, n_B (by omega), show (604241920 + s.toBitVec.toNat % 65536) / 65536 % 32 = 4 from by omega]
  have sS : asS (wSet 4 s) = s := by rw [wSet4_n]; exact set_S hs1 hs2
  have x := fun (h l lw : Int32) => r_jal (S0 := S0) (q := q) (r := r) (m := m) (p := q + 1) (h := h) (l := l) (lt := 0) (lw := lw) (by omega) f0 (by decide) (A := 19860) (by decide) (by decide)
  have x := fun (h l lw : Int32) => (x h l lw).trans (r_addiu (by omega) f1 (by decide) sK (sa := 0) (t := 4) (i := s) sA sB sS (by decide) (by decide))
  simp only [wr0] at x
  have y1 := RT.mk (N := 30) x (by decide)
  generalize hr1 : (wr _ _ _ : Nat → Int32) = r1 at y1
  have k1 : RI code a r1 m ws tr := by subst hr1; exact h.keep rfl rfl rfl rfl rfl rfl rfl
  have g4 : r1 4 = s := by subst hr1; exact (congrArg (· + s) h.2.1).trans (Int32.zero_add s)
  have g31 : r1 31 = nI (4 * (q + 2)) := by subst hr1; rfl
  obtain ⟨r2, m2, y2, k2, g2, n2⟩ := ri_push (S0 := S0) (ret := q + 2) (Or.inr rfl) hL k1 (by omega) g31
  rw [g4] at k2
  exact ⟨r2, m2, (y1.trans y2).mono (by decide), k2, n2⟩
set_option maxHeartbeats 4000000 in
set_option maxRecDepth 100000 in
theorem ox1l_2 {S0 : xS} {code r m : Nat → Int32} {a : Int32} {ws : List Int32} {tr q : Nat} {s : Int32} (hL : CMl LC2 code) (h : RI code a r m ws tr) (hn : ws.length < 900) (h1 : 19840 ≤ q) (h2 : q < 281000) (hlo : ¬ s.toBitVec.toNat % 65536 = 0) (hb : CB code q [wLui 4 s, 201346452, wOri 4 s]) : ∃ r' m', RT S0 300 r m q r' m' (q + 3) ∧ RI code a r' m' (ws ++ [s]) tr ∧ ∀ j, j < 5632 → m' j = m j := by
  have f0 : m (q) = wLui 4 s := (h.1 _ (by omega)).trans (hb 0 _ rfl)
  have f1 : m (q + 1) = 201346452 := (h.1 _ (by omega)).trans (hb 1 _ rfl)
  have f2 : m (q + 2) = wOri 4 s := (h.1 _ (by omega)).trans (hb 2 _ rfl)
  have sb := s.toBitVec.isLt
  have uK : asK (wLui 4 s) = 15 := by rw [wLui4_n, n_K (by omega), show (1006895104 + s.toBitVec.toNat / 65536) / 67108864 = 15 from by omega]; rfl
  have uB : asB (wLui 4 s) = nI 4 := by rw [wLui4_n, n_B (by omega), show (1006895104 + s.toBitVec.toNat / 65536) / 65536 % 32 = 4 from by omega]
  have uI : wLui 4 s <<< ((16 : Int32) &&& 31) = nI (65536 * (s.toBitVec.toNat / 65536)) := by rw [wLui4_n]; exact lui_sh (by decide) (by omega) (by omega)
  have oK : asK (wOri 4 s) = 13 := by rw [wOri4_n, n_K (by omega), show (881065984 + s.toBitVec.toNat % 65536) / 67108864 = 13 from by omega]; rfl
  have oA : asA (wOri 4 s) = nI 4 := by rw [wOri4_n, n_A (by omega), show (881065984 + s.toBitVec.toNat % 65536) / 2097152 % 32 = 4 from by omega]
  have oB : asB (wOri 4 s) = nI 4 := by rw [wOri4_n, n_B (by omega), show (881065984 + s.toBitVec.toNat % 65536) / 65536 % 32 = 4 from by omega]
  have oI : wOri 4 s &&& 65535 = nI (s.toBitVec.toNat % 65536) := by rw [wOri4_n, n_lo (by omega), show (881065984 + s.toBitVec.toNat % 65536) % 65536 = s.toBitVec.toNat % 65536 from by omega]
  have x := fun (h l lw : Int32) => r_lui (S0 := S0) (q := q) (r := r) (m := m) (p := q + 1) (h := h) (l := l) (lt := 0) (lw := lw) (by omega) f0 (by decide) uK (t := 4) uB uI (by decide)
  have x := fun (h l lw : Int32) => (x h l lw).trans (r_jal (by omega) f1 (by decide) (A := 19860) (by decide) (by decide))
  have x := fun (h l lw : Int32) => (x h l lw).trans (r_ori (by omega) f2 (by decide) oK (sa := 4) (t := 4) oA oB oI (by decide) (by decide))
  simp only [wr0] at x
  have y1 := RT.mk (N := 30) x (by decide)
  generalize hr1 : (wr _ _ _ : Nat → Int32) = r1 at y1
  have k1 : RI code a r1 m ws tr := by subst hr1; exact h.keep rfl rfl rfl rfl rfl rfl rfl
  have g4 : r1 4 = s := by subst hr1; show nI (65536 * (s.toBitVec.toNat / 65536)) ||| nI (s.toBitVec.toNat % 65536) = s; rw [or16 (C := 65536 * (s.toBitVec.toNat / 65536)) rfl (by omega) (by omega) (by omega), show 65536 * (s.toBitVec.toNat / 65536) + s.toBitVec.toNat % 65536 = s.toBitVec.toNat from by omega]; exact n_all s
  have g31 : r1 31 = nI (4 * (q + 3)) := by subst hr1; rfl
  obtain ⟨r2, m2, y2, k2, g2, n2⟩ := ri_push (S0 := S0) (ret := q + 3) (Or.inr rfl) hL k1 (by omega) g31
  rw [g4] at k2
  exact ⟨r2, m2, (y1.trans y2).mono (by decide), k2, n2⟩
set_option maxHeartbeats 4000000 in
set_option maxRecDepth 100000 in
theorem ox1z_2 {S0 : xS} {code r m : Nat → Int32} {a : Int32} {ws : List Int32} {tr q : Nat} {s : Int32} (hL : CMl LC2 code) (h : RI code a r m ws tr) (hn : ws.length < 900) (h1 : 19840 ≤ q) (h2 : q < 281000) (hlo : s.toBitVec.toNat % 65536 = 0) (hb : CB code q [201346452, wLui 4 s]) : ∃ r' m', RT S0 300 r m q r' m' (q + 2) ∧ RI code a r' m' (ws ++ [s]) tr ∧ ∀ j, j < 5632 → m' j = m j := by
  have f0 : m (q) = 201346452 := (h.1 _ (by omega)).trans (hb 0 _ rfl)
  have f1 : m (q + 1) = wLui 4 s := (h.1 _ (by omega)).trans (hb 1 _ rfl)
  have sb := s.toBitVec.isLt
  have uK : asK (wLui 4 s) = 15 := by rw [wLui4_n, n_K (by omega), show (1006895104 + s.toBitVec.toNat / 65536) / 67108864 = 15 from by omega]; rfl
  have uB : asB (wLui 4 s) = nI 4 := by rw [wLui4_n, n_B (by omega), show (1006895104 + s.toBitVec.toNat / 65536) / 65536 % 32 = 4 from by omega]
  have uI : wLui 4 s <<< ((16 : Int32) &&& 31) = nI (65536 * (s.toBitVec.toNat / 65536)) := by rw [wLui4_n]; exact lui_sh (by decide) (by omega) (by omega)
  have x := fun (h l lw : Int32) => r_jal (S0 := S0) (q := q) (r := r) (m := m) (p := q + 1) (h := h) (l := l) (lt := 0) (lw := lw) (by omega) f0 (by decide) (A := 19860) (by decide) (by decide)
  have x := fun (h l lw : Int32) => (x h l lw).trans (r_lui (by omega) f1 (by decide) uK (t := 4) uB uI (by decide))
  simp only [wr0] at x
  have y1 := RT.mk (N := 30) x (by decide)
  generalize hr1 : (wr _ _ _ : Nat → Int32) = r1 at y1
  have k1 : RI code a r1 m ws tr := by subst hr1; exact h.keep rfl rfl rfl rfl rfl rfl rfl
  have g4 : r1 4 = s := by subst hr1; show nI (65536 * (s.toBitVec.toNat / 65536)) = s; rw [show 65536 * (s.toBitVec.toNat / 65536) = s.toBitVec.toNat from by omega]; exact n_all s
  have g31 : r1 31 = nI (4 * (q + 2)) := by subst hr1; rfl
  obtain ⟨r2, m2, y2, k2, g2, n2⟩ := ri_push (S0 := S0) (ret := q + 2) (Or.inr rfl) hL k1 (by omega) g31
  rw [g4] at k2
  exact ⟨r2, m2, (y1.trans y2).mono (by decide), k2, n2⟩
set_option maxHeartbeats 4000000 in
set_option maxRecDepth 100000 in
theorem ox3_2 {S0 : xS} {code r m : Nat → Int32} {a : Int32} {ws : List Int32} {tr q : Nat} {p : Nat} {v : Int32} (hL : CMl LC2 code) (h : RI code a r m ws tr) (hn : ws.length < 900) (h1 : 19840 ≤ q) (h2 : q < 281000) (hp : ws[p]? = some v) (hpl : p < 1000) (hb : CB code q [wLw 4 (nI p * 4) 17, 201346452, 0]) : ∃ r' m', RT S0 300 r m q r' m' (q + 3) ∧ RI code a r' m' (ws ++ [v]) tr ∧ ∀ j, j < 5632 → m' j = m j := by
  have f0 : m (q) = wLw 4 (nI p * 4) 17 := (h.1 _ (by omega)).trans (hb 0 _ rfl)
  have f1 : m (q + 1) = 201346452 := (h.1 _ (by omega)).trans (hb 1 _ rfl)
  have f2 : m (q + 2) = 0 := (h.1 _ (by omega)).trans (hb 2 _ rfl)
  have lK : asK (wLw 4 (nI p * 4) 17) = 35 := by rw [wLw4_n (by omega), n_K (by omega), show (2384723968 + 4 * p) / 67108864 = 35 from by omega]; rfl
  have lA : asA (wLw 4 (nI p * 4) 17) = nI 17 := by rw [wLw4_n (by omega), n_A (by omega), show (2384723968 + 4 * p) / 2097152 % 32 = 17 from by omega]
  have lB : asB (wLw 4 (nI p * 4) 17) = nI 4 := by rw [wLw4_n (by omega), n_B (by omega), show (2384723968 + 4 * p) / 65536 % 32 = 4 from by omega]
  have lS : asS (wLw 4 (nI p * 4) 17) = nI (4 * p) := by rw [wLw4_n (by omega), n_Sp (by omega) (by omega), show (2384723968 + 4 * p) % 65536 = 4 * p from by omega]
  have lad : (r 17 + nI (4 * p)) >>> ((2 : Int32) &&& 31) = nI (5632 + p) := ad4 h.2.2.2.1 (np4 rfl) (by omega)
  have lv : m (5632 + p) = v := h.2.2.2.2.2.2.2.2.2.2 p v hp
  have x := fun (h l lw : Int32) => r_lw (S0 := S0) (q := q) (r := r) (m := m) (p := q + 1) (h := h) (l := l) (lt := 0) (lw := lw) (by omega) f0 (by decide) lK (sa := 17) (t := 4) (k := 5632 + p) lA lB lS (by decide) (by decide) lad (by omega)
  have x := fun (h l lw : Int32) => (x h l lw).trans (r_jal (by omega) f1 (by decide) (A := 19860) (by decide) (by decide))
  have x := fun (h l lw : Int32) => (x h l lw).trans (r_sll (by omega) f2 (by decide) (sb := 0) (t := 0) (dd := 0) (by decide) (by decide) (by decide) (by decide) (by decide) (by decide) (by decide))
  simp only [wr0] at x
  have y1 := RT.mk (N := 30) x (by decide)
  generalize hr1 : (wr _ _ _ : Nat → Int32) = r1 at y1
  have k1 : RI code a r1 m ws tr := by subst hr1; exact h.keep rfl rfl rfl rfl rfl rfl rfl
  have g4 : r1 4 = v := by subst hr1; exact lv
  have g31 : r1 31 = nI (4 * (q + 3)) := by subst hr1; rfl
  obtain ⟨r2, m2, y2, k2, g2, n2⟩ := ri_push (S0 := S0) (ret := q + 3) (Or.inr rfl) hL k1 (by omega) g31
  rw [g4] at k2
  exact ⟨r2, m2, (y1.trans y2).mono (by decide), k2, n2⟩
