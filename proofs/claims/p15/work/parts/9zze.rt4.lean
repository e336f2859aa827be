/-! The Library run: handles closed, raising, a name bound. -/
theorem nx1 {x : Int32} : x + 1 + (-1) = x := by rw [Int32.add_assoc, show (1 : Int32) + (-1) = 0 from by decide, Int32.add_zero]
theorem l4 {α : Type} {ws : List α} {a b c d : α} : (((ws ++ [a]) ++ [b]) ++ [c]) ++ [d] = ws ++ [a, b, c, d] := by simp only [List.append_assoc, List.cons_append, List.nil_append]
set_option maxHeartbeats 4000000 in
set_option maxRecDepth 100000 in
theorem rt_opened1 {S0 : xS} {code r m : Nat → Int32} {a x y v : Int32} {ws : List Int32} {t tr ret : Nat} (hL : CMl LC1 code) (h : RI code a r m ((((ws ++ [nI (4 * t) + 1]) ++ [x]) ++ [y]) ++ [v]) tr) (hn : ws.length < 990) (h31 : r 31 = nI (4 * ret)) : ∃ r' m', RT S0 30 r m 20253 r' m' ret ∧ RI code a r' m' (ws ++ [v]) t ∧ ∀ j, j < 5632 → m' j = m j := by
  rw [l4] at h
  have hc := h.1.lib hL
  have h16 : r 16 = nI (4 * (5632 + ws.length + 4)) := by have := h.2.2.1; rw [List.length_append] at this; exact this
  have a8 : (r 16 + (-16)) >>> ((2 : Int32) &&& 31) = nI (5632 + ws.length) := ad4 h16 (nm4 (x := 5632 + ws.length) (c := 4) (by decide)) (by omega)
  have a9 : (r 16 + (-4)) >>> ((2 : Int32) &&& 31) = nI (5632 + ws.length + 3) := ad4 h16 (nm4 (x := 5632 + ws.length + 3) (c := 1) (by decide)) (by omega)
  have a12 : r 16 + (-12) = nI (4 * (5632 + ws.length + 1)) := by rw [h16]; exact nm4 (x := 5632 + ws.length + 1) (c := 3) (by decide)
  have as : ((r 16 + (-12)) + (-4)) >>> ((2 : Int32) &&& 31) = nI (5632 + ws.length) := ad4 a12 (nm4 (x := 5632 + ws.length) (c := 1) (by decide)) (by omega)
  have v0 : m (5632 + ws.length) = nI (4 * t) + 1 := h.at
  have v3 : m (5632 + ws.length + 3) = v := by
    have := h.2.2.2.2.2.2.2.2.2.2 (ws.length + 3) v (by rw [List.getElem?_append_right (by omega), show ws.length + 3 - ws.length = 3 from by omega]; rfl)
    rw [← Nat.add_assoc] at this; exact this
  have x := fun (h l lw : Int32) => r_lw (S0 := S0) (r := r) (m := m) (p := 20254) (h := h) (l := l) (lt := 0) (lw := lw) (by omega) (cm1_413 hc) (by decide) (sa := 16) (t := 8) (i := (-16)) (k := (5632 + ws.length)) (by decide) (by decide) (by decide) (by decide) (by decide) (by decide) a8 (by omega)
  have x := fun (h l lw : Int32) => (x h l lw).trans (r_sll (by omega) (cm1_414 hc) (by decide) (sb := 0) (t := 0) (dd := 0) (by decide) (by decide) (by decide) (by decide) (by decide) (by decide) (by decide))
  have x := fun (h l lw : Int32) => (x h l lw).trans (r_lw (by omega) (cm1_415 hc) (by decide) (sa := 16) (t := 9) (i := (-4)) (k := (5632 + ws.length + 3)) (by decide) (by decide) (by decide) (by decide) (by decide) (by decide) a9 (by omega))
  have x := fun (h l lw : Int32) => (x h l lw).trans (r_sll (by omega) (cm1_416 hc) (by decide) (sb := 0) (t := 0) (dd := 0) (by decide) (by decide) (by decide) (by decide) (by decide) (by decide) (by decide))
  have x := fun (h l lw : Int32) => (x h l lw).trans (r_addiu (by omega) (cm1_417 hc) (by decide) (sa := 8) (t := 21) (i := (-1)) (by decide) (by decide) (by decide) (by decide) (by decide) (by decide))
  have x := fun (h l lw : Int32) => (x h l lw).trans (r_addiu (by omega) (cm1_418 hc) (by decide) (sa := 16) (t := 16) (i := (-12)) (by decide) (by decide) (by decide) (by decide) (by decide) (by decide))
  have x := fun (h l lw : Int32) => (x h l lw).trans (r_sw (by omega) (cm1_419 hc) (by decide) (sa := 16) (t := 9) (i := (-4)) (k := (5632 + ws.length)) (by decide) (by decide) (by decide) (by decide) (by decide) (by decide) as (by omega))
  have x := fun (h l lw : Int32) => (x h l lw).trans (r_jr (by omega) (cm1_420 (CMl.upd hc (show 5632 + ws.length < 19840 by omega))) (by decide) (A := ret) (sa := 31) (by decide) (by decide) (by decide) (by decide) h31)
  have x := fun (h l lw : Int32) => (x h l lw).trans (r_sll (by omega) (cm1_421 (CMl.upd hc (show 5632 + ws.length < 19840 by omega))) (by decide) (sb := 0) (t := 0) (dd := 0) (by decide) (by decide) (by decide) (by decide) (by decide) (by decide) (by decide))
  simp only [wr0] at x
  have y := RT.mk (N := 30) x (by decide)
  generalize hr7 : (wr _ _ _ : Nat → Int32) = r7 at y
  have y : RT S0 30 r m 20253 r7 (upd m (5632 + ws.length) v) ret := by rw [← v3]; subst hr7; exact y
  have k7 : RI code a r7 (upd m (5632 + ws.length) v) (ws ++ [v]) t := by subst hr7; exact h.set (by omega) a12 ((congrArg (· + (-1)) v0).trans nx1) rfl rfl rfl rfl rfl
  exact ⟨r7, _, y, k7, fun j hj => pk_un (by omega)⟩
set_option maxHeartbeats 4000000 in
set_option maxRecDepth 100000 in
theorem rt_raise1 {S0 : xS} {code r m : Nat → Int32} {a : Int32} {ws vs : List Int32} {t lab : Nat} (hL : CMl LC1 code) (h : RI code a r m (ws ++ (nI (4 * t) + 1) :: (nI (4 * lab) + 1) :: (nI (4 * 5632) + 1) :: vs) (5632 + ws.length)) (hn : ws.length < 990) : ∃ r' m', RT S0 30 r m 20220 r' m' lab ∧ RI code a r' m' (ws ++ [r 4]) t ∧ ∀ j, j < 5632 → m' j = m j := by
  have hc := h.1.lib hL
  have h0 := h.2.1
  have h21 := h.2.2.2.2.2.1
  have g0 : ¬ r 21 = r 0 := by rw [h21, h0]; exact nI_ne0 (by omega) (by omega)
  have b16 : r 21 + r 0 = nI (4 * (5632 + ws.length)) := by rw [h0, Int32.add_zero, h21]
  have a0 : ((r 21 + r 0) + 0) >>> ((2 : Int32) &&& 31) = nI (5632 + ws.length) := ad4 b16 (np4 (c := 0) rfl) (by omega)
  have a1 : ((r 21 + r 0) + 4) >>> ((2 : Int32) &&& 31) = nI (5632 + ws.length + 1) := ad4 b16 (np4 (c := 1) rfl) (by omega)
  have a2 : ((r 21 + r 0) + 8) >>> ((2 : Int32) &&& 31) = nI (5632 + ws.length + 2) := ad4 b16 (np4 (c := 2) rfl) (by omega)
  have v0 : m (5632 + ws.length) = nI (4 * t) + 1 := h.at
  have v1 : m (5632 + ws.length + 1) = nI (4 * lab) + 1 := by
    have := h.2.2.2.2.2.2.2.2.2.2 (ws.length + 1) _ (by rw [List.getElem?_append_right (by omega), show ws.length + 1 - ws.length = 1 from by omega]; rfl)
    rw [← Nat.add_assoc] at this; exact this
  have v2 : m (5632 + ws.length + 2) = nI (4 * 5632) + 1 := by
    have := h.2.2.2.2.2.2.2.2.2.2 (ws.length + 2) _ (by rw [List.getElem?_append_right (by omega), show ws.length + 2 - ws.length = 2 from by omega]; rfl)
    rw [← Nat.add_assoc] at this; exact this
  have gl : m (5632 + ws.length + 1) + (-1) = nI (4 * lab) := by rw [v1, nx1]
  have x := fun (h l lw : Int32) => r_bne (S0 := S0) (r := r) (m := m) (p := 20221) (h := h) (l := l) (lt := 0) (lw := lw) (by omega) (cm1_380 hc) (by decide) (by decide) (sa := 21) (sb := 0) (by decide) (by decide) (by decide) (by decide) g0  (off := 5) (by decide)
  have x := fun (h l lw : Int32) => (x h l lw).trans (r_sll (by omega) (cm1_381 hc) (by decide) (sb := 0) (t := 0) (dd := 0) (by decide) (by decide) (by decide) (by decide) (by decide) (by decide) (by decide))
  have x := fun (h l lw : Int32) => (x h l lw).trans (r_addu (by omega) (cm1_386 hc) (by decide) (sa := 21) (sb := 0) (t := 16) (by decide) (by decide) (by decide) (by decide) (by decide) (by decide) (by decide) (by decide))
  have x := fun (h l lw : Int32) => (x h l lw).trans (r_lw (by omega) (cm1_387 hc) (by decide) (sa := 16) (t := 8) (i := 0) (k := (5632 + ws.length)) (by decide) (by decide) (by decide) (by decide) (by decide) (by decide) a0 (by omega))
  have x := fun (h l lw : Int32) => (x h l lw).trans (r_sll (by omega) (cm1_388 hc) (by decide) (sb := 0) (t := 0) (dd := 0) (by decide) (by decide) (by decide) (by decide) (by decide) (by decide) (by decide))
  have x := fun (h l lw : Int32) => (x h l lw).trans (r_lw (by omega) (cm1_389 hc) (by decide) (sa := 16) (t := 9) (i := 4) (k := (5632 + ws.length + 1)) (by decide) (by decide) (by decide) (by decide) (by decide) (by decide) a1 (by omega))
  have x := fun (h l lw : Int32) => (x h l lw).trans (r_sll (by omega) (cm1_390 hc) (by decide) (sb := 0) (t := 0) (dd := 0) (by decide) (by decide) (by decide) (by decide) (by decide) (by decide) (by decide))
  have x := fun (h l lw : Int32) => (x h l lw).trans (r_lw (by omega) (cm1_391 hc) (by decide) (sa := 16) (t := 10) (i := 8) (k := (5632 + ws.length + 2)) (by decide) (by decide) (by decide) (by decide) (by decide) (by decide) a2 (by omega))
  have x := fun (h l lw : Int32) => (x h l lw).trans (r_sll (by omega) (cm1_392 hc) (by decide) (sb := 0) (t := 0) (dd := 0) (by decide) (by decide) (by decide) (by decide) (by decide) (by decide) (by decide))
  have x := fun (h l lw : Int32) => (x h l lw).trans (r_sw (by omega) (cm1_393 hc) (by decide) (sa := 16) (t := 4) (i := 0) (k := (5632 + ws.length)) (by decide) (by decide) (by decide) (by decide) (by decide) (by decide) a0 (by omega))
  have x := fun (h l lw : Int32) => (x h l lw).trans (r_addiu (by omega) (cm1_394 (CMl.upd hc (show 5632 + ws.length < 19840 by omega))) (by decide) (sa := 16) (t := 16) (i := 4) (by decide) (by decide) (by decide) (by decide) (by decide) (by decide))
  have x := fun (h l lw : Int32) => (x h l lw).trans (r_addiu (by omega) (cm1_395 (CMl.upd hc (show 5632 + ws.length < 19840 by omega))) (by decide) (sa := 8) (t := 21) (i := (-1)) (by decide) (by decide) (by decide) (by decide) (by decide) (by decide))
  have x := fun (h l lw : Int32) => (x h l lw).trans (r_addiu (by omega) (cm1_396 (CMl.upd hc (show 5632 + ws.length < 19840 by omega))) (by decide) (sa := 9) (t := 9) (i := (-1)) (by decide) (by decide) (by decide) (by decide) (by decide) (by decide))
  have x := fun (h l lw : Int32) => (x h l lw).trans (r_addiu (by omega) (cm1_397 (CMl.upd hc (show 5632 + ws.length < 19840 by omega))) (by decide) (sa := 10) (t := 17) (i := (-1)) (by decide) (by decide) (by decide) (by decide) (by decide) (by decide))
  have x := fun (h l lw : Int32) => (x h l lw).trans (r_jr (by omega) (cm1_398 (CMl.upd hc (show 5632 + ws.length < 19840 by omega))) (by decide) (A := lab) (sa := 9) (by decide) (by decide) (by decide) (by decide) gl)
  have x := fun (h l lw : Int32) => (x h l lw).trans (r_sll (by omega) (cm1_399 (CMl.upd hc (show 5632 + ws.length < 19840 by omega))) (by decide) (sb := 0) (t := 0) (dd := 0) (by decide) (by decide) (by decide) (by decide) (by decide) (by decide) (by decide))
  simp only [wr0] at x
  have y := RT.mk (N := 30) x (by decide)
  generalize hr7 : (wr _ _ _ : Nat → Int32) = r7 at y
  have k7 : RI code a r7 (upd m (5632 + ws.length) (r 4)) (ws ++ [r 4]) t := by subst hr7; exact h.set (by omega) ((congrArg (· + 4) b16).trans (np4 (c := 1) rfl)) ((congrArg (· + (-1)) v0).trans nx1) rfl (((congrArg (· + (-1)) v2).trans nx1).trans h.2.2.2.1.symm) rfl rfl rfl
  exact ⟨r7, _, y, k7, fun j hj => pk_un (by omega)⟩
set_option maxHeartbeats 4000000 in
set_option maxRecDepth 100000 in
theorem rt_raise0_1 {S0 : xS} {code r m : Nat → Int32} {a : Int32} {ws : List Int32} (hL : CMl LC1 code) (h : RI code a r m ws 0) : ∃ r', RT S0 30 r m 20220 r' m 19862 ∧ RI code a r' m ws 0 ∧ r' 2 = 1 ∧ r' 3 = r 4 := by
  have hc := h.1.lib hL
  have h0 := h.2.1
  have g0 : r 21 = r 0 := by rw [h.2.2.2.2.2.1, h0]; rfl
  have x := fun (h l lw : Int32) => r_bnen (S0 := S0) (r := r) (m := m) (p := 20221) (h := h) (l := l) (lt := 0) (lw := lw) (by omega) (cm1_380 hc) (by decide) (by decide) (sa := 21) (sb := 0) (by decide) (by decide) (by decide) (by decide) g0 
  have x := fun (h l lw : Int32) => (x h l lw).trans (r_sll (by omega) (cm1_381 hc) (by decide) (sb := 0) (t := 0) (dd := 0) (by decide) (by decide) (by decide) (by decide) (by decide) (by decide) (by decide))
  have x := fun (h l lw : Int32) => (x h l lw).trans (r_addu (by omega) (cm1_382 hc) (by decide) (sa := 4) (sb := 0) (t := 3) (by decide) (by decide) (by decide) (by decide) (by decide) (by decide) (by decide) (by decide))
  have x := fun (h l lw : Int32) => (x h l lw).trans (r_addiu (by omega) (cm1_383 hc) (by decide) (sa := 0) (t := 2) (i := 1) (by decide) (by decide) (by decide) (by decide) (by decide) (by decide))
  have x := fun (h l lw : Int32) => (x h l lw).trans (r_j (by omega) (cm1_384 hc) (by decide) (A := 19862) (by decide) (by decide))
  have x := fun (h l lw : Int32) => (x h l lw).trans (r_sll (by omega) (cm1_385 hc) (by decide) (sb := 0) (t := 0) (dd := 0) (by decide) (by decide) (by decide) (by decide) (by decide) (by decide) (by decide))
  simp only [wr0] at x
  have y := RT.mk (N := 30) x (by decide)
  generalize hr7 : (wr _ _ _ : Nat → Int32) = r7 at y
  have k7 : RI code a r7 m ws 0 := by subst hr7; exact h.keep rfl rfl rfl rfl rfl rfl rfl
  exact ⟨r7, y, k7, by subst hr7; exact (congrArg (· + 1) h0).trans (by decide), by subst hr7; exact (congrArg (r 4 + ·) h0).trans (Int32.add_zero _)⟩
set_option maxHeartbeats 4000000 in
set_option maxRecDepth 100000 in
theorem rt_bind1 {S0 : xS} {code r m : Nat → Int32} {a : Int32} {ws : List Int32} {tr ret : Nat} (hL : CMl LC1 code) (h : RI code a r m ws tr) (hn : ws.length < 990) (h5 : r 5 = 4) (h31 : r 31 = nI (4 * ret)) : ∃ r' m', RT S0 80 r m 20076 r' m' ret ∧ RI code a r' m' (ws ++ [m 144]) tr ∧ ∀ j, j < 5632 → m' j = m j := by
  have hc := h.1.lib hL
  have hL' : CMl (LCh 1) code := hL
  have h0 := h.2.1
  have b10 : r 0 + 0 = nI (4 * 0) := by rw [h0]; rfl
  have a1 : ((r 0 + 0) + 576) >>> ((2 : Int32) &&& 31) = nI 144 := ad4 b10 (by decide) (by omega)
  have x := fun (h l lw : Int32) => r_addu (S0 := S0) (r := r) (m := m) (p := 20077) (h := h) (l := l) (lt := 0) (lw := lw) (by omega) (cm1_236 hc) (by decide) (sa := 31) (sb := 0) (t := 25) (by decide) (by decide) (by decide) (by decide) (by decide) (by decide) (by decide) (by decide)
  have x := fun (h l lw : Int32) => (x h l lw).trans (r_addiu (by omega) (cm1_237 hc) (by decide) (sa := 0) (t := 10) (i := 0) (by decide) (by decide) (by decide) (by decide) (by decide) (by decide))
  have x := fun (h l lw : Int32) => (x h l lw).trans (r_lw (by omega) (cm1_238 hc) (by decide) (sa := 10) (t := 4) (i := 576) (k := 144) (by decide) (by decide) (by decide) (by decide) (by decide) (by decide) a1 (by omega))
  have x := fun (h l lw : Int32) => (x h l lw).trans (r_sll (by omega) (cm1_239 hc) (by decide) (sb := 0) (t := 0) (dd := 0) (by decide) (by decide) (by decide) (by decide) (by decide) (by decide) (by decide))
  have x := fun (h l lw : Int32) => (x h l lw).trans (r_jal (by omega) (cm1_240 hc) (by decide) (A := 19863) (by decide) (by decide))
  have x := fun (h l lw : Int32) => (x h l lw).trans (r_sll (by omega) (cm1_241 hc) (by decide) (sb := 0) (t := 0) (dd := 0) (by decide) (by decide) (by decide) (by decide) (by decide) (by decide) (by decide))
  simp only [wr0] at x
  have y1 := RT.mk (N := 30) x (by decide)
  generalize hr1 : (wr _ _ _ : Nat → Int32) = r1 at y1
  have k1 : RI code a r1 m ws tr := by subst hr1; exact h.keep rfl rfl rfl rfl rfl rfl rfl
  have f4 : r1 4 = m 144 := by subst hr1; rfl
  have f31 : r1 31 = nI (4 * 20082) := by subst hr1; rfl
  have f25 : r1 25 = nI (4 * ret) := by subst hr1; exact (congrArg (r 31 + ·) h0).trans ((Int32.add_zero _).trans h31)
  have f10 : r1 10 = 0 := by subst hr1; exact b10.trans rfl
  have f5 : r1 5 = 4 := by subst hr1; exact h5
  obtain ⟨r2, m2, y2, k2, g2, n2⟩ := ri_push (S0 := S0) (ret := 20082) (Or.inl rfl) hL' k1 (by omega) f31
  have hc := k2.1.lib hL
  have gb : r2 10 + 4 = r2 5 := by rw [g2 10 (by decide) (by decide) (by decide), g2 5 (by decide) (by decide) (by decide), f10, f5]; decide
  have g25 : r2 25 = nI (4 * ret) := (g2 25 (by decide) (by decide) (by decide)).trans f25
  have x := fun (h l lw : Int32) => r_addiu (S0 := S0) (r := r2) (m := m2) (p := 20083) (h := h) (l := l) (lt := 0) (lw := lw) (by omega) (cm1_242 hc) (by decide) (sa := 10) (t := 10) (i := 4) (by decide) (by decide) (by decide) (by decide) (by decide) (by decide)
  have x := fun (h l lw : Int32) => (x h l lw).trans (r_bnen (by omega) (cm1_243 hc) (by decide) (by decide) (sa := 10) (sb := 5) (by decide) (by decide) (by decide) (by decide) gb )
  have x := fun (h l lw : Int32) => (x h l lw).trans (r_sll (by omega) (cm1_244 hc) (by decide) (sb := 0) (t := 0) (dd := 0) (by decide) (by decide) (by decide) (by decide) (by decide) (by decide) (by decide))
  have x := fun (h l lw : Int32) => (x h l lw).trans (r_jr (by omega) (cm1_245 hc) (by decide) (A := ret) (sa := 25) (by decide) (by decide) (by decide) (by decide) g25)
  have x := fun (h l lw : Int32) => (x h l lw).trans (r_sll (by omega) (cm1_246 hc) (by decide) (sb := 0) (t := 0) (dd := 0) (by decide) (by decide) (by decide) (by decide) (by decide) (by decide) (by decide))
  simp only [wr0] at x
  have y3 := RT.mk (N := 30) x (by decide)
  generalize hr3 : (wr _ _ _ : Nat → Int32) = r3 at y3
  rw [f4] at k2
  have k3 : RI code a r3 m2 (ws ++ [m 144]) tr := by subst hr3; exact k2.keep rfl rfl rfl rfl rfl rfl rfl
  exact ⟨r3, m2, ((y1.trans y2).trans y3).mono (by decide), k3, n2⟩
set_option maxHeartbeats 4000000 in
set_option maxRecDepth 100000 in
theorem rt_opened2 {S0 : xS} {code r m : Nat → Int32} {a x y v : Int32} {ws : List Int32} {t tr ret : Nat} (hL : CMl LC2 code) (h : RI code a r m ((((ws ++ [nI (4 * t) + 1]) ++ [x]) ++ [y]) ++ [v]) tr) (hn : ws.length < 990) (h31 : r 31 = nI (4 * ret)) : ∃ r' m', RT S0 30 r m 20183 r' m' ret ∧ RI code a r' m' (ws ++ [v]) t ∧ ∀ j, j < 5632 → m' j = m j := by
  rw [l4] at h
  have hc := h.1.lib hL
  have h16 : r 16 = nI (4 * (5632 + ws.length + 4)) := by have := h.2.2.1; rw [List.length_append] at this; exact this
  have a8 : (r 16 + (-16)) >>> ((2 : Int32) &&& 31) = nI (5632 + ws.length) := ad4 h16 (nm4 (x := 5632 + ws.length) (c := 4) (by decide)) (by omega)
  have a9 : (r 16 + (-4)) >>> ((2 : Int32) &&& 31) = nI (5632 + ws.length + 3) := ad4 h16 (nm4 (x := 5632 + ws.length + 3) (c := 1) (by decide)) (by omega)
  have a12 : r 16 + (-12) = nI (4 * (5632 + ws.length + 1)) := by rw [h16]; exact nm4 (x := 5632 + ws.length + 1) (c := 3) (by decide)
  have as : ((r 16 + (-12)) + (-4)) >>> ((2 : Int32) &&& 31) = nI (5632 + ws.length) := ad4 a12 (nm4 (x := 5632 + ws.length) (c := 1) (by decide)) (by omega)
  have v0 : m (5632 + ws.length) = nI (4 * t) + 1 := h.at
  have v3 : m (5632 + ws.length + 3) = v := by
    have := h.2.2.2.2.2.2.2.2.2.2 (ws.length + 3) v (by rw [List.getElem?_append_right (by omega), show ws.length + 3 - ws.length = 3 from by omega]; rfl)
    rw [← Nat.add_assoc] at this; exact this
  have x := fun (h l lw : Int32) => r_lw (S0 := S0) (r := r) (m := m) (p := 20184) (h := h) (l := l) (lt := 0) (lw := lw) (by omega) (cm2_343 hc) (by decide) (sa := 16) (t := 8) (i := (-16)) (k := (5632 + ws.length)) (by decide) (by decide) (by decide) (by decide) (by decide) (by decide) a8 (by omega)
  have x := fun (h l lw : Int32) => (x h l lw).trans (r_lw (by omega) (cm2_344 hc) (by decide) (sa := 16) (t := 9) (i := (-4)) (k := (5632 + ws.length + 3)) (by decide) (by decide) (by decide) (by decide) (by decide) (by decide) a9 (by omega))
  have x := fun (h l lw : Int32) => (x h l lw).trans (r_addiu (by omega) (cm2_345 hc) (by decide) (sa := 8) (t := 21) (i := (-1)) (by decide) (by decide) (by decide) (by decide) (by decide) (by decide))
  have x := fun (h l lw : Int32) => (x h l lw).trans (r_addiu (by omega) (cm2_346 hc) (by decide) (sa := 16) (t := 16) (i := (-12)) (by decide) (by decide) (by decide) (by decide) (by decide) (by decide))
  have x := fun (h l lw : Int32) => (x h l lw).trans (r_jr (by omega) (cm2_347 hc) (by decide) (A := ret) (sa := 31) (by decide) (by decide) (by decide) (by decide) h31)
  have x := fun (h l lw : Int32) => (x h l lw).trans (r_sw (by omega) (cm2_348 hc) (by decide) (sa := 16) (t := 9) (i := (-4)) (k := (5632 + ws.length)) (by decide) (by decide) (by decide) (by decide) (by decide) (by decide) as (by omega))
  simp only [wr0] at x
  have y := RT.mk (N := 30) x (by decide)
  generalize hr7 : (wr _ _ _ : Nat → Int32) = r7 at y
  have y : RT S0 30 r m 20183 r7 (upd m (5632 + ws.length) v) ret := by rw [← v3]; subst hr7; exact y
  have k7 : RI code a r7 (upd m (5632 + ws.length) v) (ws ++ [v]) t := by subst hr7; exact h.set (by omega) a12 ((congrArg (· + (-1)) v0).trans nx1) rfl rfl rfl rfl rfl
  exact ⟨r7, _, y, k7, fun j hj => pk_un (by omega)⟩
set_option maxHeartbeats 4000000 in
set_option maxRecDepth 100000 in
theorem rt_raise2 {S0 : xS} {code r m : Nat → Int32} {a : Int32} {ws vs : List Int32} {t lab : Nat} (hL : CMl LC2 code) (h : RI code a r m (ws ++ (nI (4 * t) + 1) :: (nI (4 * lab) + 1) :: (nI (4 * 5632) + 1) :: vs) (5632 + ws.length)) (hn : ws.length < 990) : ∃ r' m', RT S0 30 r m 20159 r' m' lab ∧ RI code a r' m' (ws ++ [r 4]) t ∧ ∀ j, j < 5632 → m' j = m j := by
  have hc := h.1.lib hL
  have h0 := h.2.1
  have h21 := h.2.2.2.2.2.1
  have g0 : ¬ r 21 = r 0 := by rw [h21, h0]; exact nI_ne0 (by omega) (by omega)
  have b16 : r 21 + r 0 = nI (4 * (5632 + ws.length)) := by rw [h0, Int32.add_zero, h21]
  have a0 : ((r 21 + r 0) + 0) >>> ((2 : Int32) &&& 31) = nI (5632 + ws.length) := ad4 b16 (np4 (c := 0) rfl) (by omega)
  have a1 : ((r 21 + r 0) + 4) >>> ((2 : Int32) &&& 31) = nI (5632 + ws.length + 1) := ad4 b16 (np4 (c := 1) rfl) (by omega)
  have a2 : ((r 21 + r 0) + 8) >>> ((2 : Int32) &&& 31) = nI (5632 + ws.length + 2) := ad4 b16 (np4 (c := 2) rfl) (by omega)
  have v0 : m (5632 + ws.length) = nI (4 * t) + 1 := h.at
  have v1 : m (5632 + ws.length + 1) = nI (4 * lab) + 1 := by
    have := h.2.2.2.2.2.2.2.2.2.2 (ws.length + 1) _ (by rw [List.getElem?_append_right (by omega), show ws.length + 1 - ws.length = 1 from by omega]; rfl)
    rw [← Nat.add_assoc] at this; exact this
  have v2 : m (5632 + ws.length + 2) = nI (4 * 5632) + 1 := by
    have := h.2.2.2.2.2.2.2.2.2.2 (ws.length + 2) _ (by rw [List.getElem?_append_right (by omega), show ws.length + 2 - ws.length = 2 from by omega]; rfl)
    rw [← Nat.add_assoc] at this; exact this
  have gl : m (5632 + ws.length + 1) + (-1) = nI (4 * lab) := by rw [v1, nx1]
  have x := fun (h l lw : Int32) => r_bne (S0 := S0) (r := r) (m := m) (p := 20160) (h := h) (l := l) (lt := 0) (lw := lw) (by omega) (cm2_319 hc) (by decide) (by decide) (sa := 21) (sb := 0) (by decide) (by decide) (by decide) (by decide) g0  (off := 4) (by decide)
  have x := fun (h l lw : Int32) => (x h l lw).trans (r_sll (by omega) (cm2_320 hc) (by decide) (sb := 0) (t := 0) (dd := 0) (by decide) (by decide) (by decide) (by decide) (by decide) (by decide) (by decide))
  have x := fun (h l lw : Int32) => (x h l lw).trans (r_addu (by omega) (cm2_324 hc) (by decide) (sa := 21) (sb := 0) (t := 16) (by decide) (by decide) (by decide) (by decide) (by decide) (by decide) (by decide) (by decide))
  have x := fun (h l lw : Int32) => (x h l lw).trans (r_lw (by omega) (cm2_325 hc) (by decide) (sa := 16) (t := 8) (i := 0) (k := (5632 + ws.length)) (by decide) (by decide) (by decide) (by decide) (by decide) (by decide) a0 (by omega))
  have x := fun (h l lw : Int32) => (x h l lw).trans (r_lw (by omega) (cm2_326 hc) (by decide) (sa := 16) (t := 9) (i := 4) (k := (5632 + ws.length + 1)) (by decide) (by decide) (by decide) (by decide) (by decide) (by decide) a1 (by omega))
  have x := fun (h l lw : Int32) => (x h l lw).trans (r_lw (by omega) (cm2_327 hc) (by decide) (sa := 16) (t := 10) (i := 8) (k := (5632 + ws.length + 2)) (by decide) (by decide) (by decide) (by decide) (by decide) (by decide) a2 (by omega))
  have x := fun (h l lw : Int32) => (x h l lw).trans (r_sw (by omega) (cm2_328 hc) (by decide) (sa := 16) (t := 4) (i := 0) (k := (5632 + ws.length)) (by decide) (by decide) (by decide) (by decide) (by decide) (by decide) a0 (by omega))
  have x := fun (h l lw : Int32) => (x h l lw).trans (r_addiu (by omega) (cm2_329 (CMl.upd hc (show 5632 + ws.length < 19840 by omega))) (by decide) (sa := 16) (t := 16) (i := 4) (by decide) (by decide) (by decide) (by decide) (by decide) (by decide))
  have x := fun (h l lw : Int32) => (x h l lw).trans (r_addiu (by omega) (cm2_330 (CMl.upd hc (show 5632 + ws.length < 19840 by omega))) (by decide) (sa := 8) (t := 21) (i := (-1)) (by decide) (by decide) (by decide) (by decide) (by decide) (by decide))
  have x := fun (h l lw : Int32) => (x h l lw).trans (r_addiu (by omega) (cm2_331 (CMl.upd hc (show 5632 + ws.length < 19840 by omega))) (by decide) (sa := 9) (t := 9) (i := (-1)) (by decide) (by decide) (by decide) (by decide) (by decide) (by decide))
  have x := fun (h l lw : Int32) => (x h l lw).trans (r_jr (by omega) (cm2_332 (CMl.upd hc (show 5632 + ws.length < 19840 by omega))) (by decide) (A := lab) (sa := 9) (by decide) (by decide) (by decide) (by decide) gl)
  have x := fun (h l lw : Int32) => (x h l lw).trans (r_addiu (by omega) (cm2_333 (CMl.upd hc (show 5632 + ws.length < 19840 by omega))) (by decide) (sa := 10) (t := 17) (i := (-1)) (by decide) (by decide) (by decide) (by decide) (by decide) (by decide))
  simp only [wr0] at x
  have y := RT.mk (N := 30) x (by decide)
  generalize hr7 : (wr _ _ _ : Nat → Int32) = r7 at y
  have k7 : RI code a r7 (upd m (5632 + ws.length) (r 4)) (ws ++ [r 4]) t := by subst hr7; exact h.set (by omega) ((congrArg (· + 4) b16).trans (np4 (c := 1) rfl)) ((congrArg (· + (-1)) v0).trans nx1) rfl (((congrArg (· + (-1)) v2).trans nx1).trans h.2.2.2.1.symm) rfl rfl rfl
  exact ⟨r7, _, y, k7, fun j hj => pk_un (by omega)⟩
set_option maxHeartbeats 4000000 in
set_option maxRecDepth 100000 in
theorem rt_raise0_2 {S0 : xS} {code r m : Nat → Int32} {a : Int32} {ws : List Int32} (hL : CMl LC2 code) (h : RI code a r m ws 0) : ∃ r', RT S0 30 r m 20159 r' m 19859 ∧ RI code a r' m ws 0 ∧ r' 2 = 1 ∧ r' 3 = r 4 := by
  have hc := h.1.lib hL
  have h0 := h.2.1
  have g0 : r 21 = r 0 := by rw [h.2.2.2.2.2.1, h0]; rfl
  have x := fun (h l lw : Int32) => r_bnen (S0 := S0) (r := r) (m := m) (p := 20160) (h := h) (l := l) (lt := 0) (lw := lw) (by omega) (cm2_319 hc) (by decide) (by decide) (sa := 21) (sb := 0) (by decide) (by decide) (by decide) (by decide) g0 
  have x := fun (h l lw : Int32) => (x h l lw).trans (r_sll (by omega) (cm2_320 hc) (by decide) (sb := 0) (t := 0) (dd := 0) (by decide) (by decide) (by decide) (by decide) (by decide) (by decide) (by decide))
  have x := fun (h l lw : Int32) => (x h l lw).trans (r_addu (by omega) (cm2_321 hc) (by decide) (sa := 4) (sb := 0) (t := 3) (by decide) (by decide) (by decide) (by decide) (by decide) (by decide) (by decide) (by decide))
  have x := fun (h l lw : Int32) => (x h l lw).trans (r_j (by omega) (cm2_322 hc) (by decide) (A := 19859) (by decide) (by decide))
  have x := fun (h l lw : Int32) => (x h l lw).trans (r_addiu (by omega) (cm2_323 hc) (by decide) (sa := 0) (t := 2) (i := 1) (by decide) (by decide) (by decide) (by decide) (by decide) (by decide))
  simp only [wr0] at x
  have y := RT.mk (N := 30) x (by decide)
  generalize hr7 : (wr _ _ _ : Nat → Int32) = r7 at y
  have k7 : RI code a r7 m ws 0 := by subst hr7; exact h.keep rfl rfl rfl rfl rfl rfl rfl
  exact ⟨r7, y, k7, by subst hr7; exact (congrArg (· + 1) h0).trans (by decide), by subst hr7; exact (congrArg (r 4 + ·) h0).trans (Int32.add_zero _)⟩
set_option maxHeartbeats 4000000 in
set_option maxRecDepth 100000 in
theorem rt_bind2 {S0 : xS} {code r m : Nat → Int32} {a : Int32} {ws : List Int32} {tr ret : Nat} (hL : CMl LC2 code) (h : RI code a r m ws tr) (hn : ws.length < 990) (h5 : r 5 = 4) (h31 : r 31 = nI (4 * ret)) : ∃ r' m', RT S0 80 r m 20042 r' m' ret ∧ RI code a r' m' (ws ++ [m 144]) tr ∧ ∀ j, j < 5632 → m' j = m j := by
  have hc := h.1.lib hL
  have hL' : CMl (LCh 2) code := hL
  have h0 := h.2.1
  have b10 : r 0 + 0 = nI (4 * 0) := by rw [h0]; rfl
  have a1 : ((r 0 + 0) + 576) >>> ((2 : Int32) &&& 31) = nI 144 := ad4 b10 (by decide) (by omega)
  have x := fun (h l lw : Int32) => r_addu (S0 := S0) (r := r) (m := m) (p := 20043) (h := h) (l := l) (lt := 0) (lw := lw) (by omega) (cm2_202 hc) (by decide) (sa := 31) (sb := 0) (t := 25) (by decide) (by decide) (by decide) (by decide) (by decide) (by decide) (by decide) (by decide)
  have x := fun (h l lw : Int32) => (x h l lw).trans (r_addiu (by omega) (cm2_203 hc) (by decide) (sa := 0) (t := 10) (i := 0) (by decide) (by decide) (by decide) (by decide) (by decide) (by decide))
  have x := fun (h l lw : Int32) => (x h l lw).trans (r_lw (by omega) (cm2_204 hc) (by decide) (sa := 10) (t := 4) (i := 576) (k := 144) (by decide) (by decide) (by decide) (by decide) (by decide) (by decide) a1 (by omega))
  have x := fun (h l lw : Int32) => (x h l lw).trans (r_jal (by omega) (cm2_205 hc) (by decide) (A := 19860) (by decide) (by decide))
  have x := fun (h l lw : Int32) => (x h l lw).trans (r_sll (by omega) (cm2_206 hc) (by decide) (sb := 0) (t := 0) (dd := 0) (by decide) (by decide) (by decide) (by decide) (by decide) (by decide) (by decide))
  simp only [wr0] at x
  have y1 := RT.mk (N := 30) x (by decide)
  generalize hr1 : (wr _ _ _ : Nat → Int32) = r1 at y1
  have k1 : RI code a r1 m ws tr := by subst hr1; exact h.keep rfl rfl rfl rfl rfl rfl rfl
  have f4 : r1 4 = m 144 := by subst hr1; rfl
  have f31 : r1 31 = nI (4 * 20047) := by subst hr1; rfl
  have f25 : r1 25 = nI (4 * ret) := by subst hr1; exact (congrArg (r 31 + ·) h0).trans ((Int32.add_zero _).trans h31)
  have f10 : r1 10 = 0 := by subst hr1; exact b10.trans rfl
  have f5 : r1 5 = 4 := by subst hr1; exact h5
  obtain ⟨r2, m2, y2, k2, g2, n2⟩ := ri_push (S0 := S0) (ret := 20047) (Or.inr rfl) hL' k1 (by omega) f31
  have hc := k2.1.lib hL
  have gb : r2 10 + 4 = r2 5 := by rw [g2 10 (by decide) (by decide) (by decide), g2 5 (by decide) (by decide) (by decide), f10, f5]; decide
  have g25 : r2 25 = nI (4 * ret) := (g2 25 (by decide) (by decide) (by decide)).trans f25
  have x := fun (h l lw : Int32) => r_addiu (S0 := S0) (r := r2) (m := m2) (p := 20048) (h := h) (l := l) (lt := 0) (lw := lw) (by omega) (cm2_207 hc) (by decide) (sa := 10) (t := 10) (i := 4) (by decide) (by decide) (by decide) (by decide) (by decide) (by decide)
  have x := fun (h l lw : Int32) => (x h l lw).trans (r_bnen (by omega) (cm2_208 hc) (by decide) (by decide) (sa := 10) (sb := 5) (by decide) (by decide) (by decide) (by decide) gb )
  have x := fun (h l lw : Int32) => (x h l lw).trans (r_sll (by omega) (cm2_209 hc) (by decide) (sb := 0) (t := 0) (dd := 0) (by decide) (by decide) (by decide) (by decide) (by decide) (by decide) (by decide))
  have x := fun (h l lw : Int32) => (x h l lw).trans (r_jr (by omega) (cm2_210 hc) (by decide) (A := ret) (sa := 25) (by decide) (by decide) (by decide) (by decide) g25)
  have x := fun (h l lw : Int32) => (x h l lw).trans (r_sll (by omega) (cm2_211 hc) (by decide) (sb := 0) (t := 0) (dd := 0) (by decide) (by decide) (by decide) (by decide) (by decide) (by decide) (by decide))
  simp only [wr0] at x
  have y3 := RT.mk (N := 30) x (by decide)
  generalize hr3 : (wr _ _ _ : Nat → Int32) = r3 at y3
  rw [f4] at k2
  have k3 : RI code a r3 m2 (ws ++ [m 144]) tr := by subst hr3; exact k2.keep rfl rfl rfl rfl rfl rfl rfl
  exact ⟨r3, m2, ((y1.trans y2).trans y3).mono (by decide), k3, n2⟩
