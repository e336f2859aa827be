/-! The Library run: a handle opened, closed. -/
set_option maxHeartbeats 4000000 in
set_option maxRecDepth 100000 in
theorem rt_open1 {S0 : xS} {code r m : Nat → Int32} {a : Int32} {ws : List Int32} {tr ret : Nat} (hL : CMl LC1 code) (h : RI code a r m ws tr) (hn : ws.length < 990) (h31 : r 31 = nI (4 * ret)) : ∃ r' m', RT S0 200 r m 20240 r' m' ret ∧ RI code a r' m' (((ws ++ [nI (4 * tr) + 1]) ++ [r 5]) ++ [nI (4 * 5632) + 1]) (5632 + ws.length) ∧ ∀ j, j < 5632 → m' j = m j := by
  have hc := h.1.lib hL
  have hL' : CMl (LCh 1) code := hL
  have x := fun (h l lw : Int32) => r_addu (S0 := S0) (r := r) (m := m) (p := 20241) (h := h) (l := l) (lt := 0) (lw := lw) (by omega) (cm1_400 hc) (by decide) (sa := 31) (sb := 0) (t := 25) (by decide) (by decide) (by decide) (by decide) (by decide) (by decide) (by decide) (by decide)
  have x := fun (h l lw : Int32) => (x h l lw).trans (r_addiu (by omega) (cm1_401 hc) (by decide) (sa := 21) (t := 4) (i := 1) (by decide) (by decide) (by decide) (by decide) (by decide) (by decide))
  have x := fun (h l lw : Int32) => (x h l lw).trans (r_jal (by omega) (cm1_402 hc) (by decide) (A := 19863) (by decide) (by decide))
  have x := fun (h l lw : Int32) => (x h l lw).trans (r_sll (by omega) (cm1_403 hc) (by decide) (sb := 0) (t := 0) (dd := 0) (by decide) (by decide) (by decide) (by decide) (by decide) (by decide) (by decide))
  simp only [wr0] at x
  have y1 := RT.mk (N := 30) x (by decide)
  generalize hr1 : (wr _ _ _ : Nat → Int32) = r1 at y1
  have k1 : RI code a r1 m ws tr := by subst hr1; exact h.keep rfl rfl rfl rfl rfl rfl rfl
  have f4 : r1 4 = nI (4 * tr) + 1 := by subst hr1; exact congrArg (· + 1) h.2.2.2.2.2.1
  have f31 : r1 31 = nI (4 * 20244) := by subst hr1; rfl
  have f25 : r1 25 = nI (4 * ret) := by subst hr1; exact (congrArg (r 31 + ·) h.2.1).trans ((Int32.add_zero _).trans h31)
  have f5 : r1 5 = r 5 := by subst hr1; rfl
  obtain ⟨r2, m2, y2, k2, g2, n2⟩ := ri_push (S0 := S0) (ret := 20244) (Or.inl rfl) hL' k1 (by omega) f31
  have hc := k2.1.lib hL
  have x := fun (h l lw : Int32) => r_addu (S0 := S0) (r := r2) (m := m2) (p := 20245) (h := h) (l := l) (lt := 0) (lw := lw) (by omega) (cm1_404 hc) (by decide) (sa := 5) (sb := 0) (t := 4) (by decide) (by decide) (by decide) (by decide) (by decide) (by decide) (by decide) (by decide)
  have x := fun (h l lw : Int32) => (x h l lw).trans (r_jal (by omega) (cm1_405 hc) (by decide) (A := 19863) (by decide) (by decide))
  have x := fun (h l lw : Int32) => (x h l lw).trans (r_sll (by omega) (cm1_406 hc) (by decide) (sb := 0) (t := 0) (dd := 0) (by decide) (by decide) (by decide) (by decide) (by decide) (by decide) (by decide))
  simp only [wr0] at x
  have y3 := RT.mk (N := 30) x (by decide)
  generalize hr3 : (wr _ _ _ : Nat → Int32) = r3 at y3
  have k3 := k2
  have k3 : RI code a r3 m2 (ws ++ [r1 4]) tr := by subst hr3; exact k3.keep rfl rfl rfl rfl rfl rfl rfl
  have v4 : r3 4 = r 5 := by subst hr3; exact (congrArg (r2 5 + ·) k2.2.1).trans ((Int32.add_zero _).trans ((g2 5 (by decide) (by decide) (by decide)).trans f5))
  have v31 : r3 31 = nI (4 * 20247) := by subst hr3; rfl
  have v25 : r3 25 = nI (4 * ret) := by subst hr3; exact (g2 25 (by decide) (by decide) (by decide)).trans f25
  obtain ⟨r4, m4, y4, k4, g4, n4⟩ := ri_push (S0 := S0) (ret := 20247) (Or.inl rfl) hL' k3 (by rw [List.length_append, List.length_singleton]; omega) v31
  have hc := k4.1.lib hL
  have x := fun (h l lw : Int32) => r_addiu (S0 := S0) (r := r4) (m := m4) (p := 20248) (h := h) (l := l) (lt := 0) (lw := lw) (by omega) (cm1_407 hc) (by decide) (sa := 17) (t := 4) (i := 1) (by decide) (by decide) (by decide) (by decide) (by decide) (by decide)
  have x := fun (h l lw : Int32) => (x h l lw).trans (r_jal (by omega) (cm1_408 hc) (by decide) (A := 19863) (by decide) (by decide))
  have x := fun (h l lw : Int32) => (x h l lw).trans (r_sll (by omega) (cm1_409 hc) (by decide) (sb := 0) (t := 0) (dd := 0) (by decide) (by decide) (by decide) (by decide) (by decide) (by decide) (by decide))
  simp only [wr0] at x
  have y5 := RT.mk (N := 30) x (by decide)
  generalize hr5 : (wr _ _ _ : Nat → Int32) = r5 at y5
  have k5 : RI code a r5 m4 ((ws ++ [r1 4]) ++ [r3 4]) tr := by subst hr5; exact k4.keep rfl rfl rfl rfl rfl rfl rfl
  have w4 : r5 4 = nI (4 * 5632) + 1 := by subst hr5; exact congrArg (· + 1) k4.2.2.2.1
  have w31 : r5 31 = nI (4 * 20250) := by subst hr5; rfl
  have w25 : r5 25 = nI (4 * ret) := by subst hr5; exact (g4 25 (by decide) (by decide) (by decide)).trans v25
  obtain ⟨r6, m6, y6, k6, g6, n6⟩ := ri_push (S0 := S0) (ret := 20250) (Or.inl rfl) hL' k5 (by rw [List.length_append, List.length_append, List.length_singleton, List.length_singleton]; omega) w31
  have hc := k6.1.lib hL
  have g25 : r6 25 = nI (4 * ret) := (g6 25 (by decide) (by decide) (by decide)).trans w25
  have x := fun (h l lw : Int32) => r_addiu (S0 := S0) (r := r6) (m := m6) (p := 20251) (h := h) (l := l) (lt := 0) (lw := lw) (by omega) (cm1_410 hc) (by decide) (sa := 16) (t := 21) (i := (-12)) (by decide) (by decide) (by decide) (by decide) (by decide) (by decide)
  have x := fun (h l lw : Int32) => (x h l lw).trans (r_jr (by omega) (cm1_411 hc) (by decide) (A := ret) (sa := 25) (by decide) (by decide) (by decide) (by decide) g25)
  have x := fun (h l lw : Int32) => (x h l lw).trans (r_sll (by omega) (cm1_412 hc) (by decide) (sb := 0) (t := 0) (dd := 0) (by decide) (by decide) (by decide) (by decide) (by decide) (by decide) (by decide))
  simp only [wr0] at x
  have y7 := RT.mk (N := 30) x (by decide)
  generalize hr7 : (wr _ _ _ : Nat → Int32) = r7 at y7
  rw [f4, v4, w4] at k6
  have t21 : r6 16 + (-12) = nI (4 * (5632 + ws.length)) := by
    rw [k6.2.2.1]
    simp only [List.length_append, List.length_singleton]
    exact nm4 (x := 5632 + ws.length) (c := 3) (by decide)
  have k7 : RI code a r7 m6 (((ws ++ [nI (4 * tr) + 1]) ++ [r 5]) ++ [nI (4 * 5632) + 1]) (5632 + ws.length) := by subst hr7; exact k6.tries rfl rfl rfl rfl t21 rfl rfl
  refine ⟨r7, m6, ((((((y1.trans y2).trans y3).trans y4).trans y5).trans y6).trans y7).mono (by decide), k7, fun j hj => (n6 j hj).trans ((n4 j hj).trans (n2 j hj))⟩
set_option maxHeartbeats 4000000 in
set_option maxRecDepth 100000 in
theorem rt_open2 {S0 : xS} {code r m : Nat → Int32} {a : Int32} {ws : List Int32} {tr ret : Nat} (hL : CMl LC2 code) (h : RI code a r m ws tr) (hn : ws.length < 990) (h31 : r 31 = nI (4 * ret)) : ∃ r' m', RT S0 200 r m 20174 r' m' ret ∧ RI code a r' m' (((ws ++ [nI (4 * tr) + 1]) ++ [r 5]) ++ [nI (4 * 5632) + 1]) (5632 + ws.length) ∧ ∀ j, j < 5632 → m' j = m j := by
  have hc := h.1.lib hL
  have hL' : CMl (LCh 2) code := hL
  have x := fun (h l lw : Int32) => r_addu (S0 := S0) (r := r) (m := m) (p := 20175) (h := h) (l := l) (lt := 0) (lw := lw) (by omega) (cm2_334 hc) (by decide) (sa := 31) (sb := 0) (t := 25) (by decide) (by decide) (by decide) (by decide) (by decide) (by decide) (by decide) (by decide)
  have x := fun (h l lw : Int32) => (x h l lw).trans (r_jal (by omega) (cm2_335 hc) (by decide) (A := 19860) (by decide) (by decide))
  have x := fun (h l lw : Int32) => (x h l lw).trans (r_addiu (by omega) (cm2_336 hc) (by decide) (sa := 21) (t := 4) (i := 1) (by decide) (by decide) (by decide) (by decide) (by decide) (by decide))
  simp only [wr0] at x
  have y1 := RT.mk (N := 30) x (by decide)
  generalize hr1 : (wr _ _ _ : Nat → Int32) = r1 at y1
  have k1 : RI code a r1 m ws tr := by subst hr1; exact h.keep rfl rfl rfl rfl rfl rfl rfl
  have f4 : r1 4 = nI (4 * tr) + 1 := by subst hr1; exact congrArg (· + 1) h.2.2.2.2.2.1
  have f31 : r1 31 = nI (4 * 20177) := by subst hr1; rfl
  have f25 : r1 25 = nI (4 * ret) := by subst hr1; exact (congrArg (r 31 + ·) h.2.1).trans ((Int32.add_zero _).trans h31)
  have f5 : r1 5 = r 5 := by subst hr1; rfl
  obtain ⟨r2, m2, y2, k2, g2, n2⟩ := ri_push (S0 := S0) (ret := 20177) (Or.inr rfl) hL' k1 (by omega) f31
  have hc := k2.1.lib hL
  have x := fun (h l lw : Int32) => r_jal (S0 := S0) (r := r2) (m := m2) (p := 20178) (h := h) (l := l) (lt := 0) (lw := lw) (by omega) (cm2_337 hc) (by decide) (A := 19860) (by decide) (by decide)
  have x := fun (h l lw : Int32) => (x h l lw).trans (r_addu (by omega) (cm2_338 hc) (by decide) (sa := 5) (sb := 0) (t := 4) (by decide) (by decide) (by decide) (by decide) (by decide) (by decide) (by decide) (by decide))
  simp only [wr0] at x
  have y3 := RT.mk (N := 30) x (by decide)
  generalize hr3 : (wr _ _ _ : Nat → Int32) = r3 at y3
  have k3 := k2
  have k3 : RI code a r3 m2 (ws ++ [r1 4]) tr := by subst hr3; exact k3.keep rfl rfl rfl rfl rfl rfl rfl
  have v4 : r3 4 = r 5 := by subst hr3; exact (congrArg (r2 5 + ·) k2.2.1).trans ((Int32.add_zero _).trans ((g2 5 (by decide) (by decide) (by decide)).trans f5))
  have v31 : r3 31 = nI (4 * 20179) := by subst hr3; rfl
  have v25 : r3 25 = nI (4 * ret) := by subst hr3; exact (g2 25 (by decide) (by decide) (by decide)).trans f25
  obtain ⟨r4, m4, y4, k4, g4, n4⟩ := ri_push (S0 := S0) (ret := 20179) (Or.inr rfl) hL' k3 (by rw [List.length_append, List.length_singleton]; omega) v31
  have hc := k4.1.lib hL
  have x := fun (h l lw : Int32) => r_jal (S0 := S0) (r := r4) (m := m4) (p := 20180) (h := h) (l := l) (lt := 0) (lw := lw) (by omega) (cm2_339 hc) (by decide) (A := 19860) (by decide) (by decide)
  have x := fun (h l lw : Int32) => (x h l lw).trans (r_addiu (by omega) (cm2_340 hc) (by decide) (sa := 17) (t := 4) (i := 1) (by decide) (by decide) (by decide) (by decide) (by decide) (by decide))
  simp only [wr0] at x
  have y5 := RT.mk (N := 30) x (by decide)
  generalize hr5 : (wr _ _ _ : Nat → Int32) = r5 at y5
  have k5 : RI code a r5 m4 ((ws ++ [r1 4]) ++ [r3 4]) tr := by subst hr5; exact k4.keep rfl rfl rfl rfl rfl rfl rfl
  have w4 : r5 4 = nI (4 * 5632) + 1 := by subst hr5; exact congrArg (· + 1) k4.2.2.2.1
  have w31 : r5 31 = nI (4 * 20181) := by subst hr5; rfl
  have w25 : r5 25 = nI (4 * ret) := by subst hr5; exact (g4 25 (by decide) (by decide) (by decide)).trans v25
  obtain ⟨r6, m6, y6, k6, g6, n6⟩ := ri_push (S0 := S0) (ret := 20181) (Or.inr rfl) hL' k5 (by rw [List.length_append, List.length_append, List.length_singleton, List.length_singleton]; omega) w31
  have hc := k6.1.lib hL
  have g25 : r6 25 = nI (4 * ret) := (g6 25 (by decide) (by decide) (by decide)).trans w25
  have x := fun (h l lw : Int32) => r_jr (S0 := S0) (r := r6) (m := m6) (p := 20182) (h := h) (l := l) (lt := 0) (lw := lw) (by omega) (cm2_341 hc) (by decide) (A := ret) (sa := 25) (by decide) (by decide) (by decide) (by decide) g25
  have x := fun (h l lw : Int32) => (x h l lw).trans (r_addiu (by omega) (cm2_342 hc) (by decide) (sa := 16) (t := 21) (i := (-12)) (by decide) (by decide) (by decide) (by decide) (by decide) (by decide))
  simp only [wr0] at x
  have y7 := RT.mk (N := 30) x (by decide)
  generalize hr7 : (wr _ _ _ : Nat → Int32) = r7 at y7
  rw [f4, v4, w4] at k6
  have t21 : r6 16 + (-12) = nI (4 * (5632 + ws.length)) := by
    rw [k6.2.2.1]
    simp only [List.length_append, List.length_singleton]
    exact nm4 (x := 5632 + ws.length) (c := 3) (by decide)
  have k7 : RI code a r7 m6 (((ws ++ [nI (4 * tr) + 1]) ++ [r 5]) ++ [nI (4 * 5632) + 1]) (5632 + ws.length) := by subst hr7; exact k6.tries rfl rfl rfl rfl t21 rfl rfl
  refine ⟨r7, m6, ((((((y1.trans y2).trans y3).trans y4).trans y5).trans y6).trans y7).mono (by decide), k7, fun j hj => (n6 j hj).trans ((n4 j hj).trans (n2 j hj))⟩
