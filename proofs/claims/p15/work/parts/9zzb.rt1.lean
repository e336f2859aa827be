/-! The Library run: a word on the pile. -/
set_option maxHeartbeats 4000000 in
theorem rt_push1 {S0 : xS} {r m : Nat → Int32} {n ret : Nat} (hc : CMl LC1 m) (h0 : r 0 = 0) (h16 : r 16 = nI (4 * (5632 + n))) (h23 : r 23 = 46528) (hn : n < 2000) (h31 : r 31 = nI (4 * ret)) : ∃ r', RT S0 20 r m 19863 r' (upd m (5632 + n) (r 4)) ret ∧ r' 16 = nI (4 * (5632 + n + 1)) ∧ ∀ j, j ≠ 1 → j ≠ 16 → j ≠ 22 → r' j = r j := by
  have g1 : ¬ r 16 = r 23 := by
    rw [h16, h23]
    intro z
    have := (nI_eq (a := 4 * (5632 + n)) (b := 46528) (by omega) (by decide)).mp z
    omega
  have a1 : (r 16 + 0) >>> ((2 : Int32) &&& 31) = nI (5632 + n) := ad4 h16 (np4 (c := 0) rfl) (by omega)
  have a2 : r 16 + 4 = nI (4 * (5632 + n + 1)) := by rw [h16]; exact np4 (c := 1) rfl
  have g0 : ¬ r 16 = r 23 := g1
  by_cases c : r 22 + (-2147483648) < (r 16 + 4) + (-2147483648)
  · have e01 : ¬ (1 : Int32) = r 0 := by rw [h0]; decide
    have x := fun (h l lw : Int32) => r_bne (S0 := S0) (r := r) (p := 19864) (h := h) (l := l) (lt := 0) (lw := lw) (by omega) (cm1_23 hc) (by decide) (by decide) (sa := 16) (sb := 23) (by decide) (by decide) (by decide) (by decide) g1  (off := 4) (by decide)
    have x := fun (h l lw : Int32) => (x h l lw).trans (r_sll (by omega) (cm1_24 hc) (by decide) (sb := 0) (t := 0) (dd := 0) (by decide) (by decide) (by decide) (by decide) (by decide) (by decide) (by decide))
    have x := fun (h l lw : Int32) => (x h l lw).trans (r_sw (by omega) (cm1_28 hc) (by decide) (sa := 16) (t := 4) (i := 0) (k := (5632 + n)) (by decide) (by decide) (by decide) (by decide) (by decide) (by decide) a1 (by omega))
    have x := fun (h l lw : Int32) => (x h l lw).trans (r_addiu (by omega) (cm1_29 (CMl.upd hc (show 5632 + n < 19840 by omega))) (by decide) (sa := 16) (t := 16) (i := 4) (by decide) (by decide) (by decide) (by decide) (by decide) (by decide))
    have x := fun (h l lw : Int32) => (x h l lw).trans (r_sltu (by omega) (cm1_30 (CMl.upd hc (show 5632 + n < 19840 by omega))) (by decide) (sa := 22) (sb := 16) (t := 1) (by decide) (by decide) (by decide) (by decide) (by decide) (by decide) (by decide) (by decide) c)
    have x := fun (h l lw : Int32) => (x h l lw).trans (r_beqn (by omega) (cm1_31 (CMl.upd hc (show 5632 + n < 19840 by omega))) (by decide) (by decide) (sa := 1) (sb := 0) (by decide) (by decide) (by decide) (by decide) e01 )
    have x := fun (h l lw : Int32) => (x h l lw).trans (r_sll (by omega) (cm1_32 (CMl.upd hc (show 5632 + n < 19840 by omega))) (by decide) (sb := 0) (t := 0) (dd := 0) (by decide) (by decide) (by decide) (by decide) (by decide) (by decide) (by decide))
    have x := fun (h l lw : Int32) => (x h l lw).trans (r_addu (by omega) (cm1_33 (CMl.upd hc (show 5632 + n < 19840 by omega))) (by decide) (sa := 16) (sb := 0) (t := 22) (by decide) (by decide) (by decide) (by decide) (by decide) (by decide) (by decide) (by decide))
    have x := fun (h l lw : Int32) => (x h l lw).trans (r_jr (by omega) (cm1_34 (CMl.upd hc (show 5632 + n < 19840 by omega))) (by decide) (A := ret) (sa := 31) (by decide) (by decide) (by decide) (by decide) h31)
    have x := fun (h l lw : Int32) => (x h l lw).trans (r_sll (by omega) (cm1_35 (CMl.upd hc (show 5632 + n < 19840 by omega))) (by decide) (sb := 0) (t := 0) (dd := 0) (by decide) (by decide) (by decide) (by decide) (by decide) (by decide) (by decide))
    simp only [wr0] at x
    have y := RT.mk (N := 20) x (by decide)
    exact ⟨_, y, a2, fun j j1 j16 j22 => by simp (config := { decide := true }) only [wr_at, j1, j16, j22, if_false, if_true]⟩
  · have e00 : (0 : Int32) = r 0 := h0.symm
    have x := fun (h l lw : Int32) => r_bne (S0 := S0) (r := r) (p := 19864) (h := h) (l := l) (lt := 0) (lw := lw) (by omega) (cm1_23 hc) (by decide) (by decide) (sa := 16) (sb := 23) (by decide) (by decide) (by decide) (by decide) g1  (off := 4) (by decide)
    have x := fun (h l lw : Int32) => (x h l lw).trans (r_sll (by omega) (cm1_24 hc) (by decide) (sb := 0) (t := 0) (dd := 0) (by decide) (by decide) (by decide) (by decide) (by decide) (by decide) (by decide))
    have x := fun (h l lw : Int32) => (x h l lw).trans (r_sw (by omega) (cm1_28 hc) (by decide) (sa := 16) (t := 4) (i := 0) (k := (5632 + n)) (by decide) (by decide) (by decide) (by decide) (by decide) (by decide) a1 (by omega))
    have x := fun (h l lw : Int32) => (x h l lw).trans (r_addiu (by omega) (cm1_29 (CMl.upd hc (show 5632 + n < 19840 by omega))) (by decide) (sa := 16) (t := 16) (i := 4) (by decide) (by decide) (by decide) (by decide) (by decide) (by decide))
    have x := fun (h l lw : Int32) => (x h l lw).trans (r_sltun (by omega) (cm1_30 (CMl.upd hc (show 5632 + n < 19840 by omega))) (by decide) (sa := 22) (sb := 16) (t := 1) (by decide) (by decide) (by decide) (by decide) (by decide) (by decide) (by decide) (by decide) c)
    have x := fun (h l lw : Int32) => (x h l lw).trans (r_beq (by omega) (cm1_31 (CMl.upd hc (show 5632 + n < 19840 by omega))) (by decide) (by decide) (sa := 1) (sb := 0) (by decide) (by decide) (by decide) (by decide) e00  (off := 2) (by decide))
    have x := fun (h l lw : Int32) => (x h l lw).trans (r_sll (by omega) (cm1_32 (CMl.upd hc (show 5632 + n < 19840 by omega))) (by decide) (sb := 0) (t := 0) (dd := 0) (by decide) (by decide) (by decide) (by decide) (by decide) (by decide) (by decide))
    have x := fun (h l lw : Int32) => (x h l lw).trans (r_jr (by omega) (cm1_34 (CMl.upd hc (show 5632 + n < 19840 by omega))) (by decide) (A := ret) (sa := 31) (by decide) (by decide) (by decide) (by decide) h31)
    have x := fun (h l lw : Int32) => (x h l lw).trans (r_sll (by omega) (cm1_35 (CMl.upd hc (show 5632 + n < 19840 by omega))) (by decide) (sb := 0) (t := 0) (dd := 0) (by decide) (by decide) (by decide) (by decide) (by decide) (by decide) (by decide))
    simp only [wr0] at x
    have y := RT.mk (N := 20) x (by decide)
    exact ⟨_, y, a2, fun j j1 j16 j22 => by simp (config := { decide := true }) only [wr_at, j1, j16, j22, if_false, if_true]⟩
set_option maxHeartbeats 4000000 in
theorem rt_push2 {S0 : xS} {r m : Nat → Int32} {n ret : Nat} (hc : CMl LC2 m) (h0 : r 0 = 0) (h16 : r 16 = nI (4 * (5632 + n))) (h23 : r 23 = 46528) (hn : n < 2000) (h31 : r 31 = nI (4 * ret)) : ∃ r', RT S0 20 r m 19860 r' (upd m (5632 + n) (r 4)) ret ∧ r' 16 = nI (4 * (5632 + n + 1)) ∧ ∀ j, j ≠ 1 → j ≠ 16 → j ≠ 22 → r' j = r j := by
  have g1 : ¬ r 16 = r 23 := by
    rw [h16, h23]
    intro z
    have := (nI_eq (a := 4 * (5632 + n)) (b := 46528) (by omega) (by decide)).mp z
    omega
  have a1 : (r 16 + 0) >>> ((2 : Int32) &&& 31) = nI (5632 + n) := ad4 h16 (np4 (c := 0) rfl) (by omega)
  have a2 : r 16 + 4 = nI (4 * (5632 + n + 1)) := by rw [h16]; exact np4 (c := 1) rfl
  by_cases c : r 22 + (-2147483648) < (r 16 + 4) + (-2147483648)
  · have e01 : ¬ (1 : Int32) = r 0 := by rw [h0]; decide
    have x := fun (h l lw : Int32) => r_bne (S0 := S0) (r := r) (p := 19861) (h := h) (l := l) (lt := 0) (lw := lw) (by omega) (cm2_20 hc) (by decide) (by decide) (sa := 16) (sb := 23) (by decide) (by decide) (by decide) (by decide) g1  (off := 3) (by decide)
    have x := fun (h l lw : Int32) => (x h l lw).trans (r_sll (by omega) (cm2_21 hc) (by decide) (sb := 0) (t := 0) (dd := 0) (by decide) (by decide) (by decide) (by decide) (by decide) (by decide) (by decide))
    have x := fun (h l lw : Int32) => (x h l lw).trans (r_sw (by omega) (cm2_24 hc) (by decide) (sa := 16) (t := 4) (i := 0) (k := (5632 + n)) (by decide) (by decide) (by decide) (by decide) (by decide) (by decide) a1 (by omega))
    have x := fun (h l lw : Int32) => (x h l lw).trans (r_addiu (by omega) (cm2_25 (CMl.upd hc (show 5632 + n < 19840 by omega))) (by decide) (sa := 16) (t := 16) (i := 4) (by decide) (by decide) (by decide) (by decide) (by decide) (by decide))
    have x := fun (h l lw : Int32) => (x h l lw).trans (r_sltu (by omega) (cm2_26 (CMl.upd hc (show 5632 + n < 19840 by omega))) (by decide) (sa := 22) (sb := 16) (t := 1) (by decide) (by decide) (by decide) (by decide) (by decide) (by decide) (by decide) (by decide) c)
    have x := fun (h l lw : Int32) => (x h l lw).trans (r_beqn (by omega) (cm2_27 (CMl.upd hc (show 5632 + n < 19840 by omega))) (by decide) (by decide) (sa := 1) (sb := 0) (by decide) (by decide) (by decide) (by decide) e01 )
    have x := fun (h l lw : Int32) => (x h l lw).trans (r_sll (by omega) (cm2_28 (CMl.upd hc (show 5632 + n < 19840 by omega))) (by decide) (sb := 0) (t := 0) (dd := 0) (by decide) (by decide) (by decide) (by decide) (by decide) (by decide) (by decide))
    have x := fun (h l lw : Int32) => (x h l lw).trans (r_addu (by omega) (cm2_29 (CMl.upd hc (show 5632 + n < 19840 by omega))) (by decide) (sa := 16) (sb := 0) (t := 22) (by decide) (by decide) (by decide) (by decide) (by decide) (by decide) (by decide) (by decide))
    have x := fun (h l lw : Int32) => (x h l lw).trans (r_jr (by omega) (cm2_30 (CMl.upd hc (show 5632 + n < 19840 by omega))) (by decide) (A := ret) (sa := 31) (by decide) (by decide) (by decide) (by decide) h31)
    have x := fun (h l lw : Int32) => (x h l lw).trans (r_sll (by omega) (cm2_31 (CMl.upd hc (show 5632 + n < 19840 by omega))) (by decide) (sb := 0) (t := 0) (dd := 0) (by decide) (by decide) (by decide) (by decide) (by decide) (by decide) (by decide))
    simp only [wr0] at x
    have y := RT.mk (N := 20) x (by decide)
    exact ⟨_, y, a2, fun j j1 j16 j22 => by simp (config := { decide := true }) only [wr_at, j1, j16, j22, if_false, if_true]⟩
  · have e00 : (0 : Int32) = r 0 := h0.symm
    have x := fun (h l lw : Int32) => r_bne (S0 := S0) (r := r) (p := 19861) (h := h) (l := l) (lt := 0) (lw := lw) (by omega) (cm2_20 hc) (by decide) (by decide) (sa := 16) (sb := 23) (by decide) (by decide) (by decide) (by decide) g1  (off := 3) (by decide)
    have x := fun (h l lw : Int32) => (x h l lw).trans (r_sll (by omega) (cm2_21 hc) (by decide) (sb := 0) (t := 0) (dd := 0) (by decide) (by decide) (by decide) (by decide) (by decide) (by decide) (by decide))
    have x := fun (h l lw : Int32) => (x h l lw).trans (r_sw (by omega) (cm2_24 hc) (by decide) (sa := 16) (t := 4) (i := 0) (k := (5632 + n)) (by decide) (by decide) (by decide) (by decide) (by decide) (by decide) a1 (by omega))
    have x := fun (h l lw : Int32) => (x h l lw).trans (r_addiu (by omega) (cm2_25 (CMl.upd hc (show 5632 + n < 19840 by omega))) (by decide) (sa := 16) (t := 16) (i := 4) (by decide) (by decide) (by decide) (by decide) (by decide) (by decide))
    have x := fun (h l lw : Int32) => (x h l lw).trans (r_sltun (by omega) (cm2_26 (CMl.upd hc (show 5632 + n < 19840 by omega))) (by decide) (sa := 22) (sb := 16) (t := 1) (by decide) (by decide) (by decide) (by decide) (by decide) (by decide) (by decide) (by decide) c)
    have x := fun (h l lw : Int32) => (x h l lw).trans (r_beq (by omega) (cm2_27 (CMl.upd hc (show 5632 + n < 19840 by omega))) (by decide) (by decide) (sa := 1) (sb := 0) (by decide) (by decide) (by decide) (by decide) e00  (off := 2) (by decide))
    have x := fun (h l lw : Int32) => (x h l lw).trans (r_sll (by omega) (cm2_28 (CMl.upd hc (show 5632 + n < 19840 by omega))) (by decide) (sb := 0) (t := 0) (dd := 0) (by decide) (by decide) (by decide) (by decide) (by decide) (by decide) (by decide))
    have x := fun (h l lw : Int32) => (x h l lw).trans (r_jr (by omega) (cm2_30 (CMl.upd hc (show 5632 + n < 19840 by omega))) (by decide) (A := ret) (sa := 31) (by decide) (by decide) (by decide) (by decide) h31)
    have x := fun (h l lw : Int32) => (x h l lw).trans (r_sll (by omega) (cm2_31 (CMl.upd hc (show 5632 + n < 19840 by omega))) (by decide) (sb := 0) (t := 0) (dd := 0) (by decide) (by decide) (by decide) (by decide) (by decide) (by decide) (by decide))
    simp only [wr0] at x
    have y := RT.mk (N := 20) x (by decide)
    exact ⟨_, y, a2, fun j j1 j16 j22 => by simp (config := { decide := true }) only [wr_at, j1, j16, j22, if_false, if_true]⟩
