/-! The Library run: its start. -/
section
variable {m : Nat → Int32}
theorem cs1_0 (hc : CMl LC1 m) : m 19840 = 605050880 := hc 0 _ (by decide +kernel)
theorem cs1_1 (hc : CMl LC1 m) : m 19841 = 1007812608 := hc 1 _ (by decide +kernel)
theorem cs1_2 (hc : CMl LC1 m) : m 19842 = 911390208 := hc 2 _ (by decide +kernel)
theorem cs1_3 (hc : CMl LC1 m) : m 19843 = 2349335624 := hc 3 _ (by decide +kernel)
theorem cs1_4 (hc : CMl LC1 m) : m 19844 = 0 := hc 4 _ (by decide +kernel)
theorem cs1_5 (hc : CMl LC1 m) : m 19845 = 1007222784 := hc 5 _ (by decide +kernel)
theorem cs1_6 (hc : CMl LC1 m) : m 19846 = 891942400 := hc 6 _ (by decide +kernel)
theorem cs1_7 (hc : CMl LC1 m) : m 19847 = 33589281 := hc 7 _ (by decide +kernel)
theorem cs1_8 (hc : CMl LC1 m) : m 19848 = 33599521 := hc 8 _ (by decide +kernel)
theorem cs1_9 (hc : CMl LC1 m) : m 19849 = 38311969 := hc 9 _ (by decide +kernel)
theorem cs1_10 (hc : CMl LC1 m) : m 19850 = 2350122072 := hc 10 _ (by decide +kernel)
theorem cs1_11 (hc : CMl LC1 m) : m 19851 = 0 := hc 11 _ (by decide +kernel)
theorem cs1_12 (hc : CMl LC1 m) : m 19852 = 2886861888 := hc 12 _ (by decide +kernel)
theorem cs1_13 (hc : CMl LC1 m) : m 19853 = 2886272068 := hc 13 _ (by decide +kernel)
theorem cs1_14 (hc : CMl LC1 m) : m 19854 = 2885682252 := hc 14 _ (by decide +kernel)
theorem cs1_15 (hc : CMl LC1 m) : m 19855 = 2885682256 := hc 15 _ (by decide +kernel)
theorem cs1_16 (hc : CMl LC1 m) : m 19856 = 1008140288 := hc 16 _ (by decide +kernel)
theorem cs1_17 (hc : CMl LC1 m) : m 19857 = 922203584 := hc 17 _ (by decide +kernel)
theorem cs1_18 (hc : CMl LC1 m) : m 19858 = 605356032 := hc 18 _ (by decide +kernel)
theorem cs1_19 (hc : CMl LC1 m) : m 19859 = 134238242 := hc 19 _ (by decide +kernel)
theorem cs1_20 (hc : CMl LC1 m) : m 19860 = 0 := hc 20 _ (by decide +kernel)
end
set_option maxHeartbeats 4000000 in
set_option maxRecDepth 100000 in
theorem rt_start1 {S0 : xS} {code r m : Nat → Int32} {a : Int32} (hL : CMl LC1 code) (hD : CD code m) (h0 : ∀ j, j < 32 → r j = 0) (ha : m 278 = a) : ∃ r' m', RT S0 40 r m 19840 r' m' 20514 ∧ RI code a r' m' [] 0 := by
  have hc := hD.lib hL
  have g0 : r 0 = nI (4 * 0) := h0 0 (by decide)
  have z0 : r 0 = 0 := h0 0 (by decide)
  have x := fun (h l lw : Int32) => r_addiu (S0 := S0) (r := r) (m := m) (p := 19841) (h := h) (l := l) (lt := 0) (lw := lw) (by omega) (cs1_0 hc) (by decide) (sa := 0) (t := 16) (i := 22528) (by decide) (by decide) (by decide) (by decide) (by decide) (by decide)
  have x := fun (h l lw : Int32) => (x h l lw).trans (r_lui (by omega) (cs1_1 hc) (by decide) (t := 18) (i := 0) (by decide) (by decide) (by decide) (by decide))
  have x := fun (h l lw : Int32) => (x h l lw).trans (r_ori (by omega) (cs1_2 hc) (by decide) (sa := 18) (t := 18) (i := 46592) (by decide) (by decide) (by decide) (by decide) (by decide) (by decide))
  have x := fun (h l lw : Int32) => (x h l lw).trans (r_lw (by omega) (cs1_3 hc) (by decide) (sa := 0) (t := 8) (i := 1096) (k := 274) (by decide) (by decide) (by decide) (by decide) (by decide) (by decide) (ad4 (x := 0) g0 (by decide) (by decide)) (by decide))
  have x := fun (h l lw : Int32) => (x h l lw).trans (r_sll (by omega) (cs1_4 hc) (by decide) (sb := 0) (t := 0) (dd := 0) (by decide) (by decide) (by decide) (by decide) (by decide) (by decide) (by decide))
  have x := fun (h l lw : Int32) => (x h l lw).trans (r_lui (by omega) (cs1_5 hc) (by decide) (t := 9) (i := 0) (by decide) (by decide) (by decide) (by decide))
  have x := fun (h l lw : Int32) => (x h l lw).trans (r_ori (by omega) (cs1_6 hc) (by decide) (sa := 9) (t := 9) (i := 62976) (by decide) (by decide) (by decide) (by decide) (by decide) (by decide))
  have x := fun (h l lw : Int32) => (x h l lw).trans (r_addu (by omega) (cs1_7 hc) (by decide) (sa := 16) (sb := 0) (t := 17) (by decide) (by decide) (by decide) (by decide) (by decide) (by decide) (by decide) (by decide))
  have x := fun (h l lw : Int32) => (x h l lw).trans (r_addu (by omega) (cs1_8 hc) (by decide) (sa := 16) (sb := 0) (t := 22) (by decide) (by decide) (by decide) (by decide) (by decide) (by decide) (by decide) (by decide))
  have x := fun (h l lw : Int32) => (x h l lw).trans (r_addu (by omega) (cs1_9 hc) (by decide) (sa := 18) (sb := 8) (t := 19) (by decide) (by decide) (by decide) (by decide) (by decide) (by decide) (by decide) (by decide))
  have x := fun (h l lw : Int32) => (x h l lw).trans (r_lw (by omega) (cs1_10 hc) (by decide) (sa := 0) (t := 20) (i := 1112) (k := 278) (by decide) (by decide) (by decide) (by decide) (by decide) (by decide) (ad4 (x := 0) g0 (by decide) (by decide)) (by decide))
  have x := fun (h l lw : Int32) => (x h l lw).trans (r_sll (by omega) (cs1_11 hc) (by decide) (sb := 0) (t := 0) (dd := 0) (by decide) (by decide) (by decide) (by decide) (by decide) (by decide) (by decide))
  have x := fun (h l lw : Int32) => (x h l lw).trans (r_sw (by omega) (cs1_12 hc) (by decide) (sa := 0) (t := 18) (i := 1088) (k := 272) (by decide) (by decide) (by decide) (by decide) (by decide) (by decide) (ad4 (x := 0) g0 (by decide) (by decide)) (by decide))
  have x := fun (h l lw : Int32) => (x h l lw).trans (r_sw (by omega) (cs1_13 (CMl.upd hc (show 272 < 19840 by decide))) (by decide) (sa := 0) (t := 9) (i := 1092) (k := 273) (by decide) (by decide) (by decide) (by decide) (by decide) (by decide) (ad4 (x := 0) g0 (by decide) (by decide)) (by decide))
  have x := fun (h l lw : Int32) => (x h l lw).trans (r_sw (by omega) (cs1_14 (CMl.upd (CMl.upd hc (show 272 < 19840 by decide)) (show 273 < 19840 by decide))) (by decide) (sa := 0) (t := 0) (i := 1100) (k := 275) (by decide) (by decide) (by decide) (by decide) (by decide) (by decide) (ad4 (x := 0) g0 (by decide) (by decide)) (by decide))
  have x := fun (h l lw : Int32) => (x h l lw).trans (r_sw (by omega) (cs1_15 (CMl.upd (CMl.upd (CMl.upd hc (show 272 < 19840 by decide)) (show 273 < 19840 by decide)) (show 275 < 19840 by decide))) (by decide) (sa := 0) (t := 0) (i := 1104) (k := 276) (by decide) (by decide) (by decide) (by decide) (by decide) (by decide) (ad4 (x := 0) g0 (by decide) (by decide)) (by decide))
  have x := fun (h l lw : Int32) => (x h l lw).trans (r_lui (by omega) (cs1_16 (CMl.upd (CMl.upd (CMl.upd (CMl.upd hc (show 272 < 19840 by decide)) (show 273 < 19840 by decide)) (show 275 < 19840 by decide)) (show 276 < 19840 by decide))) (by decide) (t := 23) (i := 0) (by decide) (by decide) (by decide) (by decide))
  have x := fun (h l lw : Int32) => (x h l lw).trans (r_ori (by omega) (cs1_17 (CMl.upd (CMl.upd (CMl.upd (CMl.upd hc (show 272 < 19840 by decide)) (show 273 < 19840 by decide)) (show 275 < 19840 by decide)) (show 276 < 19840 by decide))) (by decide) (sa := 23) (t := 23) (i := 46528) (by decide) (by decide) (by decide) (by decide) (by decide) (by decide))
  have x := fun (h l lw : Int32) => (x h l lw).trans (r_addiu (by omega) (cs1_18 (CMl.upd (CMl.upd (CMl.upd (CMl.upd hc (show 272 < 19840 by decide)) (show 273 < 19840 by decide)) (show 275 < 19840 by decide)) (show 276 < 19840 by decide))) (by decide) (sa := 0) (t := 21) (i := 0) (by decide) (by decide) (by decide) (by decide) (by decide) (by decide))
  have x := fun (h l lw : Int32) => (x h l lw).trans (r_j (by omega) (cs1_19 (CMl.upd (CMl.upd (CMl.upd (CMl.upd hc (show 272 < 19840 by decide)) (show 273 < 19840 by decide)) (show 275 < 19840 by decide)) (show 276 < 19840 by decide))) (by decide) (A := 20514) (by decide) (by decide))
  have x := fun (h l lw : Int32) => (x h l lw).trans (r_sll (by omega) (cs1_20 (CMl.upd (CMl.upd (CMl.upd (CMl.upd hc (show 272 < 19840 by decide)) (show 273 < 19840 by decide)) (show 275 < 19840 by decide)) (show 276 < 19840 by decide))) (by decide) (sb := 0) (t := 0) (dd := 0) (by decide) (by decide) (by decide) (by decide) (by decide) (by decide) (by decide))
  simp only [wr0] at x
  have y := RT.mk (N := 40) x (by decide)
  generalize hr : (wr _ _ _ : Nat → Int32) = r7 at y
  refine ⟨r7, _, y, (((hD.upd (by decide)).upd (by decide)).upd (by decide)).upd (by decide), ?_, ?_, ?_, ?_, ?_, ?_, ?_, ?_, ?_, fun i w q => by cases q⟩
  · subst hr; exact z0
  · subst hr; exact (congrArg (· + 22528) z0).trans (by decide)
  · subst hr; exact ((congrArg (fun x => (x + 22528) + x) z0).trans (by decide) : (r 0 + 22528) + r 0 = nI (4 * 5632))
  · subst hr; exact (show (0 : Int32) ||| 46528 = 46528 by decide)
  · subst hr; exact (congrArg (· + 0) z0).trans (by decide)
  · subst hr; rfl
  · subst hr; exact ha
  · subst hr; exact z0
  · subst hr; exact z0
section
variable {m : Nat → Int32}
theorem cs2_0 (hc : CMl LC2 m) : m 19840 = 605050880 := hc 0 _ (by decide +kernel)
theorem cs2_1 (hc : CMl LC2 m) : m 19841 = 1007812608 := hc 1 _ (by decide +kernel)
theorem cs2_2 (hc : CMl LC2 m) : m 19842 = 911390208 := hc 2 _ (by decide +kernel)
theorem cs2_3 (hc : CMl LC2 m) : m 19843 = 2349335624 := hc 3 _ (by decide +kernel)
theorem cs2_4 (hc : CMl LC2 m) : m 19844 = 1007222784 := hc 4 _ (by decide +kernel)
theorem cs2_5 (hc : CMl LC2 m) : m 19845 = 891942400 := hc 5 _ (by decide +kernel)
theorem cs2_6 (hc : CMl LC2 m) : m 19846 = 33589281 := hc 6 _ (by decide +kernel)
theorem cs2_7 (hc : CMl LC2 m) : m 19847 = 33599521 := hc 7 _ (by decide +kernel)
theorem cs2_8 (hc : CMl LC2 m) : m 19848 = 38311969 := hc 8 _ (by decide +kernel)
theorem cs2_9 (hc : CMl LC2 m) : m 19849 = 2350122072 := hc 9 _ (by decide +kernel)
theorem cs2_10 (hc : CMl LC2 m) : m 19850 = 2886861888 := hc 10 _ (by decide +kernel)
theorem cs2_11 (hc : CMl LC2 m) : m 19851 = 2886272068 := hc 11 _ (by decide +kernel)
theorem cs2_12 (hc : CMl LC2 m) : m 19852 = 2885682252 := hc 12 _ (by decide +kernel)
theorem cs2_13 (hc : CMl LC2 m) : m 19853 = 2885682256 := hc 13 _ (by decide +kernel)
theorem cs2_14 (hc : CMl LC2 m) : m 19854 = 1008140288 := hc 14 _ (by decide +kernel)
theorem cs2_15 (hc : CMl LC2 m) : m 19855 = 922203584 := hc 15 _ (by decide +kernel)
theorem cs2_16 (hc : CMl LC2 m) : m 19856 = 134238124 := hc 16 _ (by decide +kernel)
theorem cs2_17 (hc : CMl LC2 m) : m 19857 = 605356032 := hc 17 _ (by decide +kernel)
end
set_option maxHeartbeats 4000000 in
set_option maxRecDepth 100000 in
theorem rt_start2 {S0 : xS} {code r m : Nat → Int32} {a : Int32} (hL : CMl LC2 code) (hD : CD code m) (h0 : ∀ j, j < 32 → r j = 0) (ha : m 278 = a) : ∃ r' m', RT S0 40 r m 19840 r' m' 20396 ∧ RI code a r' m' [] 0 := by
  have hc := hD.lib hL
  have g0 : r 0 = nI (4 * 0) := h0 0 (by decide)
  have z0 : r 0 = 0 := h0 0 (by decide)
  have x := fun (h l lw : Int32) => r_addiu (S0 := S0) (r := r) (m := m) (p := 19841) (h := h) (l := l) (lt := 0) (lw := lw) (by omega) (cs2_0 hc) (by decide) (sa := 0) (t := 16) (i := 22528) (by decide) (by decide) (by decide) (by decide) (by decide) (by decide)
  have x := fun (h l lw : Int32) => (x h l lw).trans (r_lui (by omega) (cs2_1 hc) (by decide) (t := 18) (i := 0) (by decide) (by decide) (by decide) (by decide))
  have x := fun (h l lw : Int32) => (x h l lw).trans (r_ori (by omega) (cs2_2 hc) (by decide) (sa := 18) (t := 18) (i := 46592) (by decide) (by decide) (by decide) (by decide) (by decide) (by decide))
  have x := fun (h l lw : Int32) => (x h l lw).trans (r_lw (by omega) (cs2_3 hc) (by decide) (sa := 0) (t := 8) (i := 1096) (k := 274) (by decide) (by decide) (by decide) (by decide) (by decide) (by decide) (ad4 (x := 0) g0 (by decide) (by decide)) (by decide))
  have x := fun (h l lw : Int32) => (x h l lw).trans (r_lui (by omega) (cs2_4 hc) (by decide) (t := 9) (i := 0) (by decide) (by decide) (by decide) (by decide))
  have x := fun (h l lw : Int32) => (x h l lw).trans (r_ori (by omega) (cs2_5 hc) (by decide) (sa := 9) (t := 9) (i := 62976) (by decide) (by decide) (by decide) (by decide) (by decide) (by decide))
  have x := fun (h l lw : Int32) => (x h l lw).trans (r_addu (by omega) (cs2_6 hc) (by decide) (sa := 16) (sb := 0) (t := 17) (by decide) (by decide) (by decide) (by decide) (by decide) (by decide) (by decide) (by decide))
  have x := fun (h l lw : Int32) => (x h l lw).trans (r_addu (by omega) (cs2_7 hc) (by decide) (sa := 16) (sb := 0) (t := 22) (by decide) (by decide) (by decide) (by decide) (by decide) (by decide) (by decide) (by decide))
  have x := fun (h l lw : Int32) => (x h l lw).trans (r_addu (by omega) (cs2_8 hc) (by decide) (sa := 18) (sb := 8) (t := 19) (by decide) (by decide) (by decide) (by decide) (by decide) (by decide) (by decide) (by decide))
  have x := fun (h l lw : Int32) => (x h l lw).trans (r_lw (by omega) (cs2_9 hc) (by decide) (sa := 0) (t := 20) (i := 1112) (k := 278) (by decide) (by decide) (by decide) (by decide) (by decide) (by decide) (ad4 (x := 0) g0 (by decide) (by decide)) (by decide))
  have x := fun (h l lw : Int32) => (x h l lw).trans (r_sw (by omega) (cs2_10 hc) (by decide) (sa := 0) (t := 18) (i := 1088) (k := 272) (by decide) (by decide) (by decide) (by decide) (by decide) (by decide) (ad4 (x := 0) g0 (by decide) (by decide)) (by decide))
  have x := fun (h l lw : Int32) => (x h l lw).trans (r_sw (by omega) (cs2_11 (CMl.upd hc (show 272 < 19840 by decide))) (by decide) (sa := 0) (t := 9) (i := 1092) (k := 273) (by decide) (by decide) (by decide) (by decide) (by decide) (by decide) (ad4 (x := 0) g0 (by decide) (by decide)) (by decide))
  have x := fun (h l lw : Int32) => (x h l lw).trans (r_sw (by omega) (cs2_12 (CMl.upd (CMl.upd hc (show 272 < 19840 by decide)) (show 273 < 19840 by decide))) (by decide) (sa := 0) (t := 0) (i := 1100) (k := 275) (by decide) (by decide) (by decide) (by decide) (by decide) (by decide) (ad4 (x := 0) g0 (by decide) (by decide)) (by decide))
  have x := fun (h l lw : Int32) => (x h l lw).trans (r_sw (by omega) (cs2_13 (CMl.upd (CMl.upd (CMl.upd hc (show 272 < 19840 by decide)) (show 273 < 19840 by decide)) (show 275 < 19840 by decide))) (by decide) (sa := 0) (t := 0) (i := 1104) (k := 276) (by decide) (by decide) (by decide) (by decide) (by decide) (by decide) (ad4 (x := 0) g0 (by decide) (by decide)) (by decide))
  have x := fun (h l lw : Int32) => (x h l lw).trans (r_lui (by omega) (cs2_14 (CMl.upd (CMl.upd (CMl.upd (CMl.upd hc (show 272 < 19840 by decide)) (show 273 < 19840 by decide)) (show 275 < 19840 by decide)) (show 276 < 19840 by decide))) (by decide) (t := 23) (i := 0) (by decide) (by decide) (by decide) (by decide))
  have x := fun (h l lw : Int32) => (x h l lw).trans (r_ori (by omega) (cs2_15 (CMl.upd (CMl.upd (CMl.upd (CMl.upd hc (show 272 < 19840 by decide)) (show 273 < 19840 by decide)) (show 275 < 19840 by decide)) (show 276 < 19840 by decide))) (by decide) (sa := 23) (t := 23) (i := 46528) (by decide) (by decide) (by decide) (by decide) (by decide) (by decide))
  have x := fun (h l lw : Int32) => (x h l lw).trans (r_j (by omega) (cs2_16 (CMl.upd (CMl.upd (CMl.upd (CMl.upd hc (show 272 < 19840 by decide)) (show 273 < 19840 by decide)) (show 275 < 19840 by decide)) (show 276 < 19840 by decide))) (by decide) (A := 20396) (by decide) (by decide))
  have x := fun (h l lw : Int32) => (x h l lw).trans (r_addiu (by omega) (cs2_17 (CMl.upd (CMl.upd (CMl.upd (CMl.upd hc (show 272 < 19840 by decide)) (show 273 < 19840 by decide)) (show 275 < 19840 by decide)) (show 276 < 19840 by decide))) (by decide) (sa := 0) (t := 21) (i := 0) (by decide) (by decide) (by decide) (by decide) (by decide) (by decide))
  simp only [wr0] at x
  have y := RT.mk (N := 40) x (by decide)
  generalize hr : (wr _ _ _ : Nat → Int32) = r7 at y
  refine ⟨r7, _, y, (((hD.upd (by decide)).upd (by decide)).upd (by decide)).upd (by decide), ?_, ?_, ?_, ?_, ?_, ?_, ?_, ?_, ?_, fun i w q => by cases q⟩
  · subst hr; exact z0
  · subst hr; exact (congrArg (· + 22528) z0).trans (by decide)
  · subst hr; exact ((congrArg (fun x => (x + 22528) + x) z0).trans (by decide) : (r 0 + 22528) + r 0 = nI (4 * 5632))
  · subst hr; exact (show (0 : Int32) ||| 46528 = 46528 by decide)
  · subst hr; exact (congrArg (· + 0) z0).trans (by decide)
  · subst hr; rfl
  · subst hr; exact ha
  · subst hr; exact z0
  · subst hr; exact z0
