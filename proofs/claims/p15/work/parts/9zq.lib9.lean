/-! Library: all of it. -/
def eqA (a b : PA) : Bool := decide (a.how = b.how) && (decide (a.ws = b.ws) && (decide (a.n = b.n) && (decide (a.blk = b.blk) && (decide (a.ld = b.ld) && (decide (a.fx = b.fx) && (decide (a.lb = b.lb) && decide (a.own = b.own)))))))
theorem eqA_eq {a b : PA} (h : eqA a b = true) : a = b := by
  obtain ⟨a1, a2, a3, a4, a5, a6, a7, a8⟩ := a
  obtain ⟨b1, b2, b3, b4, b5, b6, b7, b8⟩ := b
  unfold eqA at h
  simp only [Bool.and_eq_true, decide_eq_true_eq] at h
  obtain ⟨h1, h2, h3, h4, h5, h6, h7, h8⟩ := h
  have h1 : a1 = b1 := h1
  have h2 : a2 = b2 := h2
  have h3 : a3 = b3 := h3
  have h4 : a4 = b4 := h4
  have h5 : a5 = b5 := h5
  have h6 : a6 = b6 := h6
  have h7 : a7 = b7 := h7
  have h8 : a8 = b8 := h8
  rw [h1, h2, h3, h4, h5, h6, h7, h8]
theorem pL_start_own {a0 : PA} (h : a0.own = 65574) : (pL_start a0).own = 65574 := by
  simp only [pL_start, pEm_own, pSe_own, pLp_own, pLd_own, pSt_own, pSc_own, pLb_own, pL_size_own, pL_copyWords_own, pL_step_own, pL_enterObject_own, h] <;> rfl
theorem pL_ends_own {a0 : PA} (h : a0.own = 65574) : (pL_ends a0).own = 65574 := by
  simp only [pL_ends, pEm_own, pSe_own, pLp_own, pLd_own, pSt_own, pSc_own, pLb_own, pL_size_own, pL_copyWords_own, pL_step_own, pL_enterObject_own, h] <;> rfl
theorem pL_layPush_own {a0 : PA} (h : a0.own = 65574) : (pL_layPush a0).own = 65576 := by
  simp only [pL_layPush, pEm_own, pSe_own, pLp_own, pLd_own, pSt_own, pSc_own, pLb_own, pL_size_own, pL_copyWords_own, pL_step_own, pL_enterObject_own, h] <;> rfl
theorem pL_layMoved_own {a0 : PA} (h : a0.own = 65576) : (pL_layMoved a0).own = 65581 := by
  simp only [pL_layMoved, pEm_own, pSe_own, pLp_own, pLd_own, pSt_own, pSc_own, pLb_own, pL_size_own, pL_copyWords_own, pL_step_own, pL_enterObject_own, h] <;> rfl
theorem pL_layCollect_own {a0 : PA} (h : a0.own = 65581) : (pL_layCollect a0).own = 65587 := by
  simp only [pL_layCollect, pEm_own, pSe_own, pLp_own, pLd_own, pSt_own, pSc_own, pLb_own, pL_size_own, pL_copyWords_own, pL_step_own, pL_enterObject_own, h] <;> rfl
theorem pL_layNeed_own {a0 : PA} (h : a0.own = 65587) : (pL_layNeed a0).own = 65590 := by
  simp only [pL_layNeed, pEm_own, pSe_own, pLp_own, pLd_own, pSt_own, pSc_own, pLb_own, pL_size_own, pL_copyWords_own, pL_step_own, pL_enterObject_own, h] <;> rfl
theorem pL_layObjects_own {a0 : PA} (h : a0.own = 65590) : (pL_layObjects a0).own = 65596 := by
  simp only [pL_layObjects, pEm_own, pSe_own, pLp_own, pLd_own, pSt_own, pSc_own, pLb_own, pL_size_own, pL_copyWords_own, pL_step_own, pL_enterObject_own, h] <;> rfl
theorem pL_layCons_own {a0 : PA} (h : a0.own = 65596) : (pL_layCons a0).own = 65596 := by
  simp only [pL_layCons, pEm_own, pSe_own, pLp_own, pLd_own, pSt_own, pSc_own, pLb_own, pL_size_own, pL_copyWords_own, pL_step_own, pL_enterObject_own, h] <;> rfl
theorem pL_layStrings_own {a0 : PA} (h : a0.own = 65596) : (pL_layStrings a0).own = 65598 := by
  simp only [pL_layStrings, pEm_own, pSe_own, pLp_own, pLd_own, pSt_own, pSc_own, pLb_own, pL_size_own, pL_copyWords_own, pL_step_own, pL_enterObject_own, h] <;> rfl
theorem pL_layFigures_own {a0 : PA} (h : a0.own = 65598) : (pL_layFigures a0).own = 65601 := by
  simp only [pL_layFigures, pEm_own, pSe_own, pLp_own, pLd_own, pSt_own, pSc_own, pLb_own, pL_size_own, pL_copyWords_own, pL_step_own, pL_enterObject_own, h] <;> rfl
theorem pL_layDivide_own {a0 : PA} (h : a0.own = 65601) : (pL_layDivide a0).own = 65604 := by
  simp only [pL_layDivide, pEm_own, pSe_own, pLp_own, pLd_own, pSt_own, pSc_own, pLb_own, pL_size_own, pL_copyWords_own, pL_step_own, pL_enterObject_own, h] <;> rfl
theorem pL_layRaise_own {a0 : PA} (h : a0.own = 65604) : (pL_layRaise a0).own = 65605 := by
  simp only [pL_layRaise, pEm_own, pSe_own, pLp_own, pLd_own, pSt_own, pSc_own, pLb_own, pL_size_own, pL_copyWords_own, pL_step_own, pL_enterObject_own, h] <;> rfl
theorem pL_layCalls_own {a0 : PA} (h : a0.own = 65605) : (pL_layCalls a0).own = 65607 := by
  simp only [pL_layCalls, pEm_own, pSe_own, pLp_own, pLd_own, pSt_own, pSc_own, pLb_own, pL_size_own, pL_copyWords_own, pL_step_own, pL_enterObject_own, h] <;> rfl
theorem pL_layKnown_own {a0 : PA} (h : a0.own = 65607) : (pL_layKnown a0).own = 65609 := by
  simp only [pL_layKnown, pEm_own, pSe_own, pLp_own, pLd_own, pSt_own, pSc_own, pLb_own, pL_size_own, pL_copyWords_own, pL_step_own, pL_enterObject_own, h] <;> rfl
theorem pL_layBox_own {a0 : PA} (h : a0.own = 65609) : (pL_layBox a0).own = 65609 := by
  simp only [pL_layBox, pEm_own, pSe_own, pLp_own, pLd_own, pSt_own, pSc_own, pLb_own, pL_size_own, pL_copyWords_own, pL_step_own, pL_enterObject_own, h] <;> rfl
theorem pL_layPlain_own {a0 : PA} (h : a0.own = 65609) : (pL_layPlain a0).own = 65609 := by
  simp only [pL_layPlain, pEm_own, pSe_own, pLp_own, pLd_own, pSt_own, pSc_own, pLb_own, pL_size_own, pL_copyWords_own, pL_step_own, pL_enterObject_own, h] <;> rfl
theorem pL_layOutput_own {a0 : PA} (h : a0.own = 65609) : (pL_layOutput a0).own = 65612 := by
  simp only [pL_layOutput, pEm_own, pSe_own, pLp_own, pLd_own, pSt_own, pSc_own, pLb_own, pL_size_own, pL_copyWords_own, pL_step_own, pL_enterObject_own, h] <;> rfl
theorem pL_layPartial_own {a0 : PA} (h : a0.own = 65612) : (pL_layPartial a0).own = 65615 := by
  simp only [pL_layPartial, pEm_own, pSe_own, pLp_own, pLd_own, pSt_own, pSc_own, pLb_own, pL_size_own, pL_copyWords_own, pL_step_own, pL_enterObject_own, h] <;> rfl
theorem pL_layGiven_own {a0 : PA} (h : a0.own = 65615) : (pL_layGiven a0).own = 65616 := by
  simp only [pL_layGiven, pEm_own, pSe_own, pLp_own, pLd_own, pSt_own, pSc_own, pLb_own, pL_size_own, pL_copyWords_own, pL_step_own, pL_enterObject_own, h] <;> rfl
def lib0 (w : Int32) : PA := pL_start (pOp w)
theorem lib0_own {w : Int32} : (lib0 w).own = 65574 := by unfold lib0; exact pL_start_own rfl
def lib1 (w : Int32) : PA := pL_ends (lib0 w)
theorem lib1_own {w : Int32} : (lib1 w).own = 65574 := by unfold lib1; exact pL_ends_own lib0_own
def lib2 (w : Int32) : PA := pL_layPush (lib1 w)
theorem lib2_own {w : Int32} : (lib2 w).own = 65576 := by unfold lib2; exact pL_layPush_own lib1_own
def lib3 (w : Int32) : PA := pL_layMoved (lib2 w)
theorem lib3_own {w : Int32} : (lib3 w).own = 65581 := by unfold lib3; exact pL_layMoved_own lib2_own
def lib4 (w : Int32) : PA := pL_layCollect (lib3 w)
theorem lib4_own {w : Int32} : (lib4 w).own = 65587 := by unfold lib4; exact pL_layCollect_own lib3_own
def lib5 (w : Int32) : PA := pL_layNeed (lib4 w)
theorem lib5_own {w : Int32} : (lib5 w).own = 65590 := by unfold lib5; exact pL_layNeed_own lib4_own
def lib6 (w : Int32) : PA := pL_layObjects (lib5 w)
theorem lib6_own {w : Int32} : (lib6 w).own = 65596 := by unfold lib6; exact pL_layObjects_own lib5_own
def lib7 (w : Int32) : PA := pL_layCons (lib6 w)
theorem lib7_own {w : Int32} : (lib7 w).own = 65596 := by unfold lib7; exact pL_layCons_own lib6_own
def lib8 (w : Int32) : PA := pL_layStrings (lib7 w)
theorem lib8_own {w : Int32} : (lib8 w).own = 65598 := by unfold lib8; exact pL_layStrings_own lib7_own
def lib9 (w : Int32) : PA := pL_layFigures (lib8 w)
theorem lib9_own {w : Int32} : (lib9 w).own = 65601 := by unfold lib9; exact pL_layFigures_own lib8_own
def lib10 (w : Int32) : PA := pL_layDivide (lib9 w)
theorem lib10_own {w : Int32} : (lib10 w).own = 65604 := by unfold lib10; exact pL_layDivide_own lib9_own
def lib11 (w : Int32) : PA := pL_layRaise (lib10 w)
theorem lib11_own {w : Int32} : (lib11 w).own = 65605 := by unfold lib11; exact pL_layRaise_own lib10_own
def lib12 (w : Int32) : PA := pL_layCalls (lib11 w)
theorem lib12_own {w : Int32} : (lib12 w).own = 65607 := by unfold lib12; exact pL_layCalls_own lib11_own
def lib13 (w : Int32) : PA := pL_layKnown (lib12 w)
theorem lib13_own {w : Int32} : (lib13 w).own = 65609 := by unfold lib13; exact pL_layKnown_own lib12_own
def lib14 (w : Int32) : PA := pL_layBox (lib13 w)
theorem lib14_own {w : Int32} : (lib14 w).own = 65609 := by unfold lib14; exact pL_layBox_own lib13_own
def lib15 (w : Int32) : PA := pL_layPlain (lib14 w)
theorem lib15_own {w : Int32} : (lib15 w).own = 65609 := by unfold lib15; exact pL_layPlain_own lib14_own
def lib16 (w : Int32) : PA := pL_layOutput (lib15 w)
theorem lib16_own {w : Int32} : (lib16 w).own = 65612 := by unfold lib16; exact pL_layOutput_own lib15_own
def lib17 (w : Int32) : PA := pL_layPartial (lib16 w)
theorem lib17_own {w : Int32} : (lib17 w).own = 65615 := by unfold lib17; exact pL_layPartial_own lib16_own
def lib18 (w : Int32) : PA := pL_layGiven (lib17 w)
theorem lib18_own {w : Int32} : (lib18 w).own = 65616 := by unfold lib18; exact pL_layGiven_own lib17_own
def lW0_1 : List Int32 := 0 :: 134217728 :: 605356032 :: 922203584 :: 1008140288 :: 2885682256 :: 2885682252 :: 2886272068 :: 2886861888 :: 0 :: 2350122072 :: 38311969 :: 33599521 :: 33589281 :: 891942400 :: 1007222784 :: 0 :: 2349335624 :: 911390208 :: 1007812608 :: 605050880 :: []
def lF0_1 : List (Nat × Int32) := (19, 0) :: []
def lL0_1 : List (Int32 × Nat) := []
theorem lib0_1 : lib0 1 = mkA 1 lW0_1 21 21 0 lF0_1 lL0_1 65574 := by
  unfold lib0
  exact eqA_eq (by decide +kernel)
def lW0_2 : List Int32 := 605356032 :: 134217728 :: 922203584 :: 1008140288 :: 2885682256 :: 2885682252 :: 2886272068 :: 2886861888 :: 2350122072 :: 38311969 :: 33599521 :: 33589281 :: 891942400 :: 1007222784 :: 2349335624 :: 911390208 :: 1007812608 :: 605050880 :: []
def lF0_2 : List (Nat × Int32) := (16, 0) :: []
def lL0_2 : List (Int32 × Nat) := []
theorem lib0_2 : lib0 2 = mkA 2 lW0_2 18 18 0 lF0_2 lL0_2 65574 := by
  unfold lib0
  exact eqA_eq (by decide +kernel)
def lW1_1 : List Int32 := 12 :: 604110850 :: lW0_1
def lF1_1 : List (Nat × Int32) := lF0_1
def lL1_1 : List (Int32 × Nat) := (65561, 22) :: (65560, 21) :: lL0_1
theorem lib1_1 : lib1 1 = mkA 1 lW1_1 23 23 0 lF1_1 lL1_1 65574 := by
  unfold lib1
  rw [lib0_1]
  exact eqA_eq (by decide +kernel)
def lW1_2 : List Int32 := 12 :: 604110850 :: lW0_2
def lF1_2 : List (Nat × Int32) := lF0_2
def lL1_2 : List (Int32 × Nat) := (65561, 19) :: (65560, 18) :: lL0_2
theorem lib1_2 : lib1 2 = mkA 2 lW1_2 20 20 0 lF1_2 lL1_2 65574 := by
  unfold lib1
  rw [lib0_2]
  exact eqA_eq (by decide +kernel)
def lW2_1 : List Int32 := 0 :: 65011720 :: 33599521 :: 0 :: 270532608 :: 47188011 :: 638582788 :: 2919497728 :: 0 :: 134217728 :: 604110852 :: 0 :: 370606080 :: lW1_1
def lF2_1 : List (Nat × Int32) := (31, 65575) :: (26, 65561) :: (23, 65574) :: lF1_1
def lL2_1 : List (Int32 × Nat) := (65575, 34) :: (65574, 28) :: (65536, 23) :: lL1_1
theorem lib2_1 : lib2 1 = mkA 1 lW2_1 36 36 0 lF2_1 lL2_1 65576 := by
  unfold lib2
  rw [lib1_1]
  exact eqA_eq (by decide +kernel)
def lW2_2 : List Int32 := 0 :: 65011720 :: 33599521 :: 0 :: 270532608 :: 47188011 :: 638582788 :: 2919497728 :: 604110852 :: 134217728 :: 0 :: 370606080 :: lW1_2
def lF2_2 : List (Nat × Int32) := (27, 65575) :: (22, 65561) :: (20, 65574) :: lF1_2
def lL2_2 : List (Int32 × Nat) := (65575, 30) :: (65574, 24) :: (65536, 20) :: lL1_2
theorem lib2_2 : lib2 2 = mkA 2 lW2_2 32 32 0 lF2_2 lL2_2 65576 := by
  unfold lib2
  rw [lib1_2]
  exact eqA_eq (by decide +kernel)
def lW3_1 : List Int32 := 0 :: 65011720 :: 2898460672 :: 0 :: 374079488 :: 642908164 :: 2923954176 :: 627769348 :: 0 :: 2372403200 :: 12605473 :: 38625313 :: 37754913 :: 878720 :: 632094721 :: 878722 :: 632094723 :: 0 :: 352911360 :: 944322 :: 604569605 :: 0 :: 285802496 :: 604831752 :: 604569603 :: 835190791 :: 0 :: 134217728 :: 29366305 :: 0 :: 352321536 :: 835190785 :: 0 :: 2362310656 :: 0 :: 352321536 :: 12589089 :: 818413571 :: lW2_1
def lF3_1 : List (Nat × Int32) := (69, 65580) :: (55, 65578) :: (51, 65579) :: (46, 65576) :: (43, 65577) :: (38, 65576) :: lF2_1
def lL3_1 : List (Int32 × Nat) := (65576, 72) :: (65580, 64) :: (65579, 61) :: (65578, 59) :: (65577, 48) :: (65538, 36) :: lL2_1
theorem lib3_1 : lib3 1 = mkA 1 lW3_1 74 74 0 lF3_1 lL3_1 65581 := by
  unfold lib3
  rw [lib2_1]
  exact eqA_eq (by decide +kernel)
def lW3_2 : List Int32 := 0 :: 65011720 :: 2898460672 :: 0 :: 374079488 :: 642908164 :: 2923954176 :: 627769348 :: 2372403200 :: 12605473 :: 38625313 :: 37754913 :: 878720 :: 632094721 :: 878722 :: 632094723 :: 944322 :: 352911360 :: 604569605 :: 604831752 :: 285802496 :: 604569603 :: 835190791 :: 29366305 :: 134217728 :: 0 :: 352321536 :: 835190785 :: 0 :: 2362310656 :: 12589089 :: 352321536 :: 818413571 :: lW2_2
def lF3_2 : List (Nat × Int32) := (60, 65580) :: (47, 65578) :: (44, 65579) :: (40, 65576) :: (38, 65577) :: (33, 65576) :: lF2_2
def lL3_2 : List (Int32 × Nat) := (65576, 63) :: (65580, 56) :: (65579, 53) :: (65578, 51) :: (65577, 42) :: (65538, 32) :: lL2_2
theorem lib3_2 : lib3 2 = mkA 2 lW3_2 65 65 0 lF3_2 lL3_2 65581 := by
  unfold lib3
  rw [lib2_2]
  exact eqA_eq (by decide +kernel)
def lW4_1 : List Int32 := 0 :: 54525960 :: 0 :: 134217728 :: 655884292 :: 2936209408 :: 0 :: 201326592 :: 0 :: 2399535104 :: 0 :: 319750144 :: 0 :: 134217728 :: 31506465 :: 0 :: 352911360 :: 604569605 :: 835190791 :: 655884292 :: 51214369 :: 878720 :: 632094721 :: 878722 :: 632094723 :: 0 :: 352911360 :: 944322 :: 604569605 :: 0 :: 285802496 :: 604831752 :: 604569603 :: 835190791 :: 0 :: 2400059392 :: 0 :: 319946752 :: 0 :: 134217728 :: 636420100 :: 2917335040 :: 0 :: 201326592 :: 0 :: 2380660736 :: 0 :: 300941312 :: 604985344 :: 18923553 :: 19568673 :: 18911265 :: 2886206532 :: 2886272064 :: 0 :: 2349466696 :: 0 :: 2349401156 :: 0 :: 2349335616 :: 65064993 :: lW3_1
def lF4_1 : List (Nat × Int32) := (131, 65582) :: (127, 65538) :: (123, 65581) :: (121, 65581) :: (118, 65582) :: (108, 65585) :: (104, 65586) :: (97, 65583) :: (95, 65584) :: (91, 65538) :: (87, 65581) :: lF3_1
def lL4_1 : List (Int32 × Nat) := (65583, 133) :: (65582, 123) :: (65586, 114) :: (65585, 112) :: (65581, 97) :: (65584, 87) :: (65539, 74) :: lL3_1
theorem lib4_1 : lib4 1 = mkA 1 lW4_1 135 135 0 lF4_1 lL4_1 65587 := by
  unfold lib4
  rw [lib3_1]
  exact eqA_eq (by decide +kernel)
def lW4_2 : List Int32 := 0 :: 54525960 :: 655884292 :: 134217728 :: 2936209408 :: 0 :: 201326592 :: 2399535104 :: 0 :: 319750144 :: 31506465 :: 134217728 :: 0 :: 352911360 :: 604569605 :: 835190791 :: 655884292 :: 51214369 :: 878720 :: 632094721 :: 878722 :: 632094723 :: 944322 :: 352911360 :: 604569605 :: 604831752 :: 285802496 :: 604569603 :: 835190791 :: 0 :: 2400059392 :: 0 :: 319946752 :: 636420100 :: 134217728 :: 2917335040 :: 0 :: 201326592 :: 2380660736 :: 0 :: 300941312 :: 604985344 :: 18923553 :: 19568673 :: 18911265 :: 2886206532 :: 2886272064 :: 2349466696 :: 2349401156 :: 2349335616 :: 65064993 :: lW3_2
def lF4_2 : List (Nat × Int32) := (112, 65582) :: (109, 65538) :: (106, 65581) :: (104, 65581) :: (102, 65582) :: (92, 65585) :: (89, 65586) :: (83, 65583) :: (81, 65584) :: (78, 65538) :: (75, 65581) :: lF3_2
def lL4_2 : List (Int32 × Nat) := (65583, 114) :: (65582, 106) :: (65586, 98) :: (65585, 96) :: (65581, 83) :: (65584, 75) :: (65539, 65) :: lL3_2
theorem lib4_2 : lib4 2 = mkA 2 lW4_2 116 116 0 lF4_2 lL4_2 65587 := by
  unfold lib4
  rw [lib3_2]
  exact eqA_eq (by decide +kernel)
def lW5_1 : List Int32 := 0 :: 65011720 :: 38047777 :: 37752865 :: 0 :: 134217728 :: 604110851 :: 0 :: 285212672 :: 17055787 :: 41041955 :: 56686625 :: 0 :: 201326592 :: 65067041 :: 2886272076 :: 623443969 :: 647299071 :: 0 :: 2349401164 :: 0 :: 134217728 :: 0 :: 377487360 :: 0 :: 285212672 :: 17055787 :: 41041955 :: lW4_1
def lF5_1 : List (Nat × Int32) := (157, 65561) :: (154, 65588) :: (149, 65539) :: (141, 65560) :: (139, 65589) :: (137, 65587) :: lF4_1
def lL5_1 : List (Int32 × Nat) := (65588, 159) :: (65587, 159) :: (65589, 143) :: (65537, 135) :: lL4_1
theorem lib5_1 : lib5 1 = mkA 1 lW5_1 163 163 0 lF5_1 lL5_1 65590 := by
  unfold lib5
  rw [lib4_1]
  exact eqA_eq (by decide +kernel)
def lW5_2 : List Int32 := 38047777 :: 65011720 :: 37752865 :: 604110851 :: 134217728 :: 0 :: 285212672 :: 17055787 :: 41041955 :: 56686625 :: 0 :: 201326592 :: 65067041 :: 2886272076 :: 623443969 :: 647299071 :: 2349401164 :: 0 :: 134217728 :: 0 :: 377487360 :: 0 :: 285212672 :: 17055787 :: 41041955 :: lW4_2
def lF5_2 : List (Nat × Int32) := (136, 65561) :: (134, 65588) :: (129, 65539) :: (122, 65560) :: (120, 65589) :: (118, 65587) :: lF4_2
def lL5_2 : List (Int32 × Nat) := (65588, 138) :: (65587, 138) :: (65589, 124) :: (65537, 116) :: lL4_2
theorem lib5_2 : lib5 2 = mkA 2 lW5_2 141 141 0 lF5_2 lL5_2 65590 := by
  unfold lib5
  rw [lib4_2]
  exact eqA_eq (by decide +kernel)
def lW6_1 : List Int32 := 0 :: 52428808 :: 0 :: 356843520 :: 625606660 :: 0 :: 201326592 :: 0 :: 2370044480 :: 604635136 :: 65062945 :: 0 :: 65011720 :: 0 :: 359399424 :: 627769348 :: 2909601792 :: 625606660 :: 0 :: 2370633728 :: 23420961 :: 627769352 :: 625606664 :: 0 :: 2383151100 :: 0 :: 2385117184 :: 0 :: 52428808 :: 638582788 :: 2919366656 :: 0 :: 359399424 :: 627769348 :: 2909601792 :: 625606660 :: 0 :: 2370633728 :: 23683105 :: 608894980 :: 33574945 :: 34177059 :: 346240 :: 2890399744 :: 621281281 :: 344256 :: 0 :: 201326592 :: 612630532 :: 336000 :: 65062945 :: 0 :: 134217728 :: 52492321 :: 4202529 :: 0 :: 359399424 :: 627769348 :: 2909601792 :: 625606660 :: 0 :: 2370633728 :: 4481057 :: 4216865 :: 10506273 :: 0 :: 201326592 :: 27271201 :: 878720 :: 632094721 :: 878722 :: 632094723 :: 0 :: 352911360 :: 944322 :: 604569605 :: 0 :: 285802496 :: 604831752 :: 604569603 :: 835190791 :: 65062945 :: 0 :: 2360213504 :: lW5_1
def lF6_1 : List (Nat × Int32) := (243, 65595) :: (240, 65536) :: (232, 65594) :: (214, 65593) :: (199, 65537) :: (194, 65536) :: (190, 65592) :: (180, 65537) :: (173, 65590) :: (169, 65591) :: lF5_1
def lL6_1 : List (Int32 × Nat) := (65595, 238) :: (65544, 236) :: (65594, 227) :: (65543, 220) :: (65593, 209) :: (65541, 196) :: (65592, 185) :: (65591, 179) :: (65590, 177) :: (65540, 163) :: lL5_1
theorem lib6_1 : lib6 1 = mkA 1 lW6_1 247 247 0 lF6_1 lL6_1 65596 := by
  unfold lib6
  rw [lib5_1]
  exact eqA_eq (by decide +kernel)
def lW6_2 : List Int32 := 0 :: 52428808 :: 0 :: 356843520 :: 625606660 :: 0 :: 201326592 :: 2370044480 :: 604635136 :: 65062945 :: 0 :: 65011720 :: 0 :: 359399424 :: 627769348 :: 2909601792 :: 625606660 :: 2370633728 :: 23420961 :: 627769352 :: 625606664 :: 2383151100 :: 2385117184 :: 638582788 :: 52428808 :: 2919366656 :: 0 :: 359399424 :: 627769348 :: 2909601792 :: 625606660 :: 2370633728 :: 23683105 :: 608894980 :: 33574945 :: 34177059 :: 346240 :: 2890399744 :: 621281281 :: 344256 :: 612630532 :: 201326592 :: 336000 :: 65062945 :: 52492321 :: 134217728 :: 4202529 :: 0 :: 359399424 :: 627769348 :: 2909601792 :: 625606660 :: 2370633728 :: 4481057 :: 4216865 :: 10506273 :: 27271201 :: 201326592 :: 878720 :: 632094721 :: 878722 :: 632094723 :: 944322 :: 352911360 :: 604569605 :: 604831752 :: 285802496 :: 604569603 :: 835190791 :: 65062945 :: 2360213504 :: lW5_2
def lF6_2 : List (Nat × Int32) := (208, 65595) :: (205, 65536) :: (198, 65594) :: (184, 65593) :: (170, 65537) :: (166, 65536) :: (163, 65592) :: (154, 65537) :: (148, 65590) :: (145, 65591) :: lF5_2
def lL6_2 : List (Int32 × Nat) := (65595, 204) :: (65544, 202) :: (65594, 194) :: (65543, 189) :: (65593, 180) :: (65541, 168) :: (65592, 159) :: (65591, 154) :: (65590, 152) :: (65540, 141) :: lL5_2
theorem lib6_2 : lib6 2 = mkA 2 lW6_2 212 212 0 lF6_2 lL6_2 65596 := by
  unfold lib6
  rw [lib5_2]
  exact eqA_eq (by decide +kernel)
def lW7_1 : List Int32 := 0 :: 52428808 :: 638648316 :: 2920087544 :: 608960524 :: 2890006544 :: 2890596364 :: 604700699 :: 2890530824 :: 2890465284 :: 2890399744 :: 0 :: 2383085564 :: 0 :: 2383020024 :: 604504081 :: 0 :: 201326592 :: 604241940 :: 65062945 :: lW6_1
def lF7_1 : List (Nat × Int32) := (249, 65537) :: lF6_1
def lL7_1 : List (Int32 × Nat) := (65542, 247) :: lL6_1
theorem lib7_1 : lib7 1 = mkA 1 lW7_1 267 267 0 lF7_1 lL7_1 65596 := by
  unfold lib7
  rw [lib6_1]
  exact eqA_eq (by decide +kernel)
def lW7_2 : List Int32 := 638648316 :: 52428808 :: 2920087544 :: 608960524 :: 2890006544 :: 2890596364 :: 604700699 :: 2890530824 :: 2890465284 :: 2890399744 :: 2383085564 :: 2383020024 :: 604504081 :: 604241940 :: 201326592 :: 65062945 :: lW6_2
def lF7_2 : List (Nat × Int32) := (213, 65537) :: lF6_2
def lL7_2 : List (Int32 × Nat) := (65542, 212) :: lL6_2
theorem lib7_2 : lib7 2 = mkA 2 lW7_2 228 228 0 lF7_2 lL7_2 65596 := by
  unfold lib7
  rw [lib6_2]
  exact eqA_eq (by decide +kernel)
def lW8_1 : List Int32 := 0 :: 52428808 :: 2919432188 :: 638648316 :: 0 :: 201326592 :: 0 :: 2382954492 :: 0 :: 201326592 :: 608960516 :: 0 :: 2382954488 :: 0 :: 201326592 :: 17389601 :: 608450 :: 540866 :: 0 :: 2368274432 :: 0 :: 2366111744 :: 0 :: 2383020028 :: 0 :: 2382954488 :: 65062945 :: 0 :: 65011720 :: 0 :: 134217728 :: 629932033 :: 2710175744 :: 621281281 :: 0 :: 2433351680 :: 0 :: 285802496 :: 17385505 :: 608450 :: 621281284 :: 0 :: 2366177280 :: 0 :: 65011720 :: 2890399744 :: 621281285 :: 737472 :: 0 :: 2350842976 :: 0 :: 2349532260 :: 0 :: 201326592 :: 612630532 :: 270464 :: 270466 :: 627310595 :: 2886403172 :: 2887713888 :: lW7_1
def lF8_1 : List (Nat × Int32) := (321, 65546) :: (317, 65546) :: (312, 65545) :: (296, 65597) :: (289, 65596) :: (273, 65537) :: lF7_1
def lL8_1 : List (Int32 × Nat) := (65547, 300) :: (65596, 298) :: (65597, 289) :: (65546, 284) :: (65545, 267) :: lL7_1
theorem lib8_1 : lib8 1 = mkA 1 lW8_1 327 327 0 lF8_1 lL8_1 65598 := by
  unfold lib8
  rw [lib7_1]
  exact eqA_eq (by decide +kernel)
def lW8_2 : List Int32 := 2919432188 :: 52428808 :: 638648316 :: 0 :: 201326592 :: 2382954492 :: 608960516 :: 201326592 :: 2382954488 :: 17389601 :: 201326592 :: 608450 :: 540866 :: 2368274432 :: 2366111744 :: 2383020028 :: 2382954488 :: 65062945 :: 0 :: 65011720 :: 629932033 :: 134217728 :: 2710175744 :: 621281281 :: 2433351680 :: 0 :: 285802496 :: 17385505 :: 608450 :: 621281284 :: 2366177280 :: 2890399744 :: 65011720 :: 621281285 :: 737472 :: 2350842976 :: 2349532260 :: 612630532 :: 201326592 :: 270464 :: 270466 :: 627310595 :: 2886403172 :: 2887713888 :: lW7_2
def lF8_2 : List (Nat × Int32) := (267, 65546) :: (264, 65546) :: (261, 65545) :: (250, 65597) :: (245, 65596) :: (233, 65537) :: lF7_2
def lL8_2 : List (Int32 × Nat) := (65547, 254) :: (65596, 252) :: (65597, 245) :: (65546, 241) :: (65545, 228) :: lL7_2
theorem lib8_2 : lib8 2 = mkA 2 lW8_2 272 272 0 lF8_2 lL8_2 65598 := by
  unfold lib8
  rw [lib7_2]
  exact eqA_eq (by decide +kernel)
def lW9_1 : List Int32 := 0 :: 65011720 :: 2704080896 :: 623509503 :: 604831870 :: 0 :: 83951616 :: 0 :: 358612992 :: 2704080896 :: 623509503 :: 632094768 :: 22546 :: 26640 :: 23855131 :: 604766218 :: 20989985 :: 604636432 :: 546851 :: 0 :: 83951616 :: 16799777 :: 344131 :: lW8_1
def lF9_1 : List (Nat × Int32) := (343, 65599) :: (341, 65600) :: (329, 65598) :: lF8_1
def lL9_1 : List (Int32 × Nat) := (65599, 348) :: (65600, 335) :: (65598, 332) :: (65548, 327) :: lL8_1
theorem lib9_1 : lib9 1 = mkA 1 lW9_1 350 350 0 lF9_1 lL9_1 65601 := by
  unfold lib9
  rw [lib8_1]
  exact eqA_eq (by decide +kernel)
def lW9_2 : List Int32 := 0 :: 65011720 :: 2704080896 :: 623509503 :: 604831870 :: 0 :: 83951616 :: 2704080896 :: 358612992 :: 623509503 :: 632094768 :: 22546 :: 26640 :: 23855131 :: 604766218 :: 20989985 :: 604636432 :: 546851 :: 16799777 :: 83951616 :: 344131 :: lW8_2
def lF9_2 : List (Nat × Int32) := (286, 65599) :: (284, 65600) :: (273, 65598) :: lF8_2
def lL9_2 : List (Int32 × Nat) := (65599, 291) :: (65600, 279) :: (65598, 276) :: (65548, 272) :: lL8_2
theorem lib9_2 : lib9 2 = mkA 2 lW9_2 293 293 0 lF9_2 lL9_2 65601 := by
  unfold lib9
  rw [lib8_2]
  exact eqA_eq (by decide +kernel)
def lW10_1 : List Int32 := 0 :: 134217728 :: 604241946 :: 0 :: 65011720 :: 2919956476 :: 638648316 :: 625606657 :: 675904 :: 23089185 :: 0 :: 278921216 :: 23681057 :: 625672191 :: 0 :: 92340224 :: 23683110 :: 0 :: 291504128 :: 22544 :: 20498 :: 17367066 :: 0 :: 287309824 :: 608323 :: 540739 :: 0 :: 2383020028 :: 0 :: 2382954488 :: lW9_1
def lF10_1 : List (Nat × Int32) := (378, 65550) :: (368, 65603) :: (364, 65602) :: (361, 65602) :: (356, 65601) :: lF9_1
def lL10_1 : List (Int32 × Nat) := (65601, 377) :: (65603, 371) :: (65602, 368) :: (65549, 350) :: lL9_1
theorem lib10_1 : lib10 1 = mkA 1 lW10_1 380 380 0 lF10_1 lL10_1 65604 := by
  unfold lib10
  rw [lib9_1]
  exact eqA_eq (by decide +kernel)
def lW10_2 : List Int32 := 604241946 :: 134217728 :: 2919956476 :: 65011720 :: 638648316 :: 625606657 :: 675904 :: 23089185 :: 0 :: 278921216 :: 23681057 :: 625672191 :: 0 :: 92340224 :: 23683110 :: 0 :: 291504128 :: 22544 :: 20498 :: 17367066 :: 0 :: 287309824 :: 608323 :: 540739 :: 2383020028 :: 2382954488 :: lW9_2
def lF10_2 : List (Nat × Int32) := (317, 65550) :: (309, 65603) :: (305, 65602) :: (302, 65602) :: (297, 65601) :: lF9_2
def lL10_2 : List (Int32 × Nat) := (65601, 317) :: (65603, 312) :: (65602, 309) :: (65549, 293) :: lL9_2
theorem lib10_2 : lib10 2 = mkA 2 lW10_2 319 319 0 lF10_2 lL10_2 65604 := by
  unfold lib10
  rw [lib9_2]
  exact eqA_eq (by decide +kernel)
def lW11_1 : List Int32 := 0 :: 65011720 :: 2919890940 :: 638648308 :: 622198783 :: 0 :: 2383020028 :: 0 :: 2382954480 :: 0 :: 52428808 :: 638975988 :: 0 :: 201326592 :: 639893505 :: 0 :: 201326592 :: 10493985 :: 0 :: 201326592 :: 648282113 :: 65062945 :: 0 :: 18874376 :: 626130943 :: 623509503 :: 622198783 :: 638582788 :: 2919497728 :: 0 :: 2383020040 :: 0 :: 2382954500 :: 0 :: 2382888960 :: 44072993 :: 0 :: 134217728 :: 604110849 :: 8394785 :: 0 :: 379584512 :: lW10_1
def lF11_1 : List (Nat × Int32) := (408, 65536) :: (405, 65536) :: (402, 65536) :: (384, 65561) :: (380, 65604) :: lF10_1
def lL11_1 : List (Int32 × Nat) := (65552, 413) :: (65551, 400) :: (65604, 386) :: (65550, 380) :: lL10_1
theorem lib11_1 : lib11 1 = mkA 1 lW11_1 422 422 0 lF11_1 lL11_1 65605 := by
  unfold lib11
  rw [lib10_1]
  exact eqA_eq (by decide +kernel)
def lW11_2 : List Int32 := 2919890940 :: 65011720 :: 638648308 :: 622198783 :: 2383020028 :: 2382954480 :: 638975988 :: 52428808 :: 639893505 :: 201326592 :: 10493985 :: 201326592 :: 648282113 :: 201326592 :: 65062945 :: 626130943 :: 18874376 :: 623509503 :: 622198783 :: 638582788 :: 2919497728 :: 2383020040 :: 2382954500 :: 2382888960 :: 44072993 :: 604110849 :: 134217728 :: 8394785 :: 0 :: 379584512 :: lW10_2
def lF11_2 : List (Nat × Int32) := (339, 65536) :: (337, 65536) :: (335, 65536) :: (322, 65561) :: (319, 65604) :: lF10_2
def lL11_2 : List (Int32 × Nat) := (65552, 343) :: (65551, 334) :: (65604, 324) :: (65550, 319) :: lL10_2
theorem lib11_2 : lib11 2 = mkA 2 lW11_2 349 349 0 lF11_2 lL11_2 65605 := by
  unfold lib11
  rw [lib10_2]
  exact eqA_eq (by decide +kernel)
def lW12_1 : List Int32 := 0 :: 18874376 :: 626130943 :: 623509503 :: 2921857024 :: 640679940 :: 0 :: 2385117196 :: 0 :: 2385051656 :: 0 :: 2382954492 :: 0 :: 18874376 :: 623509503 :: 0 :: 2366177284 :: 640679952 :: 2921988100 :: 2921857024 :: 0 :: 2383085564 :: 0 :: 134217728 :: 0 :: 287309824 :: 822673411 :: 0 :: 2382954488 :: 647299071 :: 0 :: 134217728 :: 0 :: 377487363 :: 0 :: 18874376 :: 623509503 :: 0 :: 2366177284 :: 638713840 :: 0 :: 2382954480 :: 0 :: 201326592 :: 639893505 :: 0 :: 201326592 :: 669253633 :: 0 :: 134217728 :: 0 :: 287309824 :: 822673411 :: 0 :: 2382954488 :: 647299071 :: 0 :: 134217728 :: 0 :: 377487363 :: lW11_1
def lF12_1 : List (Nat × Int32) := (458, 65556) :: (456, 65606) :: (450, 65560) :: (438, 65536) :: (435, 65536) :: (432, 65556) :: (430, 65605) :: (424, 65560) :: lF11_1
def lL12_1 : List (Int32 × Nat) := (65555, 470) :: (65606, 460) :: (65554, 448) :: (65605, 434) :: (65553, 422) :: lL11_1
theorem lib12_1 : lib12 1 = mkA 1 lW12_1 482 482 0 lF12_1 lL12_1 65607 := by
  unfold lib12
  rw [lib11_1]
  exact eqA_eq (by decide +kernel)
theorem lib_t2_1 : ∃ v, lkL (pA_layKnown (lib12 1)).lb 65607 = some v := by
  rw [lib12_1]
  exact Option.isSome_iff_exists.mp (by decide +kernel)
def lW12_2 : List Int32 := 626130943 :: 18874376 :: 623509503 :: 2921857024 :: 640679940 :: 2385117196 :: 2385051656 :: 2382954492 :: 0 :: 18874376 :: 623509503 :: 640679952 :: 2366177284 :: 2921988100 :: 2921857024 :: 2383085564 :: 0 :: 134217728 :: 0 :: 287309824 :: 822673411 :: 647299071 :: 2382954488 :: 0 :: 134217728 :: 0 :: 377487363 :: 0 :: 18874376 :: 623509503 :: 0 :: 2366177284 :: 638713840 :: 2382954480 :: 639893505 :: 201326592 :: 0 :: 201326592 :: 669253633 :: 0 :: 134217728 :: 0 :: 287309824 :: 822673411 :: 647299071 :: 2382954488 :: 0 :: 134217728 :: 0 :: 377487363 :: lW11_2
def lF12_2 : List (Nat × Int32) := (381, 65556) :: (379, 65606) :: (374, 65560) :: (363, 65536) :: (361, 65536) :: (358, 65556) :: (356, 65605) :: (351, 65560) :: lF11_2
def lL12_2 : List (Int32 × Nat) := (65555, 391) :: (65606, 383) :: (65554, 372) :: (65605, 360) :: (65553, 349) :: lL11_2
theorem lib12_2 : lib12 2 = mkA 2 lW12_2 399 399 0 lF12_2 lL12_2 65607 := by
  unfold lib12
  rw [lib11_2]
  exact eqA_eq (by decide +kernel)
theorem lib_t2_2 : ∃ v, lkL (pA_layKnown (lib12 2)).lb 65607 = some v := by
  rw [lib12_2]
  exact Option.isSome_iff_exists.mp (by decide +kernel)
def lW13_1 : List Int32 := 0 :: 134217728 :: 604701672 :: 0 :: 20971528 :: 21712929 :: 743616 :: 894057864 :: 1007288321 :: 0 :: 134217728 :: 0 :: 355074048 :: 743554 :: 822808575 :: 604635137 :: 543490 :: 0 :: 2382757884 :: 65062945 :: 0 :: 52428808 :: 638648316 :: 2919563256 :: 0 :: 134217728 :: 0 :: 134217728 :: 0 :: 134217728 :: 0 :: 134217728 :: 0 :: 134217728 :: 0 :: 134217728 :: 0 :: 134217728 :: 0 :: 134217728 :: 0 :: 134217728 :: 0 :: 134217728 :: 0 :: 134217728 :: 0 :: 134217728 :: lW12_1
def lF13_1 : List (Nat × Int32) := (528, 65558) :: (519, 65558) :: (517, 65608) :: (504, 65573) :: (502, 65572) :: (500, 65571) :: (498, 65570) :: (496, 65569) :: (494, 65568) :: (492, 65567) :: (490, 65566) :: (488, 65565) :: (486, 65564) :: (484, 65563) :: (482, 65562) :: lF12_1
def lL13_1 : List (Int32 × Nat) := (65573, 527) :: (65608, 521) :: (65556, 510) :: (65557, 506) :: (65607, 482) :: lL12_1
theorem lib13_1 : lib13 1 = mkA 1 lW13_1 530 530 0 lF13_1 lL13_1 65609 := by
  unfold lib13
  rw [lib12_1]
  exact eqA_eq (by decide +kernel)
def lW13_2 : List Int32 := 604701672 :: 134217728 :: 0 :: 20971528 :: 21712929 :: 743616 :: 894057532 :: 1007288321 :: 0 :: 134217728 :: 743554 :: 355074048 :: 822808575 :: 604635137 :: 543490 :: 2382757884 :: 65062945 :: 638648316 :: 52428808 :: 2919563256 :: 0 :: 134217728 :: 0 :: 134217728 :: 0 :: 134217728 :: 0 :: 134217728 :: 0 :: 134217728 :: 0 :: 134217728 :: 0 :: 134217728 :: 0 :: 134217728 :: 0 :: 134217728 :: 0 :: 134217728 :: 0 :: 134217728 :: 0 :: 134217728 :: lW12_2
def lF13_2 : List (Nat × Int32) := (441, 65558) :: (433, 65558) :: (431, 65608) :: (421, 65573) :: (419, 65572) :: (417, 65571) :: (415, 65570) :: (413, 65569) :: (411, 65568) :: (409, 65567) :: (407, 65566) :: (405, 65565) :: (403, 65564) :: (401, 65563) :: (399, 65562) :: lF12_2
def lL13_2 : List (Int32 × Nat) := (65573, 441) :: (65608, 435) :: (65556, 426) :: (65557, 423) :: (65607, 399) :: lL12_2
theorem lib13_2 : lib13 2 = mkA 2 lW13_2 443 443 0 lF13_2 lL13_2 65609 := by
  unfold lib13
  rw [lib12_2]
  exact eqA_eq (by decide +kernel)
def lW14_1 : List Int32 := 0 :: 134217728 :: 4202529 :: 2890399748 :: 2890596352 :: 627769347 :: 743616 :: 0 :: 2382954492 :: 0 :: 2349532252 :: 0 :: 201326592 :: 604241928 :: 2886403164 :: lW13_1
def lF14_1 : List (Nat × Int32) := (543, 65557) :: (532, 65537) :: lF13_1
def lL14_1 : List (Int32 × Nat) := (65558, 530) :: lL13_1
theorem lib14_1 : lib14 1 = mkA 1 lW14_1 545 545 0 lF14_1 lL14_1 65609 := by
  unfold lib14
  rw [lib13_1]
  exact eqA_eq (by decide +kernel)
def lW14_2 : List Int32 := 4202529 :: 134217728 :: 2890399748 :: 2890596352 :: 627769347 :: 743616 :: 2382954492 :: 2349532252 :: 604241928 :: 201326592 :: 2886403164 :: lW13_2
def lF14_2 : List (Nat × Int32) := (452, 65557) :: (444, 65537) :: lF13_2
def lL14_2 : List (Int32 × Nat) := (65558, 443) :: lL13_2
theorem lib14_2 : lib14 2 = mkA 2 lW14_2 454 454 0 lF14_2 lL14_2 65609 := by
  unfold lib14
  rw [lib13_2]
  exact eqA_eq (by decide +kernel)
def lW15_1 : List Int32 := 0 :: 134217728 :: 621019137 :: 540736 :: 0 :: 2349335636 :: 0 :: 134217728 :: 621019137 :: 540736 :: 540866 :: 0 :: 2359820288 :: 0 :: 134217728 :: 17113123 :: 604504072 :: 0 :: 134217728 :: 0 :: 2359558148 :: 0 :: 134217728 :: 17113123 :: 604504066 :: lW14_1
def lF15_1 : List (Nat × Int32) := (568, 65557) :: (562, 65557) :: (555, 65557) :: (551, 65557) :: (547, 65557) :: lF14_1
def lL15_1 : List (Int32 × Nat) := (65572, 564) :: (65569, 557) :: (65564, 553) :: (65563, 549) :: (65562, 545) :: lL14_1
theorem lib15_1 : lib15 1 = mkA 1 lW15_1 570 570 0 lF15_1 lL15_1 65609 := by
  unfold lib15
  rw [lib14_1]
  exact eqA_eq (by decide +kernel)
def lW15_2 : List Int32 := 621019137 :: 134217728 :: 540736 :: 0 :: 2349335636 :: 621019137 :: 134217728 :: 540736 :: 540866 :: 0 :: 2359820288 :: 17113123 :: 134217728 :: 604504072 :: 0 :: 134217728 :: 2359558148 :: 17113123 :: 134217728 :: 604504066 :: lW14_2
def lF15_2 : List (Nat × Int32) := (472, 65557) :: (467, 65557) :: (461, 65557) :: (458, 65557) :: (455, 65557) :: lF14_2
def lL15_2 : List (Int32 × Nat) := (65572, 469) :: (65569, 463) :: (65564, 460) :: (65563, 457) :: (65562, 454) :: lL14_2
theorem lib15_2 : lib15 2 = mkA 2 lW15_2 474 474 0 lF15_2 lL15_2 65609 := by
  unfold lib15
  rw [lib14_2]
  exact eqA_eq (by decide +kernel)
def lW16_1 : List Int32 := 0 :: 134217728 :: 604254210 :: 0 :: 134217728 :: 625606657 :: 2706178048 :: 604831754 :: 0 :: 201326592 :: 0 :: 134217728 :: 623443969 :: 0 :: 201326592 :: 0 :: 2435055616 :: 0 :: 287965184 :: 19419169 :: 540866 :: 615055364 :: 0 :: 2359820288 :: 0 :: 65011720 :: 2886534224 :: 632094721 :: 2711881472 :: 0 :: 297795584 :: 766379984 :: 0 :: 2349663312 :: lW15_1
def lF16_1 : List (Nat × Int32) := (602, 65557) :: (599, 65611) :: (594, 65548) :: (592, 65611) :: (589, 65559) :: (585, 65610) :: (573, 65609) :: lF15_1
def lL16_1 : List (Int32 × Nat) := (65610, 601) :: (65566, 594) :: (65611, 585) :: (65565, 580) :: (65609, 576) :: (65559, 570) :: lL15_1
theorem lib16_1 : lib16 1 = mkA 1 lW16_1 604 604 0 lF16_1 lL16_1 65612 := by
  unfold lib16
  rw [lib15_1]
  exact eqA_eq (by decide +kernel)
def lW16_2 : List Int32 := 604254210 :: 134217728 :: 625606657 :: 134217728 :: 2706178048 :: 604831754 :: 0 :: 201326592 :: 623443969 :: 134217728 :: 0 :: 201326592 :: 2435055616 :: 0 :: 287965184 :: 19419169 :: 540866 :: 615055364 :: 2359820288 :: 2886534224 :: 65011720 :: 632094721 :: 2711881472 :: 0 :: 297795584 :: 766379984 :: 0 :: 2349663312 :: lW15_2
def lF16_2 : List (Nat × Int32) := (500, 65557) :: (498, 65611) :: (494, 65548) :: (492, 65611) :: (490, 65559) :: (487, 65610) :: (477, 65609) :: lF15_2
def lL16_2 : List (Int32 × Nat) := (65610, 500) :: (65566, 494) :: (65611, 487) :: (65565, 483) :: (65609, 480) :: (65559, 474) :: lL15_2
theorem lib16_2 : lib16 2 = mkA 2 lW16_2 502 502 0 lF16_2 lL16_2 65612 := by
  unfold lib16
  rw [lib15_2]
  exact eqA_eq (by decide +kernel)
def lW17_1 : List Int32 := 0 :: 134217728 :: 604241954 :: 0 :: 134217728 :: 604241950 :: 0 :: 134217728 :: 621019137 :: 540736 :: 0 :: 2433220612 :: 17383457 :: 0 :: 291504128 :: 19552299 :: 676034 :: 608323 :: 0 :: 2366242816 :: 0 :: 2359885832 :: 0 :: 2359820292 :: 0 :: 134217728 :: 2689073156 :: 540739 :: 4202529 :: 0 :: 2382954492 :: 0 :: 201326592 :: 604700673 :: 0 :: 287309824 :: 755564800 :: 344131 :: 0 :: 134217728 :: 4202529 :: 0 :: 355074048 :: 629932033 :: 2710372352 :: 623443969 :: 0 :: 2435645440 :: 608960516 :: 21710883 :: 604636432 :: 0 :: 201326592 :: 21583907 :: 0 :: 201326592 :: lW16_1
def lF17_1 : List (Nat × Int32) := (658, 65550) :: (655, 65550) :: (652, 65557) :: (645, 65612) :: (634, 65557) :: (627, 65545) :: (624, 65613) :: (620, 65557) :: (617, 65614) :: (607, 65545) :: (604, 65548) :: lF16_1
def lL17_1 : List (Int32 × Nat) := (65613, 657) :: (65612, 654) :: (65570, 636) :: (65568, 622) :: (65614, 612) :: (65567, 604) :: lL16_1
theorem lib17_1 : lib17 1 = mkA 1 lW17_1 660 660 0 lF17_1 lL17_1 65615 := by
  unfold lib17
  rw [lib16_1]
  exact eqA_eq (by decide +kernel)
def lW17_2 : List Int32 := 604241954 :: 134217728 :: 604241950 :: 134217728 :: 621019137 :: 134217728 :: 540736 :: 0 :: 2433220612 :: 17383457 :: 0 :: 291504128 :: 19552299 :: 676034 :: 608323 :: 2366242816 :: 2359885832 :: 2359820292 :: 2689073156 :: 134217728 :: 540739 :: 4202529 :: 2382954492 :: 604700673 :: 201326592 :: 0 :: 287309824 :: 755564800 :: 344131 :: 4202529 :: 134217728 :: 629932033 :: 355074048 :: 2710372352 :: 623443969 :: 2435645440 :: 608960516 :: 21710883 :: 604636432 :: 21583907 :: 201326592 :: 0 :: 201326592 :: lW16_2
def lF17_2 : List (Nat × Int32) := (543, 65550) :: (541, 65550) :: (539, 65557) :: (533, 65612) :: (525, 65557) :: (520, 65545) :: (518, 65613) :: (514, 65557) :: (512, 65614) :: (504, 65545) :: (502, 65548) :: lF16_2
def lL17_2 : List (Int32 × Nat) := (65613, 543) :: (65612, 541) :: (65570, 527) :: (65568, 516) :: (65614, 509) :: (65567, 502) :: lL16_2
theorem lib17_2 : lib17 2 = mkA 2 lW17_2 545 545 0 lF17_2 lL17_2 65615 := by
  unfold lib17
  rw [lib16_2]
  exact eqA_eq (by decide +kernel)
def lW18_1 : List Int32 := 0 :: 134217728 :: 604241950 :: 0 :: 134217728 :: 0 :: 2367948096 :: 608384 :: 0 :: 291504128 :: 19552299 :: 346179 :: 0 :: 2349466708 :: lW17_1
def lF18_1 : List (Nat × Int32) := (672, 65550) :: (669, 65557) :: (664, 65615) :: lF17_1
def lL18_1 : List (Int32 × Nat) := (65615, 671) :: (65571, 660) :: lL17_1
theorem lib18_1 : lib18 1 = mkA 1 lW18_1 674 674 0 lF18_1 lL18_1 65616 := by
  unfold lib18
  rw [lib17_1]
  exact eqA_eq (by decide +kernel)
def lW18_2 : List Int32 := 604241950 :: 134217728 :: 0 :: 134217728 :: 2367948096 :: 608384 :: 0 :: 291504128 :: 19552299 :: 346179 :: 2349466708 :: lW17_2
def lF18_2 : List (Nat × Int32) := (554, 65550) :: (552, 65557) :: (548, 65615) :: lF17_2
def lL18_2 : List (Int32 × Nat) := (65615, 554) :: (65571, 545) :: lL17_2
theorem lib18_2 : lib18 2 = mkA 2 lW18_2 556 556 0 lF18_2 lL18_2 65616 := by
  unfold lib18
  rw [lib17_2]
  exact eqA_eq (by decide +kernel)
def libA (w : Int32) : PA := lib18 w
