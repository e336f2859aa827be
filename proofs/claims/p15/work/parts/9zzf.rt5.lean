/-! The Library run: div and mod. -/
theorem shl1 (x : Int32) : x <<< ((1 : Int32) &&& 31) = x * 2 := by
  apply Int32.toBitVec_inj.mp
  apply BitVec.eq_of_toNat_eq
  rw [pk_shl x _ 1 (by decide)]
  show _ = (x.toBitVec * (2 : Int32).toBitVec).toNat
  rw [BitVec.toNat_mul]
  rfl
theorem ge0_msb (z : Int32) : 0 ≤ z ↔ z.toBitVec.msb = false := by
  rw [Int32.le_iff_toInt_le, BitVec.msb_eq_toInt, decide_eq_false_iff_not, Int.not_lt]
  exact Iff.rfl
theorem sgx (x y : Int32) : 0 ≤ x ^^^ y ↔ (0 ≤ x ↔ 0 ≤ y) := by
  rw [ge0_msb, ge0_msb, ge0_msb]
  show (x.toBitVec ^^^ y.toBitVec).msb = false ↔ _
  rw [BitVec.msb_xor]
  cases x.toBitVec.msb <;> cases y.toBitVec.msb <;> simp
theorem sr_bd (x : Int32) : -1073741824 ≤ (sr x).toInt ∧ (sr x).toInt ≤ 1073741823 := by
  have h : (sr x).toInt = x.toInt >>> 1 := pk_shr x _ 1 (by decide)
  have h1 := Int32.le_toInt x
  have h2 := Int32.toInt_lt x
  rw [h, Int.shiftRight_eq_div_pow]
  omega
theorem rmD_toInt {a b : Int32} (ha : -1073741824 ≤ a.toInt ∧ a.toInt ≤ 1073741823) (hb : ¬ b = 0) : (a - a / b * b).toInt = a.toInt.tmod b.toInt := by
  have hb' : b.toInt ≠ 0 := fun q => hb (Int32.toInt_inj.mp (by rw [q]; rfl))
  have d1 : (a.toInt.tdiv b.toInt).natAbs ≤ a.toInt.natAbs := by rw [Int.natAbs_tdiv]; exact Nat.div_le_self _ _
  have e1 : (a / b).toInt = a.toInt.tdiv b.toInt := by
    rw [Int32.toInt_div]
    exact Int.bmod_eq_of_le (by omega) (by omega)
  have d2 : a.toInt.tmod b.toInt + b.toInt * a.toInt.tdiv b.toInt = a.toInt := Int.tmod_add_mul_tdiv _ _
  have d3 : (a.toInt.tmod b.toInt).natAbs ≤ a.toInt.natAbs := by rw [Int.natAbs_tmod]; exact Nat.mod_le _ _
  have e2 : (a / b * b).toInt = a.toInt.tdiv b.toInt * b.toInt := by
    rw [Int32.toInt_mul, e1]
    rw [Int.mul_comm] at d2
    exact Int.bmod_eq_of_le (by omega) (by omega)
  rw [Int32.toInt_sub, e2]
  rw [Int.mul_comm] at d2
  have e3 : a.toInt - a.toInt.tdiv b.toInt * b.toInt = a.toInt.tmod b.toInt := by omega
  rw [e3]
  exact Int.bmod_eq_of_le (by omega) (by omega)
theorem rem_sg {a b : Int32} (ha : -1073741824 ≤ a.toInt ∧ a.toInt ≤ 1073741823) (hb : ¬ b = 0) (hr : ¬ a - a / b * b = 0) : 0 ≤ a - a / b * b ↔ 0 ≤ a := by
  have h := rmD_toInt ha hb
  have hr' : (a - a / b * b).toInt ≠ 0 := fun q => hr (Int32.toInt_inj.mp (by rw [q]; rfl))
  rw [Int32.le_iff_toInt_le, Int32.le_iff_toInt_le, h]
  rw [h] at hr'
  show 0 ≤ a.toInt.tmod b.toInt ↔ 0 ≤ a.toInt
  constructor
  · intro z
    rcases Int.lt_or_le a.toInt 0 with q | q
    · have := Int.tmod_nonneg (a := -a.toInt) b.toInt (by omega)
      rw [Int.neg_tmod] at this
      omega
    · exact q
  · exact Int.tmod_nonneg _
theorem dm_0 {a b : Int32} (hr : a - a / b * b = 0) : fdW a b = a / b ∧ fmW a b = a - a / b * b := by
  have e : a / b * b = a := by
    have := congrArg (· + a / b * b) hr
    simp only [Int32.sub_add_cancel, Int32.zero_add] at this
    exact this.symm
  unfold fdW fmW
  constructor
  · by_cases c : 0 ≤ a ^^^ b
    · rw [if_pos c]
    · rw [if_neg c, if_pos e]
  · by_cases c : 0 ≤ a ^^^ b
    · rw [if_pos c]
    · rw [if_neg c, if_pos hr]
theorem dm_s {a b : Int32} (ha : -1073741824 ≤ a.toInt ∧ a.toInt ≤ 1073741823) (hb : ¬ b = 0) (hr : ¬ a - a / b * b = 0) (hs : 0 ≤ (a - a / b * b) ^^^ b) : fdW a b = a / b ∧ fmW a b = a - a / b * b := by
  have c : 0 ≤ a ^^^ b := by rw [sgx] at hs ⊢; rw [← hs, rem_sg ha hb hr]
  unfold fdW fmW
  exact ⟨if_pos c, if_pos c⟩
theorem dm_n {a b : Int32} (ha : -1073741824 ≤ a.toInt ∧ a.toInt ≤ 1073741823) (hb : ¬ b = 0) (hr : ¬ a - a / b * b = 0) (hs : ¬ 0 ≤ (a - a / b * b) ^^^ b) : fdW a b = a / b - 1 ∧ fmW a b = a - a / b * b + b := by
  have c : ¬ 0 ≤ a ^^^ b := by rw [sgx] at hs ⊢; rw [← rem_sg ha hb hr]; exact hs
  have e : ¬ a / b * b = a := fun q => hr (by rw [q]; exact Int32.sub_self _)
  unfold fdW fmW
  exact ⟨(if_neg c).trans (if_neg e), (if_neg c).trans (if_neg hr)⟩
set_option maxHeartbeats 4000000 in
set_option maxRecDepth 100000 in
theorem rt_div1e0 {S0 : xS} {code r m : Nat → Int32} {a v w : Int32} {ws : List Int32} {tr ret : Nat} (hL : CMl LC1 code) (h : RI code a r m ((ws ++ [v]) ++ [w]) tr) (hn : ws.length < 990) (hz : ¬ sr w = 0) (h5 : r 5 = 0) (c1 : ((sr v) - (sr v) / (sr w) * (sr w)) = 0) (h31 : r 31 = nI (4 * ret)) : ∃ r' m', RT S0 40 r m 20190 r' m' ret ∧ RI code a r' m' (ws ++ [(((sr v) / (sr w)) <<< ((1 : Int32) &&& 31) + 1)]) tr ∧ ∀ j, j < 5632 → m' j = m j := by
  have h : RI code a r m (ws ++ [v, w]) tr := by rw [List.append_assoc] at h; exact h
  have hc := h.1.lib hL
  have h0 := h.2.1
  have h16 : r 16 = nI (4 * (5632 + ws.length + 2)) := by have := h.2.2.1; rw [List.length_append] at this; exact this
  have a8 : (r 16 + (-8)) >>> ((2 : Int32) &&& 31) = nI (5632 + ws.length) := ad4 h16 (nm4 (x := 5632 + ws.length) (c := 2) (by decide)) (by omega)
  have a9 : (r 16 + (-4)) >>> ((2 : Int32) &&& 31) = nI (5632 + ws.length + 1) := ad4 h16 (nm4 (x := 5632 + ws.length + 1) (c := 1) (by decide)) (by omega)
  have a12 : r 16 + (-4) = nI (4 * (5632 + ws.length + 1)) := by rw [h16]; exact nm4 (x := 5632 + ws.length + 1) (c := 1) (by decide)
  have as : ((r 16 + (-4)) + (-4)) >>> ((2 : Int32) &&& 31) = nI (5632 + ws.length) := ad4 a12 (nm4 (x := 5632 + ws.length) (c := 1) (by decide)) (by omega)
  have v0 : m (5632 + ws.length) = v := h.at
  have v1 : m (5632 + ws.length + 1) = w := by
    have := h.2.2.2.2.2.2.2.2.2.2 (ws.length + 1) w (by rw [List.getElem?_append_right (by omega), show ws.length + 1 - ws.length = 1 from by omega]; rfl)
    rw [← Nat.add_assoc] at this; exact this
  subst v0 v1
  have gz : ¬ sr (m (5632 + ws.length + 1)) = r 0 := fun q => hz (q.trans h0)
  have gz2 : ¬ sr (m (5632 + ws.length + 1)) = 0 := hz
  have ge : ((sr (m (5632 + ws.length))) - (sr (m (5632 + ws.length))) / (sr (m (5632 + ws.length + 1))) * (sr (m (5632 + ws.length + 1)))) = r 0 := by rw [h0]; exact c1
  have g5 : r 5 = r 0 := by rw [h0, h5]
  have x := fun (h l lw : Int32) => r_lw (S0 := S0) (r := r) (m := m) (p := 20191) (h := h) (l := l) (lt := 0) (lw := lw) (by omega) (cm1_350 hc) (by decide) (sa := 16) (t := 8) (i := (-8)) (k := (5632 + ws.length)) (by decide) (by decide) (by decide) (by decide) (by decide) (by decide) a8 (by omega)
  have x := fun (h l lw : Int32) => (x h l lw).trans (r_sll (by omega) (cm1_351 hc) (by decide) (sb := 0) (t := 0) (dd := 0) (by decide) (by decide) (by decide) (by decide) (by decide) (by decide) (by decide))
  have x := fun (h l lw : Int32) => (x h l lw).trans (r_lw (by omega) (cm1_352 hc) (by decide) (sa := 16) (t := 9) (i := (-4)) (k := (5632 + ws.length + 1)) (by decide) (by decide) (by decide) (by decide) (by decide) (by decide) a9 (by omega))
  have x := fun (h l lw : Int32) => (x h l lw).trans (r_sll (by omega) (cm1_353 hc) (by decide) (sb := 0) (t := 0) (dd := 0) (by decide) (by decide) (by decide) (by decide) (by decide) (by decide) (by decide))
  have x := fun (h l lw : Int32) => (x h l lw).trans (r_sra (by omega) (cm1_354 hc) (by decide) (sb := 8) (t := 8) (dd := 1) (by decide) (by decide) (by decide) (by decide) (by decide) (by decide) (by decide))
  have x := fun (h l lw : Int32) => (x h l lw).trans (r_sra (by omega) (cm1_355 hc) (by decide) (sb := 9) (t := 9) (dd := 1) (by decide) (by decide) (by decide) (by decide) (by decide) (by decide) (by decide))
  have x := fun (h l lw : Int32) => (x h l lw).trans (r_beqn (by omega) (cm1_356 hc) (by decide) (by decide) (sa := 9) (sb := 0) (by decide) (by decide) (by decide) (by decide) gz )
  have x := fun (h l lw : Int32) => (x h l lw).trans (r_sll (by omega) (cm1_357 hc) (by decide) (sb := 0) (t := 0) (dd := 0) (by decide) (by decide) (by decide) (by decide) (by decide) (by decide) (by decide))
  have x := fun (h l lw : Int32) => (x h l lw).trans (r_div (by omega) (cm1_358 hc) (by decide) (sa := 8) (sb := 9) (by decide) (by decide) (by decide) (by decide) (by decide) (by decide) gz2)
  have x := fun (h l lw : Int32) => (x h l lw).trans (r_mflo (by omega) (cm1_359 hc) (by decide) (t := 10) (by decide) (by decide) (by decide) (by decide))
  have x := fun (h l lw : Int32) => (x h l lw).trans (r_mfhi (by omega) (cm1_360 hc) (by decide) (t := 11) (by decide) (by decide) (by decide) (by decide))
  have x := fun (h l lw : Int32) => (x h l lw).trans (r_beq (by omega) (cm1_361 hc) (by decide) (by decide) (sa := 11) (sb := 0) (by decide) (by decide) (by decide) (by decide) ge  (off := 6) (by decide))
  have x := fun (h l lw : Int32) => (x h l lw).trans (r_sll (by omega) (cm1_362 hc) (by decide) (sb := 0) (t := 0) (dd := 0) (by decide) (by decide) (by decide) (by decide) (by decide) (by decide) (by decide))
  have x := fun (h l lw : Int32) => (x h l lw).trans (r_beq (by omega) (cm1_368 hc) (by decide) (by decide) (sa := 5) (sb := 0) (by decide) (by decide) (by decide) (by decide) (by exact g5)  (off := 2) (by decide))
  have x := fun (h l lw : Int32) => (x h l lw).trans (r_sll (by omega) (cm1_369 hc) (by decide) (sb := 0) (t := 0) (dd := 0) (by decide) (by decide) (by decide) (by decide) (by decide) (by decide) (by decide))
  have x := fun (h l lw : Int32) => (x h l lw).trans (r_sll (by omega) (cm1_371 hc) (by decide) (sb := 10) (t := 10) (dd := 1) (by decide) (by decide) (by decide) (by decide) (by decide) (by decide) (by decide))
  have x := fun (h l lw : Int32) => (x h l lw).trans (r_addiu (by omega) (cm1_372 hc) (by decide) (sa := 10) (t := 10) (i := 1) (by decide) (by decide) (by decide) (by decide) (by decide) (by decide))
  have x := fun (h l lw : Int32) => (x h l lw).trans (r_addiu (by omega) (cm1_373 hc) (by decide) (sa := 16) (t := 16) (i := (-4)) (by decide) (by decide) (by decide) (by decide) (by decide) (by decide))
  have x := fun (h l lw : Int32) => (x h l lw).trans (r_sw (by omega) (cm1_374 hc) (by decide) (sa := 16) (t := 10) (i := (-4)) (k := (5632 + ws.length)) (by decide) (by decide) (by decide) (by decide) (by decide) (by decide) as (by omega))
  have x := fun (h l lw : Int32) => (x h l lw).trans (r_jr (by omega) (cm1_375 (CMl.upd hc (show 5632 + ws.length < 19840 by omega))) (by decide) (A := ret) (sa := 31) (by decide) (by decide) (by decide) (by decide) h31)
  have x := fun (h l lw : Int32) => (x h l lw).trans (r_sll (by omega) (cm1_376 (CMl.upd hc (show 5632 + ws.length < 19840 by omega))) (by decide) (sb := 0) (t := 0) (dd := 0) (by decide) (by decide) (by decide) (by decide) (by decide) (by decide) (by decide))
  simp only [wr0] at x
  have y := RT.mk (N := 40) x (by decide)
  generalize hr7 : (wr _ _ _ : Nat → Int32) = r7 at y
  have e10 : r7 10 = (((sr (m (5632 + ws.length))) / (sr (m (5632 + ws.length + 1)))) <<< ((1 : Int32) &&& 31) + 1) := by subst hr7; rfl
  rw [e10] at y
  have k7 := h.set (r' := r7) (tr' := tr) (v := (((sr (m (5632 + ws.length))) / (sr (m (5632 + ws.length + 1)))) <<< ((1 : Int32) &&& 31) + 1)) (by omega) (by subst hr7; exact a12) (by subst hr7; exact h.2.2.2.2.2.1) (by subst hr7; rfl) (by subst hr7; rfl) (by subst hr7; rfl) (by subst hr7; rfl) (by subst hr7; rfl)
  exact ⟨r7, _, y, k7, fun j hj => pk_un (by omega)⟩
set_option maxHeartbeats 4000000 in
set_option maxRecDepth 100000 in
theorem rt_div1e1 {S0 : xS} {code r m : Nat → Int32} {a v w : Int32} {ws : List Int32} {tr ret : Nat} (hL : CMl LC1 code) (h : RI code a r m ((ws ++ [v]) ++ [w]) tr) (hn : ws.length < 990) (hz : ¬ sr w = 0) (h5 : r 5 = 1) (c1 : ((sr v) - (sr v) / (sr w) * (sr w)) = 0) (h31 : r 31 = nI (4 * ret)) : ∃ r' m', RT S0 40 r m 20190 r' m' ret ∧ RI code a r' m' (ws ++ [((((sr v) - (sr v) / (sr w) * (sr w)) + r 0) <<< ((1 : Int32) &&& 31) + 1)]) tr ∧ ∀ j, j < 5632 → m' j = m j := by
  have h : RI code a r m (ws ++ [v, w]) tr := by rw [List.append_assoc] at h; exact h
  have hc := h.1.lib hL
  have h0 := h.2.1
  have h16 : r 16 = nI (4 * (5632 + ws.length + 2)) := by have := h.2.2.1; rw [List.length_append] at this; exact this
  have a8 : (r 16 + (-8)) >>> ((2 : Int32) &&& 31) = nI (5632 + ws.length) := ad4 h16 (nm4 (x := 5632 + ws.length) (c := 2) (by decide)) (by omega)
  have a9 : (r 16 + (-4)) >>> ((2 : Int32) &&& 31) = nI (5632 + ws.length + 1) := ad4 h16 (nm4 (x := 5632 + ws.length + 1) (c := 1) (by decide)) (by omega)
  have a12 : r 16 + (-4) = nI (4 * (5632 + ws.length + 1)) := by rw [h16]; exact nm4 (x := 5632 + ws.length + 1) (c := 1) (by decide)
  have as : ((r 16 + (-4)) + (-4)) >>> ((2 : Int32) &&& 31) = nI (5632 + ws.length) := ad4 a12 (nm4 (x := 5632 + ws.length) (c := 1) (by decide)) (by omega)
  have v0 : m (5632 + ws.length) = v := h.at
  have v1 : m (5632 + ws.length + 1) = w := by
    have := h.2.2.2.2.2.2.2.2.2.2 (ws.length + 1) w (by rw [List.getElem?_append_right (by omega), show ws.length + 1 - ws.length = 1 from by omega]; rfl)
    rw [← Nat.add_assoc] at this; exact this
  subst v0 v1
  have gz : ¬ sr (m (5632 + ws.length + 1)) = r 0 := fun q => hz (q.trans h0)
  have gz2 : ¬ sr (m (5632 + ws.length + 1)) = 0 := hz
  have ge : ((sr (m (5632 + ws.length))) - (sr (m (5632 + ws.length))) / (sr (m (5632 + ws.length + 1))) * (sr (m (5632 + ws.length + 1)))) = r 0 := by rw [h0]; exact c1
  have g5 : ¬ r 5 = r 0 := by rw [h0, h5]; decide
  have x := fun (h l lw : Int32) => r_lw (S0 := S0) (r := r) (m := m) (p := 20191) (h := h) (l := l) (lt := 0) (lw := lw) (by omega) (cm1_350 hc) (by decide) (sa := 16) (t := 8) (i := (-8)) (k := (5632 + ws.length)) (by decide) (by decide) (by decide) (by decide) (by decide) (by decide) a8 (by omega)
  have x := fun (h l lw : Int32) => (x h l lw).trans (r_sll (by omega) (cm1_351 hc) (by decide) (sb := 0) (t := 0) (dd := 0) (by decide) (by decide) (by decide) (by decide) (by decide) (by decide) (by decide))
  have x := fun (h l lw : Int32) => (x h l lw).trans (r_lw (by omega) (cm1_352 hc) (by decide) (sa := 16) (t := 9) (i := (-4)) (k := (5632 + ws.length + 1)) (by decide) (by decide) (by decide) (by decide) (by decide) (by decide) a9 (by omega))
  have x := fun (h l lw : Int32) => (x h l lw).trans (r_sll (by omega) (cm1_353 hc) (by decide) (sb := 0) (t := 0) (dd := 0) (by decide) (by decide) (by decide) (by decide) (by decide) (by decide) (by decide))
  have x := fun (h l lw : Int32) => (x h l lw).trans (r_sra (by omega) (cm1_354 hc) (by decide) (sb := 8) (t := 8) (dd := 1) (by decide) (by decide) (by decide) (by decide) (by decide) (by decide) (by decide))
  have x := fun (h l lw : Int32) => (x h l lw).trans (r_sra (by omega) (cm1_355 hc) (by decide) (sb := 9) (t := 9) (dd := 1) (by decide) (by decide) (by decide) (by decide) (by decide) (by decide) (by decide))
  have x := fun (h l lw : Int32) => (x h l lw).trans (r_beqn (by omega) (cm1_356 hc) (by decide) (by decide) (sa := 9) (sb := 0) (by decide) (by decide) (by decide) (by decide) gz )
  have x := fun (h l lw : Int32) => (x h l lw).trans (r_sll (by omega) (cm1_357 hc) (by decide) (sb := 0) (t := 0) (dd := 0) (by decide) (by decide) (by decide) (by decide) (by decide) (by decide) (by decide))
  have x := fun (h l lw : Int32) => (x h l lw).trans (r_div (by omega) (cm1_358 hc) (by decide) (sa := 8) (sb := 9) (by decide) (by decide) (by decide) (by decide) (by decide) (by decide) gz2)
  have x := fun (h l lw : Int32) => (x h l lw).trans (r_mflo (by omega) (cm1_359 hc) (by decide) (t := 10) (by decide) (by decide) (by decide) (by decide))
  have x := fun (h l lw : Int32) => (x h l lw).trans (r_mfhi (by omega) (cm1_360 hc) (by decide) (t := 11) (by decide) (by decide) (by decide) (by decide))
  have x := fun (h l lw : Int32) => (x h l lw).trans (r_beq (by omega) (cm1_361 hc) (by decide) (by decide) (sa := 11) (sb := 0) (by decide) (by decide) (by decide) (by decide) ge  (off := 6) (by decide))
  have x := fun (h l lw : Int32) => (x h l lw).trans (r_sll (by omega) (cm1_362 hc) (by decide) (sb := 0) (t := 0) (dd := 0) (by decide) (by decide) (by decide) (by decide) (by decide) (by decide) (by decide))
  have x := fun (h l lw : Int32) => (x h l lw).trans (r_beqn (by omega) (cm1_368 hc) (by decide) (by decide) (sa := 5) (sb := 0) (by decide) (by decide) (by decide) (by decide) (by exact g5) )
  have x := fun (h l lw : Int32) => (x h l lw).trans (r_sll (by omega) (cm1_369 hc) (by decide) (sb := 0) (t := 0) (dd := 0) (by decide) (by decide) (by decide) (by decide) (by decide) (by decide) (by decide))
  have x := fun (h l lw : Int32) => (x h l lw).trans (r_addu (by omega) (cm1_370 hc) (by decide) (sa := 11) (sb := 0) (t := 10) (by decide) (by decide) (by decide) (by decide) (by decide) (by decide) (by decide) (by decide))
  have x := fun (h l lw : Int32) => (x h l lw).trans (r_sll (by omega) (cm1_371 hc) (by decide) (sb := 10) (t := 10) (dd := 1) (by decide) (by decide) (by decide) (by decide) (by decide) (by decide) (by decide))
  have x := fun (h l lw : Int32) => (x h l lw).trans (r_addiu (by omega) (cm1_372 hc) (by decide) (sa := 10) (t := 10) (i := 1) (by decide) (by decide) (by decide) (by decide) (by decide) (by decide))
  have x := fun (h l lw : Int32) => (x h l lw).trans (r_addiu (by omega) (cm1_373 hc) (by decide) (sa := 16) (t := 16) (i := (-4)) (by decide) (by decide) (by decide) (by decide) (by decide) (by decide))
  have x := fun (h l lw : Int32) => (x h l lw).trans (r_sw (by omega) (cm1_374 hc) (by decide) (sa := 16) (t := 10) (i := (-4)) (k := (5632 + ws.length)) (by decide) (by decide) (by decide) (by decide) (by decide) (by decide) as (by omega))
  have x := fun (h l lw : Int32) => (x h l lw).trans (r_jr (by omega) (cm1_375 (CMl.upd hc (show 5632 + ws.length < 19840 by omega))) (by decide) (A := ret) (sa := 31) (by decide) (by decide) (by decide) (by decide) h31)
  have x := fun (h l lw : Int32) => (x h l lw).trans (r_sll (by omega) (cm1_376 (CMl.upd hc (show 5632 + ws.length < 19840 by omega))) (by decide) (sb := 0) (t := 0) (dd := 0) (by decide) (by decide) (by decide) (by decide) (by decide) (by decide) (by decide))
  simp only [wr0] at x
  have y := RT.mk (N := 40) x (by decide)
  generalize hr7 : (wr _ _ _ : Nat → Int32) = r7 at y
  have e10 : r7 10 = ((((sr (m (5632 + ws.length))) - (sr (m (5632 + ws.length))) / (sr (m (5632 + ws.length + 1))) * (sr (m (5632 + ws.length + 1)))) + r 0) <<< ((1 : Int32) &&& 31) + 1) := by subst hr7; rfl
  rw [e10] at y
  have k7 := h.set (r' := r7) (tr' := tr) (v := ((((sr (m (5632 + ws.length))) - (sr (m (5632 + ws.length))) / (sr (m (5632 + ws.length + 1))) * (sr (m (5632 + ws.length + 1)))) + r 0) <<< ((1 : Int32) &&& 31) + 1)) (by omega) (by subst hr7; exact a12) (by subst hr7; exact h.2.2.2.2.2.1) (by subst hr7; rfl) (by subst hr7; rfl) (by subst hr7; rfl) (by subst hr7; rfl) (by subst hr7; rfl)
  exact ⟨r7, _, y, k7, fun j hj => pk_un (by omega)⟩
set_option maxHeartbeats 4000000 in
set_option maxRecDepth 100000 in
theorem rt_div1s0 {S0 : xS} {code r m : Nat → Int32} {a v w : Int32} {ws : List Int32} {tr ret : Nat} (hL : CMl LC1 code) (h : RI code a r m ((ws ++ [v]) ++ [w]) tr) (hn : ws.length < 990) (hz : ¬ sr w = 0) (h5 : r 5 = 0) (c1 : ¬ ((sr v) - (sr v) / (sr w) * (sr w)) = 0) (c2 : 0 ≤ ((sr v) - (sr v) / (sr w) * (sr w)) ^^^ (sr w)) (h31 : r 31 = nI (4 * ret)) : ∃ r' m', RT S0 40 r m 20190 r' m' ret ∧ RI code a r' m' (ws ++ [(((sr v) / (sr w)) <<< ((1 : Int32) &&& 31) + 1)]) tr ∧ ∀ j, j < 5632 → m' j = m j := by
  have h : RI code a r m (ws ++ [v, w]) tr := by rw [List.append_assoc] at h; exact h
  have hc := h.1.lib hL
  have h0 := h.2.1
  have h16 : r 16 = nI (4 * (5632 + ws.length + 2)) := by have := h.2.2.1; rw [List.length_append] at this; exact this
  have a8 : (r 16 + (-8)) >>> ((2 : Int32) &&& 31) = nI (5632 + ws.length) := ad4 h16 (nm4 (x := 5632 + ws.length) (c := 2) (by decide)) (by omega)
  have a9 : (r 16 + (-4)) >>> ((2 : Int32) &&& 31) = nI (5632 + ws.length + 1) := ad4 h16 (nm4 (x := 5632 + ws.length + 1) (c := 1) (by decide)) (by omega)
  have a12 : r 16 + (-4) = nI (4 * (5632 + ws.length + 1)) := by rw [h16]; exact nm4 (x := 5632 + ws.length + 1) (c := 1) (by decide)
  have as : ((r 16 + (-4)) + (-4)) >>> ((2 : Int32) &&& 31) = nI (5632 + ws.length) := ad4 a12 (nm4 (x := 5632 + ws.length) (c := 1) (by decide)) (by omega)
  have v0 : m (5632 + ws.length) = v := h.at
  have v1 : m (5632 + ws.length + 1) = w := by
    have := h.2.2.2.2.2.2.2.2.2.2 (ws.length + 1) w (by rw [List.getElem?_append_right (by omega), show ws.length + 1 - ws.length = 1 from by omega]; rfl)
    rw [← Nat.add_assoc] at this; exact this
  subst v0 v1
  have gz : ¬ sr (m (5632 + ws.length + 1)) = r 0 := fun q => hz (q.trans h0)
  have gz2 : ¬ sr (m (5632 + ws.length + 1)) = 0 := hz
  have ge : ¬ ((sr (m (5632 + ws.length))) - (sr (m (5632 + ws.length))) / (sr (m (5632 + ws.length + 1))) * (sr (m (5632 + ws.length + 1)))) = r 0 := by rw [h0]; exact c1
  have g5 : r 5 = r 0 := by rw [h0, h5]
  have gs := c2
  have x := fun (h l lw : Int32) => r_lw (S0 := S0) (r := r) (m := m) (p := 20191) (h := h) (l := l) (lt := 0) (lw := lw) (by omega) (cm1_350 hc) (by decide) (sa := 16) (t := 8) (i := (-8)) (k := (5632 + ws.length)) (by decide) (by decide) (by decide) (by decide) (by decide) (by decide) a8 (by omega)
  have x := fun (h l lw : Int32) => (x h l lw).trans (r_sll (by omega) (cm1_351 hc) (by decide) (sb := 0) (t := 0) (dd := 0) (by decide) (by decide) (by decide) (by decide) (by decide) (by decide) (by decide))
  have x := fun (h l lw : Int32) => (x h l lw).trans (r_lw (by omega) (cm1_352 hc) (by decide) (sa := 16) (t := 9) (i := (-4)) (k := (5632 + ws.length + 1)) (by decide) (by decide) (by decide) (by decide) (by decide) (by decide) a9 (by omega))
  have x := fun (h l lw : Int32) => (x h l lw).trans (r_sll (by omega) (cm1_353 hc) (by decide) (sb := 0) (t := 0) (dd := 0) (by decide) (by decide) (by decide) (by decide) (by decide) (by decide) (by decide))
  have x := fun (h l lw : Int32) => (x h l lw).trans (r_sra (by omega) (cm1_354 hc) (by decide) (sb := 8) (t := 8) (dd := 1) (by decide) (by decide) (by decide) (by decide) (by decide) (by decide) (by decide))
  have x := fun (h l lw : Int32) => (x h l lw).trans (r_sra (by omega) (cm1_355 hc) (by decide) (sb := 9) (t := 9) (dd := 1) (by decide) (by decide) (by decide) (by decide) (by decide) (by decide) (by decide))
  have x := fun (h l lw : Int32) => (x h l lw).trans (r_beqn (by omega) (cm1_356 hc) (by decide) (by decide) (sa := 9) (sb := 0) (by decide) (by decide) (by decide) (by decide) gz )
  have x := fun (h l lw : Int32) => (x h l lw).trans (r_sll (by omega) (cm1_357 hc) (by decide) (sb := 0) (t := 0) (dd := 0) (by decide) (by decide) (by decide) (by decide) (by decide) (by decide) (by decide))
  have x := fun (h l lw : Int32) => (x h l lw).trans (r_div (by omega) (cm1_358 hc) (by decide) (sa := 8) (sb := 9) (by decide) (by decide) (by decide) (by decide) (by decide) (by decide) gz2)
  have x := fun (h l lw : Int32) => (x h l lw).trans (r_mflo (by omega) (cm1_359 hc) (by decide) (t := 10) (by decide) (by decide) (by decide) (by decide))
  have x := fun (h l lw : Int32) => (x h l lw).trans (r_mfhi (by omega) (cm1_360 hc) (by decide) (t := 11) (by decide) (by decide) (by decide) (by decide))
  have x := fun (h l lw : Int32) => (x h l lw).trans (r_beqn (by omega) (cm1_361 hc) (by decide) (by decide) (sa := 11) (sb := 0) (by decide) (by decide) (by decide) (by decide) ge )
  have x := fun (h l lw : Int32) => (x h l lw).trans (r_sll (by omega) (cm1_362 hc) (by decide) (sb := 0) (t := 0) (dd := 0) (by decide) (by decide) (by decide) (by decide) (by decide) (by decide) (by decide))
  have x := fun (h l lw : Int32) => (x h l lw).trans (r_xor (by omega) (cm1_363 hc) (by decide) (sa := 11) (sb := 9) (t := 12) (by decide) (by decide) (by decide) (by decide) (by decide) (by decide) (by decide) (by decide))
  have x := fun (h l lw : Int32) => (x h l lw).trans (r_bgez (by omega) (cm1_364 hc) (by decide) (by decide) (sa := 12) (by decide) (by decide) (by decide) gs (off := 3) (by decide))
  have x := fun (h l lw : Int32) => (x h l lw).trans (r_sll (by omega) (cm1_365 hc) (by decide) (sb := 0) (t := 0) (dd := 0) (by decide) (by decide) (by decide) (by decide) (by decide) (by decide) (by decide))
  have x := fun (h l lw : Int32) => (x h l lw).trans (r_beq (by omega) (cm1_368 hc) (by decide) (by decide) (sa := 5) (sb := 0) (by decide) (by decide) (by decide) (by decide) (by exact g5)  (off := 2) (by decide))
  have x := fun (h l lw : Int32) => (x h l lw).trans (r_sll (by omega) (cm1_369 hc) (by decide) (sb := 0) (t := 0) (dd := 0) (by decide) (by decide) (by decide) (by decide) (by decide) (by decide) (by decide))
  have x := fun (h l lw : Int32) => (x h l lw).trans (r_sll (by omega) (cm1_371 hc) (by decide) (sb := 10) (t := 10) (dd := 1) (by decide) (by decide) (by decide) (by decide) (by decide) (by decide) (by decide))
  have x := fun (h l lw : Int32) => (x h l lw).trans (r_addiu (by omega) (cm1_372 hc) (by decide) (sa := 10) (t := 10) (i := 1) (by decide) (by decide) (by decide) (by decide) (by decide) (by decide))
  have x := fun (h l lw : Int32) => (x h l lw).trans (r_addiu (by omega) (cm1_373 hc) (by decide) (sa := 16) (t := 16) (i := (-4)) (by decide) (by decide) (by decide) (by decide) (by decide) (by decide))
  have x := fun (h l lw : Int32) => (x h l lw).trans (r_sw (by omega) (cm1_374 hc) (by decide) (sa := 16) (t := 10) (i := (-4)) (k := (5632 + ws.length)) (by decide) (by decide) (by decide) (by decide) (by decide) (by decide) as (by omega))
  have x := fun (h l lw : Int32) => (x h l lw).trans (r_jr (by omega) (cm1_375 (CMl.upd hc (show 5632 + ws.length < 19840 by omega))) (by decide) (A := ret) (sa := 31) (by decide) (by decide) (by decide) (by decide) h31)
  have x := fun (h l lw : Int32) => (x h l lw).trans (r_sll (by omega) (cm1_376 (CMl.upd hc (show 5632 + ws.length < 19840 by omega))) (by decide) (sb := 0) (t := 0) (dd := 0) (by decide) (by decide) (by decide) (by decide) (by decide) (by decide) (by decide))
  simp only [wr0] at x
  have y := RT.mk (N := 40) x (by decide)
  generalize hr7 : (wr _ _ _ : Nat → Int32) = r7 at y
  have e10 : r7 10 = (((sr (m (5632 + ws.length))) / (sr (m (5632 + ws.length + 1)))) <<< ((1 : Int32) &&& 31) + 1) := by subst hr7; rfl
  rw [e10] at y
  have k7 := h.set (r' := r7) (tr' := tr) (v := (((sr (m (5632 + ws.length))) / (sr (m (5632 + ws.length + 1)))) <<< ((1 : Int32) &&& 31) + 1)) (by omega) (by subst hr7; exact a12) (by subst hr7; exact h.2.2.2.2.2.1) (by subst hr7; rfl) (by subst hr7; rfl) (by subst hr7; rfl) (by subst hr7; rfl) (by subst hr7; rfl)
  exact ⟨r7, _, y, k7, fun j hj => pk_un (by omega)⟩
set_option maxHeartbeats 4000000 in
set_option maxRecDepth 100000 in
theorem rt_div1s1 {S0 : xS} {code r m : Nat → Int32} {a v w : Int32} {ws : List Int32} {tr ret : Nat} (hL : CMl LC1 code) (h : RI code a r m ((ws ++ [v]) ++ [w]) tr) (hn : ws.length < 990) (hz : ¬ sr w = 0) (h5 : r 5 = 1) (c1 : ¬ ((sr v) - (sr v) / (sr w) * (sr w)) = 0) (c2 : 0 ≤ ((sr v) - (sr v) / (sr w) * (sr w)) ^^^ (sr w)) (h31 : r 31 = nI (4 * ret)) : ∃ r' m', RT S0 40 r m 20190 r' m' ret ∧ RI code a r' m' (ws ++ [((((sr v) - (sr v) / (sr w) * (sr w)) + r 0) <<< ((1 : Int32) &&& 31) + 1)]) tr ∧ ∀ j, j < 5632 → m' j = m j := by
  have h : RI code a r m (ws ++ [v, w]) tr := by rw [List.append_assoc] at h; exact h
  have hc := h.1.lib hL
  have h0 := h.2.1
  have h16 : r 16 = nI (4 * (5632 + ws.length + 2)) := by have := h.2.2.1; rw [List.length_append] at this; exact this
  have a8 : (r 16 + (-8)) >>> ((2 : Int32) &&& 31) = nI (5632 + ws.length) := ad4 h16 (nm4 (x := 5632 + ws.length) (c := 2) (by decide)) (by omega)
  have a9 : (r 16 + (-4)) >>> ((2 : Int32) &&& 31) = nI (5632 + ws.length + 1) := ad4 h16 (nm4 (x := 5632 + ws.length + 1) (c := 1) (by decide)) (by omega)
  have a12 : r 16 + (-4) = nI (4 * (5632 + ws.length + 1)) := by rw [h16]; exact nm4 (x := 5632 + ws.length + 1) (c := 1) (by decide)
  have as : ((r 16 + (-4)) + (-4)) >>> ((2 : Int32) &&& 31) = nI (5632 + ws.length) := ad4 a12 (nm4 (x := 5632 + ws.length) (c := 1) (by decide)) (by omega)
  have v0 : m (5632 + ws.length) = v := h.at
  have v1 : m (5632 + ws.length + 1) = w := by
    have := h.2.2.2.2.2.2.2.2.2.2 (ws.length + 1) w (by rw [List.getElem?_append_right (by omega), show ws.length + 1 - ws.length = 1 from by omega]; rfl)
    rw [← Nat.add_assoc] at this; exact this
  subst v0 v1
  have gz : ¬ sr (m (5632 + ws.length + 1)) = r 0 := fun q => hz (q.trans h0)
  have gz2 : ¬ sr (m (5632 + ws.length + 1)) = 0 := hz
  have ge : ¬ ((sr (m (5632 + ws.length))) - (sr (m (5632 + ws.length))) / (sr (m (5632 + ws.length + 1))) * (sr (m (5632 + ws.length + 1)))) = r 0 := by rw [h0]; exact c1
  have g5 : ¬ r 5 = r 0 := by rw [h0, h5]; decide
  have gs := c2
  have x := fun (h l lw : Int32) => r_lw (S0 := S0) (r := r) (m := m) (p := 20191) (h := h) (l := l) (lt := 0) (lw := lw) (by omega) (cm1_350 hc) (by decide) (sa := 16) (t := 8) (i := (-8)) (k := (5632 + ws.length)) (by decide) (by decide) (by decide) (by decide) (by decide) (by decide) a8 (by omega)
  have x := fun (h l lw : Int32) => (x h l lw).trans (r_sll (by omega) (cm1_351 hc) (by decide) (sb := 0) (t := 0) (dd := 0) (by decide) (by decide) (by decide) (by decide) (by decide) (by decide) (by decide))
  have x := fun (h l lw : Int32) => (x h l lw).trans (r_lw (by omega) (cm1_352 hc) (by decide) (sa := 16) (t := 9) (i := (-4)) (k := (5632 + ws.length + 1)) (by decide) (by decide) (by decide) (by decide) (by decide) (by decide) a9 (by omega))
  have x := fun (h l lw : Int32) => (x h l lw).trans (r_sll (by omega) (cm1_353 hc) (by decide) (sb := 0) (t := 0) (dd := 0) (by decide) (by decide) (by decide) (by decide) (by decide) (by decide) (by decide))
  have x := fun (h l lw : Int32) => (x h l lw).trans (r_sra (by omega) (cm1_354 hc) (by decide) (sb := 8) (t := 8) (dd := 1) (by decide) (by decide) (by decide) (by decide) (by decide) (by decide) (by decide))
  have x := fun (h l lw : Int32) => (x h l lw).trans (r_sra (by omega) (cm1_355 hc) (by decide) (sb := 9) (t := 9) (dd := 1) (by decide) (by decide) (by decide) (by decide) (by decide) (by decide) (by decide))
  have x := fun (h l lw : Int32) => (x h l lw).trans (r_beqn (by omega) (cm1_356 hc) (by decide) (by decide) (sa := 9) (sb := 0) (by decide) (by decide) (by decide) (by decide) gz )
  have x := fun (h l lw : Int32) => (x h l lw).trans (r_sll (by omega) (cm1_357 hc) (by decide) (sb := 0) (t := 0) (dd := 0) (by decide) (by decide) (by decide) (by decide) (by decide) (by decide) (by decide))
  have x := fun (h l lw : Int32) => (x h l lw).trans (r_div (by omega) (cm1_358 hc) (by decide) (sa := 8) (sb := 9) (by decide) (by decide) (by decide) (by decide) (by decide) (by decide) gz2)
  have x := fun (h l lw : Int32) => (x h l lw).trans (r_mflo (by omega) (cm1_359 hc) (by decide) (t := 10) (by decide) (by decide) (by decide) (by decide))
  have x := fun (h l lw : Int32) => (x h l lw).trans (r_mfhi (by omega) (cm1_360 hc) (by decide) (t := 11) (by decide) (by decide) (by decide) (by decide))
  have x := fun (h l lw : Int32) => (x h l lw).trans (r_beqn (by omega) (cm1_361 hc) (by decide) (by decide) (sa := 11) (sb := 0) (by decide) (by decide) (by decide) (by decide) ge )
  have x := fun (h l lw : Int32) => (x h l lw).trans (r_sll (by omega) (cm1_362 hc) (by decide) (sb := 0) (t := 0) (dd := 0) (by decide) (by decide) (by decide) (by decide) (by decide) (by decide) (by decide))
  have x := fun (h l lw : Int32) => (x h l lw).trans (r_xor (by omega) (cm1_363 hc) (by decide) (sa := 11) (sb := 9) (t := 12) (by decide) (by decide) (by decide) (by decide) (by decide) (by decide) (by decide) (by decide))
  have x := fun (h l lw : Int32) => (x h l lw).trans (r_bgez (by omega) (cm1_364 hc) (by decide) (by decide) (sa := 12) (by decide) (by decide) (by decide) gs (off := 3) (by decide))
  have x := fun (h l lw : Int32) => (x h l lw).trans (r_sll (by omega) (cm1_365 hc) (by decide) (sb := 0) (t := 0) (dd := 0) (by decide) (by decide) (by decide) (by decide) (by decide) (by decide) (by decide))
  have x := fun (h l lw : Int32) => (x h l lw).trans (r_beqn (by omega) (cm1_368 hc) (by decide) (by decide) (sa := 5) (sb := 0) (by decide) (by decide) (by decide) (by decide) (by exact g5) )
  have x := fun (h l lw : Int32) => (x h l lw).trans (r_sll (by omega) (cm1_369 hc) (by decide) (sb := 0) (t := 0) (dd := 0) (by decide) (by decide) (by decide) (by decide) (by decide) (by decide) (by decide))
  have x := fun (h l lw : Int32) => (x h l lw).trans (r_addu (by omega) (cm1_370 hc) (by decide) (sa := 11) (sb := 0) (t := 10) (by decide) (by decide) (by decide) (by decide) (by decide) (by decide) (by decide) (by decide))
  have x := fun (h l lw : Int32) => (x h l lw).trans (r_sll (by omega) (cm1_371 hc) (by decide) (sb := 10) (t := 10) (dd := 1) (by decide) (by decide) (by decide) (by decide) (by decide) (by decide) (by decide))
  have x := fun (h l lw : Int32) => (x h l lw).trans (r_addiu (by omega) (cm1_372 hc) (by decide) (sa := 10) (t := 10) (i := 1) (by decide) (by decide) (by decide) (by decide) (by decide) (by decide))
  have x := fun (h l lw : Int32) => (x h l lw).trans (r_addiu (by omega) (cm1_373 hc) (by decide) (sa := 16) (t := 16) (i := (-4)) (by decide) (by decide) (by decide) (by decide) (by decide) (by decide))
  have x := fun (h l lw : Int32) => (x h l lw).trans (r_sw (by omega) (cm1_374 hc) (by decide) (sa := 16) (t := 10) (i := (-4)) (k := (5632 + ws.length)) (by decide) (by decide) (by decide) (by decide) (by decide) (by decide) as (by omega))
  have x := fun (h l lw : Int32) => (x h l lw).trans (r_jr (by omega) (cm1_375 (CMl.upd hc (show 5632 + ws.length < 19840 by omega))) (by decide) (A := ret) (sa := 31) (by decide) (by decide) (by decide) (by decide) h31)
  have x := fun (h l lw : Int32) => (x h l lw).trans (r_sll (by omega) (cm1_376 (CMl.upd hc (show 5632 + ws.length < 19840 by omega))) (by decide) (sb := 0) (t := 0) (dd := 0) (by decide) (by decide) (by decide) (by decide) (by decide) (by decide) (by decide))
  simp only [wr0] at x
  have y := RT.mk (N := 40) x (by decide)
  generalize hr7 : (wr _ _ _ : Nat → Int32) = r7 at y
  have e10 : r7 10 = ((((sr (m (5632 + ws.length))) - (sr (m (5632 + ws.length))) / (sr (m (5632 + ws.length + 1))) * (sr (m (5632 + ws.length + 1)))) + r 0) <<< ((1 : Int32) &&& 31) + 1) := by subst hr7; rfl
  rw [e10] at y
  have k7 := h.set (r' := r7) (tr' := tr) (v := ((((sr (m (5632 + ws.length))) - (sr (m (5632 + ws.length))) / (sr (m (5632 + ws.length + 1))) * (sr (m (5632 + ws.length + 1)))) + r 0) <<< ((1 : Int32) &&& 31) + 1)) (by omega) (by subst hr7; exact a12) (by subst hr7; exact h.2.2.2.2.2.1) (by subst hr7; rfl) (by subst hr7; rfl) (by subst hr7; rfl) (by subst hr7; rfl) (by subst hr7; rfl)
  exact ⟨r7, _, y, k7, fun j hj => pk_un (by omega)⟩
set_option maxHeartbeats 4000000 in
set_option maxRecDepth 100000 in
theorem rt_div1n0 {S0 : xS} {code r m : Nat → Int32} {a v w : Int32} {ws : List Int32} {tr ret : Nat} (hL : CMl LC1 code) (h : RI code a r m ((ws ++ [v]) ++ [w]) tr) (hn : ws.length < 990) (hz : ¬ sr w = 0) (h5 : r 5 = 0) (c1 : ¬ ((sr v) - (sr v) / (sr w) * (sr w)) = 0) (c2 : ¬ 0 ≤ ((sr v) - (sr v) / (sr w) * (sr w)) ^^^ (sr w)) (h31 : r 31 = nI (4 * ret)) : ∃ r' m', RT S0 40 r m 20190 r' m' ret ∧ RI code a r' m' (ws ++ [(((sr v) / (sr w) + (-1)) <<< ((1 : Int32) &&& 31) + 1)]) tr ∧ ∀ j, j < 5632 → m' j = m j := by
  have h : RI code a r m (ws ++ [v, w]) tr := by rw [List.append_assoc] at h; exact h
  have hc := h.1.lib hL
  have h0 := h.2.1
  have h16 : r 16 = nI (4 * (5632 + ws.length + 2)) := by have := h.2.2.1; rw [List.length_append] at this; exact this
  have a8 : (r 16 + (-8)) >>> ((2 : Int32) &&& 31) = nI (5632 + ws.length) := ad4 h16 (nm4 (x := 5632 + ws.length) (c := 2) (by decide)) (by omega)
  have a9 : (r 16 + (-4)) >>> ((2 : Int32) &&& 31) = nI (5632 + ws.length + 1) := ad4 h16 (nm4 (x := 5632 + ws.length + 1) (c := 1) (by decide)) (by omega)
  have a12 : r 16 + (-4) = nI (4 * (5632 + ws.length + 1)) := by rw [h16]; exact nm4 (x := 5632 + ws.length + 1) (c := 1) (by decide)
  have as : ((r 16 + (-4)) + (-4)) >>> ((2 : Int32) &&& 31) = nI (5632 + ws.length) := ad4 a12 (nm4 (x := 5632 + ws.length) (c := 1) (by decide)) (by omega)
  have v0 : m (5632 + ws.length) = v := h.at
  have v1 : m (5632 + ws.length + 1) = w := by
    have := h.2.2.2.2.2.2.2.2.2.2 (ws.length + 1) w (by rw [List.getElem?_append_right (by omega), show ws.length + 1 - ws.length = 1 from by omega]; rfl)
    rw [← Nat.add_assoc] at this; exact this
  subst v0 v1
  have gz : ¬ sr (m (5632 + ws.length + 1)) = r 0 := fun q => hz (q.trans h0)
  have gz2 : ¬ sr (m (5632 + ws.length + 1)) = 0 := hz
  have ge : ¬ ((sr (m (5632 + ws.length))) - (sr (m (5632 + ws.length))) / (sr (m (5632 + ws.length + 1))) * (sr (m (5632 + ws.length + 1)))) = r 0 := by rw [h0]; exact c1
  have g5 : r 5 = r 0 := by rw [h0, h5]
  have gs := c2
  have x := fun (h l lw : Int32) => r_lw (S0 := S0) (r := r) (m := m) (p := 20191) (h := h) (l := l) (lt := 0) (lw := lw) (by omega) (cm1_350 hc) (by decide) (sa := 16) (t := 8) (i := (-8)) (k := (5632 + ws.length)) (by decide) (by decide) (by decide) (by decide) (by decide) (by decide) a8 (by omega)
  have x := fun (h l lw : Int32) => (x h l lw).trans (r_sll (by omega) (cm1_351 hc) (by decide) (sb := 0) (t := 0) (dd := 0) (by decide) (by decide) (by decide) (by decide) (by decide) (by decide) (by decide))
  have x := fun (h l lw : Int32) => (x h l lw).trans (r_lw (by omega) (cm1_352 hc) (by decide) (sa := 16) (t := 9) (i := (-4)) (k := (5632 + ws.length + 1)) (by decide) (by decide) (by decide) (by decide) (by decide) (by decide) a9 (by omega))
  have x := fun (h l lw : Int32) => (x h l lw).trans (r_sll (by omega) (cm1_353 hc) (by decide) (sb := 0) (t := 0) (dd := 0) (by decide) (by decide) (by decide) (by decide) (by decide) (by decide) (by decide))
  have x := fun (h l lw : Int32) => (x h l lw).trans (r_sra (by omega) (cm1_354 hc) (by decide) (sb := 8) (t := 8) (dd := 1) (by decide) (by decide) (by decide) (by decide) (by decide) (by decide) (by decide))
  have x := fun (h l lw : Int32) => (x h l lw).trans (r_sra (by omega) (cm1_355 hc) (by decide) (sb := 9) (t := 9) (dd := 1) (by decide) (by decide) (by decide) (by decide) (by decide) (by decide) (by decide))
  have x := fun (h l lw : Int32) => (x h l lw).trans (r_beqn (by omega) (cm1_356 hc) (by decide) (by decide) (sa := 9) (sb := 0) (by decide) (by decide) (by decide) (by decide) gz )
  have x := fun (h l lw : Int32) => (x h l lw).trans (r_sll (by omega) (cm1_357 hc) (by decide) (sb := 0) (t := 0) (dd := 0) (by decide) (by decide) (by decide) (by decide) (by decide) (by decide) (by decide))
  have x := fun (h l lw : Int32) => (x h l lw).trans (r_div (by omega) (cm1_358 hc) (by decide) (sa := 8) (sb := 9) (by decide) (by decide) (by decide) (by decide) (by decide) (by decide) gz2)
  have x := fun (h l lw : Int32) => (x h l lw).trans (r_mflo (by omega) (cm1_359 hc) (by decide) (t := 10) (by decide) (by decide) (by decide) (by decide))
  have x := fun (h l lw : Int32) => (x h l lw).trans (r_mfhi (by omega) (cm1_360 hc) (by decide) (t := 11) (by decide) (by decide) (by decide) (by decide))
  have x := fun (h l lw : Int32) => (x h l lw).trans (r_beqn (by omega) (cm1_361 hc) (by decide) (by decide) (sa := 11) (sb := 0) (by decide) (by decide) (by decide) (by decide) ge )
  have x := fun (h l lw : Int32) => (x h l lw).trans (r_sll (by omega) (cm1_362 hc) (by decide) (sb := 0) (t := 0) (dd := 0) (by decide) (by decide) (by decide) (by decide) (by decide) (by decide) (by decide))
  have x := fun (h l lw : Int32) => (x h l lw).trans (r_xor (by omega) (cm1_363 hc) (by decide) (sa := 11) (sb := 9) (t := 12) (by decide) (by decide) (by decide) (by decide) (by decide) (by decide) (by decide) (by decide))
  have x := fun (h l lw : Int32) => (x h l lw).trans (r_bgezn (by omega) (cm1_364 hc) (by decide) (by decide) (sa := 12) (by decide) (by decide) (by decide) gs)
  have x := fun (h l lw : Int32) => (x h l lw).trans (r_sll (by omega) (cm1_365 hc) (by decide) (sb := 0) (t := 0) (dd := 0) (by decide) (by decide) (by decide) (by decide) (by decide) (by decide) (by decide))
  have x := fun (h l lw : Int32) => (x h l lw).trans (r_addiu (by omega) (cm1_366 hc) (by decide) (sa := 10) (t := 10) (i := (-1)) (by decide) (by decide) (by decide) (by decide) (by decide) (by decide))
  have x := fun (h l lw : Int32) => (x h l lw).trans (r_addu (by omega) (cm1_367 hc) (by decide) (sa := 11) (sb := 9) (t := 11) (by decide) (by decide) (by decide) (by decide) (by decide) (by decide) (by decide) (by decide))
  have x := fun (h l lw : Int32) => (x h l lw).trans (r_beq (by omega) (cm1_368 hc) (by decide) (by decide) (sa := 5) (sb := 0) (by decide) (by decide) (by decide) (by decide) (by exact g5)  (off := 2) (by decide))
  have x := fun (h l lw : Int32) => (x h l lw).trans (r_sll (by omega) (cm1_369 hc) (by decide) (sb := 0) (t := 0) (dd := 0) (by decide) (by decide) (by decide) (by decide) (by decide) (by decide) (by decide))
  have x := fun (h l lw : Int32) => (x h l lw).trans (r_sll (by omega) (cm1_371 hc) (by decide) (sb := 10) (t := 10) (dd := 1) (by decide) (by decide) (by decide) (by decide) (by decide) (by decide) (by decide))
  have x := fun (h l lw : Int32) => (x h l lw).trans (r_addiu (by omega) (cm1_372 hc) (by decide) (sa := 10) (t := 10) (i := 1) (by decide) (by decide) (by decide) (by decide) (by decide) (by decide))
  have x := fun (h l lw : Int32) => (x h l lw).trans (r_addiu (by omega) (cm1_373 hc) (by decide) (sa := 16) (t := 16) (i := (-4)) (by decide) (by decide) (by decide) (by decide) (by decide) (by decide))
  have x := fun (h l lw : Int32) => (x h l lw).trans (r_sw (by omega) (cm1_374 hc) (by decide) (sa := 16) (t := 10) (i := (-4)) (k := (5632 + ws.length)) (by decide) (by decide) (by decide) (by decide) (by decide) (by decide) as (by omega))
  have x := fun (h l lw : Int32) => (x h l lw).trans (r_jr (by omega) (cm1_375 (CMl.upd hc (show 5632 + ws.length < 19840 by omega))) (by decide) (A := ret) (sa := 31) (by decide) (by decide) (by decide) (by decide) h31)
  have x := fun (h l lw : Int32) => (x h l lw).trans (r_sll (by omega) (cm1_376 (CMl.upd hc (show 5632 + ws.length < 19840 by omega))) (by decide) (sb := 0) (t := 0) (dd := 0) (by decide) (by decide) (by decide) (by decide) (by decide) (by decide) (by decide))
  simp only [wr0] at x
  have y := RT.mk (N := 40) x (by decide)
  generalize hr7 : (wr _ _ _ : Nat → Int32) = r7 at y
  have e10 : r7 10 = (((sr (m (5632 + ws.length))) / (sr (m (5632 + ws.length + 1))) + (-1)) <<< ((1 : Int32) &&& 31) + 1) := by subst hr7; rfl
  rw [e10] at y
  have k7 := h.set (r' := r7) (tr' := tr) (v := (((sr (m (5632 + ws.length))) / (sr (m (5632 + ws.length + 1))) + (-1)) <<< ((1 : Int32) &&& 31) + 1)) (by omega) (by subst hr7; exact a12) (by subst hr7; exact h.2.2.2.2.2.1) (by subst hr7; rfl) (by subst hr7; rfl) (by subst hr7; rfl) (by subst hr7; rfl) (by subst hr7; rfl)
  exact ⟨r7, _, y, k7, fun j hj => pk_un (by omega)⟩
set_option maxHeartbeats 4000000 in
set_option maxRecDepth 100000 in
theorem rt_div1n1 {S0 : xS} {code r m : Nat → Int32} {a v w : Int32} {ws : List Int32} {tr ret : Nat} (hL : CMl LC1 code) (h : RI code a r m ((ws ++ [v]) ++ [w]) tr) (hn : ws.length < 990) (hz : ¬ sr w = 0) (h5 : r 5 = 1) (c1 : ¬ ((sr v) - (sr v) / (sr w) * (sr w)) = 0) (c2 : ¬ 0 ≤ ((sr v) - (sr v) / (sr w) * (sr w)) ^^^ (sr w)) (h31 : r 31 = nI (4 * ret)) : ∃ r' m', RT S0 40 r m 20190 r' m' ret ∧ RI code a r' m' (ws ++ [(((((sr v) - (sr v) / (sr w) * (sr w)) + (sr w)) + r 0) <<< ((1 : Int32) &&& 31) + 1)]) tr ∧ ∀ j, j < 5632 → m' j = m j := by
  have h : RI code a r m (ws ++ [v, w]) tr := by rw [List.append_assoc] at h; exact h
  have hc := h.1.lib hL
  have h0 := h.2.1
  have h16 : r 16 = nI (4 * (5632 + ws.length + 2)) := by have := h.2.2.1; rw [List.length_append] at this; exact this
  have a8 : (r 16 + (-8)) >>> ((2 : Int32) &&& 31) = nI (5632 + ws.length) := ad4 h16 (nm4 (x := 5632 + ws.length) (c := 2) (by decide)) (by omega)
  have a9 : (r 16 + (-4)) >>> ((2 : Int32) &&& 31) = nI (5632 + ws.length + 1) := ad4 h16 (nm4 (x := 5632 + ws.length + 1) (c := 1) (by decide)) (by omega)
  have a12 : r 16 + (-4) = nI (4 * (5632 + ws.length + 1)) := by rw [h16]; exact nm4 (x := 5632 + ws.length + 1) (c := 1) (by decide)
  have as : ((r 16 + (-4)) + (-4)) >>> ((2 : Int32) &&& 31) = nI (5632 + ws.length) := ad4 a12 (nm4 (x := 5632 + ws.length) (c := 1) (by decide)) (by omega)
  have v0 : m (5632 + ws.length) = v := h.at
  have v1 : m (5632 + ws.length + 1) = w := by
    have := h.2.2.2.2.2.2.2.2.2.2 (ws.length + 1) w (by rw [List.getElem?_append_right (by omega), show ws.length + 1 - ws.length = 1 from by omega]; rfl)
    rw [← Nat.add_assoc] at this; exact this
  subst v0 v1
  have gz : ¬ sr (m (5632 + ws.length + 1)) = r 0 := fun q => hz (q.trans h0)
  have gz2 : ¬ sr (m (5632 + ws.length + 1)) = 0 := hz
  have ge : ¬ ((sr (m (5632 + ws.length))) - (sr (m (5632 + ws.length))) / (sr (m (5632 + ws.length + 1))) * (sr (m (5632 + ws.length + 1)))) = r 0 := by rw [h0]; exact c1
  have g5 : ¬ r 5 = r 0 := by rw [h0, h5]; decide
  have gs := c2
  have x := fun (h l lw : Int32) => r_lw (S0 := S0) (r := r) (m := m) (p := 20191) (h := h) (l := l) (lt := 0) (lw := lw) (by omega) (cm1_350 hc) (by decide) (sa := 16) (t := 8) (i := (-8)) (k := (5632 + ws.length)) (by decide) (by decide) (by decide) (by decide) (by decide) (by decide) a8 (by omega)
  have x := fun (h l lw : Int32) => (x h l lw).trans (r_sll (by omega) (cm1_351 hc) (by decide) (sb := 0) (t := 0) (dd := 0) (by decide) (by decide) (by decide) (by decide) (by decide) (by decide) (by decide))
  have x := fun (h l lw : Int32) => (x h l lw).trans (r_lw (by omega) (cm1_352 hc) (by decide) (sa := 16) (t := 9) (i := (-4)) (k := (5632 + ws.length + 1)) (by decide) (by decide) (by decide) (by decide) (by decide) (by decide) a9 (by omega))
  have x := fun (h l lw : Int32) => (x h l lw).trans (r_sll (by omega) (cm1_353 hc) (by decide) (sb := 0) (t := 0) (dd := 0) (by decide) (by decide) (by decide) (by decide) (by decide) (by decide) (by decide))
  have x := fun (h l lw : Int32) => (x h l lw).trans (r_sra (by omega) (cm1_354 hc) (by decide) (sb := 8) (t := 8) (dd := 1) (by decide) (by decide) (by decide) (by decide) (by decide) (by decide) (by decide))
  have x := fun (h l lw : Int32) => (x h l lw).trans (r_sra (by omega) (cm1_355 hc) (by decide) (sb := 9) (t := 9) (dd := 1) (by decide) (by decide) (by decide) (by decide) (by decide) (by decide) (by decide))
  have x := fun (h l lw : Int32) => (x h l lw).trans (r_beqn (by omega) (cm1_356 hc) (by decide) (by decide) (sa := 9) (sb := 0) (by decide) (by decide) (by decide) (by decide) gz )
  have x := fun (h l lw : Int32) => (x h l lw).trans (r_sll (by omega) (cm1_357 hc) (by decide) (sb := 0) (t := 0) (dd := 0) (by decide) (by decide) (by decide) (by decide) (by decide) (by decide) (by decide))
  have x := fun (h l lw : Int32) => (x h l lw).trans (r_div (by omega) (cm1_358 hc) (by decide) (sa := 8) (sb := 9) (by decide) (by decide) (by decide) (by decide) (by decide) (by decide) gz2)
  have x := fun (h l lw : Int32) => (x h l lw).trans (r_mflo (by omega) (cm1_359 hc) (by decide) (t := 10) (by decide) (by decide) (by decide) (by decide))
  have x := fun (h l lw : Int32) => (x h l lw).trans (r_mfhi (by omega) (cm1_360 hc) (by decide) (t := 11) (by decide) (by decide) (by decide) (by decide))
  have x := fun (h l lw : Int32) => (x h l lw).trans (r_beqn (by omega) (cm1_361 hc) (by decide) (by decide) (sa := 11) (sb := 0) (by decide) (by decide) (by decide) (by decide) ge )
  have x := fun (h l lw : Int32) => (x h l lw).trans (r_sll (by omega) (cm1_362 hc) (by decide) (sb := 0) (t := 0) (dd := 0) (by decide) (by decide) (by decide) (by decide) (by decide) (by decide) (by decide))
  have x := fun (h l lw : Int32) => (x h l lw).trans (r_xor (by omega) (cm1_363 hc) (by decide) (sa := 11) (sb := 9) (t := 12) (by decide) (by decide) (by decide) (by decide) (by decide) (by decide) (by decide) (by decide))
  have x := fun (h l lw : Int32) => (x h l lw).trans (r_bgezn (by omega) (cm1_364 hc) (by decide) (by decide) (sa := 12) (by decide) (by decide) (by decide) gs)
  have x := fun (h l lw : Int32) => (x h l lw).trans (r_sll (by omega) (cm1_365 hc) (by decide) (sb := 0) (t := 0) (dd := 0) (by decide) (by decide) (by decide) (by decide) (by decide) (by decide) (by decide))
  have x := fun (h l lw : Int32) => (x h l lw).trans (r_addiu (by omega) (cm1_366 hc) (by decide) (sa := 10) (t := 10) (i := (-1)) (by decide) (by decide) (by decide) (by decide) (by decide) (by decide))
  have x := fun (h l lw : Int32) => (x h l lw).trans (r_addu (by omega) (cm1_367 hc) (by decide) (sa := 11) (sb := 9) (t := 11) (by decide) (by decide) (by decide) (by decide) (by decide) (by decide) (by decide) (by decide))
  have x := fun (h l lw : Int32) => (x h l lw).trans (r_beqn (by omega) (cm1_368 hc) (by decide) (by decide) (sa := 5) (sb := 0) (by decide) (by decide) (by decide) (by decide) (by exact g5) )
  have x := fun (h l lw : Int32) => (x h l lw).trans (r_sll (by omega) (cm1_369 hc) (by decide) (sb := 0) (t := 0) (dd := 0) (by decide) (by decide) (by decide) (by decide) (by decide) (by decide) (by decide))
  have x := fun (h l lw : Int32) => (x h l lw).trans (r_addu (by omega) (cm1_370 hc) (by decide) (sa := 11) (sb := 0) (t := 10) (by decide) (by decide) (by decide) (by decide) (by decide) (by decide) (by decide) (by decide))
  have x := fun (h l lw : Int32) => (x h l lw).trans (r_sll (by omega) (cm1_371 hc) (by decide) (sb := 10) (t := 10) (dd := 1) (by decide) (by decide) (by decide) (by decide) (by decide) (by decide) (by decide))
  have x := fun (h l lw : Int32) => (x h l lw).trans (r_addiu (by omega) (cm1_372 hc) (by decide) (sa := 10) (t := 10) (i := 1) (by decide) (by decide) (by decide) (by decide) (by decide) (by decide))
  have x := fun (h l lw : Int32) => (x h l lw).trans (r_addiu (by omega) (cm1_373 hc) (by decide) (sa := 16) (t := 16) (i := (-4)) (by decide) (by decide) (by decide) (by decide) (by decide) (by decide))
  have x := fun (h l lw : Int32) => (x h l lw).trans (r_sw (by omega) (cm1_374 hc) (by decide) (sa := 16) (t := 10) (i := (-4)) (k := (5632 + ws.length)) (by decide) (by decide) (by decide) (by decide) (by decide) (by decide) as (by omega))
  have x := fun (h l lw : Int32) => (x h l lw).trans (r_jr (by omega) (cm1_375 (CMl.upd hc (show 5632 + ws.length < 19840 by omega))) (by decide) (A := ret) (sa := 31) (by decide) (by decide) (by decide) (by decide) h31)
  have x := fun (h l lw : Int32) => (x h l lw).trans (r_sll (by omega) (cm1_376 (CMl.upd hc (show 5632 + ws.length < 19840 by omega))) (by decide) (sb := 0) (t := 0) (dd := 0) (by decide) (by decide) (by decide) (by decide) (by decide) (by decide) (by decide))
  simp only [wr0] at x
  have y := RT.mk (N := 40) x (by decide)
  generalize hr7 : (wr _ _ _ : Nat → Int32) = r7 at y
  have e10 : r7 10 = (((((sr (m (5632 + ws.length))) - (sr (m (5632 + ws.length))) / (sr (m (5632 + ws.length + 1))) * (sr (m (5632 + ws.length + 1)))) + (sr (m (5632 + ws.length + 1)))) + r 0) <<< ((1 : Int32) &&& 31) + 1) := by subst hr7; rfl
  rw [e10] at y
  have k7 := h.set (r' := r7) (tr' := tr) (v := (((((sr (m (5632 + ws.length))) - (sr (m (5632 + ws.length))) / (sr (m (5632 + ws.length + 1))) * (sr (m (5632 + ws.length + 1)))) + (sr (m (5632 + ws.length + 1)))) + r 0) <<< ((1 : Int32) &&& 31) + 1)) (by omega) (by subst hr7; exact a12) (by subst hr7; exact h.2.2.2.2.2.1) (by subst hr7; rfl) (by subst hr7; rfl) (by subst hr7; rfl) (by subst hr7; rfl) (by subst hr7; rfl)
  exact ⟨r7, _, y, k7, fun j hj => pk_un (by omega)⟩
set_option maxHeartbeats 4000000 in
set_option maxRecDepth 100000 in
theorem rt_div0_1 {S0 : xS} {code r m : Nat → Int32} {a v w : Int32} {ws : List Int32} {tr : Nat} (hL : CMl LC1 code) (h : RI code a r m ((ws ++ [v]) ++ [w]) tr) (hn : ws.length < 990) (hz : sr w = 0) : ∃ r', RT S0 40 r m 20190 r' m 20220 ∧ RI code a r' m ((ws ++ [v]) ++ [w]) tr ∧ r' 4 = 26 := by
  have hh := h
  have h : RI code a r m (ws ++ [v, w]) tr := by rw [List.append_assoc] at h; exact h
  have hc := h.1.lib hL
  have h0 := h.2.1
  have h16 : r 16 = nI (4 * (5632 + ws.length + 2)) := by have := h.2.2.1; rw [List.length_append] at this; exact this
  have a8 : (r 16 + (-8)) >>> ((2 : Int32) &&& 31) = nI (5632 + ws.length) := ad4 h16 (nm4 (x := 5632 + ws.length) (c := 2) (by decide)) (by omega)
  have a9 : (r 16 + (-4)) >>> ((2 : Int32) &&& 31) = nI (5632 + ws.length + 1) := ad4 h16 (nm4 (x := 5632 + ws.length + 1) (c := 1) (by decide)) (by omega)
  have a12 : r 16 + (-4) = nI (4 * (5632 + ws.length + 1)) := by rw [h16]; exact nm4 (x := 5632 + ws.length + 1) (c := 1) (by decide)
  have as : ((r 16 + (-4)) + (-4)) >>> ((2 : Int32) &&& 31) = nI (5632 + ws.length) := ad4 a12 (nm4 (x := 5632 + ws.length) (c := 1) (by decide)) (by omega)
  have v0 : m (5632 + ws.length) = v := h.at
  have v1 : m (5632 + ws.length + 1) = w := by
    have := h.2.2.2.2.2.2.2.2.2.2 (ws.length + 1) w (by rw [List.getElem?_append_right (by omega), show ws.length + 1 - ws.length = 1 from by omega]; rfl)
    rw [← Nat.add_assoc] at this; exact this
  subst v0 v1
  have gz : sr (m (5632 + ws.length + 1)) = r 0 := by rw [h0]; exact hz
  have x := fun (h l lw : Int32) => r_lw (S0 := S0) (r := r) (m := m) (p := 20191) (h := h) (l := l) (lt := 0) (lw := lw) (by omega) (cm1_350 hc) (by decide) (sa := 16) (t := 8) (i := (-8)) (k := (5632 + ws.length)) (by decide) (by decide) (by decide) (by decide) (by decide) (by decide) a8 (by omega)
  have x := fun (h l lw : Int32) => (x h l lw).trans (r_sll (by omega) (cm1_351 hc) (by decide) (sb := 0) (t := 0) (dd := 0) (by decide) (by decide) (by decide) (by decide) (by decide) (by decide) (by decide))
  have x := fun (h l lw : Int32) => (x h l lw).trans (r_lw (by omega) (cm1_352 hc) (by decide) (sa := 16) (t := 9) (i := (-4)) (k := (5632 + ws.length + 1)) (by decide) (by decide) (by decide) (by decide) (by decide) (by decide) a9 (by omega))
  have x := fun (h l lw : Int32) => (x h l lw).trans (r_sll (by omega) (cm1_353 hc) (by decide) (sb := 0) (t := 0) (dd := 0) (by decide) (by decide) (by decide) (by decide) (by decide) (by decide) (by decide))
  have x := fun (h l lw : Int32) => (x h l lw).trans (r_sra (by omega) (cm1_354 hc) (by decide) (sb := 8) (t := 8) (dd := 1) (by decide) (by decide) (by decide) (by decide) (by decide) (by decide) (by decide))
  have x := fun (h l lw : Int32) => (x h l lw).trans (r_sra (by omega) (cm1_355 hc) (by decide) (sb := 9) (t := 9) (dd := 1) (by decide) (by decide) (by decide) (by decide) (by decide) (by decide) (by decide))
  have x := fun (h l lw : Int32) => (x h l lw).trans (r_beq (by omega) (cm1_356 hc) (by decide) (by decide) (sa := 9) (sb := 0) (by decide) (by decide) (by decide) (by decide) gz  (off := 20) (by decide))
  have x := fun (h l lw : Int32) => (x h l lw).trans (r_sll (by omega) (cm1_357 hc) (by decide) (sb := 0) (t := 0) (dd := 0) (by decide) (by decide) (by decide) (by decide) (by decide) (by decide) (by decide))
  have x := fun (h l lw : Int32) => (x h l lw).trans (r_addiu (by omega) (cm1_377 hc) (by decide) (sa := 0) (t := 4) (i := 26) (by decide) (by decide) (by decide) (by decide) (by decide) (by decide))
  have x := fun (h l lw : Int32) => (x h l lw).trans (r_j (by omega) (cm1_378 hc) (by decide) (A := 20220) (by decide) (by decide))
  have x := fun (h l lw : Int32) => (x h l lw).trans (r_sll (by omega) (cm1_379 hc) (by decide) (sb := 0) (t := 0) (dd := 0) (by decide) (by decide) (by decide) (by decide) (by decide) (by decide) (by decide))
  simp only [wr0] at x
  have y := RT.mk (N := 40) x (by decide)
  generalize hr7 : (wr _ _ _ : Nat → Int32) = r7 at y
  exact ⟨r7, y, by subst hr7; exact hh.keep rfl rfl rfl rfl rfl rfl rfl, by subst hr7; exact (congrArg (· + 26) h0).trans (by decide)⟩
set_option maxHeartbeats 4000000 in
set_option maxRecDepth 100000 in
theorem rt_div2e0 {S0 : xS} {code r m : Nat → Int32} {a v w : Int32} {ws : List Int32} {tr ret : Nat} (hL : CMl LC2 code) (h : RI code a r m ((ws ++ [v]) ++ [w]) tr) (hn : ws.length < 990) (hz : ¬ sr w = 0) (h5 : r 5 = 0) (c1 : ((sr v) - (sr v) / (sr w) * (sr w)) = 0) (h31 : r 31 = nI (4 * ret)) : ∃ r' m', RT S0 40 r m 20133 r' m' ret ∧ RI code a r' m' (ws ++ [(((sr v) / (sr w)) <<< ((1 : Int32) &&& 31) + 1)]) tr ∧ ∀ j, j < 5632 → m' j = m j := by
  have h : RI code a r m (ws ++ [v, w]) tr := by rw [List.append_assoc] at h; exact h
  have hc := h.1.lib hL
  have h0 := h.2.1
  have h16 : r 16 = nI (4 * (5632 + ws.length + 2)) := by have := h.2.2.1; rw [List.length_append] at this; exact this
  have a8 : (r 16 + (-8)) >>> ((2 : Int32) &&& 31) = nI (5632 + ws.length) := ad4 h16 (nm4 (x := 5632 + ws.length) (c := 2) (by decide)) (by omega)
  have a9 : (r 16 + (-4)) >>> ((2 : Int32) &&& 31) = nI (5632 + ws.length + 1) := ad4 h16 (nm4 (x := 5632 + ws.length + 1) (c := 1) (by decide)) (by omega)
  have a12 : r 16 + (-4) = nI (4 * (5632 + ws.length + 1)) := by rw [h16]; exact nm4 (x := 5632 + ws.length + 1) (c := 1) (by decide)
  have as : ((r 16 + (-4)) + (-4)) >>> ((2 : Int32) &&& 31) = nI (5632 + ws.length) := ad4 a12 (nm4 (x := 5632 + ws.length) (c := 1) (by decide)) (by omega)
  have v0 : m (5632 + ws.length) = v := h.at
  have v1 : m (5632 + ws.length + 1) = w := by
    have := h.2.2.2.2.2.2.2.2.2.2 (ws.length + 1) w (by rw [List.getElem?_append_right (by omega), show ws.length + 1 - ws.length = 1 from by omega]; rfl)
    rw [← Nat.add_assoc] at this; exact this
  subst v0 v1
  have gz : ¬ sr (m (5632 + ws.length + 1)) = r 0 := fun q => hz (q.trans h0)
  have gz2 : ¬ sr (m (5632 + ws.length + 1)) = 0 := hz
  have ge : ((sr (m (5632 + ws.length))) - (sr (m (5632 + ws.length))) / (sr (m (5632 + ws.length + 1))) * (sr (m (5632 + ws.length + 1)))) = r 0 := by rw [h0]; exact c1
  have g5 : r 5 = r 0 := by rw [h0, h5]
  have x := fun (h l lw : Int32) => r_lw (S0 := S0) (r := r) (m := m) (p := 20134) (h := h) (l := l) (lt := 0) (lw := lw) (by omega) (cm2_293 hc) (by decide) (sa := 16) (t := 8) (i := (-8)) (k := (5632 + ws.length)) (by decide) (by decide) (by decide) (by decide) (by decide) (by decide) a8 (by omega)
  have x := fun (h l lw : Int32) => (x h l lw).trans (r_lw (by omega) (cm2_294 hc) (by decide) (sa := 16) (t := 9) (i := (-4)) (k := (5632 + ws.length + 1)) (by decide) (by decide) (by decide) (by decide) (by decide) (by decide) a9 (by omega))
  have x := fun (h l lw : Int32) => (x h l lw).trans (r_sra (by omega) (cm2_295 hc) (by decide) (sb := 8) (t := 8) (dd := 1) (by decide) (by decide) (by decide) (by decide) (by decide) (by decide) (by decide))
  have x := fun (h l lw : Int32) => (x h l lw).trans (r_sra (by omega) (cm2_296 hc) (by decide) (sb := 9) (t := 9) (dd := 1) (by decide) (by decide) (by decide) (by decide) (by decide) (by decide) (by decide))
  have x := fun (h l lw : Int32) => (x h l lw).trans (r_beqn (by omega) (cm2_297 hc) (by decide) (by decide) (sa := 9) (sb := 0) (by decide) (by decide) (by decide) (by decide) gz )
  have x := fun (h l lw : Int32) => (x h l lw).trans (r_sll (by omega) (cm2_298 hc) (by decide) (sb := 0) (t := 0) (dd := 0) (by decide) (by decide) (by decide) (by decide) (by decide) (by decide) (by decide))
  have x := fun (h l lw : Int32) => (x h l lw).trans (r_div (by omega) (cm2_299 hc) (by decide) (sa := 8) (sb := 9) (by decide) (by decide) (by decide) (by decide) (by decide) (by decide) gz2)
  have x := fun (h l lw : Int32) => (x h l lw).trans (r_mflo (by omega) (cm2_300 hc) (by decide) (t := 10) (by decide) (by decide) (by decide) (by decide))
  have x := fun (h l lw : Int32) => (x h l lw).trans (r_mfhi (by omega) (cm2_301 hc) (by decide) (t := 11) (by decide) (by decide) (by decide) (by decide))
  have x := fun (h l lw : Int32) => (x h l lw).trans (r_beq (by omega) (cm2_302 hc) (by decide) (by decide) (sa := 11) (sb := 0) (by decide) (by decide) (by decide) (by decide) ge  (off := 6) (by decide))
  have x := fun (h l lw : Int32) => (x h l lw).trans (r_sll (by omega) (cm2_303 hc) (by decide) (sb := 0) (t := 0) (dd := 0) (by decide) (by decide) (by decide) (by decide) (by decide) (by decide) (by decide))
  have x := fun (h l lw : Int32) => (x h l lw).trans (r_beq (by omega) (cm2_309 hc) (by decide) (by decide) (sa := 5) (sb := 0) (by decide) (by decide) (by decide) (by decide) (by exact g5)  (off := 2) (by decide))
  have x := fun (h l lw : Int32) => (x h l lw).trans (r_sll (by omega) (cm2_310 hc) (by decide) (sb := 0) (t := 0) (dd := 0) (by decide) (by decide) (by decide) (by decide) (by decide) (by decide) (by decide))
  have x := fun (h l lw : Int32) => (x h l lw).trans (r_sll (by omega) (cm2_312 hc) (by decide) (sb := 10) (t := 10) (dd := 1) (by decide) (by decide) (by decide) (by decide) (by decide) (by decide) (by decide))
  have x := fun (h l lw : Int32) => (x h l lw).trans (r_addiu (by omega) (cm2_313 hc) (by decide) (sa := 10) (t := 10) (i := 1) (by decide) (by decide) (by decide) (by decide) (by decide) (by decide))
  have x := fun (h l lw : Int32) => (x h l lw).trans (r_addiu (by omega) (cm2_314 hc) (by decide) (sa := 16) (t := 16) (i := (-4)) (by decide) (by decide) (by decide) (by decide) (by decide) (by decide))
  have x := fun (h l lw : Int32) => (x h l lw).trans (r_jr (by omega) (cm2_315 hc) (by decide) (A := ret) (sa := 31) (by decide) (by decide) (by decide) (by decide) h31)
  have x := fun (h l lw : Int32) => (x h l lw).trans (r_sw (by omega) (cm2_316 hc) (by decide) (sa := 16) (t := 10) (i := (-4)) (k := (5632 + ws.length)) (by decide) (by decide) (by decide) (by decide) (by decide) (by decide) as (by omega))
  simp only [wr0] at x
  have y := RT.mk (N := 40) x (by decide)
  generalize hr7 : (wr _ _ _ : Nat → Int32) = r7 at y
  have e10 : r7 10 = (((sr (m (5632 + ws.length))) / (sr (m (5632 + ws.length + 1)))) <<< ((1 : Int32) &&& 31) + 1) := by subst hr7; rfl
  rw [e10] at y
  have k7 := h.set (r' := r7) (tr' := tr) (v := (((sr (m (5632 + ws.length))) / (sr (m (5632 + ws.length + 1)))) <<< ((1 : Int32) &&& 31) + 1)) (by omega) (by subst hr7; exact a12) (by subst hr7; exact h.2.2.2.2.2.1) (by subst hr7; rfl) (by subst hr7; rfl) (by subst hr7; rfl) (by subst hr7; rfl) (by subst hr7; rfl)
  exact ⟨r7, _, y, k7, fun j hj => pk_un (by omega)⟩
set_option maxHeartbeats 4000000 in
set_option maxRecDepth 100000 in
theorem rt_div2e1 {S0 : xS} {code r m : Nat → Int32} {a v w : Int32} {ws : List Int32} {tr ret : Nat} (hL : CMl LC2 code) (h : RI code a r m ((ws ++ [v]) ++ [w]) tr) (hn : ws.length < 990) (hz : ¬ sr w = 0) (h5 : r 5 = 1) (c1 : ((sr v) - (sr v) / (sr w) * (sr w)) = 0) (h31 : r 31 = nI (4 * ret)) : ∃ r' m', RT S0 40 r m 20133 r' m' ret ∧ RI code a r' m' (ws ++ [((((sr v) - (sr v) / (sr w) * (sr w)) + r 0) <<< ((1 : Int32) &&& 31) + 1)]) tr ∧ ∀ j, j < 5632 → m' j = m j := by
  have h : RI code a r m (ws ++ [v, w]) tr := by rw [List.append_assoc] at h; exact h
  have hc := h.1.lib hL
  have h0 := h.2.1
  have h16 : r 16 = nI (4 * (5632 + ws.length + 2)) := by have := h.2.2.1; rw [List.length_append] at this; exact this
  have a8 : (r 16 + (-8)) >>> ((2 : Int32) &&& 31) = nI (5632 + ws.length) := ad4 h16 (nm4 (x := 5632 + ws.length) (c := 2) (by decide)) (by omega)
  have a9 : (r 16 + (-4)) >>> ((2 : Int32) &&& 31) = nI (5632 + ws.length + 1) := ad4 h16 (nm4 (x := 5632 + ws.length + 1) (c := 1) (by decide)) (by omega)
  have a12 : r 16 + (-4) = nI (4 * (5632 + ws.length + 1)) := by rw [h16]; exact nm4 (x := 5632 + ws.length + 1) (c := 1) (by decide)
  have as : ((r 16 + (-4)) + (-4)) >>> ((2 : Int32) &&& 31) = nI (5632 + ws.length) := ad4 a12 (nm4 (x := 5632 + ws.length) (c := 1) (by decide)) (by omega)
  have v0 : m (5632 + ws.length) = v := h.at
  have v1 : m (5632 + ws.length + 1) = w := by
    have := h.2.2.2.2.2.2.2.2.2.2 (ws.length + 1) w (by rw [List.getElem?_append_right (by omega), show ws.length + 1 - ws.length = 1 from by omega]; rfl)
    rw [← Nat.add_assoc] at this; exact this
  subst v0 v1
  have gz : ¬ sr (m (5632 + ws.length + 1)) = r 0 := fun q => hz (q.trans h0)
  have gz2 : ¬ sr (m (5632 + ws.length + 1)) = 0 := hz
  have ge : ((sr (m (5632 + ws.length))) - (sr (m (5632 + ws.length))) / (sr (m (5632 + ws.length + 1))) * (sr (m (5632 + ws.length + 1)))) = r 0 := by rw [h0]; exact c1
  have g5 : ¬ r 5 = r 0 := by rw [h0, h5]; decide
  have x := fun (h l lw : Int32) => r_lw (S0 := S0) (r := r) (m := m) (p := 20134) (h := h) (l := l) (lt := 0) (lw := lw) (by omega) (cm2_293 hc) (by decide) (sa := 16) (t := 8) (i := (-8)) (k := (5632 + ws.length)) (by decide) (by decide) (by decide) (by decide) (by decide) (by decide) a8 (by omega)
  have x := fun (h l lw : Int32) => (x h l lw).trans (r_lw (by omega) (cm2_294 hc) (by decide) (sa := 16) (t := 9) (i := (-4)) (k := (5632 + ws.length + 1)) (by decide) (by decide) (by decide) (by decide) (by decide) (by decide) a9 (by omega))
  have x := fun (h l lw : Int32) => (x h l lw).trans (r_sra (by omega) (cm2_295 hc) (by decide) (sb := 8) (t := 8) (dd := 1) (by decide) (by decide) (by decide) (by decide) (by decide) (by decide) (by decide))
  have x := fun (h l lw : Int32) => (x h l lw).trans (r_sra (by omega) (cm2_296 hc) (by decide) (sb := 9) (t := 9) (dd := 1) (by decide) (by decide) (by decide) (by decide) (by decide) (by decide) (by decide))
  have x := fun (h l lw : Int32) => (x h l lw).trans (r_beqn (by omega) (cm2_297 hc) (by decide) (by decide) (sa := 9) (sb := 0) (by decide) (by decide) (by decide) (by decide) gz )
  have x := fun (h l lw : Int32) => (x h l lw).trans (r_sll (by omega) (cm2_298 hc) (by decide) (sb := 0) (t := 0) (dd := 0) (by decide) (by decide) (by decide) (by decide) (by decide) (by decide) (by decide))
  have x := fun (h l lw : Int32) => (x h l lw).trans (r_div (by omega) (cm2_299 hc) (by decide) (sa := 8) (sb := 9) (by decide) (by decide) (by decide) (by decide) (by decide) (by decide) gz2)
  have x := fun (h l lw : Int32) => (x h l lw).trans (r_mflo (by omega) (cm2_300 hc) (by decide) (t := 10) (by decide) (by decide) (by decide) (by decide))
  have x := fun (h l lw : Int32) => (x h l lw).trans (r_mfhi (by omega) (cm2_301 hc) (by decide) (t := 11) (by decide) (by decide) (by decide) (by decide))
  have x := fun (h l lw : Int32) => (x h l lw).trans (r_beq (by omega) (cm2_302 hc) (by decide) (by decide) (sa := 11) (sb := 0) (by decide) (by decide) (by decide) (by decide) ge  (off := 6) (by decide))
  have x := fun (h l lw : Int32) => (x h l lw).trans (r_sll (by omega) (cm2_303 hc) (by decide) (sb := 0) (t := 0) (dd := 0) (by decide) (by decide) (by decide) (by decide) (by decide) (by decide) (by decide))
  have x := fun (h l lw : Int32) => (x h l lw).trans (r_beqn (by omega) (cm2_309 hc) (by decide) (by decide) (sa := 5) (sb := 0) (by decide) (by decide) (by decide) (by decide) (by exact g5) )
  have x := fun (h l lw : Int32) => (x h l lw).trans (r_sll (by omega) (cm2_310 hc) (by decide) (sb := 0) (t := 0) (dd := 0) (by decide) (by decide) (by decide) (by decide) (by decide) (by decide) (by decide))
  have x := fun (h l lw : Int32) => (x h l lw).trans (r_addu (by omega) (cm2_311 hc) (by decide) (sa := 11) (sb := 0) (t := 10) (by decide) (by decide) (by decide) (by decide) (by decide) (by decide) (by decide) (by decide))
  have x := fun (h l lw : Int32) => (x h l lw).trans (r_sll (by omega) (cm2_312 hc) (by decide) (sb := 10) (t := 10) (dd := 1) (by decide) (by decide) (by decide) (by decide) (by decide) (by decide) (by decide))
  have x := fun (h l lw : Int32) => (x h l lw).trans (r_addiu (by omega) (cm2_313 hc) (by decide) (sa := 10) (t := 10) (i := 1) (by decide) (by decide) (by decide) (by decide) (by decide) (by decide))
  have x := fun (h l lw : Int32) => (x h l lw).trans (r_addiu (by omega) (cm2_314 hc) (by decide) (sa := 16) (t := 16) (i := (-4)) (by decide) (by decide) (by decide) (by decide) (by decide) (by decide))
  have x := fun (h l lw : Int32) => (x h l lw).trans (r_jr (by omega) (cm2_315 hc) (by decide) (A := ret) (sa := 31) (by decide) (by decide) (by decide) (by decide) h31)
  have x := fun (h l lw : Int32) => (x h l lw).trans (r_sw (by omega) (cm2_316 hc) (by decide) (sa := 16) (t := 10) (i := (-4)) (k := (5632 + ws.length)) (by decide) (by decide) (by decide) (by decide) (by decide) (by decide) as (by omega))
  simp only [wr0] at x
  have y := RT.mk (N := 40) x (by decide)
  generalize hr7 : (wr _ _ _ : Nat → Int32) = r7 at y
  have e10 : r7 10 = ((((sr (m (5632 + ws.length))) - (sr (m (5632 + ws.length))) / (sr (m (5632 + ws.length + 1))) * (sr (m (5632 + ws.length + 1)))) + r 0) <<< ((1 : Int32) &&& 31) + 1) := by subst hr7; rfl
  rw [e10] at y
  have k7 := h.set (r' := r7) (tr' := tr) (v := ((((sr (m (5632 + ws.length))) - (sr (m (5632 + ws.length))) / (sr (m (5632 + ws.length + 1))) * (sr (m (5632 + ws.length + 1)))) + r 0) <<< ((1 : Int32) &&& 31) + 1)) (by omega) (by subst hr7; exact a12) (by subst hr7; exact h.2.2.2.2.2.1) (by subst hr7; rfl) (by subst hr7; rfl) (by subst hr7; rfl) (by subst hr7; rfl) (by subst hr7; rfl)
  exact ⟨r7, _, y, k7, fun j hj => pk_un (by omega)⟩
set_option maxHeartbeats 4000000 in
set_option maxRecDepth 100000 in
theorem rt_div2s0 {S0 : xS} {code r m : Nat → Int32} {a v w : Int32} {ws : List Int32} {tr ret : Nat} (hL : CMl LC2 code) (h : RI code a r m ((ws ++ [v]) ++ [w]) tr) (hn : ws.length < 990) (hz : ¬ sr w = 0) (h5 : r 5 = 0) (c1 : ¬ ((sr v) - (sr v) / (sr w) * (sr w)) = 0) (c2 : 0 ≤ ((sr v) - (sr v) / (sr w) * (sr w)) ^^^ (sr w)) (h31 : r 31 = nI (4 * ret)) : ∃ r' m', RT S0 40 r m 20133 r' m' ret ∧ RI code a r' m' (ws ++ [(((sr v) / (sr w)) <<< ((1 : Int32) &&& 31) + 1)]) tr ∧ ∀ j, j < 5632 → m' j = m j := by
  have h : RI code a r m (ws ++ [v, w]) tr := by rw [List.append_assoc] at h; exact h
  have hc := h.1.lib hL
  have h0 := h.2.1
  have h16 : r 16 = nI (4 * (5632 + ws.length + 2)) := by have := h.2.2.1; rw [List.length_append] at this; exact this
  have a8 : (r 16 + (-8)) >>> ((2 : Int32) &&& 31) = nI (5632 + ws.length) := ad4 h16 (nm4 (x := 5632 + ws.length) (c := 2) (by decide)) (by omega)
  have a9 : (r 16 + (-4)) >>> ((2 : Int32) &&& 31) = nI (5632 + ws.length + 1) := ad4 h16 (nm4 (x := 5632 + ws.length + 1) (c := 1) (by decide)) (by omega)
  have a12 : r 16 + (-4) = nI (4 * (5632 + ws.length + 1)) := by rw [h16]; exact nm4 (x := 5632 + ws.length + 1) (c := 1) (by decide)
  have as : ((r 16 + (-4)) + (-4)) >>> ((2 : Int32) &&& 31) = nI (5632 + ws.length) := ad4 a12 (nm4 (x := 5632 + ws.length) (c := 1) (by decide)) (by omega)
  have v0 : m (5632 + ws.length) = v := h.at
  have v1 : m (5632 + ws.length + 1) = w := by
    have := h.2.2.2.2.2.2.2.2.2.2 (ws.length + 1) w (by rw [List.getElem?_append_right (by omega), show ws.length + 1 - ws.length = 1 from by omega]; rfl)
    rw [← Nat.add_assoc] at this; exact this
  subst v0 v1
  have gz : ¬ sr (m (5632 + ws.length + 1)) = r 0 := fun q => hz (q.trans h0)
  have gz2 : ¬ sr (m (5632 + ws.length + 1)) = 0 := hz
  have ge : ¬ ((sr (m (5632 + ws.length))) - (sr (m (5632 + ws.length))) / (sr (m (5632 + ws.length + 1))) * (sr (m (5632 + ws.length + 1)))) = r 0 := by rw [h0]; exact c1
  have g5 : r 5 = r 0 := by rw [h0, h5]
  have gs := c2
  have x := fun (h l lw : Int32) => r_lw (S0 := S0) (r := r) (m := m) (p := 20134) (h := h) (l := l) (lt := 0) (lw := lw) (by omega) (cm2_293 hc) (by decide) (sa := 16) (t := 8) (i := (-8)) (k := (5632 + ws.length)) (by decide) (by decide) (by decide) (by decide) (by decide) (by decide) a8 (by omega)
  have x := fun (h l lw : Int32) => (x h l lw).trans (r_lw (by omega) (cm2_294 hc) (by decide) (sa := 16) (t := 9) (i := (-4)) (k := (5632 + ws.length + 1)) (by decide) (by decide) (by decide) (by decide) (by decide) (by decide) a9 (by omega))
  have x := fun (h l lw : Int32) => (x h l lw).trans (r_sra (by omega) (cm2_295 hc) (by decide) (sb := 8) (t := 8) (dd := 1) (by decide) (by decide) (by decide) (by decide) (by decide) (by decide) (by decide))
  have x := fun (h l lw : Int32) => (x h l lw).trans (r_sra (by omega) (cm2_296 hc) (by decide) (sb := 9) (t := 9) (dd := 1) (by decide) (by decide) (by decide) (by decide) (by decide) (by decide) (by decide))
  have x := fun (h l lw : Int32) => (x h l lw).trans (r_beqn (by omega) (cm2_297 hc) (by decide) (by decide) (sa := 9) (sb := 0) (by decide) (by decide) (by decide) (by decide) gz )
  have x := fun (h l lw : Int32) => (x h l lw).trans (r_sll (by omega) (cm2_298 hc) (by decide) (sb := 0) (t := 0) (dd := 0) (by decide) (by decide) (by decide) (by decide) (by decide) (by decide) (by decide))
  have x := fun (h l lw : Int32) => (x h l lw).trans (r_div (by omega) (cm2_299 hc) (by decide) (sa := 8) (sb := 9) (by decide) (by decide) (by decide) (by decide) (by decide) (by decide) gz2)
  have x := fun (h l lw : Int32) => (x h l lw).trans (r_mflo (by omega) (cm2_300 hc) (by decide) (t := 10) (by decide) (by decide) (by decide) (by decide))
  have x := fun (h l lw : Int32) => (x h l lw).trans (r_mfhi (by omega) (cm2_301 hc) (by decide) (t := 11) (by decide) (by decide) (by decide) (by decide))
  have x := fun (h l lw : Int32) => (x h l lw).trans (r_beqn (by omega) (cm2_302 hc) (by decide) (by decide) (sa := 11) (sb := 0) (by decide) (by decide) (by decide) (by decide) ge )
  have x := fun (h l lw : Int32) => (x h l lw).trans (r_sll (by omega) (cm2_303 hc) (by decide) (sb := 0) (t := 0) (dd := 0) (by decide) (by decide) (by decide) (by decide) (by decide) (by decide) (by decide))
  have x := fun (h l lw : Int32) => (x h l lw).trans (r_xor (by omega) (cm2_304 hc) (by decide) (sa := 11) (sb := 9) (t := 12) (by decide) (by decide) (by decide) (by decide) (by decide) (by decide) (by decide) (by decide))
  have x := fun (h l lw : Int32) => (x h l lw).trans (r_bgez (by omega) (cm2_305 hc) (by decide) (by decide) (sa := 12) (by decide) (by decide) (by decide) gs (off := 3) (by decide))
  have x := fun (h l lw : Int32) => (x h l lw).trans (r_sll (by omega) (cm2_306 hc) (by decide) (sb := 0) (t := 0) (dd := 0) (by decide) (by decide) (by decide) (by decide) (by decide) (by decide) (by decide))
  have x := fun (h l lw : Int32) => (x h l lw).trans (r_beq (by omega) (cm2_309 hc) (by decide) (by decide) (sa := 5) (sb := 0) (by decide) (by decide) (by decide) (by decide) (by exact g5)  (off := 2) (by decide))
  have x := fun (h l lw : Int32) => (x h l lw).trans (r_sll (by omega) (cm2_310 hc) (by decide) (sb := 0) (t := 0) (dd := 0) (by decide) (by decide) (by decide) (by decide) (by decide) (by decide) (by decide))
  have x := fun (h l lw : Int32) => (x h l lw).trans (r_sll (by omega) (cm2_312 hc) (by decide) (sb := 10) (t := 10) (dd := 1) (by decide) (by decide) (by decide) (by decide) (by decide) (by decide) (by decide))
  have x := fun (h l lw : Int32) => (x h l lw).trans (r_addiu (by omega) (cm2_313 hc) (by decide) (sa := 10) (t := 10) (i := 1) (by decide) (by decide) (by decide) (by decide) (by decide) (by decide))
  have x := fun (h l lw : Int32) => (x h l lw).trans (r_addiu (by omega) (cm2_314 hc) (by decide) (sa := 16) (t := 16) (i := (-4)) (by decide) (by decide) (by decide) (by decide) (by decide) (by decide))
  have x := fun (h l lw : Int32) => (x h l lw).trans (r_jr (by omega) (cm2_315 hc) (by decide) (A := ret) (sa := 31) (by decide) (by decide) (by decide) (by decide) h31)
  have x := fun (h l lw : Int32) => (x h l lw).trans (r_sw (by omega) (cm2_316 hc) (by decide) (sa := 16) (t := 10) (i := (-4)) (k := (5632 + ws.length)) (by decide) (by decide) (by decide) (by decide) (by decide) (by decide) as (by omega))
  simp only [wr0] at x
  have y := RT.mk (N := 40) x (by decide)
  generalize hr7 : (wr _ _ _ : Nat → Int32) = r7 at y
  have e10 : r7 10 = (((sr (m (5632 + ws.length))) / (sr (m (5632 + ws.length + 1)))) <<< ((1 : Int32) &&& 31) + 1) := by subst hr7; rfl
  rw [e10] at y
  have k7 := h.set (r' := r7) (tr' := tr) (v := (((sr (m (5632 + ws.length))) / (sr (m (5632 + ws.length + 1)))) <<< ((1 : Int32) &&& 31) + 1)) (by omega) (by subst hr7; exact a12) (by subst hr7; exact h.2.2.2.2.2.1) (by subst hr7; rfl) (by subst hr7; rfl) (by subst hr7; rfl) (by subst hr7; rfl) (by subst hr7; rfl)
  exact ⟨r7, _, y, k7, fun j hj => pk_un (by omega)⟩
set_option maxHeartbeats 4000000 in
set_option maxRecDepth 100000 in
theorem rt_div2s1 {S0 : xS} {code r m : Nat → Int32} {a v w : Int32} {ws : List Int32} {tr ret : Nat} (hL : CMl LC2 code) (h : RI code a r m ((ws ++ [v]) ++ [w]) tr) (hn : ws.length < 990) (hz : ¬ sr w = 0) (h5 : r 5 = 1) (c1 : ¬ ((sr v) - (sr v) / (sr w) * (sr w)) = 0) (c2 : 0 ≤ ((sr v) - (sr v) / (sr w) * (sr w)) ^^^ (sr w)) (h31 : r 31 = nI (4 * ret)) : ∃ r' m', RT S0 40 r m 20133 r' m' ret ∧ RI code a r' m' (ws ++ [((((sr v) - (sr v) / (sr w) * (sr w)) + r 0) <<< ((1 : Int32) &&& 31) + 1)]) tr ∧ ∀ j, j < 5632 → m' j = m j := by
  have h : RI code a r m (ws ++ [v, w]) tr := by rw [List.append_assoc] at h; exact h
  have hc := h.1.lib hL
  have h0 := h.2.1
  have h16 : r 16 = nI (4 * (5632 + ws.length + 2)) := by have := h.2.2.1; rw [List.length_append] at this; exact this
  have a8 : (r 16 + (-8)) >>> ((2 : Int32) &&& 31) = nI (5632 + ws.length) := ad4 h16 (nm4 (x := 5632 + ws.length) (c := 2) (by decide)) (by omega)
  have a9 : (r 16 + (-4)) >>> ((2 : Int32) &&& 31) = nI (5632 + ws.length + 1) := ad4 h16 (nm4 (x := 5632 + ws.length + 1) (c := 1) (by decide)) (by omega)
  have a12 : r 16 + (-4) = nI (4 * (5632 + ws.length + 1)) := by rw [h16]; exact nm4 (x := 5632 + ws.length + 1) (c := 1) (by decide)
  have as : ((r 16 + (-4)) + (-4)) >>> ((2 : Int32) &&& 31) = nI (5632 + ws.length) := ad4 a12 (nm4 (x := 5632 + ws.length) (c := 1) (by decide)) (by omega)
  have v0 : m (5632 + ws.length) = v := h.at
  have v1 : m (5632 + ws.length + 1) = w := by
    have := h.2.2.2.2.2.2.2.2.2.2 (ws.length + 1) w (by rw [List.getElem?_append_right (by omega), show ws.length + 1 - ws.length = 1 from by omega]; rfl)
    rw [← Nat.add_assoc] at this; exact this
  subst v0 v1
  have gz : ¬ sr (m (5632 + ws.length + 1)) = r 0 := fun q => hz (q.trans h0)
  have gz2 : ¬ sr (m (5632 + ws.length + 1)) = 0 := hz
  have ge : ¬ ((sr (m (5632 + ws.length))) - (sr (m (5632 + ws.length))) / (sr (m (5632 + ws.length + 1))) * (sr (m (5632 + ws.length + 1)))) = r 0 := by rw [h0]; exact c1
  have g5 : ¬ r 5 = r 0 := by rw [h0, h5]; decide
  have gs := c2
  have x := fun (h l lw : Int32) => r_lw (S0 := S0) (r := r) (m := m) (p := 20134) (h := h) (l := l) (lt := 0) (lw := lw) (by omega) (cm2_293 hc) (by decide) (sa := 16) (t := 8) (i := (-8)) (k := (5632 + ws.length)) (by decide) (by decide) (by decide) (by decide) (by decide) (by decide) a8 (by omega)
  have x := fun (h l lw : Int32) => (x h l lw).trans (r_lw (by omega) (cm2_294 hc) (by decide) (sa := 16) (t := 9) (i := (-4)) (k := (5632 + ws.length + 1)) (by decide) (by decide) (by decide) (by decide) (by decide) (by decide) a9 (by omega))
  have x := fun (h l lw : Int32) => (x h l lw).trans (r_sra (by omega) (cm2_295 hc) (by decide) (sb := 8) (t := 8) (dd := 1) (by decide) (by decide) (by decide) (by decide) (by decide) (by decide) (by decide))
  have x := fun (h l lw : Int32) => (x h l lw).trans (r_sra (by omega) (cm2_296 hc) (by decide) (sb := 9) (t := 9) (dd := 1) (by decide) (by decide) (by decide) (by decide) (by decide) (by decide) (by decide))
  have x := fun (h l lw : Int32) => (x h l lw).trans (r_beqn (by omega) (cm2_297 hc) (by decide) (by decide) (sa := 9) (sb := 0) (by decide) (by decide) (by decide) (by decide) gz )
  have x := fun (h l lw : Int32) => (x h l lw).trans (r_sll (by omega) (cm2_298 hc) (by decide) (sb := 0) (t := 0) (dd := 0) (by decide) (by decide) (by decide) (by decide) (by decide) (by decide) (by decide))
  have x := fun (h l lw : Int32) => (x h l lw).trans (r_div (by omega) (cm2_299 hc) (by decide) (sa := 8) (sb := 9) (by decide) (by decide) (by decide) (by decide) (by decide) (by decide) gz2)
  have x := fun (h l lw : Int32) => (x h l lw).trans (r_mflo (by omega) (cm2_300 hc) (by decide) (t := 10) (by decide) (by decide) (by decide) (by decide))
  have x := fun (h l lw : Int32) => (x h l lw).trans (r_mfhi (by omega) (cm2_301 hc) (by decide) (t := 11) (by decide) (by decide) (by decide) (by decide))
  have x := fun (h l lw : Int32) => (x h l lw).trans (r_beqn (by omega) (cm2_302 hc) (by decide) (by decide) (sa := 11) (sb := 0) (by decide) (by decide) (by decide) (by decide) ge )
  have x := fun (h l lw : Int32) => (x h l lw).trans (r_sll (by omega) (cm2_303 hc) (by decide) (sb := 0) (t := 0) (dd := 0) (by decide) (by decide) (by decide) (by decide) (by decide) (by decide) (by decide))
  have x := fun (h l lw : Int32) => (x h l lw).trans (r_xor (by omega) (cm2_304 hc) (by decide) (sa := 11) (sb := 9) (t := 12) (by decide) (by decide) (by decide) (by decide) (by decide) (by decide) (by decide) (by decide))
  have x := fun (h l lw : Int32) => (x h l lw).trans (r_bgez (by omega) (cm2_305 hc) (by decide) (by decide) (sa := 12) (by decide) (by decide) (by decide) gs (off := 3) (by decide))
  have x := fun (h l lw : Int32) => (x h l lw).trans (r_sll (by omega) (cm2_306 hc) (by decide) (sb := 0) (t := 0) (dd := 0) (by decide) (by decide) (by decide) (by decide) (by decide) (by decide) (by decide))
  have x := fun (h l lw : Int32) => (x h l lw).trans (r_beqn (by omega) (cm2_309 hc) (by decide) (by decide) (sa := 5) (sb := 0) (by decide) (by decide) (by decide) (by decide) (by exact g5) )
  have x := fun (h l lw : Int32) => (x h l lw).trans (r_sll (by omega) (cm2_310 hc) (by decide) (sb := 0) (t := 0) (dd := 0) (by decide) (by decide) (by decide) (by decide) (by decide) (by decide) (by decide))
  have x := fun (h l lw : Int32) => (x h l lw).trans (r_addu (by omega) (cm2_311 hc) (by decide) (sa := 11) (sb := 0) (t := 10) (by decide) (by decide) (by decide) (by decide) (by decide) (by decide) (by decide) (by decide))
  have x := fun (h l lw : Int32) => (x h l lw).trans (r_sll (by omega) (cm2_312 hc) (by decide) (sb := 10) (t := 10) (dd := 1) (by decide) (by decide) (by decide) (by decide) (by decide) (by decide) (by decide))
  have x := fun (h l lw : Int32) => (x h l lw).trans (r_addiu (by omega) (cm2_313 hc) (by decide) (sa := 10) (t := 10) (i := 1) (by decide) (by decide) (by decide) (by decide) (by decide) (by decide))
  have x := fun (h l lw : Int32) => (x h l lw).trans (r_addiu (by omega) (cm2_314 hc) (by decide) (sa := 16) (t := 16) (i := (-4)) (by decide) (by decide) (by decide) (by decide) (by decide) (by decide))
  have x := fun (h l lw : Int32) => (x h l lw).trans (r_jr (by omega) (cm2_315 hc) (by decide) (A := ret) (sa := 31) (by decide) (by decide) (by decide) (by decide) h31)
  have x := fun (h l lw : Int32) => (x h l lw).trans (r_sw (by omega) (cm2_316 hc) (by decide) (sa := 16) (t := 10) (i := (-4)) (k := (5632 + ws.length)) (by decide) (by decide) (by decide) (by decide) (by decide) (by decide) as (by omega))
  simp only [wr0] at x
  have y := RT.mk (N := 40) x (by decide)
  generalize hr7 : (wr _ _ _ : Nat → Int32) = r7 at y
  have e10 : r7 10 = ((((sr (m (5632 + ws.length))) - (sr (m (5632 + ws.length))) / (sr (m (5632 + ws.length + 1))) * (sr (m (5632 + ws.length + 1)))) + r 0) <<< ((1 : Int32) &&& 31) + 1) := by subst hr7; rfl
  rw [e10] at y
  have k7 := h.set (r' := r7) (tr' := tr) (v := ((((sr (m (5632 + ws.length))) - (sr (m (5632 + ws.length))) / (sr (m (5632 + ws.length + 1))) * (sr (m (5632 + ws.length + 1)))) + r 0) <<< ((1 : Int32) &&& 31) + 1)) (by omega) (by subst hr7; exact a12) (by subst hr7; exact h.2.2.2.2.2.1) (by subst hr7; rfl) (by subst hr7; rfl) (by subst hr7; rfl) (by subst hr7; rfl) (by subst hr7; rfl)
  exact ⟨r7, _, y, k7, fun j hj => pk_un (by omega)⟩
set_option maxHeartbeats 4000000 in
set_option maxRecDepth 100000 in
theorem rt_div2n0 {S0 : xS} {code r m : Nat → Int32} {a v w : Int32} {ws : List Int32} {tr ret : Nat} (hL : CMl LC2 code) (h : RI code a r m ((ws ++ [v]) ++ [w]) tr) (hn : ws.length < 990) (hz : ¬ sr w = 0) (h5 : r 5 = 0) (c1 : ¬ ((sr v) - (sr v) / (sr w) * (sr w)) = 0) (c2 : ¬ 0 ≤ ((sr v) - (sr v) / (sr w) * (sr w)) ^^^ (sr w)) (h31 : r 31 = nI (4 * ret)) : ∃ r' m', RT S0 40 r m 20133 r' m' ret ∧ RI code a r' m' (ws ++ [(((sr v) / (sr w) + (-1)) <<< ((1 : Int32) &&& 31) + 1)]) tr ∧ ∀ j, j < 5632 → m' j = m j := by
  have h : RI code a r m (ws ++ [v, w]) tr := by rw [List.append_assoc] at h; exact h
  have hc := h.1.lib hL
  have h0 := h.2.1
  have h16 : r 16 = nI (4 * (5632 + ws.length + 2)) := by have := h.2.2.1; rw [List.length_append] at this; exact this
  have a8 : (r 16 + (-8)) >>> ((2 : Int32) &&& 31) = nI (5632 + ws.length) := ad4 h16 (nm4 (x := 5632 + ws.length) (c := 2) (by decide)) (by omega)
  have a9 : (r 16 + (-4)) >>> ((2 : Int32) &&& 31) = nI (5632 + ws.length + 1) := ad4 h16 (nm4 (x := 5632 + ws.length + 1) (c := 1) (by decide)) (by omega)
  have a12 : r 16 + (-4) = nI (4 * (5632 + ws.length + 1)) := by rw [h16]; exact nm4 (x := 5632 + ws.length + 1) (c := 1) (by decide)
  have as : ((r 16 + (-4)) + (-4)) >>> ((2 : Int32) &&& 31) = nI (5632 + ws.length) := ad4 a12 (nm4 (x := 5632 + ws.length) (c := 1) (by decide)) (by omega)
  have v0 : m (5632 + ws.length) = v := h.at
  have v1 : m (5632 + ws.length + 1) = w := by
    have := h.2.2.2.2.2.2.2.2.2.2 (ws.length + 1) w (by rw [List.getElem?_append_right (by omega), show ws.length + 1 - ws.length = 1 from by omega]; rfl)
    rw [← Nat.add_assoc] at this; exact this
  subst v0 v1
  have gz : ¬ sr (m (5632 + ws.length + 1)) = r 0 := fun q => hz (q.trans h0)
  have gz2 : ¬ sr (m (5632 + ws.length + 1)) = 0 := hz
  have ge : ¬ ((sr (m (5632 + ws.length))) - (sr (m (5632 + ws.length))) / (sr (m (5632 + ws.length + 1))) * (sr (m (5632 + ws.length + 1)))) = r 0 := by rw [h0]; exact c1
  have g5 : r 5 = r 0 := by rw [h0, h5]
  have gs := c2
  have x := fun (h l lw : Int32) => r_lw (S0 := S0) (r := r) (m := m) (p := 20134) (h := h) (l := l) (lt := 0) (lw := lw) (by omega) (cm2_293 hc) (by decide) (sa := 16) (t := 8) (i := (-8)) (k := (5632 + ws.length)) (by decide) (by decide) (by decide) (by decide) (by decide) (by decide) a8 (by omega)
  have x := fun (h l lw : Int32) => (x h l lw).trans (r_lw (by omega) (cm2_294 hc) (by decide) (sa := 16) (t := 9) (i := (-4)) (k := (5632 + ws.length + 1)) (by decide) (by decide) (by decide) (by decide) (by decide) (by decide) a9 (by omega))
  have x := fun (h l lw : Int32) => (x h l lw).trans (r_sra (by omega) (cm2_295 hc) (by decide) (sb := 8) (t := 8) (dd := 1) (by decide) (by decide) (by decide) (by decide) (by decide) (by decide) (by decide))
  have x := fun (h l lw : Int32) => (x h l lw).trans (r_sra (by omega) (cm2_296 hc) (by decide) (sb := 9) (t := 9) (dd := 1) (by decide) (by decide) (by decide) (by decide) (by decide) (by decide) (by decide))
  have x := fun (h l lw : Int32) => (x h l lw).trans (r_beqn (by omega) (cm2_297 hc) (by decide) (by decide) (sa := 9) (sb := 0) (by decide) (by decide) (by decide) (by decide) gz )
  have x := fun (h l lw : Int32) => (x h l lw).trans (r_sll (by omega) (cm2_298 hc) (by decide) (sb := 0) (t := 0) (dd := 0) (by decide) (by decide) (by decide) (by decide) (by decide) (by decide) (by decide))
  have x := fun (h l lw : Int32) => (x h l lw).trans (r_div (by omega) (cm2_299 hc) (by decide) (sa := 8) (sb := 9) (by decide) (by decide) (by decide) (by decide) (by decide) (by decide) gz2)
  have x := fun (h l lw : Int32) => (x h l lw).trans (r_mflo (by omega) (cm2_300 hc) (by decide) (t := 10) (by decide) (by decide) (by decide) (by decide))
  have x := fun (h l lw : Int32) => (x h l lw).trans (r_mfhi (by omega) (cm2_301 hc) (by decide) (t := 11) (by decide) (by decide) (by decide) (by decide))
  have x := fun (h l lw : Int32) => (x h l lw).trans (r_beqn (by omega) (cm2_302 hc) (by decide) (by decide) (sa := 11) (sb := 0) (by decide) (by decide) (by decide) (by decide) ge )
  have x := fun (h l lw : Int32) => (x h l lw).trans (r_sll (by omega) (cm2_303 hc) (by decide) (sb := 0) (t := 0) (dd := 0) (by decide) (by decide) (by decide) (by decide) (by decide) (by decide) (by decide))
  have x := fun (h l lw : Int32) => (x h l lw).trans (r_xor (by omega) (cm2_304 hc) (by decide) (sa := 11) (sb := 9) (t := 12) (by decide) (by decide) (by decide) (by decide) (by decide) (by decide) (by decide) (by decide))
  have x := fun (h l lw : Int32) => (x h l lw).trans (r_bgezn (by omega) (cm2_305 hc) (by decide) (by decide) (sa := 12) (by decide) (by decide) (by decide) gs)
  have x := fun (h l lw : Int32) => (x h l lw).trans (r_sll (by omega) (cm2_306 hc) (by decide) (sb := 0) (t := 0) (dd := 0) (by decide) (by decide) (by decide) (by decide) (by decide) (by decide) (by decide))
  have x := fun (h l lw : Int32) => (x h l lw).trans (r_addiu (by omega) (cm2_307 hc) (by decide) (sa := 10) (t := 10) (i := (-1)) (by decide) (by decide) (by decide) (by decide) (by decide) (by decide))
  have x := fun (h l lw : Int32) => (x h l lw).trans (r_addu (by omega) (cm2_308 hc) (by decide) (sa := 11) (sb := 9) (t := 11) (by decide) (by decide) (by decide) (by decide) (by decide) (by decide) (by decide) (by decide))
  have x := fun (h l lw : Int32) => (x h l lw).trans (r_beq (by omega) (cm2_309 hc) (by decide) (by decide) (sa := 5) (sb := 0) (by decide) (by decide) (by decide) (by decide) (by exact g5)  (off := 2) (by decide))
  have x := fun (h l lw : Int32) => (x h l lw).trans (r_sll (by omega) (cm2_310 hc) (by decide) (sb := 0) (t := 0) (dd := 0) (by decide) (by decide) (by decide) (by decide) (by decide) (by decide) (by decide))
  have x := fun (h l lw : Int32) => (x h l lw).trans (r_sll (by omega) (cm2_312 hc) (by decide) (sb := 10) (t := 10) (dd := 1) (by decide) (by decide) (by decide) (by decide) (by decide) (by decide) (by decide))
  have x := fun (h l lw : Int32) => (x h l lw).trans (r_addiu (by omega) (cm2_313 hc) (by decide) (sa := 10) (t := 10) (i := 1) (by decide) (by decide) (by decide) (by decide) (by decide) (by decide))
  have x := fun (h l lw : Int32) => (x h l lw).trans (r_addiu (by omega) (cm2_314 hc) (by decide) (sa := 16) (t := 16) (i := (-4)) (by decide) (by decide) (by decide) (by decide) (by decide) (by decide))
  have x := fun (h l lw : Int32) => (x h l lw).trans (r_jr (by omega) (cm2_315 hc) (by decide) (A := ret) (sa := 31) (by decide) (by decide) (by decide) (by decide) h31)
  have x := fun (h l lw : Int32) => (x h l lw).trans (r_sw (by omega) (cm2_316 hc) (by decide) (sa := 16) (t := 10) (i := (-4)) (k := (5632 + ws.length)) (by decide) (by decide) (by decide) (by decide) (by decide) (by decide) as (by omega))
  simp only [wr0] at x
  have y := RT.mk (N := 40) x (by decide)
  generalize hr7 : (wr _ _ _ : Nat → Int32) = r7 at y
  have e10 : r7 10 = (((sr (m (5632 + ws.length))) / (sr (m (5632 + ws.length + 1))) + (-1)) <<< ((1 : Int32) &&& 31) + 1) := by subst hr7; rfl
  rw [e10] at y
  have k7 := h.set (r' := r7) (tr' := tr) (v := (((sr (m (5632 + ws.length))) / (sr (m (5632 + ws.length + 1))) + (-1)) <<< ((1 : Int32) &&& 31) + 1)) (by omega) (by subst hr7; exact a12) (by subst hr7; exact h.2.2.2.2.2.1) (by subst hr7; rfl) (by subst hr7; rfl) (by subst hr7; rfl) (by subst hr7; rfl) (by subst hr7; rfl)
  exact ⟨r7, _, y, k7, fun j hj => pk_un (by omega)⟩
set_option maxHeartbeats 4000000 in
set_option maxRecDepth 100000 in
theorem rt_div2n1 {S0 : xS} {code r m : Nat → Int32} {a v w : Int32} {ws : List Int32} {tr ret : Nat} (hL : CMl LC2 code) (h : RI code a r m ((ws ++ [v]) ++ [w]) tr) (hn : ws.length < 990) (hz : ¬ sr w = 0) (h5 : r 5 = 1) (c1 : ¬ ((sr v) - (sr v) / (sr w) * (sr w)) = 0) (c2 : ¬ 0 ≤ ((sr v) - (sr v) / (sr w) * (sr w)) ^^^ (sr w)) (h31 : r 31 = nI (4 * ret)) : ∃ r' m', RT S0 40 r m 20133 r' m' ret ∧ RI code a r' m' (ws ++ [(((((sr v) - (sr v) / (sr w) * (sr w)) + (sr w)) + r 0) <<< ((1 : Int32) &&& 31) + 1)]) tr ∧ ∀ j, j < 5632 → m' j = m j := by
  have h : RI code a r m (ws ++ [v, w]) tr := by rw [List.append_assoc] at h; exact h
  have hc := h.1.lib hL
  have h0 := h.2.1
  have h16 : r 16 = nI (4 * (5632 + ws.length + 2)) := by have := h.2.2.1; rw [List.length_append] at this; exact this
  have a8 : (r 16 + (-8)) >>> ((2 : Int32) &&& 31) = nI (5632 + ws.length) := ad4 h16 (nm4 (x := 5632 + ws.length) (c := 2) (by decide)) (by omega)
  have a9 : (r 16 + (-4)) >>> ((2 : Int32) &&& 31) = nI (5632 + ws.length + 1) := ad4 h16 (nm4 (x := 5632 + ws.length + 1) (c := 1) (by decide)) (by omega)
  have a12 : r 16 + (-4) = nI (4 * (5632 + ws.length + 1)) := by rw [h16]; exact nm4 (x := 5632 + ws.length + 1) (c := 1) (by decide)
  have as : ((r 16 + (-4)) + (-4)) >>> ((2 : Int32) &&& 31) = nI (5632 + ws.length) := ad4 a12 (nm4 (x := 5632 + ws.length) (c := 1) (by decide)) (by omega)
  have v0 : m (5632 + ws.length) = v := h.at
  have v1 : m (5632 + ws.length + 1) = w := by
    have := h.2.2.2.2.2.2.2.2.2.2 (ws.length + 1) w (by rw [List.getElem?_append_right (by omega), show ws.length + 1 - ws.length = 1 from by omega]; rfl)
    rw [← Nat.add_assoc] at this; exact this
  subst v0 v1
  have gz : ¬ sr (m (5632 + ws.length + 1)) = r 0 := fun q => hz (q.trans h0)
  have gz2 : ¬ sr (m (5632 + ws.length + 1)) = 0 := hz
  have ge : ¬ ((sr (m (5632 + ws.length))) - (sr (m (5632 + ws.length))) / (sr (m (5632 + ws.length + 1))) * (sr (m (5632 + ws.length + 1)))) = r 0 := by rw [h0]; exact c1
  have g5 : ¬ r 5 = r 0 := by rw [h0, h5]; decide
  have gs := c2
  have x := fun (h l lw : Int32) => r_lw (S0 := S0) (r := r) (m := m) (p := 20134) (h := h) (l := l) (lt := 0) (lw := lw) (by omega) (cm2_293 hc) (by decide) (sa := 16) (t := 8) (i := (-8)) (k := (5632 + ws.length)) (by decide) (by decide) (by decide) (by decide) (by decide) (by decide) a8 (by omega)
  have x := fun (h l lw : Int32) => (x h l lw).trans (r_lw (by omega) (cm2_294 hc) (by decide) (sa := 16) (t := 9) (i := (-4)) (k := (5632 + ws.length + 1)) (by decide) (by decide) (by decide) (by decide) (by decide) (by decide) a9 (by omega))
  have x := fun (h l lw : Int32) => (x h l lw).trans (r_sra (by omega) (cm2_295 hc) (by decide) (sb := 8) (t := 8) (dd := 1) (by decide) (by decide) (by decide) (by decide) (by decide) (by decide) (by decide))
  have x := fun (h l lw : Int32) => (x h l lw).trans (r_sra (by omega) (cm2_296 hc) (by decide) (sb := 9) (t := 9) (dd := 1) (by decide) (by decide) (by decide) (by decide) (by decide) (by decide) (by decide))
  have x := fun (h l lw : Int32) => (x h l lw).trans (r_beqn (by omega) (cm2_297 hc) (by decide) (by decide) (sa := 9) (sb := 0) (by decide) (by decide) (by decide) (by decide) gz )
  have x := fun (h l lw : Int32) => (x h l lw).trans (r_sll (by omega) (cm2_298 hc) (by decide) (sb := 0) (t := 0) (dd := 0) (by decide) (by decide) (by decide) (by decide) (by decide) (by decide) (by decide))
  have x := fun (h l lw : Int32) => (x h l lw).trans (r_div (by omega) (cm2_299 hc) (by decide) (sa := 8) (sb := 9) (by decide) (by decide) (by decide) (by decide) (by decide) (by decide) gz2)
  have x := fun (h l lw : Int32) => (x h l lw).trans (r_mflo (by omega) (cm2_300 hc) (by decide) (t := 10) (by decide) (by decide) (by decide) (by decide))
  have x := fun (h l lw : Int32) => (x h l lw).trans (r_mfhi (by omega) (cm2_301 hc) (by decide) (t := 11) (by decide) (by decide) (by decide) (by decide))
  have x := fun (h l lw : Int32) => (x h l lw).trans (r_beqn (by omega) (cm2_302 hc) (by decide) (by decide) (sa := 11) (sb := 0) (by decide) (by decide) (by decide) (by decide) ge )
  have x := fun (h l lw : Int32) => (x h l lw).trans (r_sll (by omega) (cm2_303 hc) (by decide) (sb := 0) (t := 0) (dd := 0) (by decide) (by decide) (by decide) (by decide) (by decide) (by decide) (by decide))
  have x := fun (h l lw : Int32) => (x h l lw).trans (r_xor (by omega) (cm2_304 hc) (by decide) (sa := 11) (sb := 9) (t := 12) (by decide) (by decide) (by decide) (by decide) (by decide) (by decide) (by decide) (by decide))
  have x := fun (h l lw : Int32) => (x h l lw).trans (r_bgezn (by omega) (cm2_305 hc) (by decide) (by decide) (sa := 12) (by decide) (by decide) (by decide) gs)
  have x := fun (h l lw : Int32) => (x h l lw).trans (r_sll (by omega) (cm2_306 hc) (by decide) (sb := 0) (t := 0) (dd := 0) (by decide) (by decide) (by decide) (by decide) (by decide) (by decide) (by decide))
  have x := fun (h l lw : Int32) => (x h l lw).trans (r_addiu (by omega) (cm2_307 hc) (by decide) (sa := 10) (t := 10) (i := (-1)) (by decide) (by decide) (by decide) (by decide) (by decide) (by decide))
  have x := fun (h l lw : Int32) => (x h l lw).trans (r_addu (by omega) (cm2_308 hc) (by decide) (sa := 11) (sb := 9) (t := 11) (by decide) (by decide) (by decide) (by decide) (by decide) (by decide) (by decide) (by decide))
  have x := fun (h l lw : Int32) => (x h l lw).trans (r_beqn (by omega) (cm2_309 hc) (by decide) (by decide) (sa := 5) (sb := 0) (by decide) (by decide) (by decide) (by decide) (by exact g5) )
  have x := fun (h l lw : Int32) => (x h l lw).trans (r_sll (by omega) (cm2_310 hc) (by decide) (sb := 0) (t := 0) (dd := 0) (by decide) (by decide) (by decide) (by decide) (by decide) (by decide) (by decide))
  have x := fun (h l lw : Int32) => (x h l lw).trans (r_addu (by omega) (cm2_311 hc) (by decide) (sa := 11) (sb := 0) (t := 10) (by decide) (by decide) (by decide) (by decide) (by decide) (by decide) (by decide) (by decide))
  have x := fun (h l lw : Int32) => (x h l lw).trans (r_sll (by omega) (cm2_312 hc) (by decide) (sb := 10) (t := 10) (dd := 1) (by decide) (by decide) (by decide) (by decide) (by decide) (by decide) (by decide))
  have x := fun (h l lw : Int32) => (x h l lw).trans (r_addiu (by omega) (cm2_313 hc) (by decide) (sa := 10) (t := 10) (i := 1) (by decide) (by decide) (by decide) (by decide) (by decide) (by decide))
  have x := fun (h l lw : Int32) => (x h l lw).trans (r_addiu (by omega) (cm2_314 hc) (by decide) (sa := 16) (t := 16) (i := (-4)) (by decide) (by decide) (by decide) (by decide) (by decide) (by decide))
  have x := fun (h l lw : Int32) => (x h l lw).trans (r_jr (by omega) (cm2_315 hc) (by decide) (A := ret) (sa := 31) (by decide) (by decide) (by decide) (by decide) h31)
  have x := fun (h l lw : Int32) => (x h l lw).trans (r_sw (by omega) (cm2_316 hc) (by decide) (sa := 16) (t := 10) (i := (-4)) (k := (5632 + ws.length)) (by decide) (by decide) (by decide) (by decide) (by decide) (by decide) as (by omega))
  simp only [wr0] at x
  have y := RT.mk (N := 40) x (by decide)
  generalize hr7 : (wr _ _ _ : Nat → Int32) = r7 at y
  have e10 : r7 10 = (((((sr (m (5632 + ws.length))) - (sr (m (5632 + ws.length))) / (sr (m (5632 + ws.length + 1))) * (sr (m (5632 + ws.length + 1)))) + (sr (m (5632 + ws.length + 1)))) + r 0) <<< ((1 : Int32) &&& 31) + 1) := by subst hr7; rfl
  rw [e10] at y
  have k7 := h.set (r' := r7) (tr' := tr) (v := (((((sr (m (5632 + ws.length))) - (sr (m (5632 + ws.length))) / (sr (m (5632 + ws.length + 1))) * (sr (m (5632 + ws.length + 1)))) + (sr (m (5632 + ws.length + 1)))) + r 0) <<< ((1 : Int32) &&& 31) + 1)) (by omega) (by subst hr7; exact a12) (by subst hr7; exact h.2.2.2.2.2.1) (by subst hr7; rfl) (by subst hr7; rfl) (by subst hr7; rfl) (by subst hr7; rfl) (by subst hr7; rfl)
  exact ⟨r7, _, y, k7, fun j hj => pk_un (by omega)⟩
set_option maxHeartbeats 4000000 in
set_option maxRecDepth 100000 in
theorem rt_div0_2 {S0 : xS} {code r m : Nat → Int32} {a v w : Int32} {ws : List Int32} {tr : Nat} (hL : CMl LC2 code) (h : RI code a r m ((ws ++ [v]) ++ [w]) tr) (hn : ws.length < 990) (hz : sr w = 0) : ∃ r', RT S0 40 r m 20133 r' m 20159 ∧ RI code a r' m ((ws ++ [v]) ++ [w]) tr ∧ r' 4 = 26 := by
  have hh := h
  have h : RI code a r m (ws ++ [v, w]) tr := by rw [List.append_assoc] at h; exact h
  have hc := h.1.lib hL
  have h0 := h.2.1
  have h16 : r 16 = nI (4 * (5632 + ws.length + 2)) := by have := h.2.2.1; rw [List.length_append] at this; exact this
  have a8 : (r 16 + (-8)) >>> ((2 : Int32) &&& 31) = nI (5632 + ws.length) := ad4 h16 (nm4 (x := 5632 + ws.length) (c := 2) (by decide)) (by omega)
  have a9 : (r 16 + (-4)) >>> ((2 : Int32) &&& 31) = nI (5632 + ws.length + 1) := ad4 h16 (nm4 (x := 5632 + ws.length + 1) (c := 1) (by decide)) (by omega)
  have a12 : r 16 + (-4) = nI (4 * (5632 + ws.length + 1)) := by rw [h16]; exact nm4 (x := 5632 + ws.length + 1) (c := 1) (by decide)
  have as : ((r 16 + (-4)) + (-4)) >>> ((2 : Int32) &&& 31) = nI (5632 + ws.length) := ad4 a12 (nm4 (x := 5632 + ws.length) (c := 1) (by decide)) (by omega)
  have v0 : m (5632 + ws.length) = v := h.at
  have v1 : m (5632 + ws.length + 1) = w := by
    have := h.2.2.2.2.2.2.2.2.2.2 (ws.length + 1) w (by rw [List.getElem?_append_right (by omega), show ws.length + 1 - ws.length = 1 from by omega]; rfl)
    rw [← Nat.add_assoc] at this; exact this
  subst v0 v1
  have gz : sr (m (5632 + ws.length + 1)) = r 0 := by rw [h0]; exact hz
  have x := fun (h l lw : Int32) => r_lw (S0 := S0) (r := r) (m := m) (p := 20134) (h := h) (l := l) (lt := 0) (lw := lw) (by omega) (cm2_293 hc) (by decide) (sa := 16) (t := 8) (i := (-8)) (k := (5632 + ws.length)) (by decide) (by decide) (by decide) (by decide) (by decide) (by decide) a8 (by omega)
  have x := fun (h l lw : Int32) => (x h l lw).trans (r_lw (by omega) (cm2_294 hc) (by decide) (sa := 16) (t := 9) (i := (-4)) (k := (5632 + ws.length + 1)) (by decide) (by decide) (by decide) (by decide) (by decide) (by decide) a9 (by omega))
  have x := fun (h l lw : Int32) => (x h l lw).trans (r_sra (by omega) (cm2_295 hc) (by decide) (sb := 8) (t := 8) (dd := 1) (by decide) (by decide) (by decide) (by decide) (by decide) (by decide) (by decide))
  have x := fun (h l lw : Int32) => (x h l lw).trans (r_sra (by omega) (cm2_296 hc) (by decide) (sb := 9) (t := 9) (dd := 1) (by decide) (by decide) (by decide) (by decide) (by decide) (by decide) (by decide))
  have x := fun (h l lw : Int32) => (x h l lw).trans (r_beq (by omega) (cm2_297 hc) (by decide) (by decide) (sa := 9) (sb := 0) (by decide) (by decide) (by decide) (by decide) gz  (off := 19) (by decide))
  have x := fun (h l lw : Int32) => (x h l lw).trans (r_sll (by omega) (cm2_298 hc) (by decide) (sb := 0) (t := 0) (dd := 0) (by decide) (by decide) (by decide) (by decide) (by decide) (by decide) (by decide))
  have x := fun (h l lw : Int32) => (x h l lw).trans (r_j (by omega) (cm2_317 hc) (by decide) (A := 20159) (by decide) (by decide))
  have x := fun (h l lw : Int32) => (x h l lw).trans (r_addiu (by omega) (cm2_318 hc) (by decide) (sa := 0) (t := 4) (i := 26) (by decide) (by decide) (by decide) (by decide) (by decide) (by decide))
  simp only [wr0] at x
  have y := RT.mk (N := 40) x (by decide)
  generalize hr7 : (wr _ _ _ : Nat → Int32) = r7 at y
  exact ⟨r7, y, by subst hr7; exact hh.keep rfl rfl rfl rfl rfl rfl rfl, by subst hr7; exact (congrArg (· + 26) h0).trans (by decide)⟩
