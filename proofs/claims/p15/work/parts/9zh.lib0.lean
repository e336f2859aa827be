/-! XF: rows, then what is proved of them. -/
theorem rX0_addressOf_0 {d : Nat} {lv : xLV} {st : List Value} {S : xS} {r : xO} : XL SK MT d 4 (0, lv, st, S) r ↔ xA (xlook lv 0) (fun x => XL SK MT d 4 (1, lv, .ref x :: st, S) r) := X_ldA rfl rfl (fun _ => rfl) rfl rfl rfl rfl
theorem rX0_addressOf_1 {d : Nat} {lv : xLV} {st : List Value} {S : xS} {r : xO} : XL SK MT d 4 (1, lv, .ref 9 :: st, S) r ↔ XL SK MT d 4 (4, lv, .ref 63 :: st, S) r := X_heap rfl rfl rfl rfl rfl
theorem rX0_addressOf_4 {d : Nat} {lv : xLV} {st : List Value} {S : xS} {r : xO} : XL SK MT d 4 (4, lv, st, S) r ↔ xI (xlook lv 1) (fun x => XL SK MT d 4 (5, lv, .int x :: st, S) r) := X_ldI rfl rfl (fun _ => rfl) rfl rfl rfl rfl
theorem rX0_addressOf_5 {d : Nat} {lv : xLV} {S : xS} {r : xO} {x1 : Nat} {x2 : Int32} : XL SK MT d 4 (5, lv, [.int x2, .ref x1], S) r ↔ xK (XC SK MT d 303 [.ref x1, .int x2] S) (fun v S => XL SK MT d 4 (8, lv, v.toList ++ [], S) r) := X_inv (n := 2) (kd := 1) (st0 := [.int x2, .ref x1]) rfl (Or.inl ⟨rfl, rfl⟩) rfl (Nat.le_of_ble_eq_true rfl) (Nat.le_of_ble_eq_true rfl) (by decide) rfl
theorem rX0_addressOf_8 {d : Nat} {lv : xLV} {st : List Value} {S : xS} {r : xO} : XL SK MT d 4 (8, lv, st, S) r ↔ XL SK MT d 4 (9, lv, .int 4 :: st, S) r := X_pure rfl rfl rfl
theorem rX0_addressOf_9 {d : Nat} {lv : xLV} {st : List Value} {S : xS} {r : xO} {x z : Int32} : XL SK MT d 4 (9, lv, .int z :: .int x :: st, S) r ↔ XL SK MT d 4 (10, lv, .int (x * z) :: st, S) r := X_pure rfl rfl rfl
theorem rX0_addressOf_10 {d : Nat} {lv : xLV} {S : xS} {r : xO} {x : Int32} : XL SK MT d 4 (10, lv, [.int x], S) r ↔ (some (.int x), S) = r := X_ret rfl rfl rfl rfl rfl rfl

/-! Assembler: a method at a time, the same upon lists. -/
section
variable {S0 S : xS} {a : PA}
theorem o_three (h : AS S0 S a) (x y z u : Int32) : ∃ S', (∀ d, XC SK MT (d + 4) 15 [.ref 9, .int x, .int y, .int z, .int u] S = some (none, S')) ∧ AS S0 S' (pEm a (wThree x y z u)) := ⟨_, fun _ => a_three, h.emit _⟩
theorem o_shift (h : AS S0 S a) (x y z u : Int32) : ∃ S', (∀ d, XC SK MT (d + 4) 16 [.ref 9, .int x, .int y, .int z, .int u] S = some (none, S')) ∧ AS S0 S' (pEm a (wShift x y z u)) := ⟨_, fun _ => a_shift, h.emit _⟩
theorem o_immediate (h : AS S0 S a) (x y z u : Int32) : ∃ S', (∀ d, XC SK MT (d + 4) 17 [.ref 9, .int x, .int y, .int z, .int u] S = some (none, S')) ∧ AS S0 S' (pEm a (wImm x y z u)) := ⟨_, fun _ => a_immediate, h.emit _⟩
theorem o_lw (h : AS S0 S a) (x y z : Int32) : ∃ S', (∀ d, XC SK MT (d + 4) 18 [.ref 9, .int x, .int y, .int z] S = some (none, S')) ∧ AS S0 S' (pEm a (wLw x y z)) := ⟨_, fun _ => a_lw, h.emit _⟩
theorem o_sw (h : AS S0 S a) (x y z : Int32) : ∃ S', (∀ d, XC SK MT (d + 4) 19 [.ref 9, .int x, .int y, .int z] S = some (none, S')) ∧ AS S0 S' (pEm a (wSw x y z)) := ⟨_, fun _ => a_sw, h.emit _⟩
theorem o_add (h : AS S0 S a) (x y z : Int32) : ∃ S', (∀ d, XC SK MT (d + 4) 20 [.ref 9, .int x, .int y, .int z] S = some (none, S')) ∧ AS S0 S' (pEm a (wAdd x y z)) := ⟨_, fun _ => a_add, h.emit _⟩
theorem o_move (h : AS S0 S a) (x y : Int32) : ∃ S', (∀ d, XC SK MT (d + 4) 21 [.ref 9, .int x, .int y] S = some (none, S')) ∧ AS S0 S' (pEm a (wMove x y)) := ⟨_, fun _ => a_move, h.emit _⟩
theorem o_branch (h : AS S0 S a) (x y z l : Int32) : ∃ S', (∀ d, XC SK MT (d + 4) 24 [.ref 9, .int x, .int y, .int z, .int l] S = some (none, S')) ∧ AS S0 S' (pLp a (wBr x y z) l) := ⟨_, fun _ => a_branch, h.leap _ _⟩
theorem o_branchNotBelow (h : AS S0 S a) (x l : Int32) : ∃ S', (∀ d, XC SK MT (d + 4) 25 [.ref 9, .int x, .int l] S = some (none, S')) ∧ AS S0 S' (pLp a (wBnb x) l) := ⟨_, fun _ => a_branchNotBelow, h.leap _ _⟩
theorem o_over (h : AS S0 S a) (x y z : Int32) : ∃ S', (∀ d, XC SK MT (d + 4) 26 [.ref 9, .int x, .int y, .int z] S = some (none, S')) ∧ AS S0 S' (pLp a (wOv x y z) (-1)) := ⟨_, fun _ => a_over, h.leap _ _⟩
theorem o_jump (h : AS S0 S a) (l : Int32) : ∃ S', (∀ d, XC SK MT (d + 4) 27 [.ref 9, .int l] S = some (none, S')) ∧ AS S0 S' (pLp a wJ l) := ⟨_, fun _ => a_jump, h.leap _ _⟩
theorem o_jumpAndLink (h : AS S0 S a) (l : Int32) : ∃ S', (∀ d, XC SK MT (d + 4) 28 [.ref 9, .int l] S = some (none, S')) ∧ AS S0 S' (pLp a wJal l) := ⟨_, fun _ => a_jumpAndLink, h.leap _ _⟩
theorem o_back (h : AS S0 S a) (x : Int32) : ∃ S', (∀ d, XC SK MT (d + 4) 29 [.ref 9, .int x] S = some (none, S')) ∧ AS S0 S' (pLp a (wJr x) (-1)) := ⟨_, fun _ => a_back, h.leap _ _⟩
theorem o_set (h : AS S0 S a) (t n : Int32) : ∃ S', (∀ d, XC SK MT (d + 4) 22 [.ref 9, .int t, .int n] S = some (none, S')) ∧ AS S0 S' (pSe a t n) := ⟨_, fun _ => a_set, h.sett _ _⟩
theorem o_setCode (h : AS S0 S a) (t l : Int32) : ∃ S', (∀ d, XC SK MT (d + 4) 23 [.ref 9, .int t, .int l] S = some (none, S')) ∧ AS S0 S' (pSc a t l) := ⟨_, fun _ => a_setCode, h.code _ _⟩
theorem o_land (h : AS S0 S a) (l : Int32) : ∃ S', (∀ d, XC SK MT (d + 3) 3 [.ref 9, .int l] S = some (none, S')) ∧ AS S0 S' (pLd a l) := ⟨_, fun _ => a_land, h.land _⟩
theorem o_stop (h : AS S0 S a) : ∃ S', (∀ d, XC SK MT (d + 3) 30 [.ref 9] S = some (none, S')) ∧ AS S0 S' (pSt a) := ⟨_, fun _ => a_stop, h.stop⟩
theorem o_label (h : AS S0 S a) : ∃ S' n, (∀ d, XC SK MT (d + 1) 1 [.ref 9] S = some (some (.int n), S')) ∧ n = a.own ∧ AS S0 S' (pLb a) := ⟨_, _, fun _ => a_label, h.ow, h.lab⟩
theorem o_labelHere (h : AS S0 S a) : ∃ S' n, (∀ d, XC SK MT (d + 4) 2 [.ref 9] S = some (some (.int n), S')) ∧ n = a.own ∧ AS S0 S' (pLd (pLb a) a.own) := ⟨_, _, fun _ => a_labelHere, h.ow, by rw [← h.ow]; exact h.lab.land _⟩
def pAd (a : PA) (l : Int32) : Int32 := match lkL a.lb l with | some v => nI (19840 + v) * 4 | none => 0
theorem o_addressOf (h : AS S0 S a) (l : Int32) (h0 : ¬ l < 0) (h1 : ¬ nI 66048 ≤ l) (h2 : ∃ v, lkL a.lb l = some v) (d : Nat) : XC SK MT (d + 2) 4 [.ref 9, .int l] S = some (some (.int (pAd a l)), S) := by
  obtain ⟨v, h2⟩ := h2
  have e : pAd a l = nI (19840 + v) * 4 := by unfold pAd; rw [h2]
  have e1 : xat S 63 66048 l = nI (19840 + v) := (xat_l h0 h1).trans (h.lb l v h2 h0 h1)
  rw [e, XC_iff]
  refine ⟨Nat.le_of_ble_eq_true rfl, ?_⟩
  show XL SK MT (d + 1) 4 (0, [some (.ref 9), some (.int l)], [], S) _
  simp (config := { decide := true }) only [rX0_addressOf_0, rX0_addressOf_1, rX0_addressOf_4, rX0_addressOf_5, rX0_addressOf_8, rX0_addressOf_9, rX0_addressOf_10, ↓reduceIte, m1_le, m1_lt, m1_eq, ofInt_m1, ex_ret, Int32.reduceAdd, Int32.reduceSub, Int32.reduceMul, Int32.reduceLT, Int32.reduceLE, xsI, Nat.reduceEqDiff, and_false, false_and, and_true, true_and, if_true, if_false, ite_true, ite_false, xlook_0, xlook_s, xI_int, xA_ref, xJ_long, xK_some, xRow_row, xTo_some, xst1, xclr, List.set_cons_zero, List.set_cons_succ, xsum_nil, xsum_int, xsum_ref, xsum_long, Option.toList_some, Option.toList_none, List.nil_append, List.cons_append, s_at (show SK[63]? = some (.inl (0, 66048)) from rfl) (by decide : 66048 < 2 ^ 31), s_put (show SK[63]? = some (.inl (0, 66048)) from rfl) (by decide : 66048 < 2 ^ 31), e1]
def bump (x : Int32) : Int32 := if (66047 : Int32) ≤ x then x else x + 1
theorem pLay_own {w : Int32} : (pLay a w).own = a.own := by unfold pLay; split <;> rfl
theorem pSlot_own : (pSlot a).own = a.own := pLay_own
theorem pEm_own {w : Int32} : (pEm a w).own = a.own := by
  have e : (pEmA a w).own = a.own := by
    unfold pEmA
    split
    · rfl
    split
    · rfl
    split
    · split
      · exact pSlot_own
      · rfl
    · exact pSlot_own
  unfold pEm pEmB
  generalize pEmA a w = b at e ⊢
  rw [← e]
  split
  · exact pLay_own
  split
  · exact pLay_own
  split
  · exact pLay_own
  · exact pSlot_own.trans pLay_own
theorem pLp_own {w l : Int32} : (pLp a w l).own = a.own := by
  have e : (pLpA a w).own = a.own := by
    unfold pLpA
    split
    · rfl
    split
    · rfl
    · exact pSlot_own
  have f : ∀ b x, (pLpE b l w x).own = b.own := by
    intro b x
    have g : (pFxF b l).own = b.own := by unfold pFxF; split <;> rfl
    show (pLay (pLay (pFxF b l) w) x).own = b.own
    rw [pLay_own, pLay_own, g]
  unfold pLp pLpB
  generalize pLpA a w = b at e ⊢
  rw [← e]
  split
  · split
    · exact f _ _
    · exact f _ _
  · exact f _ _
theorem pLdS_own : (pLdS a).own = a.own := by unfold pLdS; split; rfl; exact pSlot_own
theorem pLd_own {l : Int32} : (pLd a l).own = a.own := pLdS_own
theorem pSt_own : (pSt a).own = a.own := by show (pLay (pLdS a) 12).own = _; rw [pLay_own, pLdS_own]
theorem pSc_own {t l : Int32} : (pSc a t l).own = a.own := by
  show (pEm (pFx (pEm (pFx (pLdS a) l) (scW0 t)) l) (scW1 t)).own = _
  rw [pEm_own]
  show (pEm (pFx (pLdS a) l) (scW0 t)).own = _
  rw [pEm_own]
  exact pLdS_own
theorem pSe_own {t x : Int32} : (pSe a t x).own = a.own := by
  have e : (pSeB a t x).own = a.own := by
    unfold pSeB
    split
    · exact pEm_own
    · rw [pEm_own, pEm_own]
  unfold pSe
  split
  · exact e
  split
  · exact e
  · exact pEm_own
theorem pLb_own : (pLb a).own = bump a.own := by unfold pLb bump; split <;> rfl
end
