/-! The law's reckoning of a line, and that it is the machine's. -/
def c31 (x : Int32) : Int32 := x <<< ((1 : Int32) &&& 31) >>> ((1 : Int32) &&& 31)
/-- the law's number of a line, before it is cut; whether it raises -/
def lwQ (x b : Int32) : Int32 := if x - x / b * b = 0 then x / b else if (if x < 0 then (1 : Int32) else 0) = (if b < 0 then 1 else 0) then x / b else x / b + -1
def lwR (how : Nat) (x y b : Int32) : Int32 := if how = 0 then x + b else if how = 1 then x - b else if how = 2 then x * b else if how = 5 then x + y - b else if how = 6 then x * x + b else if how = 7 then x - x - y - b else if b = 0 then y else if how = 3 then lwQ x b else x - b * lwQ x b
def lwT (how : Nat) (b : Int32) : Bool := (how == 3 || how == 4) && b == 0
theorem c31_2 (x : Int32) : c31 x * 2 = x * 2 := ow_cut x
theorem c31_c31 (x : Int32) : c31 (c31 x) = c31 x := by
  have h1 := sr_w (c31 x)
  have h2 := sr_w x
  rw [c31_2] at h1
  exact h1.symm.trans h2
theorem sr_c {x : Int32} (h : c31 x = x) : sr (x * 2 + 1) = x := (sr_w x).trans h
theorem ow_sub (x b : Int32) : (x * 2 + 1) - (b * 2 + 1) + 1 = (x - b) * 2 + 1 := by
  have e : (x - b) * 2 = x * 2 - b * 2 := Int32.sub_mul
  rw [e, Int32.sub_eq_add_neg (x * 2 + 1), Int32.neg_add, Int32.sub_eq_add_neg (x * 2), Int32.sub_eq_add_neg (-(b * 2))]
  rw [show x * 2 + 1 + (-(b * 2) + -1) + 1 = x * 2 + -(b * 2) + 1 + (1 + -1) by ac_rfl, Int32.add_right_neg, Int32.add_zero]
theorem xor_sign (a b : Int32) : (0 ≤ a ^^^ b) ↔ ((if a < 0 then (1 : Int32) else 0) = (if b < 0 then 1 else 0)) := by
  have key : ∀ z : Int32, (z < 0) ↔ z.toBitVec.msb = true := by
    intro z
    rw [Int32.lt_iff_toInt_lt, BitVec.msb_eq_toInt]
    simp only [decide_eq_true_eq]
    exact Iff.rfl
  have hx : (a ^^^ b).toBitVec.msb = (a.toBitVec.msb ^^ b.toBitVec.msb) := by
    show (a.toBitVec ^^^ b.toBitVec).msb = _
    rw [BitVec.msb_xor]
  rw [← Int32.not_lt, key, hx]
  by_cases h1 : a < 0
  · have m1 := (key a).mp h1
    by_cases h2 : b < 0
    · have m2 := (key b).mp h2
      rw [m1, m2, if_pos h1, if_pos h2]; decide
    · have m2 : b.toBitVec.msb = false := by cases hq : b.toBitVec.msb with | false => rfl | true => exact absurd ((key b).mpr hq) h2
      rw [m1, m2, if_pos h1, if_neg h2]; decide
  · have m1 : a.toBitVec.msb = false := by cases hq : a.toBitVec.msb with | false => rfl | true => exact absurd ((key a).mpr hq) h1
    by_cases h2 : b < 0
    · have m2 := (key b).mp h2
      rw [m1, m2, if_neg h1, if_pos h2]; decide
    · have m2 : b.toBitVec.msb = false := by cases hq : b.toBitVec.msb with | false => rfl | true => exact absurd ((key b).mpr hq) h2
      rw [m1, m2, if_neg h1, if_neg h2]; decide
theorem rem_z (a b : Int32) : (a - a / b * b = 0) ↔ a / b * b = a := by
  constructor
  · intro h
    have this : a - a / b * b + a / b * b = 0 + a / b * b := by rw [h]
    rw [Int32.sub_add_cancel, Int32.zero_add] at this
    exact this.symm
  · intro h
    rw [h, Int32.sub_self]
theorem fdW_lw (x b : Int32) : fdW x b = lwQ x b := by
  unfold fdW lwQ
  have h1 := xor_sign x b
  have h2 := rem_z x b
  by_cases q2 : x / b * b = x
  · rw [if_pos (h2.mpr q2), if_pos q2]
    split <;> rfl
  · rw [if_neg (fun z => q2 (h2.mp z)), if_neg q2]
    by_cases q1 : 0 ≤ x ^^^ b
    · rw [if_pos q1, if_pos (h1.mp q1)]
    · rw [if_neg q1, if_neg (fun z => q1 (h1.mpr z)), Int32.sub_eq_add_neg]
theorem fmW_lw (x b : Int32) : fmW x b = x - b * lwQ x b := by
  unfold fmW lwQ
  have h1 := xor_sign x b
  have h2 := rem_z x b
  have e : ∀ q : Int32, b * q = q * b := fun q => Int32.mul_comm _ _
  rw [e]
  by_cases q2 : x - x / b * b = 0
  · rw [if_pos q2, if_pos q2]
    split <;> rfl
  · rw [if_neg q2, if_neg q2]
    by_cases q1 : 0 ≤ x ^^^ b
    · rw [if_pos q1, if_pos (h1.mp q1)]
    · rw [if_neg q1, if_neg (fun z => q1 (h1.mpr z)), Int32.add_mul, Int32.neg_mul, Int32.one_mul, ← Int32.sub_eq_add_neg]
      rw [Int32.sub_eq_add_neg x (x / b * b - b), Int32.neg_sub, Int32.sub_eq_add_neg x, Int32.sub_eq_add_neg b]
      ac_rfl
theorem op_add (x b : Int32) : opW 42 (x * 2 + 1) (b * 2 + 1) = some ((x + b) * 2 + 1) := by unfold opW; rw [if_pos rfl, ow_add]
theorem op_sub (x b : Int32) : opW 43 (x * 2 + 1) (b * 2 + 1) = some ((x - b) * 2 + 1) := by unfold opW; rw [if_neg (by decide), if_pos rfl, ow_sub]
theorem op_mul (x b : Int32) : opW 41 (x * 2 + 1) (b * 2 + 1) = some (x * b * 2 + 1) := by
  unfold opW
  rw [if_neg (by decide), if_neg (by decide), if_pos rfl, sr_w, Int32.add_sub_cancel, Int32.mul_assoc, Int32.mul_comm 2, show b <<< ((1 : Int32) &&& 31) >>> ((1 : Int32) &&& 31) * 2 = b * 2 from ow_cut b, Int32.mul_assoc]
theorem op_div {x b : Int32} (hx : c31 x = x) (hb : c31 b = b) : opW 5 (x * 2 + 1) (b * 2 + 1) = if b = 0 then none else some (lwQ x b * 2 + 1) := by
  unfold opW
  rw [if_neg (by decide), if_neg (by decide), if_neg (by decide), sr_c hx, sr_c hb, if_pos rfl, fdW_lw]
theorem op_mod {x b : Int32} (hx : c31 x = x) (hb : c31 b = b) : opW 16 (x * 2 + 1) (b * 2 + 1) = if b = 0 then none else some ((x - b * lwQ x b) * 2 + 1) := by
  unfold opW
  rw [if_neg (by decide), if_neg (by decide), if_neg (by decide), sr_c hx, sr_c hb, if_neg (show ¬ (16 : Int32) = 5 by decide), fmW_lw]
/-- a line, by the law -/
abbrev Lq := Bool × Nat × Option Int32 × Bool
def lqB (y : Int32) (l : Lq) : Int32 := l.2.2.1.getD y
def lqN (l : Lq) : Ln := (l.1, l.2.1, l.2.2.1.map Int32.toInt, l.2.2.2)
theorem ofI (v : Int32) : Int32.ofInt v.toInt = v := Int32.ofInt_toInt v
theorem atW_la (x y : Int32) (o : Option Int32) : atW (x * 2 + 1) (y * 2 + 1) (laI (o.map Int32.toInt)).2 = o.getD y * 2 + 1 := by
  cases o with
  | none => rfl
  | some v =>
    show (if (27 : Int32) = 27 then Int32.ofInt v.toInt * 2 + 1 else _) = _
    rw [if_pos rfl, ofI]
    rfl
theorem lwR_0 {x y b : Int32} : lwR 0 x y b = x + b := if_pos rfl
theorem lwR_1 {x y b : Int32} : lwR 1 x y b = x - b := by unfold lwR; rw [if_neg (by decide), if_pos rfl]
theorem lwR_2 {x y b : Int32} : lwR 2 x y b = x * b := by unfold lwR; rw [if_neg (by decide), if_neg (by decide), if_pos rfl]
theorem lwR_5 {x y b : Int32} : lwR 5 x y b = x + y - b := by unfold lwR; rw [if_neg (by decide), if_neg (by decide), if_neg (by decide), if_pos rfl]
theorem lwR_6 {x y b : Int32} : lwR 6 x y b = x * x + b := by unfold lwR; rw [if_neg (by decide), if_neg (by decide), if_neg (by decide), if_neg (by decide), if_pos rfl]
theorem lwR_7 {x y b : Int32} : lwR 7 x y b = x - x - y - b := by unfold lwR; rw [if_neg (by decide), if_neg (by decide), if_neg (by decide), if_neg (by decide), if_neg (by decide), if_pos rfl]
theorem lwR_3 {x y b : Int32} : lwR 3 x y b = if b = 0 then y else lwQ x b := by unfold lwR; rw [if_neg (by decide), if_neg (by decide), if_neg (by decide), if_neg (by decide), if_neg (by decide), if_neg (by decide), if_pos (show 3 = 3 from rfl)]
theorem lwR_4 {x y b : Int32} : lwR 4 x y b = if b = 0 then y else x - b * lwQ x b := by unfold lwR; rw [if_neg (by decide), if_neg (by decide), if_neg (by decide), if_neg (by decide), if_neg (by decide), if_neg (by decide), if_neg (show ¬ 4 = 3 by decide)]
theorem lwT_no {how : Nat} {b : Int32} (h : ¬ how = 3) (h2 : ¬ how = 4) : lwT how b = false := by
  unfold lwT
  rw [show (how == 3) = false from beq_eq_false_iff_ne.mpr h, show (how == 4) = false from beq_eq_false_iff_ne.mpr h2]
  rfl
theorem lwT_0 {how : Nat} (h : how = 3 ∨ how = 4) : lwT how 0 = true := by rcases h with rfl | rfl <;> rfl
theorem lwT_b {how : Nat} {b : Int32} (h : ¬ b = 0) : lwT how b = false := by
  unfold lwT
  rw [show (b == 0) = false from beq_eq_false_iff_ne.mpr h, Bool.and_false]
section
variable {wx wy v : Int32} {q : Int32 × Int32}
theorem evC_0 : evC wx wy v (opO 0 q) = opW 42 v (atW wx wy q) := rfl
theorem evC_1 : evC wx wy v (opO 1 q) = opW 43 v (atW wx wy q) := rfl
theorem evC_2 : evC wx wy v (opO 2 q) = opW 41 v (atW wx wy q) := rfl
theorem evC_3 : evC wx wy v (opO 3 q) = opW 5 v (atW wx wy q) := rfl
theorem evC_4 : evC wx wy v (opO 4 q) = opW 16 v (atW wx wy q) := rfl
theorem evC_5 : evC wx wy v (opO 5 q) = match opW 42 v (atW wx wy (25, 52)) with | none => none | some u => opW 43 u (atW wx wy q) := rfl
theorem evC_6 : evC wx wy v (opO 6 q) = match opW 41 v (atW wx wy (25, 51)) with | none => none | some u => opW 42 u (atW wx wy q) := rfl
theorem evC_7 : evC wx wy v (opO 7 q) = match opW 43 v (atW wx wy (25, 51)) with | none => none | some u => match opW 43 u (atW wx wy (25, 52)) with | none => none | some u => opW 43 u (atW wx wy q) := rfl
end
theorem evC_lw {x y : Int32} {how : Nat} {o : Option Int32} (hh : how < 8) (hx : c31 x = x) (hb : c31 (o.getD y) = o.getD y) :
    evC (x * 2 + 1) (y * 2 + 1) (x * 2 + 1) (opO how (laI (o.map Int32.toInt)).2) = if lwT how (o.getD y) = true then none else some (lwR how x y (o.getD y) * 2 + 1) := by
  have ha := atW_la x y o
  have ax : atW (x * 2 + 1) (y * 2 + 1) (25, 51) = x * 2 + 1 := rfl
  have ay : atW (x * 2 + 1) (y * 2 + 1) (25, 52) = y * 2 + 1 := rfl
  generalize (laI (o.map Int32.toInt)).2 = q at ha ⊢
  generalize o.getD y = b at *
  have ff : ¬ false = true := by decide
  match how, hh with
  | 0, _ => rw [evC_0, ha, op_add, lwT_no (by decide) (by decide), if_neg ff, lwR_0]
  | 1, _ => rw [evC_1, ha, op_sub, lwT_no (by decide) (by decide), if_neg ff, lwR_1]
  | 2, _ => rw [evC_2, ha, op_mul, lwT_no (by decide) (by decide), if_neg ff, lwR_2]
  | 3, _ =>
    rw [evC_3, ha, op_div hx hb, lwR_3]
    by_cases h0 : b = 0
    · rw [h0, lwT_0 (Or.inl rfl), if_pos rfl, if_pos rfl]
    · rw [lwT_b h0, if_neg h0, if_neg ff, if_neg h0]
  | 4, _ =>
    rw [evC_4, ha, op_mod hx hb, lwR_4]
    by_cases h0 : b = 0
    · rw [h0, lwT_0 (Or.inr rfl), if_pos rfl, if_pos rfl]
    · rw [lwT_b h0, if_neg h0, if_neg ff, if_neg h0]
  | 5, _ =>
    rw [evC_5, ay, op_add, ha]
    dsimp only
    rw [op_sub, lwT_no (by decide) (by decide), if_neg ff, lwR_5]
  | 6, _ =>
    rw [evC_6, ax, op_mul, ha]
    dsimp only
    rw [op_add, lwT_no (by decide) (by decide), if_neg ff, lwR_6]
  | 7, _ =>
    rw [evC_7, ax, ay, op_sub, ha]
    dsimp only
    rw [op_sub]
    dsimp only
    rw [op_sub, lwT_no (by decide) (by decide), if_neg ff, lwR_7]
/-- what the law holds behind some lines: x, y, whether Div was raised -/
def Rk (v0 v1 : Int32) (ls : List Lq) (x y : Int32) (ra : Bool) : Prop := if ra = true then evL (v0 * 2 + 1) (v1 * 2 + 1) ((ls.map lqN).map lnD) = none else evL (v0 * 2 + 1) (v1 * 2 + 1) ((ls.map lqN).map lnD) = some (x * 2 + 1, y * 2 + 1) ∧ c31 x = x ∧ c31 y = y
theorem evL_app (wx wy : Int32) (c : De) : ∀ cs : List De, ∀ wx wy, evL wx wy (cs ++ [c]) = match evL wx wy cs with | none => none | some u => evL u.1 u.2 [c]
  | [], wx, wy => rfl
  | e :: cs, wx, wy => by
    show (match exW wx wy e.2 with | none => none | some u => evL _ _ (cs ++ [c])) = match (match exW wx wy e.2 with | none => none | some u => evL (if e.1 = 51 then u else wx) (if e.1 = 51 then wy else u) cs) with | none => none | some u => evL u.1 u.2 [c]
    cases exW wx wy e.2 with
    | none => rfl
    | some u => exact evL_app wx wy c cs _ _
/-- what the law makes of a line -/
def lqX (x y : Int32) (l : Lq) : Int32 := if l.1 = true then c31 (lwR l.2.1 x y (lqB y l)) else x
def lqY (x y : Int32) (l : Lq) : Int32 := if l.1 = true then y else c31 (lwR l.2.1 x y (lqB y l))
theorem Rk_step {v0 v1 x y : Int32} {ls : List Lq} {l : Lq} (h : Rk v0 v1 ls x y false) (hh : l.2.1 < 8) (hv : ∀ v, l.2.2.1 = some v → c31 v = v) : Rk v0 v1 (ls ++ [l]) (lqX x y l) (lqY x y l) (lwT l.2.1 (lqB y l) && !l.2.2.2) := by
  obtain ⟨h1, hx, hy⟩ : evL (v0 * 2 + 1) (v1 * 2 + 1) ((ls.map lqN).map lnD) = some (x * 2 + 1, y * 2 + 1) ∧ c31 x = x ∧ c31 y = y := by
    unfold Rk at h
    rw [if_neg (by decide)] at h
    exact h
  obtain ⟨fi, how, o, ha⟩ := l
  have hb : c31 (o.getD y) = o.getD y := by
    cases o with
    | none => exact hy
    | some v => exact hv v rfl
  have ev := evC_lw (x := x) (y := y) (how := how) (o := o) hh hx hb
  have e1 : evL (v0 * 2 + 1) (v1 * 2 + 1) (((ls ++ [((fi, how, o, ha) : Lq)]).map lqN).map lnD) = evL (x * 2 + 1) (y * 2 + 1) [lnD (lqN (fi, how, o, ha))] := by
    rw [List.map_append, List.map_append]
    show evL _ _ (_ ++ [lnD (lqN (fi, how, o, ha))]) = _
    rw [evL_app 0 0, h1]
  have i51 : (idX fi = 51) ↔ fi = true := by cases fi <;> decide
  have e2 : evL (x * 2 + 1) (y * 2 + 1) [lnD (lqN (fi, how, o, ha))] = match exW (x * 2 + 1) (y * 2 + 1) (lnD (lqN (fi, how, o, ha))).2 with | none => none | some u => some (if idX fi = 51 then u else x * 2 + 1, if idX fi = 51 then y * 2 + 1 else u) := rfl
  have fin : ∀ u : Int32, exW (x * 2 + 1) (y * 2 + 1) (lnD (lqN (fi, how, o, ha))).2 = some (u * 2 + 1) → u * 2 = c31 (lwR how x y (o.getD y)) * 2 → Rk v0 v1 (ls ++ [(fi, how, o, ha)]) (lqX x y (fi, how, o, ha)) (lqY x y (fi, how, o, ha)) false := by
    intro u hu hc
    unfold Rk
    rw [if_neg (by decide), e1, e2, hu]
    dsimp only
    rw [hc]
    unfold lqX lqY lqB
    dsimp only
    cases fi with
    | true => rw [if_pos (i51.mpr rfl), if_pos (i51.mpr rfl), if_pos rfl, if_pos rfl]; exact ⟨rfl, c31_c31 _, hy⟩
    | false => rw [if_neg (fun z => absurd (i51.mp z) (by decide)), if_neg (fun z => absurd (i51.mp z) (by decide)), if_neg (by decide), if_neg (by decide)]; exact ⟨rfl, hx, c31_c31 _⟩
  cases ha with
  | false =>
    have e3 : exW (x * 2 + 1) (y * 2 + 1) (lnD (lqN (fi, how, o, false))).2 = evC (x * 2 + 1) (y * 2 + 1) (x * 2 + 1) (opO how (laI (o.map Int32.toInt)).2) := rfl
    show Rk _ _ _ _ _ (lwT how (o.getD y) && !false)
    by_cases ht : lwT how (o.getD y) = true
    · rw [if_pos ht] at ev
      rw [ht, show (true && !false) = true from rfl]
      unfold Rk
      rw [if_pos rfl, e1, e2, e3, ev]
    · rw [if_neg ht] at ev
      have hf : lwT how (o.getD y) = false := by cases hq : lwT how (o.getD y) with | false => rfl | true => exact absurd hq ht
      rw [hf, show (false && !false) = false from rfl]
      exact fin _ (e3.trans ev) (c31_2 _).symm
  | true =>
    have e3 : exW (x * 2 + 1) (y * 2 + 1) (lnD (lqN (fi, how, o, true))).2 = some ((evC (x * 2 + 1) (y * 2 + 1) (x * 2 + 1) (opO how (laI (o.map Int32.toInt)).2)).getD (y * 2 + 1)) := rfl
    show Rk _ _ _ _ _ (lwT how (o.getD y) && !true)
    rw [show (lwT how (o.getD y) && !true) = false by cases lwT how (o.getD y) <;> rfl]
    by_cases ht : lwT how (o.getD y) = true
    · rw [if_pos ht] at ev
      rw [ev] at e3
      refine fin y e3 ?_
      unfold lwT at ht
      rw [Bool.and_eq_true, Bool.or_eq_true] at ht
      have hb0 : o.getD y = 0 := eq_of_beq ht.2
      have : lwR how x y (o.getD y) = y := by
        rw [hb0]
        rcases ht.1 with h | h
        · rw [eq_of_beq h, lwR_3, if_pos rfl]
        · rw [eq_of_beq h, lwR_4, if_pos rfl]
      rw [this, c31_2]
    · rw [if_neg ht] at ev
      rw [ev] at e3
      exact fin _ e3 (c31_2 _).symm
