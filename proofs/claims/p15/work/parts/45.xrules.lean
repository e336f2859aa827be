/-! XF, sixth part: a row an instruction. -/
section XR
def xI (o : Option Value) (k : Int32 → Prop) : Prop := match o with | some (.int x) => k x | _ => False
def xA (o : Option Value) (k : Nat → Prop) : Prop := match o with | some (.ref x) => k x | _ => False
def xJ (o : Option Value) (k : Int64 → Prop) : Prop := match o with | some (.long x) => k x | _ => False
def xRow (o : Option xC) (k : Nat → Nat → Prop) : Prop := match o with | some (.inl (t, n)) => k t n | _ => False
def xK (o : Option xO) (k : Option Value → xS → Prop) : Prop := match o with | some (v, S) => k v S | _ => False
def xTo (o : Option Nat) (k : Nat → Prop) : Prop := match o with | some t => k t | _ => False
theorem xI_int {x : Int32} {k : Int32 → Prop} : xI (some (.int x)) k = k x := rfl
theorem xA_ref {x : Nat} {k : Nat → Prop} : xA (some (.ref x)) k = k x := rfl
theorem xJ_long {x : Int64} {k : Int64 → Prop} : xJ (some (.long x)) k = k x := rfl
theorem xRow_row {t n : Nat} {k : Nat → Nat → Prop} : xRow (some (.inl (t, n))) k = k t n := rfl
theorem xK_some {v : Option Value} {S : xS} {k : Option Value → xS → Prop} : xK (some (v, S)) k = k v S := rfl
theorem xTo_some {t : Nat} {k : Nat → Prop} : xTo (some t) k = k t := rfl
theorem xlook_0 {a : Option Value} {l : xLV} : xlook (a :: l) 0 = a := rfl
theorem xlook_s {a : Option Value} {l : xLV} {n : Nat} : xlook (a :: l) (n + 1) = xlook l n := rfl
section
variable {sk : List xC} {MT : Nat → Nat × xT} {d y pc : Nat} {lv lv' : xLV} {st st' : List Value} {S S' : xS} {r : xO} {q : Instr × Nat}
theorem X_pure {pc9 : Nat} (h : (MT y).2.1 pc = some q) (hn : pc + xlen q = pc9) (hp : xpure (MT y).1 (MT y).2 lv st q = some (lv', st')) : XL sk MT d y (pc, lv, st, S) r ↔ XL sk MT d y (pc9, lv', st', S) r := by subst hn; exact XL_go (by unfold xstep; simp only [h, hp])
theorem X_jump {pc' : Nat} (h : (MT y).2.1 pc = some q) (hp : xpure (MT y).1 (MT y).2 lv st q = none) (hj : xjump pc st q = some (pc', st')) : XL sk MT d y (pc, lv, st, S) r ↔ XL sk MT d y (pc', lv, st', S) r := XL_go (by unfold xstep; simp only [h, hp, hj])
theorem X_heap {pc9 : Nat} (h : (MT y).2.1 pc = some q) (hn : pc + xlen q = pc9) (hp : xpure (MT y).1 (MT y).2 lv st q = none) (hj : xjump pc st q = none) (hh : xheap sk (MT y).2 st S q = some (st', S')) : XL sk MT d y (pc, lv, st, S) r ↔ XL sk MT d y (pc9, lv, st', S') r := by subst hn; exact XL_go (by unfold xstep; simp only [h, hp, hj, hh])
theorem X_none (h : (MT y).2.1 pc = some q) (hp : xpure (MT y).1 (MT y).2 lv st q = none) (hj : xjump pc st q = none) (hh : xheap sk (MT y).2 st S q = none) (hc : xcalls sk (MT y).2 (fun y' as' S' => XC sk MT d y' as' S') st S q = none) (hr : xret (MT y).2 st q = none) : XL sk MT d y (pc, lv, st, S) r ↔ False := XL_no (by unfold xstep; simp only [h, hp, hj, hh, hc, hr])
theorem X_call (h : (MT y).2.1 pc = some q) (hp : xpure (MT y).1 (MT y).2 lv st q = none) (hj : xjump pc st q = none) (hh : xheap sk (MT y).2 st S q = none) (hc : xcalls sk (MT y).2 (fun y' as' S' => XC sk MT d y' as' S') st S q = some (st', S')) : XL sk MT d y (pc, lv, st, S) r ↔ XL sk MT d y (pc + xlen q, lv, st', S') r := XL_go (by unfold xstep; simp only [h, hp, hj, hh, hc])
theorem X_ret {v : Option Value} (h : (MT y).2.1 pc = some q) (hp : xpure (MT y).1 (MT y).2 lv st q = none) (hj : xjump pc st q = none) (hh : xheap sk (MT y).2 st S q = none) (hc : xcalls sk (MT y).2 (fun y' as' S' => XC sk MT d y' as' S') st S q = none) (hr : xret (MT y).2 st q = some v) : XL sk MT d y (pc, lv, st, S) r ↔ (v, S) = r := XL_end (by unfold xstep; simp only [h, hp, hj, hh, hc, hr])
theorem X_ldI {pc9 : Nat} {i : Nat} (h : (MT y).2.1 pc = some q) (hn : pc + xlen q = pc9) (hp : ∀ st, xpure (MT y).1 (MT y).2 lv st q = xldI lv st i) (hj : xjump pc st q = none) (hh : xheap sk (MT y).2 st S q = none) (hc : xcalls sk (MT y).2 (fun y' as' S' => XC sk MT d y' as' S') st S q = none) (hr : xret (MT y).2 st q = none) : XL sk MT d y (pc, lv, st, S) r ↔ xI (xlook lv i) (fun x => XL sk MT d y (pc9, lv, .int x :: st, S) r) := by
  subst hn
  have hp := hp st
  unfold xldI at hp
  unfold xI
  split at hp
  · rename_i x hx
    rw [hx]
    exact X_pure h rfl hp
  · rename_i hx
    split
    · rename_i x hx2
      exact absurd hx2 (hx x)
    · exact X_none h hp hj hh hc hr
theorem X_ldA {pc9 : Nat} {i : Nat} (h : (MT y).2.1 pc = some q) (hn : pc + xlen q = pc9) (hp : ∀ st, xpure (MT y).1 (MT y).2 lv st q = xldA lv st i) (hj : xjump pc st q = none) (hh : xheap sk (MT y).2 st S q = none) (hc : xcalls sk (MT y).2 (fun y' as' S' => XC sk MT d y' as' S') st S q = none) (hr : xret (MT y).2 st q = none) : XL sk MT d y (pc, lv, st, S) r ↔ xA (xlook lv i) (fun x => XL sk MT d y (pc9, lv, .ref x :: st, S) r) := by
  subst hn
  have hp := hp st
  unfold xldA at hp
  unfold xA
  split at hp
  · rename_i x hx
    rw [hx]
    exact X_pure h rfl hp
  · rename_i hx
    split
    · rename_i x hx2
      exact absurd hx2 (hx x)
    · exact X_none h hp hj hh hc hr
theorem X_ldL {pc9 : Nat} {i : Nat} (h : (MT y).2.1 pc = some q) (hn : pc + xlen q = pc9) (hp : ∀ st, xpure (MT y).1 (MT y).2 lv st q = xldL lv st i) (hj : xjump pc st q = none) (hh : xheap sk (MT y).2 st S q = none) (hc : xcalls sk (MT y).2 (fun y' as' S' => XC sk MT d y' as' S') st S q = none) (hr : xret (MT y).2 st q = none) : XL sk MT d y (pc, lv, st, S) r ↔ xJ (xlook lv i) (fun x => XL sk MT d y (pc9, lv, .long x :: st, S) r) := by
  subst hn
  have hp := hp st
  unfold xldL at hp
  unfold xJ
  split at hp
  · rename_i x hx
    rw [hx]
    exact X_pure h rfl hp
  · rename_i hx
    split
    · rename_i x hx2
      exact absurd hx2 (hx x)
    · exact X_none h hp hj hh hc hr
theorem X_inc {i : Nat} {n : Int} (h : (MT y).2.1 pc = some (.iinc i n, 3)) (hi : i < (MT y).1) : XL sk MT d y (pc, lv, st, S) r ↔ xI (xlook lv i) (fun x => XL sk MT d y (pc + 3, xst1 lv i (.int (x + Int32.ofInt n)), st, S) r) := by
  unfold xI
  split
  · rename_i x hx
    refine X_pure h rfl ?_
    show (match xlook lv i with | some (.int x) => if i < (MT y).1 then some (xst1 lv i (.int (x + Int32.ofInt n)), st) else none | _ => none) = _
    rw [hx]
    dsimp only
    rw [if_pos hi]
  · rename_i hx
    refine X_none h ?_ rfl rfl rfl rfl
    show (match xlook lv i with | some (.int x) => if i < (MT y).1 then some (xst1 lv i (.int (x + Int32.ofInt n)), st) else none | _ => none) = _
    split
    · rename_i x hx2
      exact absurd hx2 (hx x)
    · rfl
/-- a jump on a condition: both ways -/
theorem X_if {cd : ClassFile.Cond} {off : Int} {t : Nat} {x : Int32} (h : (MT y).2.1 pc = some (.ifCond cd off, 3)) (ht : xto pc off = some t) : XL sk MT d y (pc, lv, .int x :: st, S) r ↔ if xcnd cd x 0 = true then XL sk MT d y (t, lv, st, S) r else XL sk MT d y (pc + 3, lv, st, S) r := by
  have hj : xjump pc (.int x :: st) (.ifCond cd off, 3) = some (if xcnd cd x 0 = true then t else pc + 3, st) := by
    show (match (.int x :: st : List Value), xto pc off with | .int x :: r, some t => some (if xcnd cd x 0 = true then t else pc + 3, r) | _, _ => none) = _
    rw [ht]
  rw [X_jump h rfl hj]
  split <;> rfl
theorem X_icmp {cd : ClassFile.Cond} {off : Int} {t : Nat} {x z : Int32} (h : (MT y).2.1 pc = some (.if_icmp cd off, 3)) (ht : xto pc off = some t) : XL sk MT d y (pc, lv, .int z :: .int x :: st, S) r ↔ if xcnd cd x z = true then XL sk MT d y (t, lv, st, S) r else XL sk MT d y (pc + 3, lv, st, S) r := by
  have hj : xjump pc (.int z :: .int x :: st) (.if_icmp cd off, 3) = some (if xcnd cd x z = true then t else pc + 3, st) := by
    show (match (.int z :: .int x :: st : List Value), xto pc off with | .int y :: .int x :: r, some t => some (if xcnd cd x y = true then t else pc + 3, r) | _, _ => none) = _
    rw [ht]
  rw [X_jump h rfl hj]
  split <;> rfl
theorem X_alen {a : Nat} (h : (MT y).2.1 pc = some (.arraylength, 1)) : XL sk MT d y (pc, lv, .ref a :: st, S) r ↔ xRow sk[a]? (fun _ n => XL sk MT d y (pc + 1, lv, .int (Int32.ofNat n) :: st, S) r) := by
  unfold xRow
  split
  · rename_i t n hs
    refine X_heap h rfl rfl rfl ?_
    show (match sk[a]? with | some (.inl (_, n)) => some (Value.int (Int32.ofNat n) :: st, S) | _ => none) = _
    rw [hs]
  · rename_i hs
    refine X_none h rfl rfl ?_ rfl rfl
    show (match sk[a]? with | some (.inl (_, n)) => some (Value.int (Int32.ofNat n) :: st, S) | _ => none) = _
    split
    · rename_i t n hs2
      exact absurd hs2 (hs t n)
    · rfl
theorem X_iald {a n : Nat} {j : Int32} (h : (MT y).2.1 pc = some (.iaload, 1)) (hs : sk[a]? = some (.inl (0, n))) : XL sk MT d y (pc, lv, .int j :: .ref a :: st, S) r ↔ (xin j n = true ∧ XL sk MT d y (pc + 1, lv, .int (S.1 a j.toNatClampNeg) :: st, S) r) := by
  have e : xheap sk (MT y).2 (.int j :: .ref a :: st) S (.iaload, 1) = if xin j n = true then some (.int (S.1 a j.toNatClampNeg) :: st, S) else none := by
    show (match sk[a]? with | some (.inl (0, n)) => if xin j n = true then some (Value.int (S.1 a j.toNatClampNeg) :: st, S) else none | _ => none) = _
    rw [hs]
    rfl
  by_cases hc : xin j n = true
  · rw [and_iff_right hc]
    exact X_heap h rfl rfl rfl (by rw [e, if_pos hc])
  · exact Iff.trans (X_none h rfl rfl (by rw [e, if_neg hc]) rfl rfl) ⟨False.elim, fun z => hc z.1⟩
theorem X_lald {a n : Nat} {j : Int32} (h : (MT y).2.1 pc = some (.laload, 1)) (hs : sk[a]? = some (.inl (2, n))) : XL sk MT d y (pc, lv, .int j :: .ref a :: st, S) r ↔ (xin j n = true ∧ XL sk MT d y (pc + 1, lv, .long (S.2 a j.toNatClampNeg) :: st, S) r) := by
  have e : xheap sk (MT y).2 (.int j :: .ref a :: st) S (.laload, 1) = if xin j n = true then some (.long (S.2 a j.toNatClampNeg) :: st, S) else none := by
    show (match sk[a]? with | some (.inl (2, n)) => if xin j n = true then some (Value.long (S.2 a j.toNatClampNeg) :: st, S) else none | _ => none) = _
    rw [hs]
    rfl
  by_cases hc : xin j n = true
  · rw [and_iff_right hc]
    exact X_heap h rfl rfl rfl (by rw [e, if_pos hc])
  · exact Iff.trans (X_none h rfl rfl (by rw [e, if_neg hc]) rfl rfl) ⟨False.elim, fun z => hc z.1⟩
theorem X_bald {a n : Nat} {j : Int32} (h : (MT y).2.1 pc = some (.baload, 1)) (hs : sk[a]? = some (.inl (1, n))) : XL sk MT d y (pc, lv, .int j :: .ref a :: st, S) r ↔ (xin j n = true ∧ XL sk MT d y (pc + 1, lv, .int (S.1 a j.toNatClampNeg) :: st, S) r) := by
  have e : xheap sk (MT y).2 (.int j :: .ref a :: st) S (.baload, 1) = if xin j n = true then some (.int (S.1 a j.toNatClampNeg) :: st, S) else none := by
    show (match sk[a]? with | some (.inl (t, n)) => if (t = 1 ∨ t = 3) ∧ xin j n = true then some (Value.int (S.1 a j.toNatClampNeg) :: st, S) else none | _ => none) = _
    rw [hs]
    by_cases hc : xin j n = true
    · simp only [hc, if_true, and_true]; rfl
    · simp only [hc, if_false, and_false]; rfl
  by_cases hc : xin j n = true
  · rw [and_iff_right hc]
    exact X_heap h rfl rfl rfl (by rw [e, if_pos hc])
  · exact Iff.trans (X_none h rfl rfl (by rw [e, if_neg hc]) rfl rfl) ⟨False.elim, fun z => hc z.1⟩
theorem X_zald {a n : Nat} {j : Int32} (h : (MT y).2.1 pc = some (.baload, 1)) (hs : sk[a]? = some (.inl (3, n))) : XL sk MT d y (pc, lv, .int j :: .ref a :: st, S) r ↔ (xin j n = true ∧ XL sk MT d y (pc + 1, lv, .int (S.1 a j.toNatClampNeg) :: st, S) r) := by
  have e : xheap sk (MT y).2 (.int j :: .ref a :: st) S (.baload, 1) = if xin j n = true then some (.int (S.1 a j.toNatClampNeg) :: st, S) else none := by
    show (match sk[a]? with | some (.inl (t, n)) => if (t = 1 ∨ t = 3) ∧ xin j n = true then some (Value.int (S.1 a j.toNatClampNeg) :: st, S) else none | _ => none) = _
    rw [hs]
    by_cases hc : xin j n = true
    · simp only [hc, if_true, and_true]; rfl
    · simp only [hc, if_false, and_false]; rfl
  by_cases hc : xin j n = true
  · rw [and_iff_right hc]
    exact X_heap h rfl rfl rfl (by rw [e, if_pos hc])
  · exact Iff.trans (X_none h rfl rfl (by rw [e, if_neg hc]) rfl rfl) ⟨False.elim, fun z => hc z.1⟩
theorem X_iast {a n : Nat} {j : Int32} {x : Int32} (h : (MT y).2.1 pc = some (.iastore, 1)) (hs : sk[a]? = some (.inl (0, n))) : XL sk MT d y (pc, lv, .int x :: .int j :: .ref a :: st, S) r ↔ (xin j n = true ∧ XL sk MT d y (pc + 1, lv, st, xsetI S a j.toNatClampNeg x) r) := by
  have e : xheap sk (MT y).2 (.int x :: .int j :: .ref a :: st) S (.iastore, 1) = if xin j n = true then some (st, xsetI S a j.toNatClampNeg x) else none := by
    show (match sk[a]? with | some (.inl (0, n)) => if xin j n = true then some (st, xsetI S a j.toNatClampNeg x) else none | _ => none) = _
    rw [hs]
    rfl
  by_cases hc : xin j n = true
  · rw [and_iff_right hc]
    exact X_heap h rfl rfl rfl (by rw [e, if_pos hc])
  · exact Iff.trans (X_none h rfl rfl (by rw [e, if_neg hc]) rfl rfl) ⟨False.elim, fun z => hc z.1⟩
theorem X_last {a n : Nat} {j : Int32} {x : Int64} (h : (MT y).2.1 pc = some (.lastore, 1)) (hs : sk[a]? = some (.inl (2, n))) : XL sk MT d y (pc, lv, .long x :: .int j :: .ref a :: st, S) r ↔ (xin j n = true ∧ XL sk MT d y (pc + 1, lv, st, xsetL S a j.toNatClampNeg x) r) := by
  have e : xheap sk (MT y).2 (.long x :: .int j :: .ref a :: st) S (.lastore, 1) = if xin j n = true then some (st, xsetL S a j.toNatClampNeg x) else none := by
    show (match sk[a]? with | some (.inl (2, n)) => if xin j n = true then some (st, xsetL S a j.toNatClampNeg x) else none | _ => none) = _
    rw [hs]
    rfl
  by_cases hc : xin j n = true
  · rw [and_iff_right hc]
    exact X_heap h rfl rfl rfl (by rw [e, if_pos hc])
  · exact Iff.trans (X_none h rfl rfl (by rw [e, if_neg hc]) rfl rfl) ⟨False.elim, fun z => hc z.1⟩
theorem X_bast {a n : Nat} {j : Int32} {x : Int32} (h : (MT y).2.1 pc = some (.bastore, 1)) (hs : sk[a]? = some (.inl (1, n))) : XL sk MT d y (pc, lv, .int x :: .int j :: .ref a :: st, S) r ↔ (xin j n = true ∧ XL sk MT d y (pc + 1, lv, st, xsetI S a j.toNatClampNeg (vp_nar .byte x)) r) := by
  have e : xheap sk (MT y).2 (.int x :: .int j :: .ref a :: st) S (.bastore, 1) = if xin j n = true then some (st, xsetI S a j.toNatClampNeg (vp_nar .byte x)) else none := by
    show (match sk[a]? with | some (.inl (t, n)) => if (t = 1 ∨ t = 3) ∧ xin j n = true then some (st, xsetI S a j.toNatClampNeg (vp_nar (if t = 1 then .byte else .boolean) x)) else none | _ => none) = _
    rw [hs]
    by_cases hc : xin j n = true
    · simp only [hc, if_true, and_true]; rfl
    · simp only [hc, if_false, and_false]; rfl
  by_cases hc : xin j n = true
  · rw [and_iff_right hc]
    exact X_heap h rfl rfl rfl (by rw [e, if_pos hc])
  · exact Iff.trans (X_none h rfl rfl (by rw [e, if_neg hc]) rfl rfl) ⟨False.elim, fun z => hc z.1⟩
theorem X_zast {a n : Nat} {j : Int32} {x : Int32} (h : (MT y).2.1 pc = some (.bastore, 1)) (hs : sk[a]? = some (.inl (3, n))) : XL sk MT d y (pc, lv, .int x :: .int j :: .ref a :: st, S) r ↔ (xin j n = true ∧ XL sk MT d y (pc + 1, lv, st, xsetI S a j.toNatClampNeg (vp_nar .boolean x)) r) := by
  have e : xheap sk (MT y).2 (.int x :: .int j :: .ref a :: st) S (.bastore, 1) = if xin j n = true then some (st, xsetI S a j.toNatClampNeg (vp_nar .boolean x)) else none := by
    show (match sk[a]? with | some (.inl (t, n)) => if (t = 1 ∨ t = 3) ∧ xin j n = true then some (st, xsetI S a j.toNatClampNeg (vp_nar (if t = 1 then .byte else .boolean) x)) else none | _ => none) = _
    rw [hs]
    by_cases hc : xin j n = true
    · simp only [hc, if_true, and_true]; rfl
    · simp only [hc, if_false, and_false]; rfl
  by_cases hc : xin j n = true
  · rw [and_iff_right hc]
    exact X_heap h rfl rfl rfl (by rw [e, if_pos hc])
  · exact Iff.trans (X_none h rfl rfl (by rw [e, if_neg hc]) rfl rfl) ⟨False.elim, fun z => hc z.1⟩
theorem X_inv {i n kd y' : Nat} {b : Bool} {st0 : List Value} (h : (MT y).2.1 pc = some q) (hq : (q = (.invokestatic i, 3) ∧ b = true) ∨ (q = (.invokevirtual i, 3) ∧ b = false)) (hm : (MT y).2.2.2.2.2.1 i = some (y', n, kd)) (hlen : n ≤ st0.length) (hs : xsum (st0.drop n) ≤ 8) (hk : kd < 2 ↔ b = true) (hr : xrecv sk kd n st0 = true) :
    XL sk MT d y (pc, lv, st0, S) r ↔ xK (XC sk MT d y' (st0.take n).reverse S) (fun v S' => XL sk MT d y (pc + 3, lv, v.toList ++ st0.drop n, S') r) := by
  have e : xinv sk (MT y).2 (fun y' as' S' => XC sk MT d y' as' S') st0 S i b = match XC sk MT d y' (st0.take n).reverse S with | some (v, S') => some (v.toList ++ st0.drop n, S') | none => none := by
    unfold xinv
    rw [hm]
    dsimp only
    rw [if_pos ⟨hlen, hs, hk, hr⟩]
    rfl
  rcases hq with ⟨rfl, rfl⟩ | ⟨rfl, rfl⟩
  · have e2 : xcalls sk (MT y).2 (fun y' as' S' => XC sk MT d y' as' S') st0 S (.invokestatic i, 3) = _ := e
    cases hx : XC sk MT d y' (st0.take n).reverse S with
    | none =>
      rw [hx] at e2
      exact X_none h rfl rfl rfl e2 rfl
    | some z =>
      rw [hx] at e2
      exact X_call h rfl rfl rfl e2
  · have e2 : xcalls sk (MT y).2 (fun y' as' S' => XC sk MT d y' as' S') st0 S (.invokevirtual i, 3) = _ := e
    cases hx : XC sk MT d y' (st0.take n).reverse S with
    | none =>
      rw [hx] at e2
      exact X_none h rfl rfl rfl e2 rfl
    | some z =>
      rw [hx] at e2
      exact X_call h rfl rfl rfl e2
end
end XR
