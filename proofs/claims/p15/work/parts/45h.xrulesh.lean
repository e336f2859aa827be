/-! XF: a row an instruction, for a run up to a stop. -/
section XRH
def XH (sk : List xC) (MT : Nat → Nat × xT) (d y : Nat) (so : Nat → Bool) (f : xF) (r : xF) : Prop := ∃ n, xhrun sk (MT y).1 (MT y).2 (fun y' as' S' => XC sk MT d y' as' S') so n f = some r
section
variable {sk : List xC} {MT : Nat → Nat × xT} {d y pc : Nat} {so : Nat → Bool} {lv lv' : xLV} {st st' : List Value} {S S' : xS} {r : xF} {q : Instr × Nat}
theorem XH_go {f f' : xF} (h0 : so f.1 = false) (h : xstep sk (MT y).1 (MT y).2 (fun y' as' S' => XC sk MT d y' as' S') f = some (.inl f')) : XH sk MT d y so f r ↔ XH sk MT d y so f' r := by
  constructor
  · rintro ⟨n, hn⟩
    cases n with
    | zero => cases hn
    | succ n =>
      unfold xhrun at hn
      rw [if_neg (by rw [h0]; decide)] at hn
      simp only [h] at hn
      exact ⟨n, hn⟩
  · rintro ⟨n, hn⟩
    refine ⟨n + 1, ?_⟩
    unfold xhrun
    rw [if_neg (by rw [h0]; decide)]
    simp only [h]
    exact hn
theorem XH_no {f : xF} (h0 : so f.1 = false) (h : xstep sk (MT y).1 (MT y).2 (fun y' as' S' => XC sk MT d y' as' S') f = none) : XH sk MT d y so f r ↔ False := by
  constructor
  · rintro ⟨n, hn⟩
    cases n with
    | zero => cases hn
    | succ n =>
      unfold xhrun at hn
      rw [if_neg (by rw [h0]; decide)] at hn
      simp only [h] at hn
      cases hn
  · exact False.elim
theorem H_at {f : xF} (h0 : so f.1 = true) : XH sk MT d y so f r ↔ f = r := by
  constructor
  · rintro ⟨n, hn⟩
    cases n with
    | zero => cases hn
    | succ n =>
      unfold xhrun at hn
      rw [if_pos h0] at hn
      exact Option.some.inj hn
  · rintro rfl
    refine ⟨1, ?_⟩
    unfold xhrun
    rw [if_pos h0]
theorem H_pure {pc9 : Nat} (h0 : so pc = false) (h : (MT y).2.1 pc = some q) (hn : pc + xlen q = pc9) (hp : xpure (MT y).1 (MT y).2 lv st q = some (lv', st')) : XH sk MT d y so (pc, lv, st, S) r ↔ XH sk MT d y so (pc9, lv', st', S) r := by subst hn; exact XH_go h0 (by unfold xstep; simp only [h, hp])
theorem H_jump {pc' : Nat} (h0 : so pc = false) (h : (MT y).2.1 pc = some q) (hp : xpure (MT y).1 (MT y).2 lv st q = none) (hj : xjump pc st q = some (pc', st')) : XH sk MT d y so (pc, lv, st, S) r ↔ XH sk MT d y so (pc', lv, st', S) r := XH_go h0 (by unfold xstep; simp only [h, hp, hj])
theorem H_heap {pc9 : Nat} (h0 : so pc = false) (h : (MT y).2.1 pc = some q) (hn : pc + xlen q = pc9) (hp : xpure (MT y).1 (MT y).2 lv st q = none) (hj : xjump pc st q = none) (hh : xheap sk (MT y).2 st S q = some (st', S')) : XH sk MT d y so (pc, lv, st, S) r ↔ XH sk MT d y so (pc9, lv, st', S') r := by subst hn; exact XH_go h0 (by unfold xstep; simp only [h, hp, hj, hh])
theorem H_none (h0 : so pc = false) (h : (MT y).2.1 pc = some q) (hp : xpure (MT y).1 (MT y).2 lv st q = none) (hj : xjump pc st q = none) (hh : xheap sk (MT y).2 st S q = none) (hc : xcalls sk (MT y).2 (fun y' as' S' => XC sk MT d y' as' S') st S q = none) (hr : xret (MT y).2 st q = none) : XH sk MT d y so (pc, lv, st, S) r ↔ False := XH_no h0 (by unfold xstep; simp only [h, hp, hj, hh, hc, hr])
theorem H_call (h0 : so pc = false) (h : (MT y).2.1 pc = some q) (hp : xpure (MT y).1 (MT y).2 lv st q = none) (hj : xjump pc st q = none) (hh : xheap sk (MT y).2 st S q = none) (hc : xcalls sk (MT y).2 (fun y' as' S' => XC sk MT d y' as' S') st S q = some (st', S')) : XH sk MT d y so (pc, lv, st, S) r ↔ XH sk MT d y so (pc + xlen q, lv, st', S') r := XH_go h0 (by unfold xstep; simp only [h, hp, hj, hh, hc])
theorem H_ldI {pc9 : Nat} {i : Nat} (h0 : so pc = false) (h : (MT y).2.1 pc = some q) (hn : pc + xlen q = pc9) (hp : ∀ st, xpure (MT y).1 (MT y).2 lv st q = xldI lv st i) (hj : xjump pc st q = none) (hh : xheap sk (MT y).2 st S q = none) (hc : xcalls sk (MT y).2 (fun y' as' S' => XC sk MT d y' as' S') st S q = none) (hr : xret (MT y).2 st q = none) : XH sk MT d y so (pc, lv, st, S) r ↔ xI (xlook lv i) (fun x => XH sk MT d y so (pc9, lv, .int x :: st, S) r) := by
  subst hn
  have hp := hp st
  unfold xldI at hp
  unfold xI
  split at hp
  · rename_i x hx
    rw [hx]
    exact H_pure h0 h rfl hp
  · rename_i hx
    split
    · rename_i x hx2
      exact absurd hx2 (hx x)
    · exact H_none h0 h hp hj hh hc hr
theorem H_ldA {pc9 : Nat} {i : Nat} (h0 : so pc = false) (h : (MT y).2.1 pc = some q) (hn : pc + xlen q = pc9) (hp : ∀ st, xpure (MT y).1 (MT y).2 lv st q = xldA lv st i) (hj : xjump pc st q = none) (hh : xheap sk (MT y).2 st S q = none) (hc : xcalls sk (MT y).2 (fun y' as' S' => XC sk MT d y' as' S') st S q = none) (hr : xret (MT y).2 st q = none) : XH sk MT d y so (pc, lv, st, S) r ↔ xA (xlook lv i) (fun x => XH sk MT d y so (pc9, lv, .ref x :: st, S) r) := by
  subst hn
  have hp := hp st
  unfold xldA at hp
  unfold xA
  split at hp
  · rename_i x hx
    rw [hx]
    exact H_pure h0 h rfl hp
  · rename_i hx
    split
    · rename_i x hx2
      exact absurd hx2 (hx x)
    · exact H_none h0 h hp hj hh hc hr
theorem H_ldL {pc9 : Nat} {i : Nat} (h0 : so pc = false) (h : (MT y).2.1 pc = some q) (hn : pc + xlen q = pc9) (hp : ∀ st, xpure (MT y).1 (MT y).2 lv st q = xldL lv st i) (hj : xjump pc st q = none) (hh : xheap sk (MT y).2 st S q = none) (hc : xcalls sk (MT y).2 (fun y' as' S' => XC sk MT d y' as' S') st S q = none) (hr : xret (MT y).2 st q = none) : XH sk MT d y so (pc, lv, st, S) r ↔ xJ (xlook lv i) (fun x => XH sk MT d y so (pc9, lv, .long x :: st, S) r) := by
  subst hn
  have hp := hp st
  unfold xldL at hp
  unfold xJ
  split at hp
  · rename_i x hx
    rw [hx]
    exact H_pure h0 h rfl hp
  · rename_i hx
    split
    · rename_i x hx2
      exact absurd hx2 (hx x)
    · exact H_none h0 h hp hj hh hc hr
theorem H_inc {i : Nat} {n : Int} (h0 : so pc = false) (h : (MT y).2.1 pc = some (.iinc i n, 3)) (hi : i < (MT y).1) : XH sk MT d y so (pc, lv, st, S) r ↔ xI (xlook lv i) (fun x => XH sk MT d y so (pc + 3, xst1 lv i (.int (x + Int32.ofInt n)), st, S) r) := by
  unfold xI
  split
  · rename_i x hx
    refine H_pure h0 h rfl ?_
    show (match xlook lv i with | some (.int x) => if i < (MT y).1 then some (xst1 lv i (.int (x + Int32.ofInt n)), st) else none | _ => none) = _
    rw [hx]
    dsimp only
    rw [if_pos hi]
  · rename_i hx
    refine H_none h0 h ?_ rfl rfl rfl rfl
    show (match xlook lv i with | some (.int x) => if i < (MT y).1 then some (xst1 lv i (.int (x + Int32.ofInt n)), st) else none | _ => none) = _
    split
    · rename_i x hx2
      exact absurd hx2 (hx x)
    · rfl
theorem H_if {cd : ClassFile.Cond} {off : Int} {t : Nat} {x : Int32} (h0 : so pc = false) (h : (MT y).2.1 pc = some (.ifCond cd off, 3)) (ht : xto pc off = some t) : XH sk MT d y so (pc, lv, .int x :: st, S) r ↔ if xcnd cd x 0 = true then XH sk MT d y so (t, lv, st, S) r else XH sk MT d y so (pc + 3, lv, st, S) r := by
  have hj : xjump pc (.int x :: st) (.ifCond cd off, 3) = some (if xcnd cd x 0 = true then t else pc + 3, st) := by
    show (match (.int x :: st : List Value), xto pc off with | .int x :: r, some t => some (if xcnd cd x 0 = true then t else pc + 3, r) | _, _ => none) = _
    rw [ht]
  rw [H_jump h0 h rfl hj]
  split <;> rfl
theorem H_icmp {cd : ClassFile.Cond} {off : Int} {t : Nat} {x z : Int32} (h0 : so pc = false) (h : (MT y).2.1 pc = some (.if_icmp cd off, 3)) (ht : xto pc off = some t) : XH sk MT d y so (pc, lv, .int z :: .int x :: st, S) r ↔ if xcnd cd x z = true then XH sk MT d y so (t, lv, st, S) r else XH sk MT d y so (pc + 3, lv, st, S) r := by
  have hj : xjump pc (.int z :: .int x :: st) (.if_icmp cd off, 3) = some (if xcnd cd x z = true then t else pc + 3, st) := by
    show (match (.int z :: .int x :: st : List Value), xto pc off with | .int y :: .int x :: r, some t => some (if xcnd cd x y = true then t else pc + 3, r) | _, _ => none) = _
    rw [ht]
  rw [H_jump h0 h rfl hj]
  split <;> rfl
theorem H_alen {a : Nat} (h0 : so pc = false) (h : (MT y).2.1 pc = some (.arraylength, 1)) : XH sk MT d y so (pc, lv, .ref a :: st, S) r ↔ xRow sk[a]? (fun _ n => XH sk MT d y so (pc + 1, lv, .int (Int32.ofNat n) :: st, S) r) := by
  unfold xRow
  split
  · rename_i t n hs
    refine H_heap h0 h rfl rfl rfl ?_
    show (match sk[a]? with | some (.inl (_, n)) => some (Value.int (Int32.ofNat n) :: st, S) | _ => none) = _
    rw [hs]
  · rename_i hs
    refine H_none h0 h rfl rfl ?_ rfl rfl
    show (match sk[a]? with | some (.inl (_, n)) => some (Value.int (Int32.ofNat n) :: st, S) | _ => none) = _
    split
    · rename_i t n hs2
      exact absurd hs2 (hs t n)
    · rfl
theorem H_iald {a n : Nat} {j : Int32} (h0 : so pc = false) (h : (MT y).2.1 pc = some (.iaload, 1)) (hs : sk[a]? = some (.inl (0, n))) : XH sk MT d y so (pc, lv, .int j :: .ref a :: st, S) r ↔ (xin j n = true ∧ XH sk MT d y so (pc + 1, lv, .int (S.1 a j.toNatClampNeg) :: st, S) r) := by
  have e : xheap sk (MT y).2 (.int j :: .ref a :: st) S (.iaload, 1) = if xin j n = true then some (.int (S.1 a j.toNatClampNeg) :: st, S) else none := by
    show (match sk[a]? with | some (.inl (0, n)) => if xin j n = true then some (Value.int (S.1 a j.toNatClampNeg) :: st, S) else none | _ => none) = _
    rw [hs]
    rfl
  by_cases hc : xin j n = true
  · rw [and_iff_right hc]
    exact H_heap h0 h rfl rfl rfl (by rw [e, if_pos hc])
  · exact Iff.trans (H_none h0 h rfl rfl (by rw [e, if_neg hc]) rfl rfl) ⟨False.elim, fun z => hc z.1⟩
theorem H_lald {a n : Nat} {j : Int32} (h0 : so pc = false) (h : (MT y).2.1 pc = some (.laload, 1)) (hs : sk[a]? = some (.inl (2, n))) : XH sk MT d y so (pc, lv, .int j :: .ref a :: st, S) r ↔ (xin j n = true ∧ XH sk MT d y so (pc + 1, lv, .long (S.2 a j.toNatClampNeg) :: st, S) r) := by
  have e : xheap sk (MT y).2 (.int j :: .ref a :: st) S (.laload, 1) = if xin j n = true then some (.long (S.2 a j.toNatClampNeg) :: st, S) else none := by
    show (match sk[a]? with | some (.inl (2, n)) => if xin j n = true then some (Value.long (S.2 a j.toNatClampNeg) :: st, S) else none | _ => none) = _
    rw [hs]
    rfl
  by_cases hc : xin j n = true
  · rw [and_iff_right hc]
    exact H_heap h0 h rfl rfl rfl (by rw [e, if_pos hc])
  · exact Iff.trans (H_none h0 h rfl rfl (by rw [e, if_neg hc]) rfl rfl) ⟨False.elim, fun z => hc z.1⟩
theorem H_bald {a n : Nat} {j : Int32} (h0 : so pc = false) (h : (MT y).2.1 pc = some (.baload, 1)) (hs : sk[a]? = some (.inl (1, n))) : XH sk MT d y so (pc, lv, .int j :: .ref a :: st, S) r ↔ (xin j n = true ∧ XH sk MT d y so (pc + 1, lv, .int (S.1 a j.toNatClampNeg) :: st, S) r) := by
  have e : xheap sk (MT y).2 (.int j :: .ref a :: st) S (.baload, 1) = if xin j n = true then some (.int (S.1 a j.toNatClampNeg) :: st, S) else none := by
    show (match sk[a]? with | some (.inl (t, n)) => if (t = 1 ∨ t = 3) ∧ xin j n = true then some (Value.int (S.1 a j.toNatClampNeg) :: st, S) else none | _ => none) = _
    rw [hs]
    by_cases hc : xin j n = true
    · simp only [hc, if_true, and_true]; rfl
    · simp only [hc, if_false, and_false]; rfl
  by_cases hc : xin j n = true
  · rw [and_iff_right hc]
    exact H_heap h0 h rfl rfl rfl (by rw [e, if_pos hc])
  · exact Iff.trans (H_none h0 h rfl rfl (by rw [e, if_neg hc]) rfl rfl) ⟨False.elim, fun z => hc z.1⟩
theorem H_zald {a n : Nat} {j : Int32} (h0 : so pc = false) (h : (MT y).2.1 pc = some (.baload, 1)) (hs : sk[a]? = some (.inl (3, n))) : XH sk MT d y so (pc, lv, .int j :: .ref a :: st, S) r ↔ (xin j n = true ∧ XH sk MT d y so (pc + 1, lv, .int (S.1 a j.toNatClampNeg) :: st, S) r) := by
  have e : xheap sk (MT y).2 (.int j :: .ref a :: st) S (.baload, 1) = if xin j n = true then some (.int (S.1 a j.toNatClampNeg) :: st, S) else none := by
    show (match sk[a]? with | some (.inl (t, n)) => if (t = 1 ∨ t = 3) ∧ xin j n = true then some (Value.int (S.1 a j.toNatClampNeg) :: st, S) else none | _ => none) = _
    rw [hs]
    by_cases hc : xin j n = true
    · simp only [hc, if_true, and_true]; rfl
    · simp only [hc, if_false, and_false]; rfl
  by_cases hc : xin j n = true
  · rw [and_iff_right hc]
    exact H_heap h0 h rfl rfl rfl (by rw [e, if_pos hc])
  · exact Iff.trans (H_none h0 h rfl rfl (by rw [e, if_neg hc]) rfl rfl) ⟨False.elim, fun z => hc z.1⟩
theorem H_iast {a n : Nat} {j : Int32} {x : Int32} (h0 : so pc = false) (h : (MT y).2.1 pc = some (.iastore, 1)) (hs : sk[a]? = some (.inl (0, n))) : XH sk MT d y so (pc, lv, .int x :: .int j :: .ref a :: st, S) r ↔ (xin j n = true ∧ XH sk MT d y so (pc + 1, lv, st, xsetI S a j.toNatClampNeg x) r) := by
  have e : xheap sk (MT y).2 (.int x :: .int j :: .ref a :: st) S (.iastore, 1) = if xin j n = true then some (st, xsetI S a j.toNatClampNeg x) else none := by
    show (match sk[a]? with | some (.inl (0, n)) => if xin j n = true then some (st, xsetI S a j.toNatClampNeg x) else none | _ => none) = _
    rw [hs]
    rfl
  by_cases hc : xin j n = true
  · rw [and_iff_right hc]
    exact H_heap h0 h rfl rfl rfl (by rw [e, if_pos hc])
  · exact Iff.trans (H_none h0 h rfl rfl (by rw [e, if_neg hc]) rfl rfl) ⟨False.elim, fun z => hc z.1⟩
theorem H_last {a n : Nat} {j : Int32} {x : Int64} (h0 : so pc = false) (h : (MT y).2.1 pc = some (.lastore, 1)) (hs : sk[a]? = some (.inl (2, n))) : XH sk MT d y so (pc, lv, .long x :: .int j :: .ref a :: st, S) r ↔ (xin j n = true ∧ XH sk MT d y so (pc + 1, lv, st, xsetL S a j.toNatClampNeg x) r) := by
  have e : xheap sk (MT y).2 (.long x :: .int j :: .ref a :: st) S (.lastore, 1) = if xin j n = true then some (st, xsetL S a j.toNatClampNeg x) else none := by
    show (match sk[a]? with | some (.inl (2, n)) => if xin j n = true then some (st, xsetL S a j.toNatClampNeg x) else none | _ => none) = _
    rw [hs]
    rfl
  by_cases hc : xin j n = true
  · rw [and_iff_right hc]
    exact H_heap h0 h rfl rfl rfl (by rw [e, if_pos hc])
  · exact Iff.trans (H_none h0 h rfl rfl (by rw [e, if_neg hc]) rfl rfl) ⟨False.elim, fun z => hc z.1⟩
theorem H_bast {a n : Nat} {j : Int32} {x : Int32} (h0 : so pc = false) (h : (MT y).2.1 pc = some (.bastore, 1)) (hs : sk[a]? = some (.inl (1, n))) : XH sk MT d y so (pc, lv, .int x :: .int j :: .ref a :: st, S) r ↔ (xin j n = true ∧ XH sk MT d y so (pc + 1, lv, st, xsetI S a j.toNatClampNeg (vp_nar .byte x)) r) := by
  have e : xheap sk (MT y).2 (.int x :: .int j :: .ref a :: st) S (.bastore, 1) = if xin j n = true then some (st, xsetI S a j.toNatClampNeg (vp_nar .byte x)) else none := by
    show (match sk[a]? with | some (.inl (t, n)) => if (t = 1 ∨ t = 3) ∧ xin j n = true then some (st, xsetI S a j.toNatClampNeg (vp_nar (if t = 1 then .byte else .boolean) x)) else none | _ => none) = _
    rw [hs]
    by_cases hc : xin j n = true
    · simp only [hc, if_true, and_true]; rfl
    · simp only [hc, if_false, and_false]; rfl
  by_cases hc : xin j n = true
  · rw [and_iff_right hc]
    exact H_heap h0 h rfl rfl rfl (by rw [e, if_pos hc])
  · exact Iff.trans (H_none h0 h rfl rfl (by rw [e, if_neg hc]) rfl rfl) ⟨False.elim, fun z => hc z.1⟩
theorem H_zast {a n : Nat} {j : Int32} {x : Int32} (h0 : so pc = false) (h : (MT y).2.1 pc = some (.bastore, 1)) (hs : sk[a]? = some (.inl (3, n))) : XH sk MT d y so (pc, lv, .int x :: .int j :: .ref a :: st, S) r ↔ (xin j n = true ∧ XH sk MT d y so (pc + 1, lv, st, xsetI S a j.toNatClampNeg (vp_nar .boolean x)) r) := by
  have e : xheap sk (MT y).2 (.int x :: .int j :: .ref a :: st) S (.bastore, 1) = if xin j n = true then some (st, xsetI S a j.toNatClampNeg (vp_nar .boolean x)) else none := by
    show (match sk[a]? with | some (.inl (t, n)) => if (t = 1 ∨ t = 3) ∧ xin j n = true then some (st, xsetI S a j.toNatClampNeg (vp_nar (if t = 1 then .byte else .boolean) x)) else none | _ => none) = _
    rw [hs]
    by_cases hc : xin j n = true
    · simp only [hc, if_true, and_true]; rfl
    · simp only [hc, if_false, and_false]; rfl
  by_cases hc : xin j n = true
  · rw [and_iff_right hc]
    exact H_heap h0 h rfl rfl rfl (by rw [e, if_pos hc])
  · exact Iff.trans (H_none h0 h rfl rfl (by rw [e, if_neg hc]) rfl rfl) ⟨False.elim, fun z => hc z.1⟩
theorem H_inv {i n kd y' : Nat} {b : Bool} {st0 : List Value} (h0 : so pc = false) (h : (MT y).2.1 pc = some q) (hq : (q = (.invokestatic i, 3) ∧ b = true) ∨ (q = (.invokevirtual i, 3) ∧ b = false)) (hm : (MT y).2.2.2.2.2.1 i = some (y', n, kd)) (hlen : n ≤ st0.length) (hs : xsum (st0.drop n) ≤ 8) (hk : kd < 2 ↔ b = true) (hr : xrecv sk kd n st0 = true) :
    XH sk MT d y so (pc, lv, st0, S) r ↔ xK (XC sk MT d y' (st0.take n).reverse S) (fun v S' => XH sk MT d y so (pc + 3, lv, v.toList ++ st0.drop n, S') r) := by
  have e : xinv sk (MT y).2 (fun y' as' S' => XC sk MT d y' as' S') st0 S i b = match XC sk MT d y' (st0.take n).reverse S with | some (v, S') => some (v.toList ++ st0.drop n, S') | none => none := by
    unfold xinv
    rw [hm]
    dsimp only
    rw [if_pos ⟨hlen, hs, hk, hr⟩]
    rfl
  rcases hq with ⟨rfl, rfl⟩ | ⟨rfl, rfl⟩
  · have e2 : xcalls sk (MT y).2 (fun y' as' S' => XC sk MT d y' as' S') st0 S (.invokestatic i, 3) = _ := e
    cases hx : XC sk MT d y' (st0.take n).reverse S with
    | none =>
      rw [hx] at e2
      exact H_none h0 h rfl rfl rfl e2 rfl
    | some z =>
      rw [hx] at e2
      exact H_call h0 h rfl rfl rfl e2
  · have e2 : xcalls sk (MT y).2 (fun y' as' S' => XC sk MT d y' as' S') st0 S (.invokevirtual i, 3) = _ := e
    cases hx : XC sk MT d y' (st0.take n).reverse S with
    | none =>
      rw [hx] at e2
      exact H_none h0 h rfl rfl rfl e2 rfl
    | some z =>
      rw [hx] at e2
      exact H_call h0 h rfl rfl rfl e2
end
end XRH
