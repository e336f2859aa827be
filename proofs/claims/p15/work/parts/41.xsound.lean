/-! XF, second part: what the function answers is what the machine does. -/
section XG
def xlv (ad : Nat → Nat) (lv : xLV) : List (Nat × Value) := lv.zipIdx.filterMap (fun q => q.1.map (fun v => (q.2, xrv ad v)))
theorem xlv_mem {ad : Nat → Nat} {lv : xLV} {q : Nat × Value} : q ∈ xlv ad lv ↔ ∃ v, lv[q.1]? = some (some v) ∧ q.2 = xrv ad v := by
  unfold xlv
  rw [List.mem_filterMap]
  constructor
  · rintro ⟨⟨o, j⟩, h1, h2⟩
    obtain ⟨v, h3, h4⟩ := Option.map_eq_some_iff.mp h2
    dsimp only at h3 h4
    subst h3
    subst h4
    have h5 := List.mk_mem_zipIdx_iff_getElem?.mp h1
    exact ⟨v, h5, rfl⟩
  · rintro ⟨v, h1, h2⟩
    refine ⟨(some v, q.1), List.mk_mem_zipIdx_iff_getElem?.mpr h1, ?_⟩
    show some (q.1, xrv ad v) = some q
    rw [← h2]
theorem xlook_get {lv : xLV} {i : Nat} {v : Value} (h : xlook lv i = some v) : lv[i]? = some (some v) := by
  unfold xlook at h
  rw [List.getD_eq_getElem?_getD] at h
  cases hq : lv[i]? with
  | none => rw [hq] at h; cases h
  | some o => rw [hq] at h; exact congrArg some h
theorem xlook_memv {ad : Nat → Nat} {lv : xLV} {i : Nat} {v : Value} (h : xlook lv i = some v) : (i, xrv ad v) ∈ xlv ad lv := xlv_mem.mpr ⟨v, xlook_get h, rfl⟩
theorem xlook_at {ad : Nat → Nat} {ls : Array Slot} {nL : Nat} {lv : xLV} (h : lv_has ls nL (xlv ad lv)) {i : Nat} {v : Value} (hi : xlook lv i = some v) : ls[i]? = some (.val (xrv ad v)) := h.2.2 _ (xlook_memv hi)
theorem lv_less {ls : Array Slot} {nL : Nat} {l l' : List (Nat × Value)} (h : lv_has ls nL l) (hs : ∀ q ∈ l', q ∈ l) : lv_has ls nL l' := ⟨h.1, h.2.1, fun q hq => h.2.2 q (hs q hq)⟩
theorem xclr_get {lv : xLV} {i j : Nat} {v : Value} (h : (xclr lv i)[j]? = some (some v)) : lv[j]? = some (some v) ∧ ¬ (j + 1 = i ∧ v.category = 2) := by
  cases i with
  | zero => exact ⟨h, fun q => by omega⟩
  | succ i =>
    have gone : ∀ w, xlook lv i = some w → (lv.set i none)[j]? = some (some v) → lv[j]? = some (some v) ∧ ¬ (j + 1 = i + 1 ∧ v.category = 2) := by
      intro w hw h
      by_cases hj : i = j
      · subst hj
        have hlt := (List.getElem?_eq_some_iff.mp (xlook_get hw)).1
        rw [List.getElem?_set_self hlt] at h
        cases h
      · rw [List.getElem?_set_ne hj] at h
        exact ⟨h, fun q => hj (by omega)⟩
    have e : xclr lv (i + 1) = (match xlook lv i with | some (.long _) => lv.set i none | some (.double _) => lv.set i none | _ => lv) := rfl
    rw [e] at h
    split at h
    · rename_i w hw
      exact gone _ hw h
    · rename_i w hw
      exact gone _ hw h
    · rename_i h1 h2
      refine ⟨h, fun q => ?_⟩
      obtain rfl : j = i := by omega
      have hl : xlook lv j = some v := by
        unfold xlook
        rw [List.getD_eq_getElem?_getD, h]
        rfl
      have hc := q.2
      cases v with
      | long w => exact h1 w hl
      | double w => exact h2 w hl
      | _ => cases hc
theorem xst1_less {ad : Nat → Nat} {lv : xLV} {i : Nat} {v : Value} : ∀ q ∈ xlv ad (xst1 lv i v), q ∈ (i, xrv ad v) :: (xlv ad lv).filter (fun q => !(q.1 == i) && !(q.1 + 1 == i && q.2.category == 2)) := by
  rintro ⟨j, w⟩ hq
  obtain ⟨v', h1, h2⟩ := xlv_mem.mp hq
  dsimp only at h1 h2
  unfold xst1 at h1
  by_cases hj : i = j
  · subst hj
    rw [List.getElem?_set] at h1
    split at h1
    · split at h1
      · obtain rfl := Option.some.inj (Option.some.inj h1)
        rw [h2]
        exact List.mem_cons_self
      · cases h1
    · rename_i z; exact absurd rfl z
  · rw [List.getElem?_set_ne hj] at h1
    obtain ⟨h3, h4⟩ := xclr_get h1
    refine List.mem_cons_of_mem _ (List.mem_filter.mpr ⟨xlv_mem.mpr ⟨v', h3, h2⟩, ?_⟩)
    dsimp only
    have h5 : ¬ (j + 1 = i ∧ w.category = 2) := by rw [h2, xrv_cat]; exact h4
    have h6 : ¬ j = i := fun z => hj z.symm
    simp only [Bool.and_eq_true, Bool.not_eq_true', beq_eq_false_iff_ne, ne_eq, Bool.and_eq_false_iff]
    exact ⟨h6, Classical.byContradiction fun z => h5 ⟨Classical.byContradiction fun a => z (Or.inl a), Classical.byContradiction fun a => z (Or.inr a)⟩⟩
theorem xst2_less {ad : Nat → Nat} {lv : xLV} {i : Nat} {v : Value} : ∀ q ∈ xlv ad (xst2 lv i v), q ∈ (i, xrv ad v) :: (xlv ad lv).filter (fun q => !(q.1 == i) && (!(q.1 == i + 1) && !(q.1 + 1 == i && q.2.category == 2))) := by
  rintro ⟨j, w⟩ hq
  obtain ⟨v', h1, h2⟩ := xlv_mem.mp hq
  dsimp only at h1 h2
  have h7 : ¬ j = i + 1 := by
    intro z
    subst z
    unfold xst2 at h1
    rw [List.getElem?_set] at h1
    split at h1
    · split at h1 <;> cases h1
    · rename_i z; exact z rfl
  have h8 : (xst1 lv i v)[j]? = some (some v') := by
    unfold xst2 at h1
    rw [List.getElem?_set_ne (fun z => h7 z.symm)] at h1
    exact h1
  have h9 := xst1_less (ad := ad) (j, w) (xlv_mem.mpr ⟨v', h8, h2⟩)
  rcases List.mem_cons.mp h9 with h9 | h9
  · rw [h9]; exact List.mem_cons_self
  · obtain ⟨a1, a2⟩ := List.mem_filter.mp h9
    refine List.mem_cons_of_mem _ (List.mem_filter.mpr ⟨a1, ?_⟩)
    dsimp only at a2 ⊢
    rw [Bool.and_eq_true] at a2 ⊢
    refine ⟨a2.1, ?_⟩
    rw [Bool.and_eq_true]
    exact ⟨by simpa using h7, a2.2⟩
theorem xto_eq {pc t : Nat} {off : Int} (h : xto pc off = some t) : (pc : Int) + off = (t : Int) := by
  unfold xto at h
  split at h
  · rename_i h0
    have := Option.some.inj h
    omega
  · cases h
def xtys (cA : Nat → ClassId) (tl : List FieldType) : List (ClassId × FieldType) := tl.mapIdx (fun t ty => (cA t, ty))
theorem xtys_get {cA : Nat → ClassId} {tl : List FieldType} {t : Nat} {ty : FieldType} (h : tl[t]? = some ty) : (xtys cA tl)[t]? = some (cA t, ty) := by
  unfold xtys
  rw [List.getElem?_mapIdx, h]
  rfl
def xaty : Nat → FieldType
  | 0 => .int
  | 1 => .byte
  | 2 => .long
  | _ => .boolean
def xfty : Nat → FieldType
  | 0 => .int
  | 1 => .boolean
  | _ => .long
/-- the skeleton's rows: their types are known, their lengths are ints -/
def xSk (tl : List FieldType) (sk : List xC) : Prop := ∀ (i t n : Nat), sk[i]? = some (Sum.inl (t, n)) → tl[t]? = some (xaty t) ∧ t < 4
def xFld (cl : List vw_C) (Ts : List Cond) (own : String) (fl : Nat → Option (Nat × Nat × Nat)) : Prop := ∀ i ci k tc, fl i = some (ci, k, tc) → ∃ (C : String) (F : u_T) (N : Nat) (ty0 : Nat → FieldType), cl[ci]? = some (C, F, N) ∧ k < N ∧ (∀ w ∈ u_ws C F N, w ∈ Ts) ∧ Cond.fieldLink own i (F k).1 (F k).2.1 (F k).2.2.1 ∈ Ts ∧ (∀ j, j < N → parseFieldDescriptor (F j).2.2.1 = some (ty0 j)) ∧ (∀ a, a < N → ∀ b, b < N → a ≠ b → (F a).2.1 ≠ (F b).2.1) ∧ (tc ≤ 2 → (F k).2.2.2 = false ∧ ty0 k = xfty tc)
theorem xin_in {j : Int32} {n : Nat} (h : xin j n = true) : vp_in j n := by
  unfold xin at h
  rw [Bool.and_eq_true, decide_eq_true_eq, decide_eq_true_eq] at h
  exact vp_in_iff.mpr h
theorem xrv_fv (ad : Nat → Nat) (S : xS) (a k : Nat) (d : Nat ⊕ Nat) : xrv ad (xfv id S a k d) = xfv ad S a k d := by rcases d with (_ | n) | j <;> rfl
theorem xsum_map (ad : Nat → Nat) : ∀ st : List Value, ((st.map (xrv ad)).map fun v => v.category).sum = xsum st
  | [] => rfl
  | v :: st => by
    have ih := xsum_map ad st
    unfold xsum at ih ⊢
    rw [List.map_cons, List.map_cons, List.map_cons, List.sum_cons, List.sum_cons, ih, xrv_cat]
def xReal (D : va_G) (cl : List vw_C) (A : Nat → Prop) (H0 : Heap) (ad : Nat → Nat) (cA : Nat → ClassId) (sk : List xC) (nL : Nat) (f : xF) (H : Heap) (locs : List Loc) (ls : Array Slot) : Prop :=
  va_P D cl (xW ad cA f.2.2.2 sk) H ∧ va_D A (xW ad cA f.2.2.2 sk) ∧ va_S A H0 H locs ∧ lv_has ls nL (xlv ad f.2.1)
def xGo (k0 n0 : Nat) (p : Program) (l : Launch) (e : Env) (R : Room) (s : State) (m : MethodId) (args : Array Value) (below : List Frame) (meth : Method) (c : Code) (Q : State → Prop) (D : va_G) (cl : List vw_C) (A : Nat → Prop) (H0 : Heap) (ad : Nat → Nat) (cA : Nat → ClassId) (sk : List xC) (nL : Nat) (f : xF) : Prop :=
  ∀ (H : Heap) (locs : List Loc) (ls : Array Slot), xReal D cl A H0 ad cA sk nL f H locs ls → W p l e R s m args below meth c H locs k0 n0 Q (F0 m f.1 ls (f.2.2.1.map (xrv ad)))
/-- what a method promises, by the function -/
def xQ (D : va_G) (cl : List vw_C) (cA : Nat → ClassId) (tl : List FieldType) (ad : Nat → Nat) (sk : List xC) (r : xO) (A : Nat → Prop) : Array Value → State → Outcome → State → Prop := fun _ st oc t => (oc = .returned (r.1.map (xrv ad)) ∧ wE D cl (xtys cA tl) (xW ad cA r.2 sk) A t) ∧ va_F A st t
def xMet (l : Launch) (D : va_G) (cl : List vw_C) (L : List (String × Nat × MethodName × String)) (cA : Nat → ClassId) (tl : List FieldType) (sk : List xC) (nm : Nat → MethodName) (zs : Nat → List Cond) (rm : Room) (y : Nat) (as : List Value) (S : xS) (r : xO) : Prop :=
  ∀ (ad : Nat → Nat) (sz : Nat), Met l (nm y) (zs y) rm (va_Pc (as.map (xrv ad)) (wB D cl L (xtys cA tl) (xW ad cA S sk) sz)) (xQ D cl cA tl ad sk r (va_A (xW ad cA S sk) sz)) 0 0 (va_A (xW ad cA S sk) sz)
section
variable {k0 n0 : Nat} {p : Program} {l : Launch} {e : Env} {R : Room} {s : State} {m : MethodId} {args : Array Value} {below : List Frame} {meth : Method} {c : Code} {Q : State → Prop}
variable {D : va_G} {cl : List vw_C} {A : Nat → Prop} {H0 : Heap} {ad : Nat → Nat} {cA : Nat → ClassId} {sk : List xC} {nL pc : Nat} {cc : ByteArray} {own : String} {Ts : List Cond} {T : xT} {tl : List FieldType}
set_option maxHeartbeats 4000000 in
theorem xpure_go (hx : p.tables.exec = Jvm.exec) (hb : c.code = cc) (hown : s.vm.findClass own = some m.cls) (hts : ∀ w ∈ Ts, w.before args s = true) (hk : ∀ i v, T.2.2.1 i = some v → Cond.constant own i v ∈ Ts) (hkl : ∀ i v, T.2.2.2.1 i = some v → Cond.constantLong own i v ∈ Ts)
    {q : Instr × Nat} (hd : decode cc pc = .ok q) {lv lv' : xLV} {st st' : List Value} {S : xS} (h : xpure nL T lv st q = some (lv', st'))
    (kk : xGo k0 n0 p l e R s m args below meth c Q D cl A H0 ad cA sk nL (pc + xlen q, lv', st', S)) : xGo k0 n0 p l e R s m args below meth c Q D cl A H0 ad cA sk nL (pc, lv, st, S) := by
  intro H locs ls ⟨hP, hD, hS, hl⟩
  unfold xpure at h
  split at h
  · unfold xldI at h
    split at h
    · rename_i h9
      obtain ⟨rfl, rfl⟩ := Prod.mk.inj (Option.some.inj h)
      exact lv_iload_n hx hb hd rfl (xlook_at hl h9) (kk H locs ls ⟨hP, hD, hS, hl⟩)
    · cases h
  · unfold xldI at h
    split at h
    · rename_i h9
      obtain ⟨rfl, rfl⟩ := Prod.mk.inj (Option.some.inj h)
      exact lv_iload hx hb hd (xlook_at hl h9) (kk H locs ls ⟨hP, hD, hS, hl⟩)
    · cases h
  · unfold xldL at h
    split at h
    · rename_i h9
      obtain ⟨rfl, rfl⟩ := Prod.mk.inj (Option.some.inj h)
      exact lv_lload_n hx hb hd rfl (xlook_at hl h9) (kk H locs ls ⟨hP, hD, hS, hl⟩)
    · cases h
  · unfold xldL at h
    split at h
    · rename_i h9
      obtain ⟨rfl, rfl⟩ := Prod.mk.inj (Option.some.inj h)
      exact lv_lload hx hb hd (xlook_at hl h9) (kk H locs ls ⟨hP, hD, hS, hl⟩)
    · cases h
  · unfold xldA at h
    split at h
    · rename_i h9
      obtain ⟨rfl, rfl⟩ := Prod.mk.inj (Option.some.inj h)
      exact lv_aload_n hx hb hd rfl (xlook_at hl h9) (kk H locs ls ⟨hP, hD, hS, hl⟩)
    · cases h
  · unfold xldA at h
    split at h
    · rename_i h9
      obtain ⟨rfl, rfl⟩ := Prod.mk.inj (Option.some.inj h)
      exact lv_aload hx hb hd (xlook_at hl h9) (kk H locs ls ⟨hP, hD, hS, hl⟩)
    · cases h
  · unfold xstI at h
    split at h
    · split at h
      · rename_i h9
        obtain ⟨rfl, rfl⟩ := Prod.mk.inj (Option.some.inj h)
        exact lv_istore_n hx hb hd rfl hl h9 rfl (fun ls9 hl9 => kk H locs ls9 ⟨hP, hD, hS, lv_less hl9 xst1_less⟩)
      · cases h
    · cases h
  · unfold xstI at h
    split at h
    · split at h
      · rename_i h9
        obtain ⟨rfl, rfl⟩ := Prod.mk.inj (Option.some.inj h)
        exact lv_istore hx hb hd hl h9 rfl (fun ls9 hl9 => kk H locs ls9 ⟨hP, hD, hS, lv_less hl9 xst1_less⟩)
      · cases h
    · cases h
  · unfold xstL at h
    split at h
    · split at h
      · rename_i h9
        obtain ⟨rfl, rfl⟩ := Prod.mk.inj (Option.some.inj h)
        exact lv_lstore_n hx hb hd rfl hl h9 rfl (fun ls9 hl9 => kk H locs ls9 ⟨hP, hD, hS, lv_less hl9 xst2_less⟩)
      · cases h
    · cases h
  · unfold xstL at h
    split at h
    · split at h
      · rename_i h9
        obtain ⟨rfl, rfl⟩ := Prod.mk.inj (Option.some.inj h)
        exact lv_lstore hx hb hd hl h9 rfl (fun ls9 hl9 => kk H locs ls9 ⟨hP, hD, hS, lv_less hl9 xst2_less⟩)
      · cases h
    · cases h
  · unfold xstA at h
    split at h
    · split at h
      · rename_i h9
        obtain ⟨rfl, rfl⟩ := Prod.mk.inj (Option.some.inj h)
        exact lv_astore_n hx hb hd rfl hl h9 rfl (fun ls9 hl9 => kk H locs ls9 ⟨hP, hD, hS, lv_less hl9 xst1_less⟩)
      · cases h
    · cases h
  · unfold xstA at h
    split at h
    · split at h
      · rename_i h9
        obtain ⟨rfl, rfl⟩ := Prod.mk.inj (Option.some.inj h)
        exact lv_astore hx hb hd hl h9 rfl (fun ls9 hl9 => kk H locs ls9 ⟨hP, hD, hS, lv_less hl9 xst1_less⟩)
      · cases h
    · cases h
  · split at h
    · rename_i h9
      split at h
      · rename_i h8
        obtain ⟨rfl, rfl⟩ := Prod.mk.inj (Option.some.inj h)
        obtain ⟨k9, hk9⟩ := List.getElem?_of_mem (xlook_memv (ad := ad) h9)
        exact lv_iinc hx hb hd hl hk9 rfl h8 rfl (fun ls9 hl9 => kk H locs ls9 ⟨hP, hD, hS, lv_less hl9 xst1_less⟩)
      · cases h
    · cases h
  · obtain ⟨rfl, rfl⟩ := Prod.mk.inj (Option.some.inj h)
    exact lv_iconst hx hb hd rfl (kk H locs ls ⟨hP, hD, hS, hl⟩)
  · obtain ⟨rfl, rfl⟩ := Prod.mk.inj (Option.some.inj h)
    exact lv_bipush hx hb hd rfl (kk H locs ls ⟨hP, hD, hS, hl⟩)
  · obtain ⟨rfl, rfl⟩ := Prod.mk.inj (Option.some.inj h)
    exact lv_sipush hx hb hd rfl (kk H locs ls ⟨hP, hD, hS, hl⟩)
  · obtain ⟨rfl, rfl⟩ := Prod.mk.inj (Option.some.inj h)
    exact lv_lconst hx hb hd rfl (kk H locs ls ⟨hP, hD, hS, hl⟩)
  · split at h
    · rename_i h9
      obtain ⟨rfl, rfl⟩ := Prod.mk.inj (Option.some.inj h)
      exact lv_ldc hx hb hown (hts _ (hk _ _ h9)) hd (kk H locs ls ⟨hP, hD, hS, hl⟩)
    · cases h
  · split at h
    · rename_i h9
      obtain ⟨rfl, rfl⟩ := Prod.mk.inj (Option.some.inj h)
      exact lv_ldc2 hx hb hown (hts _ (hkl _ _ h9)) hd (kk H locs ls ⟨hP, hD, hS, hl⟩)
    · cases h
  · unfold xbI at h
    split at h
    · obtain ⟨rfl, rfl⟩ := Prod.mk.inj (Option.some.inj h)
      exact lv_iadd hx hb hd (kk H locs ls ⟨hP, hD, hS, hl⟩)
    · cases h
  · unfold xbI at h
    split at h
    · obtain ⟨rfl, rfl⟩ := Prod.mk.inj (Option.some.inj h)
      exact lv_isub hx hb hd (kk H locs ls ⟨hP, hD, hS, hl⟩)
    · cases h
  · unfold xbI at h
    split at h
    · obtain ⟨rfl, rfl⟩ := Prod.mk.inj (Option.some.inj h)
      exact lv_imul hx hb hd (kk H locs ls ⟨hP, hD, hS, hl⟩)
    · cases h
  · unfold xbI at h
    split at h
    · obtain ⟨rfl, rfl⟩ := Prod.mk.inj (Option.some.inj h)
      exact lv_iand hx hb hd (kk H locs ls ⟨hP, hD, hS, hl⟩)
    · cases h
  · unfold xbI at h
    split at h
    · obtain ⟨rfl, rfl⟩ := Prod.mk.inj (Option.some.inj h)
      exact lv_ior hx hb hd (kk H locs ls ⟨hP, hD, hS, hl⟩)
    · cases h
  · unfold xbI at h
    split at h
    · obtain ⟨rfl, rfl⟩ := Prod.mk.inj (Option.some.inj h)
      exact lv_ixor hx hb hd (kk H locs ls ⟨hP, hD, hS, hl⟩)
    · cases h
  · unfold xbI at h
    split at h
    · obtain ⟨rfl, rfl⟩ := Prod.mk.inj (Option.some.inj h)
      exact lv_ishl hx hb hd (kk H locs ls ⟨hP, hD, hS, hl⟩)
    · cases h
  · unfold xbI at h
    split at h
    · obtain ⟨rfl, rfl⟩ := Prod.mk.inj (Option.some.inj h)
      exact lv_ishr hx hb hd (kk H locs ls ⟨hP, hD, hS, hl⟩)
    · cases h
  · unfold xbI at h
    split at h
    · obtain ⟨rfl, rfl⟩ := Prod.mk.inj (Option.some.inj h)
      exact lv_iushr hx hb hd rfl (kk H locs ls ⟨hP, hD, hS, hl⟩)
    · cases h
  · split at h
    · split at h
      · cases h
      · rename_i h9
        obtain ⟨rfl, rfl⟩ := Prod.mk.inj (Option.some.inj h)
        exact lv_idiv hx hb hd h9 (kk H locs ls ⟨hP, hD, hS, hl⟩)
    · cases h
  · split at h
    · split at h
      · cases h
      · rename_i h9
        obtain ⟨rfl, rfl⟩ := Prod.mk.inj (Option.some.inj h)
        exact lv_irem hx hb hd h9 (kk H locs ls ⟨hP, hD, hS, hl⟩)
    · cases h
  · unfold xuI at h
    split at h
    · obtain ⟨rfl, rfl⟩ := Prod.mk.inj (Option.some.inj h)
      exact lv_ineg hx hb hd (kk H locs ls ⟨hP, hD, hS, hl⟩)
    · cases h
  · unfold xuI at h
    split at h
    · obtain ⟨rfl, rfl⟩ := Prod.mk.inj (Option.some.inj h)
      exact lv_i2b hx hb hd rfl (kk H locs ls ⟨hP, hD, hS, hl⟩)
    · cases h
  · unfold xuI at h
    split at h
    · obtain ⟨rfl, rfl⟩ := Prod.mk.inj (Option.some.inj h)
      exact lv_i2s hx hb hd rfl (kk H locs ls ⟨hP, hD, hS, hl⟩)
    · cases h
  · unfold xuI at h
    split at h
    · obtain ⟨rfl, rfl⟩ := Prod.mk.inj (Option.some.inj h)
      exact lv_i2l hx hb hd rfl (kk H locs ls ⟨hP, hD, hS, hl⟩)
    · cases h
  · unfold xuL at h
    split at h
    · obtain ⟨rfl, rfl⟩ := Prod.mk.inj (Option.some.inj h)
      exact lv_l2i hx hb hd rfl (kk H locs ls ⟨hP, hD, hS, hl⟩)
    · cases h
  · unfold xuL at h
    split at h
    · obtain ⟨rfl, rfl⟩ := Prod.mk.inj (Option.some.inj h)
      exact lv_lneg hx hb hd (kk H locs ls ⟨hP, hD, hS, hl⟩)
    · cases h
  · unfold xbL at h
    split at h
    · obtain ⟨rfl, rfl⟩ := Prod.mk.inj (Option.some.inj h)
      exact lv_ladd hx hb hd (kk H locs ls ⟨hP, hD, hS, hl⟩)
    · cases h
  · unfold xbL at h
    split at h
    · obtain ⟨rfl, rfl⟩ := Prod.mk.inj (Option.some.inj h)
      exact lv_lsub hx hb hd (kk H locs ls ⟨hP, hD, hS, hl⟩)
    · cases h
  · unfold xbL at h
    split at h
    · obtain ⟨rfl, rfl⟩ := Prod.mk.inj (Option.some.inj h)
      exact lv_lmul hx hb hd (kk H locs ls ⟨hP, hD, hS, hl⟩)
    · cases h
  · unfold xbL at h
    split at h
    · obtain ⟨rfl, rfl⟩ := Prod.mk.inj (Option.some.inj h)
      exact lv_land hx hb hd (kk H locs ls ⟨hP, hD, hS, hl⟩)
    · cases h
  · unfold xbL at h
    split at h
    · obtain ⟨rfl, rfl⟩ := Prod.mk.inj (Option.some.inj h)
      exact lv_lor hx hb hd (kk H locs ls ⟨hP, hD, hS, hl⟩)
    · cases h
  · unfold xbL at h
    split at h
    · obtain ⟨rfl, rfl⟩ := Prod.mk.inj (Option.some.inj h)
      exact lv_lxor hx hb hd (kk H locs ls ⟨hP, hD, hS, hl⟩)
    · cases h
  · split at h
    · split at h
      · cases h
      · rename_i h9
        obtain ⟨rfl, rfl⟩ := Prod.mk.inj (Option.some.inj h)
        exact lv_ldiv hx hb hd h9 (kk H locs ls ⟨hP, hD, hS, hl⟩)
    · cases h
  · split at h
    · split at h
      · cases h
      · rename_i h9
        obtain ⟨rfl, rfl⟩ := Prod.mk.inj (Option.some.inj h)
        exact lv_lrem hx hb hd h9 (kk H locs ls ⟨hP, hD, hS, hl⟩)
    · cases h
  · unfold xshL at h
    split at h
    · obtain ⟨rfl, rfl⟩ := Prod.mk.inj (Option.some.inj h)
      exact lv_lshl hx hb hd rfl (kk H locs ls ⟨hP, hD, hS, hl⟩)
    · cases h
  · unfold xshL at h
    split at h
    · obtain ⟨rfl, rfl⟩ := Prod.mk.inj (Option.some.inj h)
      exact lv_lshr hx hb hd rfl (kk H locs ls ⟨hP, hD, hS, hl⟩)
    · cases h
  · unfold xbL at h
    split at h
    · obtain ⟨rfl, rfl⟩ := Prod.mk.inj (Option.some.inj h)
      exact W.lcmp hx hb hd (kk H locs ls ⟨hP, hD, hS, hl⟩)
    · cases h
  · split at h
    · split at h
      · rename_i h9
        obtain ⟨rfl, rfl⟩ := Prod.mk.inj (Option.some.inj h)
        exact lv_dup hx hb hd (by rw [xrv_cat]; exact h9) (kk H locs ls ⟨hP, hD, hS, hl⟩)
      · cases h
    · cases h
  · split at h
    · split at h
      · rename_i h9
        obtain ⟨rfl, rfl⟩ := Prod.mk.inj (Option.some.inj h)
        exact lv_dup_x1 hx hb hd (by rw [xrv_cat]; exact h9.1) (by rw [xrv_cat]; exact h9.2) (kk H locs ls ⟨hP, hD, hS, hl⟩)
      · cases h
    · cases h
  · split at h
    · split at h
      · rename_i h9
        obtain ⟨rfl, rfl⟩ := Prod.mk.inj (Option.some.inj h)
        exact lv_dup2_11 hx hb hd (by rw [xrv_cat]; exact h9.1) (by rw [xrv_cat]; exact h9.2) (kk H locs ls ⟨hP, hD, hS, hl⟩)
      · cases h
    · cases h
  · split at h
    · split at h
      · rename_i h9
        obtain ⟨rfl, rfl⟩ := Prod.mk.inj (Option.some.inj h)
        exact lv_pop hx hb hd (by rw [xrv_cat]; exact h9) (kk H locs ls ⟨hP, hD, hS, hl⟩)
      · cases h
    · cases h
  · cases h
set_option maxHeartbeats 4000000 in
theorem xjump_go (hx : p.tables.exec = Jvm.exec) (hb : c.code = cc) {q : Instr × Nat} (hd : decode cc pc = .ok q) {lv : xLV} {st st' : List Value} {pc' : Nat} {S : xS} (h : xjump pc st q = some (pc', st'))
    (kk : xGo k0 n0 p l e R s m args below meth c Q D cl A H0 ad cA sk nL (pc', lv, st', S)) : xGo k0 n0 p l e R s m args below meth c Q D cl A H0 ad cA sk nL (pc, lv, st, S) := by
  intro H locs ls ⟨hP, hD, hS, hl⟩
  unfold xjump at h
  split at h
  · obtain ⟨t, h1, h2⟩ := Option.map_eq_some_iff.mp h
    obtain ⟨rfl, rfl⟩ := Prod.mk.inj h2
    exact lv_goto hx hb hd (xto_eq h1) (kk H locs ls ⟨hP, hD, hS, hl⟩)
  · rename_i cd off
    split at h
    · rename_i ht
      obtain ⟨rfl, rfl⟩ := Prod.mk.inj (Option.some.inj h)
      have ht := xto_eq ht
      cases cd
      · exact lv_if_eq hx hb hd ht (fun h7 => by
            have h8 := kk H locs ls ⟨hP, hD, hS, hl⟩
            rw [if_pos (show xcnd .eq _ _ = true from decide_eq_true h7)] at h8
            exact h8) (fun h7 => by
            have h8 := kk H locs ls ⟨hP, hD, hS, hl⟩
            rw [if_neg (fun z : xcnd .eq _ _ = true => h7 (of_decide_eq_true z))] at h8
            exact h8)
      · exact lv_if_ne hx hb hd ht (fun h7 => by
            have h8 := kk H locs ls ⟨hP, hD, hS, hl⟩
            rw [if_pos (show xcnd .ne _ _ = true from decide_eq_true h7)] at h8
            exact h8) (fun h7 => by
            have h8 := kk H locs ls ⟨hP, hD, hS, hl⟩
            rw [if_neg (fun z : xcnd .ne _ _ = true => (of_decide_eq_true z) h7)] at h8
            exact h8)
      · exact lv_if_lt hx hb hd ht (fun h7 => by
            have h8 := kk H locs ls ⟨hP, hD, hS, hl⟩
            rw [if_pos (show xcnd .lt _ _ = true from decide_eq_true h7)] at h8
            exact h8) (fun h7 => by
            have h8 := kk H locs ls ⟨hP, hD, hS, hl⟩
            rw [if_neg (fun z : xcnd .lt _ _ = true => h7 (of_decide_eq_true z))] at h8
            exact h8)
      · exact lv_if_ge hx hb hd ht (fun h7 => by
            have h8 := kk H locs ls ⟨hP, hD, hS, hl⟩
            rw [if_pos (show xcnd .ge _ _ = true from decide_eq_true h7)] at h8
            exact h8) (fun h7 => by
            have h8 := kk H locs ls ⟨hP, hD, hS, hl⟩
            rw [if_neg (fun z : xcnd .ge _ _ = true => h7 (of_decide_eq_true z))] at h8
            exact h8)
      · exact lv_if_gt hx hb hd ht (fun h7 => by
            have h8 := kk H locs ls ⟨hP, hD, hS, hl⟩
            rw [if_pos (show xcnd .gt _ _ = true from decide_eq_true h7)] at h8
            exact h8) (fun h7 => by
            have h8 := kk H locs ls ⟨hP, hD, hS, hl⟩
            rw [if_neg (fun z : xcnd .gt _ _ = true => h7 (of_decide_eq_true z))] at h8
            exact h8)
      · exact lv_if_le hx hb hd ht (fun h7 => by
            have h8 := kk H locs ls ⟨hP, hD, hS, hl⟩
            rw [if_pos (show xcnd .le _ _ = true from decide_eq_true h7)] at h8
            exact h8) (fun h7 => by
            have h8 := kk H locs ls ⟨hP, hD, hS, hl⟩
            rw [if_neg (fun z : xcnd .le _ _ = true => h7 (of_decide_eq_true z))] at h8
            exact h8)
    · cases h
  · rename_i cd off
    split at h
    · rename_i ht
      obtain ⟨rfl, rfl⟩ := Prod.mk.inj (Option.some.inj h)
      have ht := xto_eq ht
      cases cd
      · exact lv_icmp_eq hx hb hd ht (fun h7 => by
            have h8 := kk H locs ls ⟨hP, hD, hS, hl⟩
            rw [if_pos (show xcnd .eq _ _ = true from decide_eq_true h7)] at h8
            exact h8) (fun h7 => by
            have h8 := kk H locs ls ⟨hP, hD, hS, hl⟩
            rw [if_neg (fun z : xcnd .eq _ _ = true => h7 (of_decide_eq_true z))] at h8
            exact h8)
      · exact lv_icmp_ne hx hb hd ht (fun h7 => by
            have h8 := kk H locs ls ⟨hP, hD, hS, hl⟩
            rw [if_pos (show xcnd .ne _ _ = true from decide_eq_true h7)] at h8
            exact h8) (fun h7 => by
            have h8 := kk H locs ls ⟨hP, hD, hS, hl⟩
            rw [if_neg (fun z : xcnd .ne _ _ = true => (of_decide_eq_true z) h7)] at h8
            exact h8)
      · exact lv_icmp_lt hx hb hd ht (fun h7 => by
            have h8 := kk H locs ls ⟨hP, hD, hS, hl⟩
            rw [if_pos (show xcnd .lt _ _ = true from decide_eq_true h7)] at h8
            exact h8) (fun h7 => by
            have h8 := kk H locs ls ⟨hP, hD, hS, hl⟩
            rw [if_neg (fun z : xcnd .lt _ _ = true => h7 (of_decide_eq_true z))] at h8
            exact h8)
      · exact lv_icmp_ge hx hb hd ht (fun h7 => by
            have h8 := kk H locs ls ⟨hP, hD, hS, hl⟩
            rw [if_pos (show xcnd .ge _ _ = true from decide_eq_true h7)] at h8
            exact h8) (fun h7 => by
            have h8 := kk H locs ls ⟨hP, hD, hS, hl⟩
            rw [if_neg (fun z : xcnd .ge _ _ = true => h7 (of_decide_eq_true z))] at h8
            exact h8)
      · exact lv_icmp_gt hx hb hd ht (fun h7 => by
            have h8 := kk H locs ls ⟨hP, hD, hS, hl⟩
            rw [if_pos (show xcnd .gt _ _ = true from decide_eq_true h7)] at h8
            exact h8) (fun h7 => by
            have h8 := kk H locs ls ⟨hP, hD, hS, hl⟩
            rw [if_neg (fun z : xcnd .gt _ _ = true => h7 (of_decide_eq_true z))] at h8
            exact h8)
      · exact lv_icmp_le hx hb hd ht (fun h7 => by
            have h8 := kk H locs ls ⟨hP, hD, hS, hl⟩
            rw [if_pos (show xcnd .le _ _ = true from decide_eq_true h7)] at h8
            exact h8) (fun h7 => by
            have h8 := kk H locs ls ⟨hP, hD, hS, hl⟩
            rw [if_neg (fun z : xcnd .le _ _ = true => h7 (of_decide_eq_true z))] at h8
            exact h8)
    · cases h
  · split at h
    · obtain ⟨t, h1, h2⟩ := Option.map_eq_some_iff.mp h
      obtain ⟨rfl, rfl⟩ := Prod.mk.inj h2
      unfold xsw at h1
      split at h1
      · rename_i h3
        exact lv_tableOut hx hb hd h3 (xto_eq h1) (kk H locs ls ⟨hP, hD, hS, hl⟩)
      · rename_i h3
        split at h1
        · rename_i off h4
          exact lv_tableIn hx hb hd (fun z => h3 (Or.inl z)) (fun z => h3 (Or.inr z)) h4 (xto_eq h1) (kk H locs ls ⟨hP, hD, hS, hl⟩)
        · cases h1
    · cases h
  · split at h
    · split at h
      · rename_i h3
        obtain ⟨t, h1, h2⟩ := Option.map_eq_some_iff.mp h
        obtain ⟨rfl, rfl⟩ := Prod.mk.inj h2
        exact lv_lookup hx hb hd h3 rfl (xto_eq h1) (kk H locs ls ⟨hP, hD, hS, hl⟩)
      · cases h
    · cases h
  · cases h
end
end XG
