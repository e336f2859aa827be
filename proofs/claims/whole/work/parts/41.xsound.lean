/-! XF, second part: what the function answers is what the machine does. -/
section XG
def xlv (ad : Nat → Nat) (lv : List (Nat × Value)) : List (Nat × Value) := lv.map (fun q => (q.1, xrv ad q.2))
theorem xlook_mem {lv : List (Nat × Value)} {i : Nat} {v : Value} (h : xlook lv i = some v) : (i, v) ∈ lv := by
  unfold xlook at h
  obtain ⟨q, h1, h2⟩ := Option.map_eq_some_iff.mp h
  have h3 := List.find?_some h1
  have h4 := List.mem_of_find?_eq_some h1
  have h5 : q.1 = i := by simpa using h3
  obtain ⟨a, b⟩ := q
  dsimp only at h2 h5
  subst h2; subst h5
  exact h4
theorem xlook_memv {ad : Nat → Nat} {lv : List (Nat × Value)} {i : Nat} {v : Value} (h : xlook lv i = some v) : (i, xrv ad v) ∈ xlv ad lv := List.mem_map.mpr ⟨(i, v), xlook_mem h, rfl⟩
theorem xlook_at {ad : Nat → Nat} {ls : Array Slot} {nL : Nat} {lv : List (Nat × Value)} (h : lv_has ls nL (xlv ad lv)) {i : Nat} {v : Value} (hi : xlook lv i = some v) : ls[i]? = some (.val (xrv ad v)) := h.2.2 _ (xlook_memv hi)
theorem xlv_filter (ad : Nat → Nat) (f : Nat × Value → Bool) (hf : ∀ a v, f (a, xrv ad v) = f (a, v)) : ∀ lv : List (Nat × Value), (xlv ad lv).filter f = xlv ad (lv.filter f)
  | [] => rfl
  | (a, v) :: lv => by
    have ih := xlv_filter ad f hf lv
    show ((a, xrv ad v) :: xlv ad lv).filter f = xlv ad (((a, v) :: lv).filter f)
    rw [List.filter_cons, List.filter_cons, hf a v]
    split
    · rw [ih]
      rfl
    · exact ih
theorem xst1_lv (ad : Nat → Nat) (lv : List (Nat × Value)) (i : Nat) (v : Value) : (i, xrv ad v) :: (xlv ad lv).filter (fun q => !(q.1 == i) && !(q.1 + 1 == i && q.2.category == 2)) = xlv ad (xst1 lv i v) := by
  rw [xlv_filter ad _ (fun a v => by dsimp only; rw [xrv_cat])]
  rfl
theorem xst2_lv (ad : Nat → Nat) (lv : List (Nat × Value)) (i : Nat) (v : Value) : (i, xrv ad v) :: (xlv ad lv).filter (fun q => !(q.1 == i) && (!(q.1 == i + 1) && !(q.1 + 1 == i && q.2.category == 2))) = xlv ad (xst2 lv i v) := by
  rw [xlv_filter ad _ (fun a v => by dsimp only; rw [xrv_cat])]
  rfl
theorem xto_eq {pc t : Nat} {off : Int} (h : xto pc off = some t) : (pc : Int) + off = (t : Int) := by
  unfold xto at h
  split at h
  · rename_i h0
    have := Option.some.inj h
    omega
  · cases h
def xtys (cA : Nat → ClassId) (tl : List FieldType) : List (ClassId × FieldType) := tl.mapIdx (fun t ty => (cA t, ty))
theorem xtys_get {cA : Nat → ClassId} {tl : List FieldType} {t : Nat} {ty : FieldType} (h : tl[t]? = some ty) : (xtys cA tl)[t]? = some (cA t, ty) := by
  unfold xtys
  rw [List.getElem?_mapIdx, h]
  rfl
def xaty : Nat → FieldType
  | 0 => .int
  | 1 => .byte
  | 2 => .long
  | _ => .boolean
def xfty : Nat → FieldType
  | 0 => .int
  | 1 => .boolean
  | _ => .long
/-- the skeleton's rows: their types are known, their lengths are ints -/
def xSk (tl : List FieldType) (sk : List xC) : Prop := ∀ (i t n : Nat), sk[i]? = some (Sum.inl (t, n)) → tl[t]? = some (xaty t) ∧ t < 4
def xFld (cl : List vw_C) (Ts : List Cond) (own : String) (fl : Nat → Option (Nat × Nat × Nat)) : Prop := ∀ i ci k tc, fl i = some (ci, k, tc) → ∃ (C : String) (F : u_T) (N : Nat) (ty0 : Nat → FieldType), cl[ci]? = some (C, F, N) ∧ k < N ∧ (∀ w ∈ u_ws C F N, w ∈ Ts) ∧ Cond.fieldLink own i (F k).1 (F k).2.1 (F k).2.2.1 ∈ Ts ∧ (∀ j, j < N → parseFieldDescriptor (F j).2.2.1 = some (ty0 j)) ∧ (∀ a, a < N → ∀ b, b < N → a ≠ b → (F a).2.1 ≠ (F b).2.1) ∧ (tc ≤ 2 → (F k).2.2.2 = false ∧ ty0 k = xfty tc)
theorem xin_in {j : Int32} {n : Nat} (h : xin j n = true) : vp_in j n := by
  unfold xin at h
  rw [Bool.and_eq_true, decide_eq_true_eq, decide_eq_true_eq] at h
  exact vp_in_iff.mpr h
theorem xrv_fv (ad : Nat → Nat) (S : xS) (a k : Nat) (d : Nat ⊕ Nat) : xrv ad (xfv id S a k d) = xfv ad S a k d := by rcases d with (_ | n) | j <;> rfl
theorem xsum_map (ad : Nat → Nat) : ∀ st : List Value, ((st.map (xrv ad)).map fun v => v.category).sum = xsum st
  | [] => rfl
  | v :: st => by
    have ih := xsum_map ad st
    unfold xsum at ih ⊢
    rw [List.map_cons, List.map_cons, List.map_cons, List.sum_cons, List.sum_cons, ih, xrv_cat]
def xReal (D : va_G) (cl : List vw_C) (A : Nat → Prop) (H0 : Heap) (ad : Nat → Nat) (cA : Nat → ClassId) (sk : List xC) (nL : Nat) (f : xF) (H : Heap) (locs : List Loc) (ls : Array Slot) : Prop :=
  va_P D cl (xW ad cA f.2.2.2 sk) H ∧ va_D A (xW ad cA f.2.2.2 sk) ∧ va_S A H0 H locs ∧ lv_has ls nL (xlv ad f.2.1)
def xGo (p : Program) (l : Launch) (e : Env) (R : Room) (s : State) (m : MethodId) (args : Array Value) (below : List Frame) (meth : Method) (c : Code) (Q : State → Prop) (D : va_G) (cl : List vw_C) (A : Nat → Prop) (H0 : Heap) (ad : Nat → Nat) (cA : Nat → ClassId) (sk : List xC) (nL : Nat) (f : xF) : Prop :=
  ∀ (H : Heap) (locs : List Loc) (ls : Array Slot), xReal D cl A H0 ad cA sk nL f H locs ls → W p l e R s m args below meth c H locs 0 0 Q (F0 m f.1 ls (f.2.2.1.map (xrv ad)))
/-- what a method promises, by the function -/
def xQ (D : va_G) (cl : List vw_C) (cA : Nat → ClassId) (tl : List FieldType) (ad : Nat → Nat) (sk : List xC) (r : xO) (A : Nat → Prop) : Array Value → State → Outcome → State → Prop := fun _ st oc t => (oc = .returned (r.1.map (xrv ad)) ∧ wE D cl (xtys cA tl) (xW ad cA r.2 sk) A t) ∧ va_F A st t
def xMet (l : Launch) (D : va_G) (cl : List vw_C) (L : List (String × Nat × MethodName × String)) (cA : Nat → ClassId) (tl : List FieldType) (sk : List xC) (nm : Nat → MethodName) (zs : Nat → List Cond) (rm : Room) (y : Nat) (as : List Value) (S : xS) (r : xO) : Prop :=
  ∀ (ad : Nat → Nat) (sz : Nat), Met l (nm y) (zs y) rm (va_Pc (as.map (xrv ad)) (wB D cl L (xtys cA tl) (xW ad cA S sk) sz)) (xQ D cl cA tl ad sk r (va_A (xW ad cA S sk) sz)) 0 0 (va_A (xW ad cA S sk) sz)
section
variable {p : Program} {l : Launch} {e : Env} {R : Room} {s : State} {m : MethodId} {args : Array Value} {below : List Frame} {meth : Method} {c : Code} {Q : State → Prop}
variable {D : va_G} {cl : List vw_C} {A : Nat → Prop} {H0 : Heap} {ad : Nat → Nat} {cA : Nat → ClassId} {sk : List xC} {nL pc : Nat} {cc : ByteArray} {own : String} {Ts : List Cond} {T : xT} {tl : List FieldType}
set_option maxHeartbeats 4000000 in
theorem xpure_go (hx : p.tables.exec = Jvm.exec) (hb : c.code = cc) (hown : s.vm.findClass own = some m.cls) (hts : ∀ w ∈ Ts, w.before args s = true) (hk : ∀ i v, T.2.2.1 i = some v → Cond.constant own i v ∈ Ts) (hkl : ∀ i v, T.2.2.2.1 i = some v → Cond.constantLong own i v ∈ Ts)
    {q : Instr × Nat} (hd : decode cc pc = .ok q) {lv lv' : List (Nat × Value)} {st st' : List Value} {S : xS} (h : xpure nL T lv st q = some (lv', st'))
    (kk : xGo p l e R s m args below meth c Q D cl A H0 ad cA sk nL (pc + xlen q, lv', st', S)) : xGo p l e R s m args below meth c Q D cl A H0 ad cA sk nL (pc, lv, st, S) := by
  intro H locs ls ⟨hP, hD, hS, hl⟩
  unfold xpure at h
  split at h
  · unfold xldI at h
    split at h
    · rename_i h9
      obtain ⟨rfl, rfl⟩ := Prod.mk.inj (Option.some.inj h)
      exact lv_iload_n hx hb hd rfl (xlook_at hl h9) (kk H locs ls ⟨hP, hD, hS, hl⟩)
    · cases h
  · unfold xldI at h
    split at h
    · rename_i h9
      obtain ⟨rfl, rfl⟩ := Prod.mk.inj (Option.some.inj h)
      exact lv_iload hx hb hd (xlook_at hl h9) (kk H locs ls ⟨hP, hD, hS, hl⟩)
    · cases h
  · unfold xldL at h
    split at h
    · rename_i h9
      obtain ⟨rfl, rfl⟩ := Prod.mk.inj (Option.some.inj h)
      exact lv_lload_n hx hb hd rfl (xlook_at hl h9) (kk H locs ls ⟨hP, hD, hS, hl⟩)
    · cases h
  · unfold xldL at h
    split at h
    · rename_i h9
      obtain ⟨rfl, rfl⟩ := Prod.mk.inj (Option.some.inj h)
      exact lv_lload hx hb hd (xlook_at hl h9) (kk H locs ls ⟨hP, hD, hS, hl⟩)
    · cases h
  · unfold xldA at h
    split at h
    · rename_i h9
      obtain ⟨rfl, rfl⟩ := Prod.mk.inj (Option.some.inj h)
      exact lv_aload_n hx hb hd rfl (xlook_at hl h9) (kk H locs ls ⟨hP, hD, hS, hl⟩)
    · cases h
  · unfold xldA at h
    split at h
    · rename_i h9
      obtain ⟨rfl, rfl⟩ := Prod.mk.inj (Option.some.inj h)
      exact lv_aload hx hb hd (xlook_at hl h9) (kk H locs ls ⟨hP, hD, hS, hl⟩)
    · cases h
  · unfold xstI at h
    split at h
    · split at h
      · rename_i h9
        obtain ⟨rfl, rfl⟩ := Prod.mk.inj (Option.some.inj h)
        exact lv_istore_n hx hb hd rfl hl h9 (xst1_lv ad _ _ (.int _)) (fun ls9 hl9 => kk H locs ls9 ⟨hP, hD, hS, hl9⟩)
      · cases h
    · cases h
  · unfold xstI at h
    split at h
    · split at h
      · rename_i h9
        obtain ⟨rfl, rfl⟩ := Prod.mk.inj (Option.some.inj h)
        exact lv_istore hx hb hd hl h9 (xst1_lv ad _ _ (.int _)) (fun ls9 hl9 => kk H locs ls9 ⟨hP, hD, hS, hl9⟩)
      · cases h
    · cases h
  · unfold xstL at h
    split at h
    · split at h
      · rename_i h9
        obtain ⟨rfl, rfl⟩ := Prod.mk.inj (Option.some.inj h)
        exact lv_lstore_n hx hb hd rfl hl h9 (xst2_lv ad _ _ (.long _)) (fun ls9 hl9 => kk H locs ls9 ⟨hP, hD, hS, hl9⟩)
      · cases h
    · cases h
  · unfold xstL at h
    split at h
    · split at h
      · rename_i h9
        obtain ⟨rfl, rfl⟩ := Prod.mk.inj (Option.some.inj h)
        exact lv_lstore hx hb hd hl h9 (xst2_lv ad _ _ (.long _)) (fun ls9 hl9 => kk H locs ls9 ⟨hP, hD, hS, hl9⟩)
      · cases h
    · cases h
  · unfold xstA at h
    split at h
    · split at h
      · rename_i h9
        obtain ⟨rfl, rfl⟩ := Prod.mk.inj (Option.some.inj h)
        exact lv_astore_n hx hb hd rfl hl h9 (xst1_lv ad _ _ (.ref _)) (fun ls9 hl9 => kk H locs ls9 ⟨hP, hD, hS, hl9⟩)
      · cases h
    · cases h
  · unfold xstA at h
    split at h
    · split at h
      · rename_i h9
        obtain ⟨rfl, rfl⟩ := Prod.mk.inj (Option.some.inj h)
        exact lv_astore hx hb hd hl h9 (xst1_lv ad _ _ (.ref _)) (fun ls9 hl9 => kk H locs ls9 ⟨hP, hD, hS, hl9⟩)
      · cases h
    · cases h
  · split at h
    · rename_i h9
      split at h
      · rename_i h8
        obtain ⟨rfl, rfl⟩ := Prod.mk.inj (Option.some.inj h)
        obtain ⟨k9, hk9⟩ := List.getElem?_of_mem (xlook_memv (ad := ad) h9)
        exact lv_iinc hx hb hd hl hk9 rfl h8 (xst1_lv ad _ _ (.int _)) (fun ls9 hl9 => kk H locs ls9 ⟨hP, hD, hS, hl9⟩)
      · cases h
    · cases h
  · obtain ⟨rfl, rfl⟩ := Prod.mk.inj (Option.some.inj h)
    exact lv_iconst hx hb hd rfl (kk H locs ls ⟨hP, hD, hS, hl⟩)
  · obtain ⟨rfl, rfl⟩ := Prod.mk.inj (Option.some.inj h)
    exact lv_bipush hx hb hd rfl (kk H locs ls ⟨hP, hD, hS, hl⟩)
  · obtain ⟨rfl, rfl⟩ := Prod.mk.inj (Option.some.inj h)
    exact lv_sipush hx hb hd rfl (kk H locs ls ⟨hP, hD, hS, hl⟩)
  · obtain ⟨rfl, rfl⟩ := Prod.mk.inj (Option.some.inj h)
    exact lv_lconst hx hb hd rfl (kk H locs ls ⟨hP, hD, hS, hl⟩)
  · split at h
    · rename_i h9
      obtain ⟨rfl, rfl⟩ := Prod.mk.inj (Option.some.inj h)
      exact lv_ldc hx hb hown (hts _ (hk _ _ h9)) hd (kk H locs ls ⟨hP, hD, hS, hl⟩)
    · cases h
  · split at h
    · rename_i h9
      obtain ⟨rfl, rfl⟩ := Prod.mk.inj (Option.some.inj h)
      exact lv_ldc2 hx hb hown (hts _ (hkl _ _ h9)) hd (kk H locs ls ⟨hP, hD, hS, hl⟩)
    · cases h
  · unfold xbI at h
    split at h
    · obtain ⟨rfl, rfl⟩ := Prod.mk.inj (Option.some.inj h)
      exact lv_iadd hx hb hd (kk H locs ls ⟨hP, hD, hS, hl⟩)
    · cases h
  · unfold xbI at h
    split at h
    · obtain ⟨rfl, rfl⟩ := Prod.mk.inj (Option.some.inj h)
      exact lv_isub hx hb hd (kk H locs ls ⟨hP, hD, hS, hl⟩)
    · cases h
  · unfold xbI at h
    split at h
    · obtain ⟨rfl, rfl⟩ := Prod.mk.inj (Option.some.inj h)
      exact lv_imul hx hb hd (kk H locs ls ⟨hP, hD, hS, hl⟩)
    · cases h
  · unfold xbI at h
    split at h
    · obtain ⟨rfl, rfl⟩ := Prod.mk.inj (Option.some.inj h)
      exact lv_iand hx hb hd (kk H locs ls ⟨hP, hD, hS, hl⟩)
    · cases h
  · unfold xbI at h
    split at h
    · obtain ⟨rfl, rfl⟩ := Prod.mk.inj (Option.some.inj h)
      exact lv_ior hx hb hd (kk H locs ls ⟨hP, hD, hS, hl⟩)
    · cases h
  · unfold xbI at h
    split at h
    · obtain ⟨rfl, rfl⟩ := Prod.mk.inj (Option.some.inj h)
      exact lv_ixor hx hb hd (kk H locs ls ⟨hP, hD, hS, hl⟩)
    · cases h
  · unfold xbI at h
    split at h
    · obtain ⟨rfl, rfl⟩ := Prod.mk.inj (Option.some.inj h)
      exact lv_ishl hx hb hd (kk H locs ls ⟨hP, hD, hS, hl⟩)
    · cases h
  · unfold xbI at h
    split at h
    · obtain ⟨rfl, rfl⟩ := Prod.mk.inj (Option.some.inj h)
      exact lv_ishr hx hb hd (kk H locs ls ⟨hP, hD, hS, hl⟩)
    · cases h
  · unfold xbI at h
    split at h
    · obtain ⟨rfl, rfl⟩ := Prod.mk.inj (Option.some.inj h)
      exact lv_iushr hx hb hd rfl (kk H locs ls ⟨hP, hD, hS, hl⟩)
    · cases h
  · split at h
    · split at h
      · cases h
      · rename_i h9
        obtain ⟨rfl, rfl⟩ := Prod.mk.inj (Option.some.inj h)
        exact lv_idiv hx hb hd h9 (kk H locs ls ⟨hP, hD, hS, hl⟩)
    · cases h
  · split at h
    · split at h
      · cases h
      · rename_i h9
        obtain ⟨rfl, rfl⟩ := Prod.mk.inj (Option.some.inj h)
        exact lv_irem hx hb hd h9 (kk H locs ls ⟨hP, hD, hS, hl⟩)
    · cases h
  · unfold xuI at h
    split at h
    · obtain ⟨rfl, rfl⟩ := Prod.mk.inj (Option.some.inj h)
      exact lv_ineg hx hb hd (kk H locs ls ⟨hP, hD, hS, hl⟩)
    · cases h
  · unfold xuI at h
    split at h
    · obtain ⟨rfl, rfl⟩ := Prod.mk.inj (Option.some.inj h)
      exact lv_i2b hx hb hd rfl (kk H locs ls ⟨hP, hD, hS, hl⟩)
    · cases h
  · unfold xuI at h
    split at h
    · obtain ⟨rfl, rfl⟩ := Prod.mk.inj (Option.some.inj h)
      exact lv_i2s hx hb hd rfl (kk H locs ls ⟨hP, hD, hS, hl⟩)
    · cases h
  · unfold xuI at h
    split at h
    · obtain ⟨rfl, rfl⟩ := Prod.mk.inj (Option.some.inj h)
      exact lv_i2l hx hb hd rfl (kk H locs ls ⟨hP, hD, hS, hl⟩)
    · cases h
  · unfold xuL at h
    split at h
    · obtain ⟨rfl, rfl⟩ := Prod.mk.inj (Option.some.inj h)
      exact lv_l2i hx hb hd rfl (kk H locs ls ⟨hP, hD, hS, hl⟩)
    · cases h
  · unfold xuL at h
    split at h
    · obtain ⟨rfl, rfl⟩ := Prod.mk.inj (Option.some.inj h)
      exact lv_lneg hx hb hd (kk H locs ls ⟨hP, hD, hS, hl⟩)
    · cases h
  · unfold xbL at h
    split at h
    · obtain ⟨rfl, rfl⟩ := Prod.mk.inj (Option.some.inj h)
      exact lv_ladd hx hb hd (kk H locs ls ⟨hP, hD, hS, hl⟩)
    · cases h
  · unfold xbL at h
    split at h
    · obtain ⟨rfl, rfl⟩ := Prod.mk.inj (Option.some.inj h)
      exact lv_lsub hx hb hd (kk H locs ls ⟨hP, hD, hS, hl⟩)
    · cases h
  · unfold xbL at h
    split at h
    · obtain ⟨rfl, rfl⟩ := Prod.mk.inj (Option.some.inj h)
      exact lv_lmul hx hb hd (kk H locs ls ⟨hP, hD, hS, hl⟩)
    · cases h
  · unfold xbL at h
    split at h
    · obtain ⟨rfl, rfl⟩ := Prod.mk.inj (Option.some.inj h)
      exact lv_land hx hb hd (kk H locs ls ⟨hP, hD, hS, hl⟩)
    · cases h
  · unfold xbL at h
    split at h
    · obtain ⟨rfl, rfl⟩ := Prod.mk.inj (Option.some.inj h)
      exact lv_lor hx hb hd (kk H locs ls ⟨hP, hD, hS, hl⟩)
    · cases h
  · unfold xbL at h
    split at h
    · obtain ⟨rfl, rfl⟩ := Prod.mk.inj (Option.some.inj h)
      exact lv_lxor hx hb hd (kk H locs ls ⟨hP, hD, hS, hl⟩)
    · cases h
  · split at h
    · split at h
      · cases h
      · rename_i h9
        obtain ⟨rfl, rfl⟩ := Prod.mk.inj (Option.some.inj h)
        exact lv_ldiv hx hb hd h9 (kk H locs ls ⟨hP, hD, hS, hl⟩)
    · cases h
  · split at h
    · split at h
      · cases h
      · rename_i h9
        obtain ⟨rfl, rfl⟩ := Prod.mk.inj (Option.some.inj h)
        exact lv_lrem hx hb hd h9 (kk H locs ls ⟨hP, hD, hS, hl⟩)
    · cases h
  · unfold xshL at h
    split at h
    · obtain ⟨rfl, rfl⟩ := Prod.mk.inj (Option.some.inj h)
      exact lv_lshl hx hb hd rfl (kk H locs ls ⟨hP, hD, hS, hl⟩)
    · cases h
  · unfold xshL at h
    split at h
    · obtain ⟨rfl, rfl⟩ := Prod.mk.inj (Option.some.inj h)
      exact lv_lshr hx hb hd rfl (kk H locs ls ⟨hP, hD, hS, hl⟩)
    · cases h
  · unfold xbL at h
    split at h
    · obtain ⟨rfl, rfl⟩ := Prod.mk.inj (Option.some.inj h)
      exact W.lcmp hx hb hd (kk H locs ls ⟨hP, hD, hS, hl⟩)
    · cases h
  · split at h
    · split at h
      · rename_i h9
        obtain ⟨rfl, rfl⟩ := Prod.mk.inj (Option.some.inj h)
        exact lv_dup hx hb hd (by rw [xrv_cat]; exact h9) (kk H locs ls ⟨hP, hD, hS, hl⟩)
      · cases h
    · cases h
  · split at h
    · split at h
      · rename_i h9
        obtain ⟨rfl, rfl⟩ := Prod.mk.inj (Option.some.inj h)
        exact lv_dup_x1 hx hb hd (by rw [xrv_cat]; exact h9.1) (by rw [xrv_cat]; exact h9.2) (kk H locs ls ⟨hP, hD, hS, hl⟩)
      · cases h
    · cases h
  · split at h
    · split at h
      · rename_i h9
        obtain ⟨rfl, rfl⟩ := Prod.mk.inj (Option.some.inj h)
        exact lv_pop hx hb hd (by rw [xrv_cat]; exact h9) (kk H locs ls ⟨hP, hD, hS, hl⟩)
      · cases h
    · cases h
  · cases h
set_option maxHeartbeats 4000000 in
theorem xjump_go (hx : p.tables.exec = Jvm.exec) (hb : c.code = cc) {q : Instr × Nat} (hd : decode cc pc = .ok q) {lv : List (Nat × Value)} {st st' : List Value} {pc' : Nat} {S : xS} (h : xjump pc st q = some (pc', st'))
    (kk : xGo p l e R s m args below meth c Q D cl A H0 ad cA sk nL (pc', lv, st', S)) : xGo p l e R s m args below meth c Q D cl A H0 ad cA sk nL (pc, lv, st, S) := by
  intro H locs ls ⟨hP, hD, hS, hl⟩
  unfold xjump at h
  split at h
  · obtain ⟨t, h1, h2⟩ := Option.map_eq_some_iff.mp h
    obtain ⟨rfl, rfl⟩ := Prod.mk.inj h2
    exact lv_goto hx hb hd (xto_eq h1) (kk H locs ls ⟨hP, hD, hS, hl⟩)
  · rename_i cd off
    split at h
    · rename_i ht
      obtain ⟨rfl, rfl⟩ := Prod.mk.inj (Option.some.inj h)
      have ht := xto_eq ht
      cases cd
      · exact lv_if_eq hx hb hd ht (fun h7 => by
            have h8 := kk H locs ls ⟨hP, hD, hS, hl⟩
            rw [if_pos (show xcnd .eq _ _ = true from decide_eq_true h7)] at h8
            exact h8) (fun h7 => by
            have h8 := kk H locs ls ⟨hP, hD, hS, hl⟩
            rw [if_neg (fun z : xcnd .eq _ _ = true => h7 (of_decide_eq_true z))] at h8
            exact h8)
      · exact lv_if_ne hx hb hd ht (fun h7 => by
            have h8 := kk H locs ls ⟨hP, hD, hS, hl⟩
            rw [if_pos (show xcnd .ne _ _ = true from decide_eq_true h7)] at h8
            exact h8) (fun h7 => by
            have h8 := kk H locs ls ⟨hP, hD, hS, hl⟩
            rw [if_neg (fun z : xcnd .ne _ _ = true => (of_decide_eq_true z) h7)] at h8
            exact h8)
      · exact lv_if_lt hx hb hd ht (fun h7 => by
            have h8 := kk H locs ls ⟨hP, hD, hS, hl⟩
            rw [if_pos (show xcnd .lt _ _ = true from decide_eq_true h7)] at h8
            exact h8) (fun h7 => by
            have h8 := kk H locs ls ⟨hP, hD, hS, hl⟩
            rw [if_neg (fun z : xcnd .lt _ _ = true => h7 (of_decide_eq_true z))] at h8
            exact h8)
      · exact lv_if_ge hx hb hd ht (fun h7 => by
            have h8 := kk H locs ls ⟨hP, hD, hS, hl⟩
            rw [if_pos (show xcnd .ge _ _ = true from decide_eq_true h7)] at h8
            exact h8) (fun h7 => by
            have h8 := kk H locs ls ⟨hP, hD, hS, hl⟩
            rw [if_neg (fun z : xcnd .ge _ _ = true => h7 (of_decide_eq_true z))] at h8
            exact h8)
      · exact lv_if_gt hx hb hd ht (fun h7 => by
            have h8 := kk H locs ls ⟨hP, hD, hS, hl⟩
            rw [if_pos (show xcnd .gt _ _ = true from decide_eq_true h7)] at h8
            exact h8) (fun h7 => by
            have h8 := kk H locs ls ⟨hP, hD, hS, hl⟩
            rw [if_neg (fun z : xcnd .gt _ _ = true => h7 (of_decide_eq_true z))] at h8
            exact h8)
      · exact lv_if_le hx hb hd ht (fun h7 => by
            have h8 := kk H locs ls ⟨hP, hD, hS, hl⟩
            rw [if_pos (show xcnd .le _ _ = true from decide_eq_true h7)] at h8
            exact h8) (fun h7 => by
            have h8 := kk H locs ls ⟨hP, hD, hS, hl⟩
            rw [if_neg (fun z : xcnd .le _ _ = true => h7 (of_decide_eq_true z))] at h8
            exact h8)
    · cases h
  · rename_i cd off
    split at h
    · rename_i ht
      obtain ⟨rfl, rfl⟩ := Prod.mk.inj (Option.some.inj h)
      have ht := xto_eq ht
      cases cd
      · exact lv_icmp_eq hx hb hd ht (fun h7 => by
            have h8 := kk H locs ls ⟨hP, hD, hS, hl⟩
            rw [if_pos (show xcnd .eq _ _ = true from decide_eq_true h7)] at h8
            exact h8) (fun h7 => by
            have h8 := kk H locs ls ⟨hP, hD, hS, hl⟩
            rw [if_neg (fun z : xcnd .eq _ _ = true => h7 (of_decide_eq_true z))] at h8
            exact h8)
      · exact lv_icmp_ne hx hb hd ht (fun h7 => by
            have h8 := kk H locs ls ⟨hP, hD, hS, hl⟩
            rw [if_pos (show xcnd .ne _ _ = true from decide_eq_true h7)] at h8
            exact h8) (fun h7 => by
            have h8 := kk H locs ls ⟨hP, hD, hS, hl⟩
            rw [if_neg (fun z : xcnd .ne _ _ = true => (of_decide_eq_true z) h7)] at h8
            exact h8)
      · exact lv_icmp_lt hx hb hd ht (fun h7 => by
            have h8 := kk H locs ls ⟨hP, hD, hS, hl⟩
            rw [if_pos (show xcnd .lt _ _ = true from decide_eq_true h7)] at h8
            exact h8) (fun h7 => by
            have h8 := kk H locs ls ⟨hP, hD, hS, hl⟩
            rw [if_neg (fun z : xcnd .lt _ _ = true => h7 (of_decide_eq_true z))] at h8
            exact h8)
      · exact lv_icmp_ge hx hb hd ht (fun h7 => by
            have h8 := kk H locs ls ⟨hP, hD, hS, hl⟩
            rw [if_pos (show xcnd .ge _ _ = true from decide_eq_true h7)] at h8
            exact h8) (fun h7 => by
            have h8 := kk H locs ls ⟨hP, hD, hS, hl⟩
            rw [if_neg (fun z : xcnd .ge _ _ = true => h7 (of_decide_eq_true z))] at h8
            exact h8)
      · exact lv_icmp_gt hx hb hd ht (fun h7 => by
            have h8 := kk H locs ls ⟨hP, hD, hS, hl⟩
            rw [if_pos (show xcnd .gt _ _ = true from decide_eq_true h7)] at h8
            exact h8) (fun h7 => by
            have h8 := kk H locs ls ⟨hP, hD, hS, hl⟩
            rw [if_neg (fun z : xcnd .gt _ _ = true => h7 (of_decide_eq_true z))] at h8
            exact h8)
      · exact lv_icmp_le hx hb hd ht (fun h7 => by
            have h8 := kk H locs ls ⟨hP, hD, hS, hl⟩
            rw [if_pos (show xcnd .le _ _ = true from decide_eq_true h7)] at h8
            exact h8) (fun h7 => by
            have h8 := kk H locs ls ⟨hP, hD, hS, hl⟩
            rw [if_neg (fun z : xcnd .le _ _ = true => h7 (of_decide_eq_true z))] at h8
            exact h8)
    · cases h
  · split at h
    · obtain ⟨t, h1, h2⟩ := Option.map_eq_some_iff.mp h
      obtain ⟨rfl, rfl⟩ := Prod.mk.inj h2
      unfold xsw at h1
      split at h1
      · rename_i h3
        exact lv_tableOut hx hb hd h3 (xto_eq h1) (kk H locs ls ⟨hP, hD, hS, hl⟩)
      · rename_i h3
        split at h1
        · rename_i off h4
          exact lv_tableIn hx hb hd (fun z => h3 (Or.inl z)) (fun z => h3 (Or.inr z)) h4 (xto_eq h1) (kk H locs ls ⟨hP, hD, hS, hl⟩)
        · cases h1
    · cases h
  · split at h
    · split at h
      · rename_i h3
        obtain ⟨t, h1, h2⟩ := Option.map_eq_some_iff.mp h
        obtain ⟨rfl, rfl⟩ := Prod.mk.inj h2
        exact lv_lookup hx hb hd h3 rfl (xto_eq h1) (kk H locs ls ⟨hP, hD, hS, hl⟩)
      · cases h
    · cases h
  · cases h
end
end XG
