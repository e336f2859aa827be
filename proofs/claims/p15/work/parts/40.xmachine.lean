/-! XF: methods whose heap stays (no new cells) as a FUNCTION over whole numbers: what a field or a place of a row holds by the cell's number and its place; references are numbers of cells of a fixed skeleton. Below: the function (xstep, xloop, xcall), and that what it answers is what the machine does (xmet). -/
section XF
abbrev xS : Type := (Nat → Nat → Int32) × (Nat → Nat → Int64)
/-- a cell of the skeleton: a row (its type's number, its length) or an object (its class's number, its fields: .inl 0 an int, .inl 1 a long, .inr k the cell k) -/
abbrev xC : Type := (Nat × Nat) ⊕ (Nat × List (Nat ⊕ Nat))
def xsetI (S : xS) (i k : Nat) (x : Int32) : xS := (fun a b => if a = i ∧ b = k then x else S.1 a b, S.2)
def xsetL (S : xS) (i k : Nat) (x : Int64) : xS := (S.1, fun a b => if a = i ∧ b = k then x else S.2 a b)
def xfv (ad : Nat → Nat) (S : xS) (i k : Nat) : Nat ⊕ Nat → Value
  | .inl 0 => .int (S.1 i k)
  | .inl (_ + 1) => .long (S.2 i k)
  | .inr j => .ref (ad j)
def xfs (ad : Nat → Nat) (S : xS) (i : Nat) (fs : List (Nat ⊕ Nat)) : List Value := fs.mapIdx (fun k d => xfv ad S i k d)
def xcell (ad : Nat → Nat) (cA : Nat → ClassId) (S : xS) (i : Nat) : xC → va_E
  | .inl q => .inl (cA q.1, q.2, if q.1 = 2 then .inr (.inl (S.2 i)) else .inl (S.1 i))
  | .inr o => .inr (o.1, xfs ad S i o.2)
def xW (ad : Nat → Nat) (cA : Nat → ClassId) (S : xS) (sk : List xC) : va_W := sk.mapIdx (fun i c => (ad i, xcell ad cA S i c))
def xrv (ad : Nat → Nat) : Value → Value
  | .ref k => .ref (ad k)
  | v => v
theorem xrv_cat (ad : Nat → Nat) (v : Value) : (xrv ad v).category = v.category := by cases v <;> rfl
theorem xW_get {ad : Nat → Nat} {cA : Nat → ClassId} {S : xS} {sk : List xC} {i : Nat} {c : xC} (h : sk[i]? = some c) : (xW ad cA S sk)[i]? = some (ad i, xcell ad cA S i c) := by
  unfold xW
  rw [List.getElem?_mapIdx, h]
  rfl
theorem xfs_get {ad : Nat → Nat} {S : xS} {i k : Nat} {fs : List (Nat ⊕ Nat)} {d : Nat ⊕ Nat} (h : fs[k]? = some d) : (xfs ad S i fs)[k]? = some (xfv ad S i k d) := by
  unfold xfs
  rw [List.getElem?_mapIdx, h]
  rfl
theorem xsetI_row {S : xS} {i k j : Nat} {x : Int32} (h : j ≠ i) : (xsetI S i k x).1 j = S.1 j := by
  funext b
  show (if j = i ∧ b = k then x else S.1 j b) = S.1 j b
  rw [if_neg (fun q => h q.1)]
theorem xsetL_row {S : xS} {i k j : Nat} {x : Int64} (h : j ≠ i) : (xsetL S i k x).2 j = S.2 j := by
  funext b
  show (if j = i ∧ b = k then x else S.2 j b) = S.2 j b
  rw [if_neg (fun q => h q.1)]
theorem xsetI_own {S : xS} {i k : Nat} {x : Int32} : (xsetI S i k x).1 i = upd (S.1 i) k x := by
  funext b
  show (if i = i ∧ b = k then x else S.1 i b) = if b = k then x else S.1 i b
  by_cases h : b = k
  · rw [if_pos ⟨rfl, h⟩, if_pos h]
  · rw [if_neg (fun q => h q.2), if_neg h]
theorem xsetL_own {S : xS} {i k : Nat} {x : Int64} : (xsetL S i k x).2 i = vp_updL (S.2 i) k x := by
  funext b
  show (if i = i ∧ b = k then x else S.2 i b) = if b = k then x else S.2 i b
  by_cases h : b = k
  · rw [if_pos ⟨rfl, h⟩, if_pos h]
  · rw [if_neg (fun q => h q.2), if_neg h]
theorem xfv_of {ad : Nat → Nat} {S S' : xS} {i k : Nat} {d : Nat ⊕ Nat} (h1 : S'.1 i k = S.1 i k) (h2 : S'.2 i k = S.2 i k) : xfv ad S' i k d = xfv ad S i k d := by
  rcases d with (_ | n) | j
  · show Value.int _ = Value.int _
    rw [h1]
  · show Value.long _ = Value.long _
    rw [h2]
  · rfl
theorem xcell_of {ad : Nat → Nat} {cA : Nat → ClassId} {S S' : xS} {j : Nat} {c : xC} (h1 : S'.1 j = S.1 j) (h2 : S'.2 j = S.2 j) : xcell ad cA S' j c = xcell ad cA S j c := by
  rcases c with q | o
  · show Sum.inl (cA q.1, q.2, if q.1 = 2 then .inr (.inl (S'.2 j)) else .inl (S'.1 j)) = (Sum.inl (cA q.1, q.2, if q.1 = 2 then .inr (.inl (S.2 j)) else .inl (S.1 j)) : va_E)
    rw [h1, h2]
  · show Sum.inr (o.1, xfs ad S' j o.2) = (Sum.inr (o.1, xfs ad S j o.2) : va_E)
    have : xfs ad S' j o.2 = xfs ad S j o.2 := by
      unfold xfs
      congr 1
      funext k d
      exact xfv_of (by rw [h1]) (by rw [h2])
    rw [this]
theorem xW_ext {ad : Nat → Nat} {cA : Nat → ClassId} {S S' : xS} {sk : List xC} {i : Nat} {c : xC} {z : va_E} (h : sk[i]? = some c) (ho : ∀ j, j ≠ i → S'.1 j = S.1 j ∧ S'.2 j = S.2 j) (hz : z = xcell ad cA S' i c) : (xW ad cA S sk).set i (ad i, z) = xW ad cA S' sk := by
  apply List.ext_getElem?
  intro j
  have hlen : i < sk.length := (List.getElem?_eq_some_iff.mp h).1
  by_cases hj : i = j
  · subst hj
    rw [xW_get h, List.getElem?_set_self (by unfold xW; rw [List.length_mapIdx]; exact hlen), hz]
  · rw [List.getElem?_set_ne hj]
    unfold xW
    rw [List.getElem?_mapIdx, List.getElem?_mapIdx]
    cases hc : sk[j]? with
    | none => rfl
    | some c' =>
      obtain ⟨a, b⟩ := ho j (fun q => hj q.symm)
      show some (ad j, xcell ad cA S j c') = some (ad j, xcell ad cA S' j c')
      rw [xcell_of a b]
theorem xW_putI {ad : Nat → Nat} {cA : Nat → ClassId} {S : xS} {sk : List xC} {i k ci : Nat} {fs : List (Nat ⊕ Nat)} {x : Int32} (h : sk[i]? = some (.inr (ci, fs))) (hk : fs[k]? = some (.inl 0)) :
    (xW ad cA S sk).set i (ad i, .inr (ci, (xfs ad S i fs).set k (.int x))) = xW ad cA (xsetI S i k x) sk := by
  refine xW_ext h (fun j hj => ⟨xsetI_row hj, rfl⟩) ?_
  show Sum.inr (ci, (xfs ad S i fs).set k (.int x)) = (Sum.inr (ci, xfs ad (xsetI S i k x) i fs) : va_E)
  have : (xfs ad S i fs).set k (.int x) = xfs ad (xsetI S i k x) i fs := by
    apply List.ext_getElem?
    intro q
    have hlen : k < fs.length := (List.getElem?_eq_some_iff.mp hk).1
    by_cases hq : k = q
    · subst hq
      rw [List.getElem?_set_self (by unfold xfs; rw [List.length_mapIdx]; exact hlen), xfs_get hk]
      show some (Value.int x) = some (Value.int ((xsetI S i k x).1 i k))
      rw [xsetI_own]
      show _ = some (Value.int (if k = k then x else _))
      rw [if_pos rfl]
    · rw [List.getElem?_set_ne hq]
      unfold xfs
      rw [List.getElem?_mapIdx, List.getElem?_mapIdx]
      cases fs[q]? with
      | none => rfl
      | some d =>
        show some (xfv ad S i q d) = some (xfv ad (xsetI S i k x) i q d)
        rw [xfv_of (S' := xsetI S i k x) (S := S) (by rw [xsetI_own]; exact if_neg (fun z => hq z.symm)) rfl]
  rw [this]
theorem xW_putL {ad : Nat → Nat} {cA : Nat → ClassId} {S : xS} {sk : List xC} {i k ci n : Nat} {fs : List (Nat ⊕ Nat)} {x : Int64} (h : sk[i]? = some (.inr (ci, fs))) (hk : fs[k]? = some (.inl (n + 1))) :
    (xW ad cA S sk).set i (ad i, .inr (ci, (xfs ad S i fs).set k (.long x))) = xW ad cA (xsetL S i k x) sk := by
  refine xW_ext h (fun j hj => ⟨rfl, xsetL_row hj⟩) ?_
  show Sum.inr (ci, (xfs ad S i fs).set k (.long x)) = (Sum.inr (ci, xfs ad (xsetL S i k x) i fs) : va_E)
  have : (xfs ad S i fs).set k (.long x) = xfs ad (xsetL S i k x) i fs := by
    apply List.ext_getElem?
    intro q
    have hlen : k < fs.length := (List.getElem?_eq_some_iff.mp hk).1
    by_cases hq : k = q
    · subst hq
      rw [List.getElem?_set_self (by unfold xfs; rw [List.length_mapIdx]; exact hlen), xfs_get hk]
      show some (Value.long x) = some (Value.long ((xsetL S i k x).2 i k))
      rw [xsetL_own]
      show _ = some (Value.long (if k = k then x else _))
      rw [if_pos rfl]
    · rw [List.getElem?_set_ne hq]
      unfold xfs
      rw [List.getElem?_mapIdx, List.getElem?_mapIdx]
      cases fs[q]? with
      | none => rfl
      | some d =>
        show some (xfv ad S i q d) = some (xfv ad (xsetL S i k x) i q d)
        rw [xfv_of (S' := xsetL S i k x) (S := S) rfl (by rw [xsetL_own]; exact if_neg (fun z => hq z.symm))]
  rw [this]
theorem xW_rowI {ad : Nat → Nat} {cA : Nat → ClassId} {S : xS} {sk : List xC} {i k t n : Nat} {x : Int32} (h : sk[i]? = some (.inl (t, n))) (ht : t ≠ 2) :
    (xW ad cA S sk).set i (ad i, .inl (cA t, n, .inl (upd (S.1 i) k x))) = xW ad cA (xsetI S i k x) sk := by
  refine xW_ext h (fun j hj => ⟨xsetI_row hj, rfl⟩) ?_
  show (Sum.inl (cA t, n, .inl (upd (S.1 i) k x)) : va_E) = Sum.inl (cA t, n, if t = 2 then .inr (.inl ((xsetI S i k x).2 i)) else .inl ((xsetI S i k x).1 i))
  rw [if_neg ht, xsetI_own]
theorem xW_rowL {ad : Nat → Nat} {cA : Nat → ClassId} {S : xS} {sk : List xC} {i k n : Nat} {x : Int64} (h : sk[i]? = some (.inl (2, n))) :
    (xW ad cA S sk).set i (ad i, .inl (cA 2, n, .inr (.inl (vp_updL (S.2 i) k x)))) = xW ad cA (xsetL S i k x) sk := by
  refine xW_ext h (fun j hj => ⟨rfl, xsetL_row hj⟩) ?_
  show (Sum.inl (cA 2, n, .inr (.inl (vp_updL (S.2 i) k x))) : va_E) = Sum.inl (cA 2, n, if 2 = 2 then .inr (.inl ((xsetL S i k x).2 i)) else .inl ((xsetL S i k x).1 i))
  rw [if_pos rfl, xsetL_own]
/-! ===== the function ===== -/
/-- what a method is told of its class: instructions, fields (class, place, 0 int 1 boolean 2 long 3 a reference), int and long constants, calls (method, arguments with the receiver, 0 static 1 nest-static c + 2 on an object of class c), what it returns (0 nothing 1 int 2 boolean 3 long) -/
abbrev xT : Type := (Nat → Option (Instr × Nat)) × (Nat → Option (Nat × Nat × Nat)) × (Nat → Option Int32) × (Nat → Option Int64) × (Nat → Option (Nat × Nat × Nat)) × Nat
abbrev xLV : Type := List (Option Value)
abbrev xF : Type := Nat × xLV × List Value × xS
abbrev xO : Type := Option Value × xS
def xlook (lv : xLV) (i : Nat) : Option Value := lv.getD i none
/-- a value of two words ahead of a place that is written is gone -/
def xclr (lv : xLV) : Nat → xLV
  | 0 => lv
  | j + 1 => match xlook lv j with
    | some (.long _) => lv.set j none
    | some (.double _) => lv.set j none
    | _ => lv
def xst1 (lv : xLV) (i : Nat) (v : Value) : xLV := (xclr lv i).set i (some v)
def xst2 (lv : xLV) (i : Nat) (v : Value) : xLV := ((xclr lv i).set i (some v)).set (i + 1) none
def xarg (as : List Value) : xLV := as.flatMap fun v => if v.category = 2 then [some v, none] else [some v]
def xargs (nL : Nat) (as : List Value) : xLV := xarg as ++ List.replicate (nL - (xarg as).length) none
def xldI (lv : xLV) (st : List Value) (i : Nat) : Option (xLV × List Value) := match xlook lv i with | some (.int x) => some (lv, .int x :: st) | _ => none
def xldL (lv : xLV) (st : List Value) (i : Nat) : Option (xLV × List Value) := match xlook lv i with | some (.long x) => some (lv, .long x :: st) | _ => none
def xldA (lv : xLV) (st : List Value) (i : Nat) : Option (xLV × List Value) := match xlook lv i with | some (.ref x) => some (lv, .ref x :: st) | _ => none
def xstI (nL : Nat) (lv : xLV) (st : List Value) (i : Nat) : Option (xLV × List Value) := match st with | .int x :: r => if i < nL then some (xst1 lv i (.int x), r) else none | _ => none
def xstA (nL : Nat) (lv : xLV) (st : List Value) (i : Nat) : Option (xLV × List Value) := match st with | .ref x :: r => if i < nL then some (xst1 lv i (.ref x), r) else none | _ => none
def xstL (nL : Nat) (lv : xLV) (st : List Value) (i : Nat) : Option (xLV × List Value) := match st with | .long x :: r => if i + 1 < nL then some (xst2 lv i (.long x), r) else none | _ => none
def xbI (lv : xLV) (st : List Value) (f : Int32 → Int32 → Value) : Option (xLV × List Value) := match st with | .int y :: .int x :: r => some (lv, f x y :: r) | _ => none
def xbL (lv : xLV) (st : List Value) (f : Int64 → Int64 → Value) : Option (xLV × List Value) := match st with | .long y :: .long x :: r => some (lv, f x y :: r) | _ => none
def xuI (lv : xLV) (st : List Value) (f : Int32 → Value) : Option (xLV × List Value) := match st with | .int x :: r => some (lv, f x :: r) | _ => none
def xuL (lv : xLV) (st : List Value) (f : Int64 → Value) : Option (xLV × List Value) := match st with | .long x :: r => some (lv, f x :: r) | _ => none
def xshL (lv : xLV) (st : List Value) (f : Int64 → Int32 → Value) : Option (xLV × List Value) := match st with | .int y :: .long x :: r => some (lv, f x y :: r) | _ => none
/-- locals and the operand stack alone -/
def xpure (nL : Nat) (T : xT) (lv : xLV) (st : List Value) : Instr × Nat → Option (xLV × List Value)
  | (.iload_n k, 1) => xldI lv st k
  | (.iload i, 2) => xldI lv st i
  | (.lload_n k, 1) => xldL lv st k
  | (.lload i, 2) => xldL lv st i
  | (.aload_n k, 1) => xldA lv st k
  | (.aload i, 2) => xldA lv st i
  | (.istore_n k, 1) => xstI nL lv st k
  | (.istore i, 2) => xstI nL lv st i
  | (.lstore_n k, 1) => xstL nL lv st k
  | (.lstore i, 2) => xstL nL lv st i
  | (.astore_n k, 1) => xstA nL lv st k
  | (.astore i, 2) => xstA nL lv st i
  | (.iinc i n, 3) => match xlook lv i with | some (.int x) => if i < nL then some (xst1 lv i (.int (x + Int32.ofInt n)), st) else none | _ => none
  | (.iconst n, 1) => some (lv, .int (Int32.ofInt n) :: st)
  | (.bipush n, 2) => some (lv, .int (Int8.ofInt n).toInt32 :: st)
  | (.sipush n, 3) => some (lv, .int (Int16.ofInt n).toInt32 :: st)
  | (.lconst n, 1) => some (lv, .long (Int64.ofNat n) :: st)
  | (.ldc i, 2) => match T.2.2.1 i with | some v => some (lv, .int v :: st) | _ => none
  | (.ldc2_w i, 3) => match T.2.2.2.1 i with | some v => some (lv, .long v :: st) | _ => none
  | (.iadd, 1) => xbI lv st (fun x y => .int (x + y))
  | (.isub, 1) => xbI lv st (fun x y => .int (x - y))
  | (.imul, 1) => xbI lv st (fun x y => .int (x * y))
  | (.iand, 1) => xbI lv st (fun x y => .int (x &&& y))
  | (.ior, 1) => xbI lv st (fun x y => .int (x ||| y))
  | (.ixor, 1) => xbI lv st (fun x y => .int (x ^^^ y))
  | (.ishl, 1) => xbI lv st (fun x y => .int (x <<< (y &&& 31)))
  | (.ishr, 1) => xbI lv st (fun x y => .int (x >>> (y &&& 31)))
  | (.iushr, 1) => xbI lv st (fun x y => .int (x.toUInt32 >>> (y.toUInt32 &&& Int32.toUInt32 31)).toInt32)
  | (.idiv, 1) => match st with | .int y :: .int x :: r => if y = 0 then none else some (lv, .int (x / y) :: r) | _ => none
  | (.irem, 1) => match st with | .int y :: .int x :: r => if y = 0 then none else some (lv, .int (x - x / y * y) :: r) | _ => none
  | (.ineg, 1) => xuI lv st (fun x => .int (-x))
  | (.i2b, 1) => xuI lv st (fun x => .int x.toInt8.toInt32)
  | (.i2s, 1) => xuI lv st (fun x => .int x.toInt16.toInt32)
  | (.i2l, 1) => xuI lv st (fun x => .long x.toInt64)
  | (.l2i, 1) => xuL lv st (fun x => .int x.toInt32)
  | (.lneg, 1) => xuL lv st (fun x => .long (-x))
  | (.ladd, 1) => xbL lv st (fun x y => .long (x + y))
  | (.lsub, 1) => xbL lv st (fun x y => .long (x - y))
  | (.lmul, 1) => xbL lv st (fun x y => .long (x * y))
  | (.land, 1) => xbL lv st (fun x y => .long (x &&& y))
  | (.lor, 1) => xbL lv st (fun x y => .long (x ||| y))
  | (.lxor, 1) => xbL lv st (fun x y => .long (x ^^^ y))
  | (.ldiv, 1) => match st with | .long y :: .long x :: r => if y = 0 then none else some (lv, .long (x / y) :: r) | _ => none
  | (.lrem, 1) => match st with | .long y :: .long x :: r => if y = 0 then none else some (lv, .long (x - x / y * y) :: r) | _ => none
  | (.lshl, 1) => xshL lv st (fun x y => .long (x <<< (y.toInt64 &&& 63)))
  | (.lshr, 1) => xshL lv st (fun x y => .long (x >>> (y.toInt64 &&& 63)))
  | (.lcmp, 1) => xbL lv st (fun x y => .int (lg_cmp x y))
  | (.dup, 1) => match st with | v :: r => if v.category = 1 then some (lv, v :: v :: r) else none | _ => none
  | (.dup_x1, 1) => match st with | v :: w :: r => if v.category = 1 ∧ w.category = 1 then some (lv, v :: w :: v :: r) else none | _ => none
  | (.dup2, 1) => match st with | v :: w :: r => if v.category = 1 ∧ w.category = 1 then some (lv, v :: w :: v :: w :: r) else none | _ => none
  | (.pop, 1) => match st with | v :: r => if v.category = 1 then some (lv, r) else none | _ => none
  | _ => none
def xlen : Instr × Nat → Nat := fun q => q.2
def xto (pc : Nat) (off : Int) : Option Nat := if 0 ≤ (pc : Int) + off then some ((pc : Int) + off).toNat else none
def xcnd : ClassFile.Cond → Int32 → Int32 → Bool
  | .eq, x, y => decide (x = y)
  | .ne, x, y => decide (¬ x = y)
  | .lt, x, y => decide (x < y)
  | .ge, x, y => decide (y ≤ x)
  | .gt, x, y => decide (y < x)
  | .le, x, y => decide (x ≤ y)
def xsw (pc : Nat) (dflt lo hi : Int) (offs : Array Int) (x : Int32) : Option Nat := if x.toInt < lo ∨ hi < x.toInt then xto pc dflt else match offs[(x.toInt - lo).toNat]? with | some off => xto pc off | none => none
/-- jumps -/
def xjump (pc : Nat) (st : List Value) : Instr × Nat → Option (Nat × List Value)
  | (.goto off, 3) => (xto pc off).map (fun t => (t, st))
  | (.ifCond cd off, 3) => match st, xto pc off with | .int x :: r, some t => some (if xcnd cd x 0 = true then t else pc + 3, r) | _, _ => none
  | (.if_icmp cd off, 3) => match st, xto pc off with | .int y :: .int x :: r, some t => some (if xcnd cd x y = true then t else pc + 3, r) | _, _ => none
  | (.tableswitch dflt lo hi offs, _) => match st with | .int x :: r => (xsw pc dflt lo hi offs x).map (fun t => (t, r)) | _ => none
  | (.lookupswitch dflt ps, _) => match st with | .int x :: r => if (ps.toList.zip (ps.toList.drop 1)).all (fun (a, next) => a.1 < next.1) = true then (xto pc (Op.lookupswitch.offset ps.toList dflt x.toInt)).map (fun t => (t, r)) else none | _ => none
  | _ => none
def xin (j : Int32) (n : Nat) : Bool := decide (0 ≤ j.toInt) && decide (j.toInt < n)
def xkind (tc : Nat) : Nat ⊕ Nat := if tc = 2 then .inl 1 else .inl 0
/-- fields and rows -/
def xheap (sk : List xC) (T : xT) (st : List Value) (S : xS) : Instr × Nat → Option (List Value × xS)
  | (.getfield i, 3) => match st, T.2.1 i with
    | .ref a :: r, some (ci, k, _) => match sk[a]? with
      | some (.inr (c2, fs)) => if c2 = ci then (match fs[k]? with | some d => some (xfv id S a k d :: r, S) | none => none) else none
      | _ => none
    | _, _ => none
  | (.putfield i, 3) => match st, T.2.1 i with
    | .int x :: .ref a :: r, some (ci, k, tc) => match sk[a]? with
      | some (.inr (c2, fs)) => if c2 = ci ∧ fs[k]? = some (.inl 0) ∧ (tc = 0 ∨ (tc = 1 ∧ (x = 0 ∨ x = 1))) then some (r, xsetI S a k x) else none
      | _ => none
    | .long x :: .ref a :: r, some (ci, k, tc) => match sk[a]? with
      | some (.inr (c2, fs)) => if c2 = ci ∧ fs[k]? = some (.inl 1) ∧ tc = 2 then some (r, xsetL S a k x) else none
      | _ => none
    | _, _ => none
  | (.arraylength, 1) => match st with
    | .ref a :: r => match sk[a]? with | some (.inl (_, n)) => some (.int (Int32.ofNat n) :: r, S) | _ => none
    | _ => none
  | (.iaload, 1) => match st with
    | .int j :: .ref a :: r => match sk[a]? with | some (.inl (0, n)) => if xin j n = true then some (.int (S.1 a j.toNatClampNeg) :: r, S) else none | _ => none
    | _ => none
  | (.baload, 1) => match st with
    | .int j :: .ref a :: r => match sk[a]? with | some (.inl (t, n)) => if (t = 1 ∨ t = 3) ∧ xin j n = true then some (.int (S.1 a j.toNatClampNeg) :: r, S) else none | _ => none
    | _ => none
  | (.laload, 1) => match st with
    | .int j :: .ref a :: r => match sk[a]? with | some (.inl (2, n)) => if xin j n = true then some (.long (S.2 a j.toNatClampNeg) :: r, S) else none | _ => none
    | _ => none
  | (.iastore, 1) => match st with
    | .int x :: .int j :: .ref a :: r => match sk[a]? with | some (.inl (0, n)) => if xin j n = true then some (r, xsetI S a j.toNatClampNeg x) else none | _ => none
    | _ => none
  | (.bastore, 1) => match st with
    | .int x :: .int j :: .ref a :: r => match sk[a]? with
      | some (.inl (t, n)) => if (t = 1 ∨ t = 3) ∧ xin j n = true then some (r, xsetI S a j.toNatClampNeg (vp_nar (if t = 1 then .byte else .boolean) x)) else none
      | _ => none
    | _ => none
  | (.lastore, 1) => match st with
    | .long x :: .int j :: .ref a :: r => match sk[a]? with | some (.inl (2, n)) => if xin j n = true then some (r, xsetL S a j.toNatClampNeg x) else none | _ => none
    | _ => none
  | _ => none
/-- whether the receiver (below so many arguments) is of the class -/
def xrecv (sk : List xC) (kd n : Nat) (st : List Value) : Bool := match kd with
  | 0 => true
  | 1 => true
  | ci + 2 => match n, st[n - 1]? with
    | _ + 1, some (.ref a) => match sk[a]? with | some (.inr (c2, _)) => c2 == ci | _ => false
    | _, _ => false
def xsum (st : List Value) : Nat := (st.map fun v => v.category).sum
/-- calls -/
def xinv (sk : List xC) (T : xT) (call : Nat → List Value → xS → Option xO) (st : List Value) (S : xS) (i : Nat) (static : Bool) : Option (List Value × xS) := match T.2.2.2.2.1 i with
  | some (y, n, kd) => if n ≤ st.length ∧ xsum (st.drop n) ≤ 8 ∧ (kd < 2 ↔ static = true) ∧ xrecv sk kd n st = true then (match call y (st.take n).reverse S with | some (v, S') => some (v.toList ++ st.drop n, S') | none => none) else none
  | none => none
def xcalls (sk : List xC) (T : xT) (call : Nat → List Value → xS → Option xO) (st : List Value) (S : xS) : Instr × Nat → Option (List Value × xS)
  | (.invokestatic i, 3) => xinv sk T call st S i true
  | (.invokevirtual i, 3) => xinv sk T call st S i false
  | _ => none
def xret (T : xT) (st : List Value) : Instr × Nat → Option (Option Value)
  | (.ireturn, 1) => match st with | [.int v] => if T.2.2.2.2.2 = 1 ∨ (T.2.2.2.2.2 = 2 ∧ (v = 0 ∨ v = 1)) then some (some (.int v)) else none | _ => none
  | (.lreturn, 1) => match st with | [.long v] => if T.2.2.2.2.2 = 3 then some (some (.long v)) else none | _ => none
  | (.return_, 1) => match st with | [] => if T.2.2.2.2.2 = 0 then some none else none | _ => none
  | _ => none
/-- one instruction -/
def xstep (sk : List xC) (nL : Nat) (T : xT) (call : Nat → List Value → xS → Option xO) (f : xF) : Option (xF ⊕ xO) := match T.1 f.1 with
  | none => none
  | some q => match xpure nL T f.2.1 f.2.2.1 q with
    | some (lv, st) => some (.inl (f.1 + xlen q, lv, st, f.2.2.2))
    | none => match xjump f.1 f.2.2.1 q with
      | some (pc, st) => some (.inl (pc, f.2.1, st, f.2.2.2))
      | none => match xheap sk T f.2.2.1 f.2.2.2 q with
        | some (st, S) => some (.inl (f.1 + xlen q, f.2.1, st, S))
        | none => match xcalls sk T call f.2.2.1 f.2.2.2 q with
          | some (st, S) => some (.inl (f.1 + xlen q, f.2.1, st, S))
          | none => match xret T f.2.2.1 q with
            | some v => some (.inr (v, f.2.2.2))
            | none => none
def xloop (sk : List xC) (nL : Nat) (T : xT) (call : Nat → List Value → xS → Option xO) : Nat → xF → Option xO
  | 0, _ => none
  | n + 1, f => match xstep sk nL T call f with
    | some (.inl f') => xloop sk nL T call n f'
    | some (.inr r) => some r
    | none => none
/-- a method's number: its locals, what it is told -/
def xcall (sk : List xC) (MT : Nat → Nat × xT) : Nat → Nat → Nat → List Value → xS → Option xO
  | 0, _, _, _, _ => none
  | d + 1, n, y, as, S => if xsum as ≤ (MT y).1 then xloop sk (MT y).1 (MT y).2 (fun y' as' S' => xcall sk MT d n y' as' S') n (0, xargs (MT y).1 as, [], S) else none
end XF
