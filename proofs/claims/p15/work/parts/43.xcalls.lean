/-! XF, fourth part: calls, returns, a method whole. -/
section XK
theorem xarg_lv (ad : Nat → Nat) : ∀ (as : List Value) (i j : Nat) (v : Value), (xarg as)[j]? = some (some v) → (i + j, xrv ad v) ∈ lv_args i (as.map (xrv ad))
  | [], i, j, v, h => by cases h
  | w :: as, i, j, v, h => by
    show _ ∈ (i, xrv ad w) :: lv_args (if (xrv ad w).category = 2 then i + 2 else i + 1) (as.map (xrv ad))
    have e : xarg (w :: as) = (if w.category = 2 then [some w, none] else [some w]) ++ xarg as := rfl
    rw [e] at h
    rw [xrv_cat]
    by_cases hc : w.category = 2
    · rw [if_pos hc] at h ⊢
      match j, h with
      | 0, h => obtain rfl := Option.some.inj (Option.some.inj h); exact List.mem_cons_self
      | 1, h => cases h
      | j + 2, h =>
        have := xarg_lv ad as (i + 2) j v h
        rw [show i + (j + 2) = i + 2 + j by omega]
        exact List.mem_cons_of_mem _ this
    · rw [if_neg hc] at h ⊢
      match j, h with
      | 0, h => obtain rfl := Option.some.inj (Option.some.inj h); exact List.mem_cons_self
      | j + 1, h =>
        have := xarg_lv ad as (i + 1) j v h
        rw [show i + (j + 1) = i + 1 + j by omega]
        exact List.mem_cons_of_mem _ this
theorem xargs_less (ad : Nat → Nat) (nL : Nat) (as : List Value) : ∀ q ∈ xlv ad (xargs nL as), q ∈ lv_args 0 (as.map (xrv ad)) := by
  rintro ⟨j, w⟩ hq
  obtain ⟨v, h1, h2⟩ := xlv_mem.mp hq
  dsimp only at h1 h2
  subst h2
  unfold xargs at h1
  rcases Nat.lt_or_ge j (xarg as).length with hj | hj
  · rw [List.getElem?_append_left hj] at h1
    have := xarg_lv ad as 0 j v h1
    rwa [Nat.zero_add] at this
  · rw [List.getElem?_append_right hj] at h1
    have := List.mem_of_getElem? h1
    have := (List.mem_replicate.mp this).2
    cases this
theorem xsl_len : ∀ as : List Value, (lg_sl as).length = xsum as
  | [] => rfl
  | v :: as => by
    have ih := xsl_len as
    unfold lg_sl at ih ⊢
    unfold xsum at ih ⊢
    rw [List.flatMap_cons, List.length_append, ih, List.map_cons, List.sum_cons]
    rcases lv_cat v with h | h
    · rw [h, if_neg (by decide)]
      rfl
    · rw [h, if_pos rfl]
      rfl
theorem xsum_rv (ad : Nat → Nat) (st : List Value) : xsum (st.map (xrv ad)) = xsum st := xsum_map ad st
theorem xout_app (ad : Nat → Nat) (v : Option Value) (st : List Value) : (v.map (xrv ad)).toList ++ st.map (xrv ad) = (v.toList ++ st).map (xrv ad) := by
  cases v <;> rfl
theorem xstack_split (ad : Nat → Nat) (st : List Value) (n : Nat) : st.map (xrv ad) = ((st.take n).reverse.map (xrv ad)).reverse ++ (st.drop n).map (xrv ad) := by
  rw [← List.map_reverse, List.reverse_reverse, ← List.map_append, List.take_append_drop]
/-- a place where a method is called: the kit's fact for it -/
def xSite (R : Room) (s : State) (args : Array Value) (own : String) (cl : List vw_C) (nm : Nat → MethodName) (zs : Nat → List Cond) (rm : Room) (i y n : Nat) (kd : Nat) : Prop :=
  ∃ (bytes : ByteArray) (maxL : Nat) (ret : Option FieldType), match kd with
  | 0 => (CallB R s args own i (nm y) bytes maxL ret (zs y) rm 0 0 n ∧ (Cond.static (nm y)).before args s = true) ∨ ∃ hh, vx_CSW R s args own i (nm y) bytes maxL ret hh (zs y) rm 0 0 n
  | 1 => ∃ host : String, va_CN R s args own i (nm y) host bytes maxL ret (zs y) rm 0 0 n ∧ (Cond.static (nm y)).before args s = true ∧ True
  | ci + 2 => ∃ (C : String) (F : u_T) (N : Nat), cl[ci]? = some (C, F, N) ∧ CallW R s args own C i (nm y) bytes maxL ret (zs y) rm 0 0 (n - 1)
section
variable {k0 n0 : Nat} {p : Program} {l : Launch} {e : Env} {R : Room} {s : State} {m : MethodId} {args : Array Value} {below : List Frame} {meth : Method} {c : Code} {Q : State → Prop}
variable {D : va_G} {cl : List vw_C} {A : Nat → Prop} {H0 : Heap} {ad : Nat → Nat} {cA : Nat → ClassId} {sk : List xC} {nL pc : Nat} {cc : ByteArray} {own : String} {Ts : List Cond} {T : xT} {tl : List FieldType}
variable {L : List (String × Nat × MethodName × String)} {nm : Nat → MethodName} {zs : Nat → List Cond} {rm : Room}
theorem x_aft {ls : Array Slot} {st0 rest : List Value} {S : xS} {r : xO} {a : Array Value} {H : Heap} {locs : List Loc}
    (hr : va_Run p l e R s m args below meth c H locs k0 n0 0 0 (F0 m pc ls st0) rest (xQ D cl cA tl ad sk r (va_A (xW ad cA S sk) H.size) a) (va_A (xW ad cA S sk) H.size))
    (hD : va_D A (xW ad cA S sk)) (hS : va_S A H0 H locs) (hA : ∀ q, H0.size ≤ q → A q)
    (kk : ∀ (H1 : Heap) (locs1 : List Loc), va_P D cl (xW ad cA r.2 sk) H1 → va_D A (xW ad cA r.2 sk) → va_S A H0 H1 locs1 → W p l e R s m args below meth c H1 locs1 k0 n0 Q (F0 m (pc + 3) ls ((r.1.map (xrv ad)).toList ++ rest))) : W p l e R s m args below meth c H locs k0 n0 Q (F0 m pc ls st0) := by
  have hf : ∀ q, va_A (xW ad cA S sk) H.size q → A q := by
    rintro q (⟨k, x, h⟩ | h)
    · exact hD.2 k (q, x) h
    · exact hA q (Nat.le_trans hS.1 h)
  intro T hT X
  obtain ⟨v, st₀, t, T', L9, h0, X', hL, e1, e2, ⟨⟨hv, hP1, hK1, hD1⟩, hz, hk⟩, st⟩ := hr T hT X
  have hv : v = r.1.map (xrv ad) := by cases hv; rfl
  subst hv
  rw [h0] at hz hk
  obtain ⟨t2, a1, b1⟩ := kk T'.heap (locs ++ L9) (by rw [e1]; exact hP1) (hD1.weaken (fun k q _ h => hf q.1 h))
    ⟨Nat.le_trans hS.1 (by rw [e1]; exact hz), fun q h1 h2 => by rw [e1, hk q (Nat.lt_of_lt_of_le h1 hS.1) (fun z => h2 (hf q z))]; exact hS.2.1 q h1 h2, fun q hq => by
      rcases List.mem_append.mp hq with h | h
      · exact hS.2.2 q h
      · exact hf _ (hL q h)⟩ T' rfl X'
  exact ⟨t2, st t2 a1, b1⟩
set_option maxHeartbeats 4000000 in
theorem xcalls_go (hrm : k0 + 0 ≤ R.cells ∧ n0 + 0 ≤ R.slots) (hx : p.tables.exec = Jvm.exec) (hb : c.code = cc) (hml : c.maxLocals = nL) (hown : s.vm.findClass own = some m.cls) (hts : ∀ w ∈ Ts, w.before args s = true) (hK : va_K D cl (xtys cA tl) s) (hN : NW L s) (hA : ∀ q, H0.size ≤ q → A q)
    {call : Nat → List Value → xS → Option xO} (hcall : ∀ y as S r, call y as S = some r → xMet l D cl L cA tl sk nm zs rm y as S r)
    (hsite : ∀ i y n kd, T.2.2.2.2.1 i = some (y, n, kd) → xSite R s args own cl nm zs rm i y n kd)
    {q : Instr × Nat} (hd : decode cc pc = .ok q) {lv : xLV} {st st' : List Value} {S S' : xS} (h : xcalls sk T call st S q = some (st', S'))
    (kk : xGo k0 n0 p l e R s m args below meth c Q D cl A H0 ad cA sk nL (pc + xlen q, lv, st', S')) : xGo k0 n0 p l e R s m args below meth c Q D cl A H0 ad cA sk nL (pc, lv, st, S) := by
  intro H locs ls ⟨hP, hD, hS, hl⟩
  have key : ∀ (i : Nat) (b : Bool), xinv sk T call st S i b = some (st', S') → ∃ y n kd v, T.2.2.2.2.1 i = some (y, n, kd) ∧ n ≤ st.length ∧ xsum (st.drop n) ≤ 8 ∧ (kd < 2 ↔ b = true) ∧ xrecv sk kd n st = true ∧ call y (st.take n).reverse S = some (v, S') ∧ st' = v.toList ++ st.drop n := by
    intro i b h
    unfold xinv at h
    split at h
    · rename_i y n kd h1
      split at h
      · rename_i h2
        split at h
        · rename_i v S9 h3
          obtain ⟨rfl, rfl⟩ := Prod.mk.inj (Option.some.inj h)
          exact ⟨y, n, kd, v, h1, h2.1, h2.2.1, h2.2.2.1, h2.2.2.2, h3, rfl⟩
        · cases h
      · cases h
    · cases h
  unfold xcalls at h
  split at h
  · rename_i i
    obtain ⟨y, n, kd, v, h1, h2, h3, h4, h5, h6, rfl⟩ := key i true h
    have hM := hcall _ _ _ _ h6 ad H.size
    obtain ⟨bytes, maxL, ret, hs⟩ := hsite _ _ _ _ h1
    have hlen : ((st.take n).reverse.map (xrv ad)).length = n := by rw [List.length_map, List.length_reverse, List.length_take]; exact Nat.min_eq_left h2
    have hstk := xstack_split ad st n
    have hroom : (((st.drop n).map (xrv ad)).map fun v => v.category).sum ≤ 8 := by rw [xsum_map]; exact h3
    have hkd : kd < 2 := h4.mpr rfl
    have fin : ∀ (H1 : Heap) (locs1 : List Loc), va_P D cl (xW ad cA S' sk) H1 → va_D A (xW ad cA S' sk) → va_S A H0 H1 locs1 → W p l e R s m args below meth c H1 locs1 k0 n0 Q (F0 m (pc + 3) ls ((v.map (xrv ad)).toList ++ (st.drop n).map (xrv ad))) := by
      intro H1 locs1 hP1 hD1 hS1
      rw [xout_app]
      exact kk H1 locs1 ls ⟨hP1, hD1, hS1, hl⟩
    rcases kd with _ | _ | kd
    · rcases hs with hs | ⟨hh, hs⟩
      · exact x_aft (S := S) (r := (v, S')) (va_runS ⟨hx, hb, hml, hown, hts⟩ hM hs (wB.preS hP hK hD hN) rfl hlen hl.1 hstk (lv_room hroom) hd hrm) hD hS hA fin
      · exact x_aft (S := S) (r := (v, S')) (vx_runSW ⟨hx, hb, hml, hown, hts⟩ hM hs (wB.preS hP hK hD hN) rfl hlen hl.1 hstk (lv_room hroom) hd hrm) hD hS hA fin
    · obtain ⟨host, hs⟩ := hs
      exact x_aft (S := S) (r := (v, S')) (va_runSN ⟨hx, hb, hml, hown, hts⟩ hM hs (wB.preS hP hK hD hN) rfl hlen hl.1 hstk (lv_room hroom) hd hrm) hD hS hA fin
    · omega
  · rename_i i
    obtain ⟨y, n, kd, v, h1, h2, h3, h4, h5, h6, rfl⟩ := key i false h
    have hM := hcall _ _ _ _ h6 ad H.size
    obtain ⟨bytes, maxL, ret, hs⟩ := hsite _ _ _ _ h1
    have hroom : (((st.drop n).map (xrv ad)).map fun v => v.category).sum ≤ 8 := by rw [xsum_map]; exact h3
    have fin : ∀ (H1 : Heap) (locs1 : List Loc), va_P D cl (xW ad cA S' sk) H1 → va_D A (xW ad cA S' sk) → va_S A H0 H1 locs1 → W p l e R s m args below meth c H1 locs1 k0 n0 Q (F0 m (pc + 3) ls ((v.map (xrv ad)).toList ++ (st.drop n).map (xrv ad))) := by
      intro H1 locs1 hP1 hD1 hS1
      rw [xout_app]
      exact kk H1 locs1 ls ⟨hP1, hD1, hS1, hl⟩
    rcases kd with _ | _ | ci
    · exact absurd (h4.mp (by decide)) (by decide)
    · exact absurd (h4.mp (by decide)) (by decide)
    · obtain ⟨C, F, N, hc, hs⟩ := hs
      unfold xrecv at h5
      split at h5
      · rename_i e0; omega
      · rename_i e0; omega
      · rename_i ci' e0
        obtain rfl : ci = ci' := by omega
        split at h5
        · rename_i n' a ha
          split at h5
          · rename_i c2 fs hs9
            have hc2 : c2 = ci := by simpa using h5
            subst hc2
            have ha : st[n']? = some (.ref a) := ha
            have hlt : n' < st.length := (List.getElem?_eq_some_iff.mp ha).1
            have htk : st.take (n' + 1) = st.take n' ++ [.ref a] := by rw [List.take_succ, ha]; rfl
            have hlen : ((st.take n').reverse.map (xrv ad)).length = n' := by rw [List.length_map, List.length_reverse, List.length_take]; exact Nat.min_eq_left (Nat.le_of_lt hlt)
            have hstk : st.map (xrv ad) = ((st.take n').reverse.map (xrv ad)).reverse ++ .ref (ad a) :: (st.drop (n' + 1)).map (xrv ad) := by
              rw [← List.map_reverse, List.reverse_reverse]
              show _ = (st.take n').map (xrv ad) ++ (Value.ref a :: st.drop (n' + 1)).map (xrv ad)
              rw [← List.map_append]
              have : st.take n' ++ Value.ref a :: st.drop (n' + 1) = st := by
                have h9 := List.take_append_drop (n' + 1) st
                rw [htk, List.append_assoc] at h9
                exact h9
              rw [this]
            have hrev : ((st.take (n' + 1)).reverse.map (xrv ad)) = .ref (ad a) :: (st.take n').reverse.map (xrv ad) := by
              rw [htk, List.reverse_append]
              rfl
            rw [hrev] at hM
            exact x_aft (S := S) (r := (v, S')) (va_runV ⟨hx, hb, hml, hown, hts⟩ hM hs (wB.preV hP hK hD hN c2 a hc (xW_get hs9)) rfl hlen hl.1 hstk (lv_room hroom) hd hrm) hD hS hA fin
          · cases h5
        · cases h5
  · cases h
def xrt : Nat → Option FieldType
  | 0 => none
  | 1 => some .int
  | 2 => some .boolean
  | _ => some .long
set_option maxHeartbeats 4000000 in
theorem xret_go (hx : p.tables.exec = Jvm.exec) (hb : c.code = cc) (hr : meth.sig.returnType = xrt T.2.2.2.2.2) (hlocks : meth.locks = false) (hK : va_K D cl (xtys cA tl) s)
    {q : Instr × Nat} (hd : decode cc pc = .ok q) {lv : xLV} {st : List Value} {S : xS} {v : Option Value} (h : xret T st q = some v) :
    xGo k0 n0 p l e R s m args below meth c (MQ below (xQ D cl cA tl ad sk (v, S) A) args s k0 n0 A) D cl A s.heap ad cA sk nL (pc, lv, st, S) := by
  intro H locs ls ⟨hP, hD, hS, hl⟩
  unfold xret at h
  split at h
  · split at h
    · split at h
      · rename_i h1
        obtain rfl := Option.some.inj h
        rcases h1 with h1 | ⟨h1, h2⟩
        · rw [h1] at hr
          exact W.iret hx hb hr (fun t ht hW => ⟨⟨rfl, wE.of ht hW hP hK hD⟩, hS.F ht⟩) hS.2.2 hd
        · rw [h1] at hr
          exact W.zret hx hb hr (by rcases h2 with rfl | rfl <;> decide) (fun t ht hW => ⟨⟨rfl, wE.of ht hW hP hK hD⟩, hS.F ht⟩) hS.2.2 hd
      · cases h
    · cases h
  · split at h
    · split at h
      · rename_i h1
        obtain rfl := Option.some.inj h
        rw [h1] at hr
        exact W.lret hx hb hr (fun t ht hW => ⟨⟨rfl, wE.of ht hW hP hK hD⟩, hS.F ht⟩) hS.2.2 hd
      · cases h
    · cases h
  · split at h
    · split at h
      · rename_i h1
        obtain rfl := Option.some.inj h
        rw [h1] at hr
        exact W.vret hx hb hr (fun t ht hW => ⟨⟨rfl, wE.of ht hW hP hK hD⟩, hS.F ht⟩) hS.2.2 hd
      · cases h
    · cases h
  · cases h
/-- what is known of a class' tables -/
def xTab (cl : List vw_C) (Ts : List Cond) (own : String) (cc : ByteArray) (T : xT) : Prop :=
  (∀ pc q, T.1 pc = some q → decode cc pc = .ok q) ∧ xFld cl Ts own T.2.1 ∧ (∀ i v, T.2.2.1 i = some v → Cond.constant own i v ∈ Ts) ∧ (∀ i v, T.2.2.2.1 i = some v → Cond.constantLong own i v ∈ Ts)
theorem xloop_go (hrm : k0 + 0 ≤ R.cells ∧ n0 + 0 ≤ R.slots) (hx : p.tables.exec = Jvm.exec) (hb : c.code = cc) (hml : c.maxLocals = nL) (hown : s.vm.findClass own = some m.cls) (hts : ∀ w ∈ Ts, w.before args s = true) (hr : meth.sig.returnType = xrt T.2.2.2.2.2) (hlocks : meth.locks = false)
    (hK : va_K D cl (xtys cA tl) s) (hN : NW L s) (hA : ∀ q, s.heap.size ≤ q → A q) (hT : xTab cl Ts own cc T) (hsk : xSk tl sk)
    {call : Nat → List Value → xS → Option xO} (hcall : ∀ y as S r, call y as S = some r → xMet l D cl L cA tl sk nm zs rm y as S r)
    (hsite : ∀ i y n kd, T.2.2.2.2.1 i = some (y, n, kd) → xSite R s args own cl nm zs rm i y n kd) :
    ∀ (n : Nat) (f : xF) (r : xO), xloop sk nL T call n f = some r → xGo k0 n0 p l e R s m args below meth c (MQ below (xQ D cl cA tl ad sk r A) args s k0 n0 A) D cl A s.heap ad cA sk nL f
  | 0, f, r, h => by cases h
  | n + 1, (pc, lv, st, S), r, h => by
    have ih := xloop_go hrm hx hb hml hown hts hr hlocks hK hN hA hT hsk hcall hsite n
    unfold xloop at h
    unfold xstep at h
    obtain ⟨t1, t2, t3, t4⟩ := hT
    cases hq : T.1 pc with
    | none => simp only [hq] at h; cases h
    | some q =>
      have hd := t1 _ _ hq
      simp only [hq] at h
      cases h1 : xpure nL T lv st q with
      | some z =>
        obtain ⟨lv', st'⟩ := z
        simp only [h1] at h
        exact xpure_go hx hb hown hts t3 t4 hd h1 (ih _ _ h)
      | none =>
        simp only [h1] at h
        cases h2 : xjump pc st q with
        | some z =>
          obtain ⟨pc', st'⟩ := z
          simp only [h2] at h
          exact xjump_go hx hb hd h2 (ih _ _ h)
        | none =>
          simp only [h2] at h
          cases h3 : xheap sk T st S q with
          | some z =>
            obtain ⟨st', S'⟩ := z
            simp only [h3] at h
            exact xheap_go hx hb hown hts hK t2 hsk hd h3 (ih _ _ h)
          | none =>
            simp only [h3] at h
            cases h4 : xcalls sk T call st S q with
            | some z =>
              obtain ⟨st', S'⟩ := z
              simp only [h4] at h
              exact xcalls_go hrm hx hb hml hown hts hK hN hA hcall hsite hd h4 (ih _ _ h)
            | none =>
              simp only [h4] at h
              cases h5 : xret T st q with
              | some v =>
                simp only [h5] at h
                obtain rfl := Option.some.inj h
                exact xret_go hx hb hr hlocks hK hd h5
              | none =>
                simp only [h5] at h
                cases h
/-- a run of the function up to a place where it is to stop -/
def xhrun (sk : List xC) (nL : Nat) (T : xT) (call : Nat → List Value → xS → Option xO) (stop : Nat → Bool) : Nat → xF → Option xF
  | 0, _ => none
  | n + 1, f => if stop f.1 = true then some f else match xstep sk nL T call f with
    | some (.inl f') => xhrun sk nL T call stop n f'
    | some (.inr _) => none
    | none => none
theorem xhrun_go (hrm : k0 + 0 ≤ R.cells ∧ n0 + 0 ≤ R.slots) (hx : p.tables.exec = Jvm.exec) (hb : c.code = cc) (hml : c.maxLocals = nL) (hown : s.vm.findClass own = some m.cls) (hts : ∀ w ∈ Ts, w.before args s = true)
    (hK : va_K D cl (xtys cA tl) s) (hN : NW L s) (hA : ∀ q, H0.size ≤ q → A q) (hT : xTab cl Ts own cc T) (hsk : xSk tl sk)
    {call : Nat → List Value → xS → Option xO} (hcall : ∀ y as S r, call y as S = some r → xMet l D cl L cA tl sk nm zs rm y as S r)
    (hsite : ∀ i y n kd, T.2.2.2.2.1 i = some (y, n, kd) → xSite R s args own cl nm zs rm i y n kd) {stop : Nat → Bool} {g : xF} (kk : xGo k0 n0 p l e R s m args below meth c Q D cl A H0 ad cA sk nL g) :
    ∀ (n : Nat) (f : xF), xhrun sk nL T call stop n f = some g → xGo k0 n0 p l e R s m args below meth c Q D cl A H0 ad cA sk nL f
  | 0, f, h => by cases h
  | n + 1, (pc, lv, st, S), h => by
    have ih := xhrun_go (stop := stop) hrm hx hb hml hown hts hK hN hA hT hsk hcall hsite kk n
    unfold xhrun at h
    split at h
    · obtain rfl := Option.some.inj h
      exact kk
    · unfold xstep at h
      obtain ⟨t1, t2, t3, t4⟩ := hT
      cases hq : T.1 pc with
      | none => simp only [hq] at h; cases h
      | some q =>
        have hd := t1 _ _ hq
        simp only [hq] at h
        cases h1 : xpure nL T lv st q with
        | some z =>
          obtain ⟨lv', st'⟩ := z
          simp only [h1] at h
          exact xpure_go hx hb hown hts t3 t4 hd h1 (ih _ h)
        | none =>
          simp only [h1] at h
          cases h2 : xjump pc st q with
          | some z =>
            obtain ⟨pc', st'⟩ := z
            simp only [h2] at h
            exact xjump_go hx hb hd h2 (ih _ h)
          | none =>
            simp only [h2] at h
            cases h3 : xheap sk T st S q with
            | some z =>
              obtain ⟨st', S'⟩ := z
              simp only [h3] at h
              exact xheap_go hx hb hown hts hK t2 hsk hd h3 (ih _ h)
            | none =>
              simp only [h3] at h
              cases h4 : xcalls sk T call st S q with
              | some z =>
                obtain ⟨st', S'⟩ := z
                simp only [h4] at h
                exact xcalls_go hrm hx hb hml hown hts hK hN hA hcall hsite hd h4 (ih _ h)
              | none =>
                simp only [h4] at h
                cases h5 : xret T st q with
                | some v =>
                  simp only [h5] at h
                  cases h
                | none =>
                  simp only [h5] at h
                  cases h
end
def xRoom (K d : Nat) : Room := { frames := d, cells := 0, slots := 0, locals := K * d }
end XK
