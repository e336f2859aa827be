/-! XF, fifth part: the function without a measure of time (XC), and a row of it an instruction (L_). -/
section XL
theorem xloop_more {sk : List xC} {nL : Nat} {T : xT} {call : Nat → List Value → xS → Option xO} : ∀ (n : Nat) (f : xF) (r : xO), xloop sk nL T call n f = some r → xloop sk nL T call (n + 1) f = some r
  | 0, f, r, h => by cases h
  | n + 1, f, r, h => by
    unfold xloop at h ⊢
    cases hs : xstep sk nL T call f with
    | none => simp only [hs] at h; cases h
    | some z =>
      cases z with
      | inl f' =>
        simp only [hs] at h ⊢
        exact xloop_more n f' r h
      | inr r' =>
        simp only [hs] at h ⊢
        exact h
theorem xloop_le {sk : List xC} {nL : Nat} {T : xT} {call : Nat → List Value → xS → Option xO} {n k : Nat} {f : xF} {r : xO} (hnk : n ≤ k) (h : xloop sk nL T call n f = some r) : xloop sk nL T call k f = some r := by
  induction k with
  | zero => rw [Nat.le_zero.mp hnk] at h; exact h
  | succ k ih =>
    rcases Nat.lt_or_ge n (k + 1) with q | q
    · exact xloop_more k f r (ih (Nat.le_of_lt_succ q))
    · have : n = k + 1 := Nat.le_antisymm hnk q
      rw [← this]; exact h
noncomputable def xlim (g : Nat → Option xO) : Option xO := by
  classical
  exact if h : ∃ r, ∃ n, g n = some r then some (Classical.choose h) else none
theorem xlim_iff {g : Nat → Option xO} (hg : ∀ n k r, n ≤ k → g n = some r → g k = some r) (r : xO) : xlim g = some r ↔ ∃ n, g n = some r := by
  classical
  unfold xlim
  constructor
  · intro h
    by_cases hx : ∃ r, ∃ n, g n = some r
    · rw [dif_pos hx] at h
      obtain ⟨n, hn⟩ := Classical.choose_spec hx
      exact ⟨n, by rw [hn]; exact h⟩
    · rw [dif_neg hx] at h
      cases h
  · rintro ⟨n, hn⟩
    have hx : ∃ r, ∃ n, g n = some r := ⟨r, n, hn⟩
    rw [dif_pos hx]
    obtain ⟨n2, hn2⟩ := Classical.choose_spec hx
    have a := hg n (max n n2) r (Nat.le_max_left _ _) hn
    have b := hg n2 (max n n2) _ (Nat.le_max_right _ _) hn2
    exact b.symm.trans a
/-- what a method answers within d calls in one another -/
noncomputable def XC (sk : List xC) (MT : Nat → Nat × xT) : Nat → Nat → List Value → xS → Option xO
  | 0, _, _, _ => none
  | d + 1, y, as, S => if xsum as ≤ (MT y).1 then xlim (fun n => xloop sk (MT y).1 (MT y).2 (fun y' as' S' => XC sk MT d y' as' S') n (0, xargs (MT y).1 as, [], S)) else none
/-- from a place within a method it comes to that end -/
def XL (sk : List xC) (MT : Nat → Nat × xT) (d y : Nat) (f : xF) (r : xO) : Prop := ∃ n, xloop sk (MT y).1 (MT y).2 (fun y' as' S' => XC sk MT d y' as' S') n f = some r
theorem XC_iff {sk : List xC} {MT : Nat → Nat × xT} {d y : Nat} {as : List Value} {S : xS} {r : xO} : XC sk MT (d + 1) y as S = some r ↔ xsum as ≤ (MT y).1 ∧ XL sk MT d y (0, xargs (MT y).1 as, [], S) r := by
  show (if xsum as ≤ (MT y).1 then _ else none) = some r ↔ _
  by_cases h : xsum as ≤ (MT y).1
  · rw [if_pos h, xlim_iff (fun n k r hnk h => xloop_le hnk h)]
    exact ⟨fun z => ⟨h, z⟩, fun z => z.2⟩
  · rw [if_neg h]
    exact ⟨fun z => (by cases z), fun z => absurd z.1 h⟩
theorem XL_det {sk : List xC} {MT : Nat → Nat × xT} {d y : Nat} {f : xF} {r r' : xO} (h : XL sk MT d y f r) (h' : XL sk MT d y f r') : r = r' := by
  obtain ⟨n, h⟩ := h
  obtain ⟨k, h'⟩ := h'
  have a := xloop_le (Nat.le_max_left n k) h
  have b := xloop_le (Nat.le_max_right n k) h'
  exact Option.some.inj (a.symm.trans b)
section
variable {sk : List xC} {MT : Nat → Nat × xT} {d y pc : Nat} {lv : xLV} {st : List Value} {S : xS} {r : xO}
theorem XL_go {f f' : xF} (h : xstep sk (MT y).1 (MT y).2 (fun y' as' S' => XC sk MT d y' as' S') f = some (.inl f')) : XL sk MT d y f r ↔ XL sk MT d y f' r := by
  constructor
  · rintro ⟨n, hn⟩
    cases n with
    | zero => cases hn
    | succ n =>
      unfold xloop at hn
      simp only [h] at hn
      exact ⟨n, hn⟩
  · rintro ⟨n, hn⟩
    refine ⟨n + 1, ?_⟩
    unfold xloop
    simp only [h]
    exact hn
theorem XL_end {f : xF} {r' : xO} (h : xstep sk (MT y).1 (MT y).2 (fun y' as' S' => XC sk MT d y' as' S') f = some (.inr r')) : XL sk MT d y f r ↔ r' = r := by
  constructor
  · rintro ⟨n, hn⟩
    cases n with
    | zero => cases hn
    | succ n =>
      unfold xloop at hn
      simp only [h] at hn
      exact Option.some.inj hn
  · rintro rfl
    refine ⟨1, ?_⟩
    unfold xloop
    simp only [h]
theorem XL_no {f : xF} (h : xstep sk (MT y).1 (MT y).2 (fun y' as' S' => XC sk MT d y' as' S') f = none) : XL sk MT d y f r ↔ False := by
  constructor
  · rintro ⟨n, hn⟩
    cases n with
    | zero => cases hn
    | succ n =>
      unfold xloop at hn
      simp only [h] at hn
      cases hn
  · exact False.elim
end
/-- a method with handlers that returns -/
theorem x_MetFW {l : Launch} {y : MethodName} {ws ws' : List Cond} {rm : Room} {Pc : Array Value → State → Prop} {Qc : Array Value → State → Outcome → State → Prop} {mc ms : Nat} {free : Addr → Prop} {cc : ByteArray} {maxL : Nat} {ret : Option FieldType} {hh : List (Nat × Nat × Nat × Nat)}
    (hy : plainFor y = true) (hw : ws = Cond.codeWith y cc maxL ret hh :: ws')
    (body : ∀ p e s m args below meth c s₁, BodyLoose p l y (headSpec ws rm) cc maxL ret e s m args below meth c s₁ → c.maxLocals = maxL → Pc args s →
      W p l e (headSpec ws rm).room s m args below meth c s.heap [] 0 0 (MQ below Qc args s mc ms free) (entryFrame m args maxL)) : Met l y ws rm Pc Qc mc ms free := by
  refine MetFree.of_bodySF (code := cc) (maxLocals := maxL) (ret := ret) hy ?_ ?_
  · intro args s m h hn
    obtain ⟨m9, meth, c, hn9, h1, h2, h3, h4, -, h5, h6, -⟩ := Cond.codeWith_spec (atoms_spec (ws := ws) h _ (by rw [hw]; exact List.mem_cons_self))
    cases hn.symm.trans hn9
    exact ⟨meth, c, h1, h2, h3, h4, h5, h6⟩
  · intro p e s m args below meth c s₁ B hml hP _
    have hh0 : s₁.heap = s.heap := by rw [B.state]; rfl
    obtain ⟨t, a1, o, b1, b2, b3⟩ := body p e s m args below meth c s₁ B hml hP s₁ hh0 (Stand.of_body B)
    exact ⟨t, o, a1, b1, b2, ⟨b3.1, b3.2⟩⟩
/-- all methods of a table: what XC answers is what the machine does -/
theorem xmetC {l : Launch} {D : va_G} {cl : List vw_C} {L : List (String × Nat × MethodName × String)} {cA : Nat → ClassId} {tl : List FieldType} {sk : List xC} {nm : Nat → MethodName} {zs : Nat → List Cond} {cc : Nat → ByteArray} {ZA : List Cond} {MT : Nat → Nat × xT} {K : Nat} (hsk : xSk tl sk)
    (hm : ∀ y q, (MT y).2.1 0 = some q → plainFor (nm y) = true ∧ (zs y = Cond.code (nm y) (cc y) (MT y).1 (xrt (MT y).2.2.2.2.2.2) :: ZA ∨ ∃ hh, zs y = Cond.codeWith (nm y) (cc y) (MT y).1 (xrt (MT y).2.2.2.2.2.2) hh :: ZA) ∧ xTab cl (zs y) (nm y).cls (cc y) (MT y).2)
    (hsite : ∀ (d : Nat) (s : State) (args : Array Value) (y : Nat) (q : Instr × Nat), (MT y).2.1 0 = some q → (∀ w ∈ zs y, w.before args s = true) → NW L s → ∀ i y' n kd, (MT y).2.2.2.2.2.1 i = some (y', n, kd) → xSite (xRoom K (d + 1)) s args (nm y).cls cl nm zs (xRoom K d) i y' n kd) :
    ∀ (d y : Nat) (as : List Value) (S : xS) (r : xO), XC sk MT d y as S = some r → xMet l D cl L cA tl sk nm zs (xRoom K d) y as S r
  | 0, y, as, S, r, h => by cases h
  | d + 1, y, as, S, r, h => by
    have ih := xmetC (l := l) (D := D) (cA := cA) hsk hm hsite d
    obtain ⟨hlen, n, h⟩ := XC_iff.mp h
    have h0 : ∃ q, (MT y).2.1 0 = some q := by
      cases n with
      | zero => cases h
      | succ n =>
        unfold xloop xstep at h
        cases hq : (MT y).2.1 0 with
        | none => simp only [hq] at h; cases h
        | some q => exact ⟨q, rfl⟩
    obtain ⟨q0, h0⟩ := h0
    obtain ⟨hp, hz, hT⟩ := hm y q0 h0
    intro ad sz
    have go : ∀ p e s m args below meth c s₁, BodyLoose p l (nm y) (headSpec (zs y) (xRoom K (d + 1))) (cc y) (MT y).1 (xrt (MT y).2.2.2.2.2.2) e s m args below meth c s₁ → c.maxLocals = (MT y).1 → va_Pc (as.map (xrv ad)) (wB D cl L (xtys cA tl) (xW ad cA S sk) sz) args s → W p l e (headSpec (zs y) (xRoom K (d + 1))).room s m args below meth c s.heap [] 0 0 (MQ below (xQ D cl cA tl ad sk r (va_A (xW ad cA S sk) sz)) args s 0 0 (va_A (xW ad cA S sk) sz)) (entryFrame m args (MT y).1) := by
      intro p e s m args below meth c s₁ B hml hv
      obtain ⟨rfl, hsz, hP, hK, hD0, hN⟩ := hv
      have hts := atoms_spec (ws := zs y) B.pre
      subst hsz
      have hD := hD0.self (sz := s.heap.size)
      have hl := lv_entry (as.map (xrv ad)) (n := (MT y).1) (by rw [xsl_len, xsum_rv]; exact hlen)
      rw [lg_entry_eq]
      exact xloop_go ⟨Nat.zero_le _, Nat.zero_le _⟩ B.exec B.bytes hml (findClass_of_methodNamed B.named) hts B.returns B.notSynchronized hK hN (fun q h => Or.inr h) hT hsk (fun y' as' S' r' h' => ih y' as' S' r' h') (hsite d s _ y q0 h0 hts hN) n _ _ h s.heap [] _ ⟨hP, hD, va_S.rf, lv_less hl (xargs_less ad _ as)⟩
    rcases hz with hz | ⟨hh, hz⟩
    · exact va_MetF (cc := cc y) (maxL := (MT y).1) (ret := xrt (MT y).2.2.2.2.2.2) hp hz go
    · exact x_MetFW (cc := cc y) (maxL := (MT y).1) (ret := xrt (MT y).2.2.2.2.2.2) hp hz go
end XL
