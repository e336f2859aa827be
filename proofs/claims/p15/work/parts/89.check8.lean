/-! Checker: declarations, one behind another. -/
theorem FrE.K {S S1 : xS} (h : FrE S S1) : FrK S S1 := (h.H (t := 0) (g := 0)).K
set_option maxHeartbeats 4000000 in
set_option maxRecDepth 100000 in
theorem ck_last {d n m vis x e xm ym : Nat} {f : Int32} {S : xS} {vs : List Va} {done todo : List Mk} (hx : x = 51 ∨ x = 52) (hm : MK S (done ++ (72, 1, -1) :: todo)) (hl : (done ++ (72, 1, -1) :: todo).length ≤ 10240) (hc : CE S (vs ++ [(nI x ^^^ -1, n, m)])) (hb : ∀ v ∈ vs, v.2.1 < n) (hn : S.1 5 11 = nI (n + 1)) (hn9 : 9 ≤ n ∧ n < 900) (hlv : S.1 5 15 = 1) (hv : S.1 4 13 = nI vis) (hTP : TP S 1 e f) (hs0 : S.1 29 0 = nI n) (hf : f = 0 ∨ f = 1) (he : Fi S e 2) (hg : S.1 3 9 = nI 2) (h0 : S.1 31 0 = nI vs.length) (hk : S.1 44 n = -1) (hs : S.1 45 n = 1) (hty : TN S) :
    ∃ S1, CkRun (d + 6) xm ym [(72, 1, -1)] done todo S S1 ∧ LSt S1 (vs ++ [(nI x, n, m)]) (n + 1) (vis + 1) ∧ FrK S S1 := by
  have K : done.length < 10240 := by rw [List.length_append, List.length_cons] at hl; omega
  obtain ⟨c1, c2, c3, c4, c5, c6, c7⟩ := id hc
  obtain ⟨S5, S6, p, q5, q6⟩ := s_endVal (d := d) (T := vs.length) (vis := vis) hx c1 rfl c6 hTP hs0 hf he hg h0 hn9.1 (by omega) hk hs hlv c5.2.2.1 hv
  have cB : CE (bdS (xsetI (xsetI (xsetI (xsetI S 3 8 (nI 1)) 3 8 (nI 0)) 3 9 (nI 1)) 3 9 (nI 0)) n 2) (vs ++ [(nI x ^^^ -1, n, m)]) := by
    refine ⟨c1, c2, c3, c4, ⟨Fi.bd (S := S) c5.1 (by omega) (by omega), Fi.bd (S := S) c5.2.1 (by omega) (by omega), c5.2.2⟩, c6, fun v hv hxv => ?_⟩
    rcases List.mem_append.mp hv with hv2 | hv2
    · have := hb v hv2
      exact Fi.bd (S := S) (c7 v hv hxv) (by omega) (by omega)
    · obtain rfl := List.mem_singleton.mp hv2
      exact absurd hxv (fun z => z.elim (hid_ne hx).1 (hid_ne hx).2)
  have c5' := cB.C (q5.C (t := 0))
  have kn : Fi S5 n 2 := q5.Fi ⟨by omega, by decide, by unfold bdS; simp (config := { decide := true }) only [xsI, show ¬ 2 = n by omega, and_false, false_and, if_false]; exact c5.1.2.2.1, Or.inr ⟨by unfold bdS; simp (config := { decide := true }) only [xsI, and_self, false_and, if_true, if_false], by unfold bdS; simp (config := { decide := true }) only [xsI, and_self, if_true]⟩⟩
  obtain ⟨d1, d2, d3, d4, d5, d6, d7⟩ := id c5'
  have V9 : VS (xsetI (tnS (xsetI S5 5 15 0) vs.length) 4 13 (nI (vis + 1))) (vs ++ [(nI x ^^^ -1 ^^^ -1, n, m)]) := VS.turn (S := xsetI S5 5 15 0) d1
  rw [xor_m1] at V9
  have c9 : CE (xsetI (tnS (xsetI S5 5 15 0) vs.length) 4 13 (nI (vis + 1))) (vs ++ [(nI x, n, m)]) := by
    refine ⟨V9, d2, d3, d4, d5, d6, fun v hv hxv => ?_⟩
    rcases List.mem_append.mp hv with hv2 | hv2
    · exact d7 v (List.mem_append_left _ hv2) hxv
    · obtain rfl := List.mem_singleton.mp hv2
      exact kn
  have c10 := c9.C (q6.C (t := 0))
  have m5 : MK S5 (done ++ (72, 1, -1) :: todo) := (q5.C (t := 0)).MK hm
  have m6 : MK S6 (done ++ (72, 1, -1) :: todo) := (q6.C (t := 0)).MK m5
  have t5 : S5.1 38 = S.1 38 := q5.2.1 _ (by decide) (by decide) (by decide) (by decide) (by decide) (by decide)
  have t6 : S6.1 38 = S5.1 38 := q6.2.1 _ (by decide) (by decide) (by decide) (by decide) (by decide) (by decide)
  have u5 : S5.1 36 = S.1 36 := q5.2.1 _ (by decide) (by decide) (by decide) (by decide) (by decide) (by decide)
  have u6 : S6.1 36 = S5.1 36 := q6.2.1 _ (by decide) (by decide) (by decide) (by decide) (by decide) (by decide)
  have k5 : FrK S S5 := (FrK_set (k := 8) (x := nI 1) (a0 := 3) (by omega)).trans ((FrK_set (k := 8) (x := nI 0) (a0 := 3) (by omega)).trans ((FrK_set (k := 9) (x := nI 1) (a0 := 3) (by omega)).trans ((FrK_set (k := 9) (x := nI 0) (a0 := 3) (by omega)).trans ((FrK_set (a0 := 44) (by omega)).trans ((FrK_set (a0 := 45) (by omega)).trans q5.K)))))
  have k6 : FrK S5 S6 := (FrK_set (a0 := 5) (by omega)).trans ((FrK_set (a0 := 34) (by omega)).trans ((FrK_set (a0 := 4) (by omega)).trans q6.K))
  refine ⟨S6, CkRun.one m6 (fun r hr => ck_dec hm hl c6 (Or.inr (Or.inr rfl)) (s_dec_end (d := d + 3) K p) hr), ⟨c10, ?_, ?_, ?_, ?_, ?_, ⟨by omega, by omega⟩, fun v hv => ?_, ⟨by rw [t6, t5]; exact hty.1, by rw [u6, u5]; exact hty.2⟩⟩, k5.trans k6⟩
  · rw [q6.2.2 _ (by decide) (by decide)]; show S5.1 5 11 = _; rw [q5.2.2 _ (by decide) (by decide)]; exact hn
  · rw [q6.2.2 _ (by decide) (by decide)]; rfl
  · rw [q6.r4]; rfl
  · rw [q6.r3]; show S5.1 3 8 = _; rw [q5.r3]; rfl
  · rw [q6.r3]; show S5.1 3 9 = _; rw [q5.r3]; rfl
  · rcases List.mem_append.mp hv with hv2 | hv2
    · have := hb v hv2; omega
    · obtain rfl := List.mem_singleton.mp hv2
      exact Nat.lt_succ_self n
set_option maxHeartbeats 4000000 in
set_option maxRecDepth 100000 in
theorem ck_line {d n vis x xm ym : Nat} {S : xS} {vs : List Va} {done todo : List Mk} {e : Ex} (hx : x = 51 ∨ x = 52) (hm : MK S (done ++ (deM done.length (nI x, e) ++ todo))) (hl : (done ++ (deM done.length (nI x, e) ++ todo)).length ≤ 10240) (hL : LSt S vs n vis) (hv : vs.length < 99) (hvis : vis < 99) (hn : n < 900) (he : ExOk vs xm ym e) :
    ∃ S1, CkRun (d + 6) xm ym (deM done.length (nI x, e)) done todo S S1 ∧ LSt S1 (vs ++ [(nI x, n, done.length + 2)]) (n + 1) (vis + 1) ∧ FrK S S1 := by
  have hm1 : MK S (done ++ ([(70, 1, nI (done.length + 3)), (40, 0, -1), (45, nI x, -1), (71, 0, -1)] ++ (exM e ++ ([(72, 1, -1)] ++ todo)))) := by
    have := hm; unfold deM at this; rw [List.cons_append, List.cons_append, List.cons_append, List.cons_append, List.append_assoc] at this; exact this
  have hl1 : (done ++ ([(70, 1, nI (done.length + 3)), (40, 0, -1), (45, nI x, -1), (71, 0, -1)] ++ (exM e ++ ([(72, 1, -1)] ++ todo)))).length ≤ 10240 := by
    have := hl; unfold deM at this; rw [List.cons_append, List.cons_append, List.cons_append, List.cons_append, List.append_assoc] at this; exact this
  obtain ⟨S1, r1, c1, a1, a2, a3, a4, a5, a6, a7, a8, a9, a10, k1⟩ := ck_begin (d := d + 1) (xm := xm) (ym := ym) hx hm1 hl1 hL hv hvis
  have hl2 : ((done ++ [(70, 1, nI (done.length + 3)), (40, 0, -1), (45, nI x, -1), (71, 0, -1)].map (mkL xm ym)) ++ (exM e ++ ([(72, 1, -1)] ++ todo))).length ≤ 10240 := by
    simp only [List.length_append, List.length_cons, List.length_nil, List.length_map] at hl1 ⊢; omega
  obtain ⟨S2, e2, f2, r2, c2, tp2, g2, h2, fr2, x2⟩ := ck_ex (d := d + 1) (t := 1) (g := 2) r1.1 hl2 c1 (he.hid hx) a4 (by decide) a6 (by decide)
  have hl3 : ((done ++ [(70, 1, nI (done.length + 3)), (40, 0, -1), (45, nI x, -1), (71, 0, -1)].map (mkL xm ym) ++ (exM e).map (mkL xm ym)) ++ ([(72, 1, -1)] ++ todo)).length ≤ 10240 := by
    simp only [List.length_append, List.length_cons, List.length_nil, List.length_map] at hl2 ⊢; omega
  obtain ⟨S3, r3, l3, k3⟩ := ck_last (d := d) (xm := xm) (ym := ym) hx r2.1 hl3 c2 hL.2.2.2.2.2.2.2.1 (by rw [fr2.2.2.2.1 _ (by decide) (by decide)]; exact a1) ⟨hL.2.2.2.2.2.2.1.1, hn⟩ (by rw [fr2.2.2.2.1 _ (by decide) (by decide)]; exact a2) (by rw [fr2.2.1 4 (by decide) (by decide) (by decide) (by decide) (by decide) (by decide) (by decide) (by decide) (by decide) (by decide) (by decide)]; exact a3) tp2 (by rw [(fr2.2.2.2.2.1 0 (by decide)).1]; exact a5) h2 g2 x2 (by rw [fr2.2.2.2.2.2 0 (by decide)]; exact a7) (by rw [fr2.2.1 44 (by decide) (by decide) (by decide) (by decide) (by decide) (by decide) (by decide) (by decide) (by decide) (by decide) (by decide)]; exact a8) (by rw [fr2.2.1 45 (by decide) (by decide) (by decide) (by decide) (by decide) (by decide) (by decide) (by decide) (by decide) (by decide) (by decide)]; exact a9) ⟨by rw [fr2.2.1 38 (by decide) (by decide) (by decide) (by decide) (by decide) (by decide) (by decide) (by decide) (by decide) (by decide) (by decide)]; exact a10.1, by rw [fr2.2.1 36 (by decide) (by decide) (by decide) (by decide) (by decide) (by decide) (by decide) (by decide) (by decide) (by decide) (by decide)]; exact a10.2⟩
  refine ⟨S3, ?_, l3, k1.trans (fr2.K.trans k3)⟩
  have r1' : CkRun (d + 6) xm ym [(70, 1, nI (done.length + 3)), (40, 0, -1), (45, nI x, -1), (71, 0, -1)] done ((exM e ++ [(72, 1, -1)]) ++ todo) S S1 := by rw [List.append_assoc]; exact r1
  exact r1'.app (r2.app r3)
/-- the marks with their links, line by line -/
def desL : Nat → Nat → Nat → List De → List Mk
  | _, _, _, [] => []
  | n, xm, ym, c :: cs => (deM n c).map (mkL xm ym) ++ desL (n + (deM n c).length) (if c.1 = 51 then n + 2 else xm) (if c.1 = 51 then ym else n + 2) cs
/-- the marks of x and y at the end -/
def endX : Nat → Nat → Nat → List De → Nat × Nat
  | _, xm, ym, [] => (xm, ym)
  | n, xm, ym, c :: cs => endX (n + (deM n c).length) (if c.1 = 51 then n + 2 else xm) (if c.1 = 51 then ym else n + 2) cs
/-- x and y are there, at these marks -/
def EV (vs : List Va) (xm ym : Nat) : Prop := (∃ i v, vs[i]? = some v ∧ Lst vs 51 i ∧ v.2.2 = xm) ∧ ∃ i v, vs[i]? = some v ∧ Lst vs 52 i ∧ v.2.2 = ym
theorem EV.at {vs : List Va} {xm ym : Nat} {a : Int32 × Int32} (h : EV vs xm ym) (ha : a.1 = 27 ∨ (a.1 = 25 ∧ (a.2 = 51 ∨ a.2 = 52))) : AtOk vs xm ym a := by
  rcases ha with z | ⟨z, z2 | z2⟩
  · exact Or.inl z
  · obtain ⟨i, v, h1, h2, h3⟩ := h.1
    exact Or.inr ⟨z, i, v, h1, by rw [z2]; exact h2, Or.inl ⟨z2, h3⟩⟩
  · obtain ⟨i, v, h1, h2, h3⟩ := h.2
    exact Or.inr ⟨z, i, v, h1, by rw [z2]; exact h2, Or.inr ⟨z2, h3⟩⟩
theorem Lst_new {vs : List Va} {x : Int32} {n m : Nat} : Lst (vs ++ [(x, n, m)]) x vs.length := by
  refine ⟨⟨(x, n, m), by rw [List.getElem?_append_right (Nat.le_refl _), Nat.sub_self]; rfl, rfl⟩, fun j w hj hw => ?_⟩
  have := (List.getElem?_eq_some_iff.mp hw).1
  rw [List.length_append, List.length_singleton] at this
  omega
theorem EV.x {vs : List Va} {xm ym n m : Nat} (h : ∃ i v, vs[i]? = some v ∧ Lst vs 52 i ∧ v.2.2 = ym) : EV (vs ++ [(51, n, m)]) m ym := by
  obtain ⟨i, v, h1, h2, h3⟩ := h
  exact ⟨⟨vs.length, _, by rw [List.getElem?_append_right (Nat.le_refl _), Nat.sub_self]; rfl, Lst_new, rfl⟩, i, v, by rw [List.getElem?_append_left (List.getElem?_eq_some_iff.mp h1).1]; exact h1, h2.hid (by decide), h3⟩
theorem EV.y {vs : List Va} {xm ym n m : Nat} (h : ∃ i v, vs[i]? = some v ∧ Lst vs 51 i ∧ v.2.2 = xm) : EV (vs ++ [(52, n, m)]) xm m := by
  obtain ⟨i, v, h1, h2, h3⟩ := h
  exact ⟨⟨i, v, by rw [List.getElem?_append_left (List.getElem?_eq_some_iff.mp h1).1]; exact h1, h2.hid (by decide), h3⟩, vs.length, _, by rw [List.getElem?_append_right (Nat.le_refl _), Nat.sub_self]; rfl, Lst_new, rfl⟩
theorem opO_ok {vs : List Va} {xm ym : Nat} (h : EV vs xm ym) (k : Nat) {q : Int32 × Int32} (hq : q.1 = 27 ∨ (q.1 = 25 ∧ (q.2 = 51 ∨ q.2 = 52))) : OaOk vs xm ym (opO k q) ∧ ∃ c cs, opO k q = c :: cs := by
  have hx : AtOk vs xm ym (25, 51) := h.at (Or.inr ⟨rfl, Or.inl rfl⟩)
  have hy : AtOk vs xm ym (25, 52) := h.at (Or.inr ⟨rfl, Or.inr rfl⟩)
  have hz := h.at hq
  match k with
  | 0 => exact ⟨fun c hc => by obtain rfl := List.mem_singleton.mp hc; exact ⟨Or.inl rfl, hz⟩, _, _, rfl⟩
  | 1 => exact ⟨fun c hc => by obtain rfl := List.mem_singleton.mp hc; exact ⟨Or.inr (Or.inl rfl), hz⟩, _, _, rfl⟩
  | 2 => exact ⟨fun c hc => by obtain rfl := List.mem_singleton.mp hc; exact ⟨Or.inr (Or.inr (Or.inl rfl)), hz⟩, _, _, rfl⟩
  | 3 => exact ⟨fun c hc => by obtain rfl := List.mem_singleton.mp hc; exact ⟨Or.inr (Or.inr (Or.inr (Or.inl rfl))), hz⟩, _, _, rfl⟩
  | 4 => exact ⟨fun c hc => by obtain rfl := List.mem_singleton.mp hc; exact ⟨Or.inr (Or.inr (Or.inr (Or.inr rfl))), hz⟩, _, _, rfl⟩
  | 5 =>
    refine ⟨fun c hc => ?_, _, _, rfl⟩
    rcases List.mem_cons.mp hc with rfl | hc
    · exact ⟨Or.inl rfl, hy⟩
    obtain rfl := List.mem_singleton.mp hc
    exact ⟨Or.inr (Or.inl rfl), hz⟩
  | 6 =>
    refine ⟨fun c hc => ?_, _, _, rfl⟩
    rcases List.mem_cons.mp hc with rfl | hc
    · exact ⟨Or.inr (Or.inr (Or.inl rfl)), hx⟩
    obtain rfl := List.mem_singleton.mp hc
    exact ⟨Or.inl rfl, hz⟩
  | n + 7 =>
    refine ⟨fun c hc => ?_, _, _, rfl⟩
    rcases List.mem_cons.mp hc with rfl | hc
    · exact ⟨Or.inr (Or.inl rfl), hx⟩
    rcases List.mem_cons.mp hc with rfl | hc
    · exact ⟨Or.inr (Or.inl rfl), hy⟩
    obtain rfl := List.mem_singleton.mp hc
    exact ⟨Or.inr (Or.inl rfl), hz⟩
theorem lnD_ex {vs : List Va} {xm ym : Nat} (h : EV vs xm ym) (l : Ln) : ExOk vs xm ym (lnD l).2 := by
  obtain ⟨a, k, o, b⟩ := l
  have hq : (laI o).2.1 = 27 ∨ ((laI o).2.1 = 25 ∧ ((laI o).2.2 = 51 ∨ (laI o).2.2 = 52)) := by
    cases o with
    | none => exact Or.inr ⟨rfl, Or.inr rfl⟩
    | some v => exact Or.inl rfl
  obtain ⟨h1, h2⟩ := opO_ok h k hq
  refine ⟨h.at (Or.inr ⟨rfl, Or.inl rfl⟩), h1, h2, ?_⟩
  cases b with
  | false => exact Or.inl rfl
  | true => exact Or.inr ⟨rfl, h.at (Or.inr ⟨rfl, Or.inr rfl⟩)⟩
/-- lines -/
theorem ck_lines {d : Nat} {todo : List Mk} : ∀ (ls : List Ln) (S : xS) (vs : List Va) (n vis xm ym : Nat) (done : List Mk), MK S (done ++ (desM done.length (ls.map lnD) ++ todo)) → (done ++ (desM done.length (ls.map lnD) ++ todo)).length ≤ 10240 → LSt S vs n vis → vs.length + ls.length < 99 → vis + ls.length < 99 → n + ls.length < 900 → EV vs xm ym →
    ∃ S1 vs1 n1 vis1, MK S1 ((done ++ desL done.length xm ym (ls.map lnD)) ++ todo) ∧ (∀ r, CkAt (d + 6) (done ++ desL done.length xm ym (ls.map lnD)).length S1 r → CkAt (d + 6) done.length S r) ∧ LSt S1 vs1 n1 vis1 ∧ EV vs1 (endX done.length xm ym (ls.map lnD)).1 (endX done.length xm ym (ls.map lnD)).2 ∧ FrK S S1
  | [], S, vs, n, vis, xm, ym, done, hm, hl, hL, h1, h2, h3, hE => by
    refine ⟨S, vs, n, vis, ?_, fun r hr => ?_, hL, hE, ⟨rfl, fun _ _ => rfl⟩⟩
    · show MK S ((done ++ []) ++ todo)
      rw [List.append_nil]; exact hm
    · have e : (done ++ desL done.length xm ym ([].map lnD)).length = done.length := by show (done ++ []).length = _; rw [List.append_nil]
      rw [e] at hr; exact hr
  | l :: ls, S, vs, n, vis, xm, ym, done, hm, hl, hL, h1, h2, h3, hE => by
    rw [List.length_cons] at h1 h2 h3
    obtain ⟨x, hx, hxe⟩ : ∃ x, (x = 51 ∨ x = 52) ∧ (lnD l).1 = nI x := by
      obtain ⟨a, k, o, b⟩ := l
      cases a with
      | true => exact ⟨51, Or.inl rfl, rfl⟩
      | false => exact ⟨52, Or.inr rfl, rfl⟩
    have hd : lnD l = (nI x, (lnD l).2) := by rw [← hxe]
    have e1 : desM done.length ((l :: ls).map lnD) = deM done.length (lnD l) ++ desM (done.length + (deM done.length (lnD l)).length) (ls.map lnD) := rfl
    have e2 : desL done.length xm ym ((l :: ls).map lnD) = (deM done.length (lnD l)).map (mkL xm ym) ++ desL (done.length + (deM done.length (lnD l)).length) (if (lnD l).1 = 51 then done.length + 2 else xm) (if (lnD l).1 = 51 then ym else done.length + 2) (ls.map lnD) := rfl
    have e3 : endX done.length xm ym ((l :: ls).map lnD) = endX (done.length + (deM done.length (lnD l)).length) (if (lnD l).1 = 51 then done.length + 2 else xm) (if (lnD l).1 = 51 then ym else done.length + 2) (ls.map lnD) := rfl
    rw [e1, List.append_assoc] at hm hl
    rw [e2, e3]
    have hle : (done ++ (deM done.length (lnD l)).map (mkL xm ym)).length = done.length + (deM done.length (lnD l)).length := by rw [List.length_append, List.length_map]
    have hm' := hm
    have hl' := hl
    rw [hd] at hm' hl'
    obtain ⟨S1, r1, l1, k1⟩ := ck_line (d := d) (x := x) (xm := xm) (ym := ym) hx hm' hl' hL (by omega) (by omega) (by omega) (lnD_ex hE l)
    rw [← hd] at r1
    have hE1 : EV (vs ++ [(nI x, n, done.length + 2)]) (if (lnD l).1 = 51 then done.length + 2 else xm) (if (lnD l).1 = 51 then ym else done.length + 2) := by
      rw [hxe]
      rcases hx with rfl | rfl
      · exact EV.x (xm := xm) hE.2
      · exact EV.y (ym := ym) hE.1
    have hm2 : MK S1 ((done ++ (deM done.length (lnD l)).map (mkL xm ym)) ++ (desM (done ++ (deM done.length (lnD l)).map (mkL xm ym)).length (ls.map lnD) ++ todo)) := by rw [hle]; exact r1.1
    have hl2 : ((done ++ (deM done.length (lnD l)).map (mkL xm ym)) ++ (desM (done ++ (deM done.length (lnD l)).map (mkL xm ym)).length (ls.map lnD) ++ todo)).length ≤ 10240 := by
      rw [hle]
      simp only [List.length_append, List.length_map] at hl ⊢
      omega
    obtain ⟨S2, vs2, n2, vis2, b1, b2, b3, b4, b5⟩ := ck_lines ls S1 _ (n + 1) (vis + 1) _ _ _ hm2 hl2 l1 (by rw [List.length_append, List.length_singleton]; omega) (by omega) (by omega) hE1
    rw [hle] at b1 b2 b4
    refine ⟨S2, vs2, n2, vis2, ?_, fun r hr => r1.2 r ?_, b3, b4, k1.trans b5⟩
    · rw [← List.append_assoc]; exact b1
    · rw [hle]; exact b2 r (by rw [← List.append_assoc] at hr; exact hr)
