/-! The law: its loop and its end, in the machine. -/
theorem c31_R {x : Int32} (h : inR x.toInt) : c31 x = x := by
  have h1 := wd_sr (v := x.toInt) h
  unfold wd at h1
  rw [ofI] at h1
  exact (sr_w x).symm.trans h1
theorem shr_1 (z : Int32) : inR (z >>> ((1 : Int32) &&& 31)).toInt := by
  have h1 := Int32.toInt_lt z
  have h2 := Int32.le_toInt z
  unfold inR
  rw [pk_shr _ _ 1 (by decide), Int.shiftRight_eq_div_pow]
  omega
theorem shr_12 (z : Int32) : inR (z >>> ((12 : Int32) &&& 31)).toInt := by
  have h1 := Int32.toInt_lt z
  have h2 := Int32.le_toInt z
  unfold inR
  rw [pk_shr _ _ 12 (by decide), Int.shiftRight_eq_div_pow]
  omega
theorem wdI (x : Int32) : wd x.toInt = x * 2 + 1 := by unfold wd; rw [ofI]
theorem lqC_8 (c : Int32) : (lqC c).2.1 < 8 := by
  obtain ⟨m, hm, e⟩ := and7 (c >>> ((1 : Int32) &&& 31))
  show (c >>> ((1 : Int32) &&& 31) &&& 7).toNatClampNeg < 8
  rw [e, nI_clamp (by omega)]
  exact hm
theorem lqC_R (c : Int32) : ∀ v, (lqC c).2.2.1 = some v → inR v.toInt := by
  intro v hv
  have hv : (if c &&& 32 = 0 then none else some (c >>> ((12 : Int32) &&& 31))) = some v := hv
  by_cases h : c &&& 32 = 0
  · rw [if_pos h] at hv; cases hv
  · rw [if_neg h] at hv; cases hv; exact shr_12 c
theorem g_seen : GoodIn lw_tbl (va_wsS RL 132 yL_seen zsTlseen) := goodIn_app (goodIn_sub (fun w h => zin_own w ((List.forall_mem_cons.mpr ⟨List.mem_of_getElem? (i := 12) rfl, List.forall_mem_cons.mpr ⟨List.mem_of_getElem? (i := 13) rfl, List.forall_mem_cons.mpr ⟨List.mem_of_getElem? (i := 10) rfl, fun _ h => absurd h List.not_mem_nil⟩⟩⟩ : ∀ w ∈ ([.methodLink RL 132 yL_seen, .static yL_seen, .initialized yL_seen.cls] : List Cond), w ∈ zlOwn) w h)) (by decide +kernel)) (goodIn_sub zsin_lseen (by decide +kernel))
theorem g_cell : GoodIn lw_tbl (va_wsS RL 80 yL_cell zsCell) := goodIn_sub (fun w h => zin_own w ((List.forall_mem_cons.mpr ⟨List.mem_of_getElem? (i := 8) rfl, List.forall_mem_cons.mpr ⟨List.mem_of_getElem? (i := 9) rfl, List.forall_mem_cons.mpr ⟨List.mem_of_getElem? (i := 10) rfl, List.forall_mem_cons.mpr ⟨List.mem_of_getElem? (i := 11) rfl, fun _ h => absurd h List.not_mem_nil⟩⟩⟩⟩ : ∀ w ∈ ([.methodLink RL 80 yL_cell, .static yL_cell, .initialized yL_cell.cls, .code yL_cell cL_cell 2 (some .int)] : List Cond), w ∈ zlOwn) w h)) (by decide +kernel)
theorem g_res : GoodIn lw_tbl (va_wsS RL 77 yL_resultAt zsTlres) := goodIn_app (goodIn_sub (fun w h => zin_own w ((List.forall_mem_cons.mpr ⟨List.mem_of_getElem? (i := 14) rfl, List.forall_mem_cons.mpr ⟨List.mem_of_getElem? (i := 15) rfl, List.forall_mem_cons.mpr ⟨List.mem_of_getElem? (i := 10) rfl, fun _ h => absurd h List.not_mem_nil⟩⟩⟩ : ∀ w ∈ ([.methodLink RL 77 yL_resultAt, .static yL_resultAt, .initialized yL_resultAt.cls] : List Cond), w ∈ zlOwn) w h)) (by decide +kernel)) (goodIn_sub zsin_lres (by decide +kernel))
theorem g_num : GoodIn lw_tbl (va_wsS RL 140 yL_isNumber zsN) := goodIn_app (goodIn_sub (fun w h => zin_own w ((List.forall_mem_cons.mpr ⟨List.mem_of_getElem? (i := 16) rfl, List.forall_mem_cons.mpr ⟨List.mem_of_getElem? (i := 17) rfl, List.forall_mem_cons.mpr ⟨List.mem_of_getElem? (i := 10) rfl, fun _ h => absurd h List.not_mem_nil⟩⟩⟩ : ∀ w ∈ ([.methodLink RL 140 yL_isNumber, .static yL_isNumber, .initialized yL_isNumber.cls] : List Cond), w ∈ zlOwn) w h)) (by decide +kernel)) (goodIn_ca (goodIn_sub (fun w h => (List.mem_cons.mp h).elim (fun e => by rw [e]; exact zin_own _ (List.mem_of_getElem? (i := 18) rfl)) (fun h => cinZA w h)) (by rw [List.all_cons, gwTZA]; decide +kernel)) g_res)
/-- where the law stands -/
def LwC (p : Program) (l : Launch) (s : State) (m : MethodId) (meth : Method) (c : Code) (L : Nat) (xs : Nat → Int32) (dC : Nat → ClassId) (dI : Nat → Nat → Nat) (cI : Nat → ClassId) (ad : Nat → Nat) (A : Nat → Prop) : Prop :=
  l.stackTraces = false ∧ lw_At p s m meth c (ad 70) L xs ∧ A = (fun q : Nat => s.heap.size ≤ q) ∧ va_K (dC, dI) vwCl (tyA cI) s ∧ NW nestM s ∧ TW strL A s s.heap ∧ L ≤ 260
theorem lwC_mk {p : Program} {l : Launch} {s : State} {m : MethodId} {meth : Method} {c : Code} {L : Nat} {xs : Nat → Int32} {dC : Nat → ClassId} {dI : Nat → Nat → Nat} {cI : Nat → ClassId} {ad : Nat → Nat} {A : Nat → Prop} (h1 : l.stackTraces = false) (h2 : lw_At p s m meth c (ad 70) L xs) (h3 : A = fun q : Nat => s.heap.size ≤ q) (h4 : va_K (dC, dI) vwCl (tyA cI) s) (h5 : NW nestM s) (h6 : TW strL A s s.heap) (h7 : L ≤ 260) : LwC p l s m meth c L xs dC dI cI ad A := ⟨h1, h2, h3, h4, h5, h6, h7⟩
section LG
variable {p : Program} {l : Launch} {e : Env} {s : State} {m : MethodId} {below : List Frame} {meth : Method} {c : Code} {L : Nat} {xs : Nat → Int32} {dC : Nat → ClassId} {dI : Nat → Nat → Nat} {cI : Nat → ClassId} {ad : Nat → Nat} {A : Nat → Prop}
abbrev XG (p : Program) (l : Launch) (e : Env) (s : State) (m : MethodId) (below : List Frame) (meth : Method) (c : Code) (dC : Nat → ClassId) (dI : Nat → Nat → Nat) (cI : Nat → ClassId) (ad : Nat → Nat) (A : Nat → Prop) (k n : Nat) (f : xF) : Prop := xGo k n p l e room_1 s m #[Value.ref (ad 70)] below meth c (lw_Z below #[Value.ref (ad 70)] s) (dC, dI) vwCl A s.heap ad cI SK 17 f
set_option maxHeartbeats 8000000 in
set_option maxRecDepth 100000 in
theorem lg_end (C : LwC p l s m meth c L xs dC dI cI ad A) {k n : Nat} (hk : k + 1 ≤ 600086) (hn : n + 6 ≤ 7301442) {lv : xLV} {S : xS} (h1 : xlook lv 1 = some (.ref 0)) : XG p l e s m below meth c dC dI cI ad A k n (785, lv, [], S) := by
  obtain ⟨hst, ⟨hx, hb, hr, hml, hown0, hts0, hX, hbl, hlocks, hgv⟩, hAd, hK, hN, hT, hL⟩ := C
  have hown : s.vm.findClass RL = some m.cls := hown0
  have hA : ∀ q : Nat, s.heap.size ≤ q → A q := by rw [hAd]; exact fun _ h => h
  intro H locs ls ⟨hP, hD, hS, hl⟩
  show W _ _ _ _ _ _ _ _ _ _ _ _ _ _ _ (F0 m 785 ls [])
  refine lv_aload_n hx hb dL_law_785 rfl (xlook_at hl (i := 1) (v := .ref 0) h1) ?_
  refine lv_iconst (v := 5) hx hb dL_law_786 (by decide) ?_
  refine aft_kx (vx_runSX (As := [.ref (ad 0), .int 5]) (rest := []) ⟨hx, hb, hml, hown, hts0⟩ (t_llseen l hst dC dI H.size (ad 0) (xfs ad S 0 (skF 0))) (vx_cwSW 2 hts0 g_seen rfl rfl rfl (by decide +kernel) ⟨Nat.le_of_ble_eq_true rfl, Nat.le_of_ble_eq_true rfl⟩)
    (wBT.preS (hP.sub (ws' := [(ad 0, .inr (12, xfs ad S 0 (skF 0)))]) [0] (fmA sk_0)) (va_K0 hK) (hD.sub (ws' := [(ad 0, .inr (12, xfs ad S 0 (skF 0)))]) [0] (by decide) (fnA sk_0)) hN hT hS (va_free (wc := [(ad 0, .inr (12, xfs ad S 0 (skF 0)))]) hD hS hA [0] (fnA sk_0))) rfl rfl hl.1 rfl (lv_room (Nat.le_of_ble_eq_true rfl)) dL_law_787 ⟨hk, hn⟩) hP hS hA ?_
  intro r u H1 locs1 hr9 hP1 hS1
  obtain rfl : r = -9 := hr9
  refine lv_bipush (v := -9) hx hb dL_law_790 (by decide) ?_
  refine lv_icmp_ne (tgt := 799) hx hb dL_law_792 (by decide) (fun c_1 => absurd rfl c_1) (fun _ => ?_)
  refine lv_iconst (v := 1) hx hb dL_law_795 (by decide) ?_
  refine lv_goto (tgt := 800) hx hb dL_law_796 (by decide) ?_
  refine va_forget (fun q hq => by have h9 := hS1.2.2 q hq; rw [hAd] at h9; exact h9) ?_
  refine W.widen (k := 600086) (n := 7301442) hk hn ?_
  exact lw_ret hx hb hr hlocks dL_law_800
set_option maxHeartbeats 8000000 in
set_option maxRecDepth 100000 in
theorem lg_num (C : LwC p l s m meth c L xs dC dI cI ad A) {k n : Nat} (hk : k + 1 ≤ 600086) (hn : n + 6 ≤ 7301442) {lv : xLV} {S : xS} {x : Int32} (h1 : xlook lv 1 = some (.ref 0)) (h3 : xlook lv 3 = some (.int x)) (hx9 : inR x.toInt) (hp : S.1 0 19 = 1) (hRN : RN S 0 (x * 2 + 1)) (kk : ∀ S1, FrWr S S1 → XG p l e s m below meth c dC dI cI ad A (k + 1) (n + 6) (762, lv, [.int 1], S1)) : XG p l e s m below meth c dC dI cI ad A k n (757, lv, [], S) := by
  obtain ⟨hst, ⟨hx, hb, hr, hml, hown0, hts0, hX, hbl, hlocks, hgv⟩, hAd, hK, hN, hT, hL⟩ := C
  have hown : s.vm.findClass RL = some m.cls := hown0
  have hA : ∀ q : Nat, s.heap.size ≤ q → A q := by rw [hAd]; exact fun _ h => h
  obtain ⟨S1, t1, t2, t3⟩ := s_tell1 (d := 0) (v := x.toInt) hp (by rw [wdI]; exact hRN) hx9
  obtain ⟨lv9, e9⟩ := s_isNum (d := 4) t1 t2
  intro H locs ls ⟨hP, hD, hS, hl⟩
  show W _ _ _ _ _ _ _ _ _ _ _ _ _ _ _ (F0 m 757 ls [])
  refine lv_aload_n hx hb dL_law_757 rfl (xlook_at hl (i := 1) (v := .ref 0) h1) ?_
  refine lv_iload_n hx hb dL_law_758 rfl (xlook_at hl (i := 3) (v := .int x) h3) ?_
  refine x_aft1 (S := S) (r := (some (.int 1), S1)) (va_runS (As := [.ref (ad 0), .int x]) (rest := []) ⟨hx, hb, hml, hown, hts0⟩ (t_isNum l hst dC dI cI ad H.size 8 (by decide) e9 t2) (va_cwS 2 hts0 g_num rfl rfl rfl (by decide +kernel) ⟨Nat.le_of_ble_eq_true rfl, Nat.le_of_ble_eq_true rfl⟩)
    (wBT.preS hP hK hD hN hT hS (fun q h => by
      rcases h with ⟨k9, x9, h9⟩ | h9
      · exact hD.2 k9 (q, x9) h9
      · exact hA q (Nat.le_trans hS.1 h9))) rfl rfl hl.1 rfl (lv_room (Nat.le_of_ble_eq_true rfl)) dL_law_759 ⟨hk, hn⟩) hD hS hA ?_
  intro H1 locs1 hP1 hD1 hS1
  exact kk S1 t3 H1 locs1 ls ⟨hP1, hD1, hS1, hl⟩
theorem lg_go (C : LwC p l s m meth c L xs dC dI cI ad A) {k n : Nat} (hk : k ≤ 600086) (hn : n ≤ 7301442) {f g : xF} (h : XH SK MT 19 332 soL_law f g) (kk : XG p l e s m below meth c dC dI cI ad A k n g) : XG p l e s m below meth c dC dI cI ad A k n f := by
  obtain ⟨hst, ⟨hx, hb, hr, hml, hown0, hts0, hX, hbl, hlocks, hgv⟩, hAd, hK, hN, hT, hL⟩ := C
  have hown : s.vm.findClass RL = some m.cls := hown0
  have hA : ∀ q : Nat, s.heap.size ≤ q → A q := by rw [hAd]; exact fun _ h => h
  have hza : ∀ w ∈ ZA, w.before #[Value.ref (ad 70)] s = true := fun w h => hts0 w (cinZA w h)
  exact xh_go (own := RL) (cc := cL_law) (y := 332) (d := 19) xskSK xTabLaw xSokLaw ⟨hk, hn⟩ (fun L hL => ⟨by show 19 + 1 ≤ 2048; decide, by show 8 + (L + 11) + 40 * 19 ≤ 84000; omega⟩) hx hb hml hown hza hK hN hA h kk
/-- what holds at the loop's head -/
def LInv (x0 y0 : Int32) (q : List Lq) (x y : Int32) (ra : Bool) (S : xS) : Prop := Sd S (hdB x0 y0 ++ itB ((q.map lqN).flatMap lnI)) ∧ Ini S ∧ Rk x0 y0 q x y ra ∧ ∀ z ∈ q, z.2.1 < 8 ∧ ∀ v, z.2.2.1 = some v → inR v.toInt
theorem LInv.len {x0 y0 x y : Int32} {q : List Lq} {ra : Bool} {S : xS} (h : LInv x0 y0 q x y ra S) (hq : q.length ≤ 48) : (hdB x0 y0 ++ itB ((q.map lqN).flatMap lnI)).length < 6000 := by
  have a1 := hdB_len x0 y0
  have a2 := ls_len (q.map lqN) (fun z hz => by
    obtain ⟨z', hz', rfl⟩ := List.mem_map.mp hz
    exact (h.2.2.2 z' hz').1)
  rw [List.length_map] at a2
  rw [List.length_append]
  omega
theorem LInv.next {x0 y0 x y c9 : Int32} {q : List Lq} {ra : Bool} {S S' : xS} (h : LInv x0 y0 q x y ra S) (s1 : Sd S' (hdB x0 y0 ++ itB ((q.map lqN).flatMap lnI) ++ itB (lnI (lqN (lqC c9))))) (s2 : FrSy S S') : LInv x0 y0 (q ++ [lqC c9]) (if ra = true then x else lqX x y (lqC c9)) (if ra = true then y else lqY x y (lqC c9)) (ra || (lwT (lqC c9).2.1 (lqB y (lqC c9)) && !(lqC c9).2.2.2)) S' := by
  obtain ⟨i1, i2, i3, i4⟩ := h
  refine ⟨?_, i2.of (fun a a0 a1 => s2.1 a a0 a1), ?_, fun z hz => ?_⟩
  · rw [List.map_append]
    show Sd S' (_ ++ itB ((q.map lqN ++ [lqN (lqC c9)]).flatMap lnI))
    rw [ls_app, ← List.append_assoc]
    exact s1
  · cases ra with
    | true =>
      have i5 : evL (x0 * 2 + 1) (y0 * 2 + 1) ((q.map lqN).map lnD) = none := i3
      show evL (x0 * 2 + 1) (y0 * 2 + 1) (((q ++ [lqC c9]).map lqN).map lnD) = none
      rw [List.map_append, List.map_append]
      show evL (x0 * 2 + 1) (y0 * 2 + 1) ((q.map lqN).map lnD ++ [lnD (lqN (lqC c9))]) = none
      rw [evL_app 0 0, i5]
    | false => exact Rk_step i3 (lqC_8 c9) (fun v hv => c31_R (lqC_R c9 v hv))
  · rcases List.mem_append.mp hz with hz | hz
    · exact i4 z hz
    · obtain rfl : z = lqC c9 := List.mem_singleton.mp hz
      exact ⟨lqC_8 c9, lqC_R c9⟩
theorem rnAt {S : xS} {v0 v1 : Int} {ls : List Ln} {w : Int32} {h : Nat} (a : AtN S v0 v1 ls w h) : S.1 0 19 = 1 := a.2.1.2.2.2.2.2.2
theorem c31_in {x : Int32} (h : c31 x = x) : inR x.toInt := by
  rw [← h]
  exact shr_1 _
set_option maxHeartbeats 8000000 in
set_option maxRecDepth 100000 in
/-- behind the loop -/
theorem lg_fin (C : LwC p l s m meth c L xs dC dI cI ad A) {k n : Nat} (hk : k + 4 ≤ 600086) (hn : n + 24 ≤ 7301442) {x0 y0 x y nn kk0 : Int32} {ra : Bool} {q : List Lq} {S : xS} {p8 p9 p10 p11 p12 p13 p14 p15 p16 : Option Value} (h0 : inR x0.toInt) (h1 : inR y0.toInt) (hq : q.length ≤ 48) (hI : LInv x0 y0 q x y ra S) : XG p l e s m below meth c dC dI cI ad A k n (645, LW x y nn (if ra = true then 1 else 0) kk0 p8 p9 p10 p11 p12 p13 p14 p15 p16, [], S) := by
  have hlen := hI.len hq
  obtain ⟨i1, i2, i3, i4⟩ := hI
  have hln : (q.map lqN).length ≤ 60 := by rw [List.length_map]; omega
  have hok : ∀ z ∈ q.map lqN, lnOk z := by
    intro z hz v hv
    obtain ⟨z', hz', rfl⟩ := List.mem_map.mp hz
    have hv : z'.2.2.1.map Int32.toInt = some v := hv
    cases ho : z'.2.2.1 with
    | none => rw [ho] at hv; cases hv
    | some w => rw [ho] at hv; cases hv; exact (i4 z' hz').2 w ho
  have hbs := (prB_hd x0 y0 (q.map lqN)).symm
  cases ra with
  | true =>
    have hu : evL (wd x0.toInt) (wd y0.toInt) ((q.map lqN).map lnD) = none := by rw [wdI, wdI]; exact i3
    obtain ⟨S1, z1⟩ := lw_eD (d := 0) (x := x) (y := y) (n := nn) (p8 := p8) (p9 := p9) (p10 := p10) (p11 := p11) (p12 := p12) (p13 := p13) (p14 := p14) (p15 := p15) (p16 := p16) (k := kk0) i1 hlen hbs i2 h0 h1 hok hln hu
    exact lg_go C (by omega) (by omega) z1 (lg_end C (by omega) (by omega) rfl)
  | false =>
    obtain ⟨j1, j2, j3⟩ : evL (x0 * 2 + 1) (y0 * 2 + 1) ((q.map lqN).map lnD) = some (x * 2 + 1, y * 2 + 1) ∧ c31 x = x ∧ c31 y = y := i3
    have hu : evL (wd x0.toInt) (wd y0.toInt) ((q.map lqN).map lnD) = some (x * 2 + 1, y * 2 + 1) := by rw [wdI, wdI]; exact j1
    have hxR := c31_in j2
    obtain ⟨S1, a1, a2⟩ := lw_e0 (d := 0) (x := x) (y := y) (n := nn) (p8 := p8) (p9 := p9) (p10 := p10) (p11 := p11) (p12 := p12) (p13 := p13) (p14 := p14) (p15 := p15) (p16 := p16) (k := kk0) i1 hlen hbs i2 h0 h1 hok hln hu
    refine lg_go C (by omega) (by omega) a2 ?_
    refine lg_num C (x := x) (by omega) (by omega) rfl rfl hxR (rnAt a1) a1.1 (fun S2 f2 => ?_)
    obtain ⟨S3, b1, b2⟩ := lw_e1 (d := 0) (h := 0) (x := x) (y := y) (n := nn) (p8 := p8) (p9 := p9) (p10 := p10) (p11 := p11) (p12 := p12) (p13 := p13) (p14 := p14) (p15 := p15) (p16 := p16) (by decide) a1 f2 hln hu
    refine lg_go C (by omega) (by omega) b2 ?_
    refine lg_num C (x := x) (by omega) (by omega) rfl rfl hxR (rnAt b1) b1.1 (fun S4 f4 => ?_)
    obtain ⟨S5, c1, c2⟩ := lw_e1 (d := 0) (h := 1) (x := x) (y := y) (n := nn) (p8 := p8) (p9 := p9) (p10 := p10) (p11 := p11) (p12 := p12) (p13 := p13) (p14 := p14) (p15 := p15) (p16 := p16) (by decide) b1 f4 hln hu
    refine lg_go C (by omega) (by omega) c2 ?_
    refine lg_num C (x := x) (by omega) (by omega) rfl rfl hxR (rnAt c1) c1.1 (fun S6 f6 => ?_)
    obtain ⟨S7, d1⟩ := lw_e2 (d := 0) (x := x) (y := y) (n := nn) (p8 := p8) (p9 := p9) (p10 := p10) (p11 := p11) (p12 := p12) (p13 := p13) (p14 := p14) (p15 := p15) (p16 := p16) c1 f6
    refine lg_go C (by omega) (by omega) d1 ?_
    exact lg_end C (by omega) (by omega) rfl
set_option maxHeartbeats 8000000 in
set_option maxRecDepth 100000 in
theorem lg_turn (C : LwC p l s m meth c L xs dC dI cI ad A) {k0 n0 : Nat} (hk : k0 + 4 ≤ 600086) (hn0 : n0 + 24 ≤ 7301442) {x0 y0 x y : Int32} (h0 : inR x0.toInt) (h1 : inR y0.toInt) {nn k : Nat} (hn : nn ≤ 50) (hnL : nn ≤ L) (h2 : 2 ≤ k) (hk5 : k ≤ 50) {ra : Bool} {q : List Lq} {S : xS} {p8 p9 p10 p11 p12 p13 p14 p15 p16 : Option Value} (hq : q.length + 2 = k) (hI : LInv x0 y0 q x y ra S)
    (ih : k < nn → ∀ (x y : Int32) (ra : Bool) (q : List Lq) (S : xS) (p8 p9 p10 p11 p12 p13 p14 p15 p16 : Option Value), q.length + 2 = k + 1 → LInv x0 y0 q x y ra S → XG p l e s m below meth c dC dI cI ad A k0 n0 (93, LW x y (nI nn) (if ra = true then 1 else 0) (nI (k + 1)) p8 p9 p10 p11 p12 p13 p14 p15 p16, [], S)) :
    XG p l e s m below meth c dC dI cI ad A k0 n0 (93, LW x y (nI nn) (if ra = true then 1 else 0) (nI k) p8 p9 p10 p11 p12 p13 p14 p15 p16, [], S) := by
  have C0 := C
  obtain ⟨hst, ⟨hx, hb, hr, hml, hown0, hts0, hX, hbl, hlocks, hgv⟩, hAd, hK, hN, hT, hL⟩ := C0
  have hbA : ¬ A (ad 70) := by rw [hAd]; exact Nat.not_le.mpr hbl
  intro H locs ls ⟨hP, hD, hS, hl⟩
  show W _ _ _ _ _ _ _ _ _ _ _ _ _ _ _ (F0 m 93 ls [])
  refine lv_iload hx hb dL_law_93 (xlook_at hl (i := 7) (v := .int (nI k)) rfl) ?_
  refine lv_iload hx hb dL_law_95 (xlook_at hl (i := 5) (v := .int (nI nn)) rfl) ?_
  refine lv_icmp_ge (tgt := 645) hx hb dL_law_97 (by decide) (fun c_1 => ?_) (fun c_1 => ?_)
  · exact lg_fin C hk hn0 h0 h1 (by omega) hI H locs ls ⟨hP, hD, hS, hl⟩
  · have hlt : k < nn := Nat.not_le.mp (fun h => c_1 (nI_le h (by omega)))
    refine lv_aload_n hx hb dL_law_100 rfl (xlook_at hl (i := 0) (v := .ref 70) rfl) ?_
    refine lv_iload hx hb dL_law_101 (xlook_at hl (i := 7) (v := .int (nI k)) rfl) ?_
    refine va_sld (b := ad 70) (i := nI k) hx hb hX hbl hbA hS (vp_in_nI (n := k) (by omega) (by omega)) dL_law_103 ?_
    generalize xs (nI k).toNatClampNeg = c9
    have hlen := hI.len (by omega)
    obtain ⟨S', q8, q9, q10, q11, q12, q13, q14, q15, q16, s1, s2, s3⟩ := lw_line (d := 13) (x := x) (y := y) (n := nI nn) (k := nI k) (c := c9) (ra := ra) (p8 := p8) (p9 := p9) (p10 := p10) (p11 := p11) (p12 := p12) (p13 := p13) (p14 := p14) (p15 := p15) (p16 := p16) hI.1 (by omega)
    refine lg_go C (f := (104, LW x y (nI nn) (if ra = true then 1 else 0) (nI k) p8 p9 p10 p11 p12 p13 p14 p15 p16, [.int c9], S)) (by omega) (by omega) s3 ?_ H locs ls ⟨hP, hD, hS, hl⟩
    rw [nI_1]
    exact ih hlt _ _ _ (q ++ [lqC c9]) S' q8 q9 q10 q11 q12 q13 q14 q15 q16 (by rw [List.length_append, List.length_singleton]; omega) (hI.next s1 s2)
theorem lg_loop (C : LwC p l s m meth c L xs dC dI cI ad A) {k0 n0 : Nat} (hk : k0 + 4 ≤ 600086) (hn0 : n0 + 24 ≤ 7301442) {x0 y0 : Int32} (h0 : inR x0.toInt) (h1 : inR y0.toInt) {nn : Nat} (hn : nn ≤ 50) (hnL : nn ≤ L) : ∀ (f k : Nat), nn ≤ k + f → 2 ≤ k → k ≤ 50 → ∀ (x y : Int32) (ra : Bool) (q : List Lq) (S : xS) (p8 p9 p10 p11 p12 p13 p14 p15 p16 : Option Value), q.length + 2 = k → LInv x0 y0 q x y ra S → XG p l e s m below meth c dC dI cI ad A k0 n0 (93, LW x y (nI nn) (if ra = true then 1 else 0) (nI k) p8 p9 p10 p11 p12 p13 p14 p15 p16, [], S)
  | 0, k, hf, h2, h5, x, y, ra, q, S, p8, p9, p10, p11, p12, p13, p14, p15, p16, hq, hI => lg_turn C hk hn0 h0 h1 hn hnL h2 h5 hq hI (fun h => absurd h (by omega))
  | f + 1, k, hf, h2, h5, x, y, ra, q, S, p8, p9, p10, p11, p12, p13, p14, p15, p16, hq, hI => lg_turn C hk hn0 h0 h1 hn hnL h2 h5 hq hI (fun h x y ra q S p8 p9 p10 p11 p12 p13 p14 p15 p16 hq hI => lg_loop C hk hn0 h0 h1 hn hnL f (k + 1) (by omega) (by omega) (by omega) x y ra q S p8 p9 p10 p11 p12 p13 p14 p15 p16 hq hI)
end LG
