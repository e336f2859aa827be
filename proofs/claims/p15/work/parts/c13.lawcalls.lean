/-! The law's own calls. -/
section C13
variable {p : Program} {l : Launch} {e : Env} {R : Jvm.Room} {s : State} {m : MethodId} {args : Array Value} {below : List Frame} {meth : Method} {c : Code} {H : Heap} {locs : List Loc} {cells slots mc ms : Nat} {Q : State → Prop}
variable {pc : Nat} {ls : Array Slot} {rest st0 : List Value} {D : va_G} {cl : List vw_C} {A : Nat → Prop} {H0 : Heap} {ws : va_W} {a : Array Value}
theorem va_n0 (hP : va_P D cl ws H) {H1 : Heap} (hk : ∀ q : Nat, q < H.size → ¬ va_A [] H.size q → H1[q]? = H[q]?) : va_P D cl ws H1 :=
  hP.kept (fun k q hq => hk q.1 (vx_lt hP hq) (fun h => absurd (va_A0 h) (Nat.not_le.mpr (vx_lt hP hq))))
/-- a call that writes nothing that was there -/
theorem aft_k {S : Type} {post : Int32 → S → Prop} {B : S → State → Prop} (hr : va_Run p l e R s m args below meth c H locs cells slots mc ms (F0 m pc ls st0) rest (va_Qi post B (va_A [] H.size) a) (va_A [] H.size)) (hP : va_P D cl ws H) (hS : va_S A H0 H locs) (hA : ∀ q, H0.size ≤ q → A q)
    (kk : ∀ (r : Int32) (u : S) (H1 : Heap) (locs1 : List Loc), post r u → va_P D cl ws H1 → va_S A H0 H1 locs1 → W p l e R s m args below meth c H1 locs1 (cells + mc) (slots + ms) Q (F0 m (pc + 3) ls (.int r :: rest))) : W p l e R s m args below meth c H locs cells slots Q (F0 m pc ls st0) := by
  have hF : ∀ q, va_A [] H.size q → A q := fun q h => hA q (Nat.le_trans hS.1 (va_A0 h))
  refine va_calli hr hS (fun q _ h => hF q h) hF (fun r u t H1 locs1 ht hvm hw hB hz1 hk1 hS1 => ?_)
  exact kk r u H1 locs1 hw (va_n0 hP hk1) hS1
theorem aft_kx {S : Type} {post : Int32 → S → Prop} {B : S → State → Prop} (hr : vx_Run p l e R s m args below meth c H locs cells slots mc ms (F0 m pc ls st0) rest (va_Qi post B (va_A [] H.size) a) (noX (va_A [] H.size)) (va_A [] H.size)) (hP : va_P D cl ws H) (hS : va_S A H0 H locs) (hA : ∀ q, H0.size ≤ q → A q)
    (kk : ∀ (r : Int32) (u : S) (H1 : Heap) (locs1 : List Loc), post r u → va_P D cl ws H1 → va_S A H0 H1 locs1 → W p l e R s m args below meth c H1 locs1 (cells + mc) (slots + ms) Q (F0 m (pc + 3) ls (.int r :: rest))) : W p l e R s m args below meth c H locs cells slots Q (F0 m pc ls st0) := by
  have hF : ∀ q, va_A [] H.size q → A q := fun q h => hA q (Nat.le_trans hS.1 (va_A0 h))
  refine vx_calli hr hS (fun q _ h => hF q h) hF (fun q _ h => hF q h) (fun E ce q9 u t H1 locs1 ht hvm hp => absurd hp id) (fun r u t H1 locs1 ht hvm hw hB hz1 hk1 hS1 => ?_)
  exact kk r u H1 locs1 hw (va_n0 hP hk1) hS1
theorem x_aft1 {ad : Nat → Nat} {cA : Nat → ClassId} {sk : List xC} {tl : List FieldType} {S : xS} {r : xO}
    (hr : va_Run p l e R s m args below meth c H locs cells slots mc ms (F0 m pc ls st0) rest (xQ D cl cA tl ad sk r (va_A (xW ad cA S sk) H.size) a) (va_A (xW ad cA S sk) H.size))
    (hD : va_D A (xW ad cA S sk)) (hS : va_S A H0 H locs) (hA : ∀ q, H0.size ≤ q → A q)
    (kk : ∀ (H1 : Heap) (locs1 : List Loc), va_P D cl (xW ad cA r.2 sk) H1 → va_D A (xW ad cA r.2 sk) → va_S A H0 H1 locs1 → W p l e R s m args below meth c H1 locs1 (cells + mc) (slots + ms) Q (F0 m (pc + 3) ls ((r.1.map (xrv ad)).toList ++ rest))) : W p l e R s m args below meth c H locs cells slots Q (F0 m pc ls st0) := by
  have hf : ∀ q, va_A (xW ad cA S sk) H.size q → A q := by
    rintro q (⟨k, x, h⟩ | h)
    · exact hD.2 k (q, x) h
    · exact hA q (Nat.le_trans hS.1 h)
  intro T hT X
  obtain ⟨v, st₀, t, T', L9, h0, X', hL, e1, e2, ⟨⟨hv, hP1, hK1, hD1⟩, hz, hk⟩, st⟩ := hr T hT X
  have hv : v = r.1.map (xrv ad) := by cases hv; rfl
  subst hv
  rw [h0] at hz hk
  obtain ⟨t2, a1, b1⟩ := kk T'.heap (locs ++ L9) (by rw [e1]; exact hP1) (hD1.weaken (fun k q _ h => hf q.1 h))
    ⟨Nat.le_trans hS.1 (by rw [e1]; exact hz), fun q h1 h2 => by rw [e1, hk q (Nat.lt_of_lt_of_le h1 hS.1) (fun z => h2 (hf q z))]; exact hS.2.1 q h1 h2, fun q hq => by
      rcases List.mem_append.mp hq with h | h
      · exact hS.2.2 q h
      · exact hf _ (hL q h)⟩ T' rfl X'
  exact ⟨t2, st t2 a1, b1⟩
end C13
/-- the script's cell, 0 behind its end -/
def zsCell : List Cond := [.code yL_cell cL_cell 2 (some .int)]
def Pcell (b L : Nat) (xs : Nat → Int32) (sz : Nat) (U : State) : Prop := U.heap.size = sz ∧ va_X b L xs U U.heap
set_option maxHeartbeats 8000000 in
set_option maxRecDepth 100000 in
theorem c_cell (l : Launch) {b L j sz : Nat} {xs : Nat → Int32} (hbz : b < sz) (hL : L < 2 ^ 31) (hj : j < 2 ^ 31) : Met l yL_cell zsCell ({ frames := 1, cells := 0, slots := 0, locals := 12 } : Jvm.Room) (va_Pc [.ref b, .int (nI j)] (Pcell b L xs sz)) (va_Qi (fun (r : Int32) (_ : Unit) => r = if j < L then xs j else 0) (fun _ _ => True) (va_A [] sz)) 0 0 (va_A [] sz) := by
  refine Met.ofW (cc := cL_cell) (maxL := 2) (ret := (some .int)) (by decide) rfl ?_
  intro p e s m args below meth c s₁ B hml hv
  obtain ⟨rfl, hsz, hX⟩ := hv
  have hx := B.exec
  have hb := B.bytes
  have hr := B.returns
  subst hsz
  generalize hAe : va_A [] s.heap.size = A
  have hbA : ¬ A b := by rw [← hAe]; exact fun h => absurd (va_A0 h) (Nat.not_le.mpr hbz)
  have hS : va_S A s.heap s.heap [] := va_S.rf
  have hl := lv_entry ([.ref b, .int (nI j)]) (n := 2) (Nat.le_of_ble_eq_true rfl)
  rw [lg_entry_eq]
  generalize (lg_sl ([.ref b, .int (nI j)]) ++ List.replicate (2 - (lg_sl ([.ref b, .int (nI j)])).length) Slot.unset).toArray = ls at hl ⊢
  have hl : lv_has ls 2 [(0, .ref b), (1, .int (nI j))] := hl
  refine lv_iload_n hx hb dL_cell_0 rfl (lv_at hl 1 rfl) ?_
  refine lv_aload_n hx hb dL_cell_1 rfl (lv_at hl 0 rfl) ?_
  refine va_slen hx hb hX hbz hbA hS dL_cell_2 ?_
  refine lv_icmp_ge (tgt := 12) hx hb dL_cell_3 (by decide) (fun c_1 => ?_) (fun c_1 => ?_)
  · have hge : L ≤ j := (nI_leI hL hj).mp c_1
    refine lv_iconst (v := 0) hx hb dL_cell_12 (by decide) ?_
    exact W.iret (v := 0) hx hb hr (fun t ht hW => ⟨⟨0, (), rfl, (if_neg (Nat.not_lt.mpr hge)).symm, trivial⟩, hS.F ht⟩) hS.2.2 dL_cell_13
  · have hlt : j < L := Nat.not_le.mp (fun h => c_1 ((nI_leI hL hj).mpr h))
    refine lv_aload_n hx hb dL_cell_6 rfl (lv_at hl 0 rfl) ?_
    refine lv_iload_n hx hb dL_cell_7 rfl (lv_at hl 1 rfl) ?_
    refine va_sld (i := nI j) hx hb hX hbz hbA hS (vp_in_nI hlt hL) dL_cell_8 ?_
    rw [nI_clamp hj]
    refine lv_goto (tgt := 13) hx hb dL_cell_9 (by decide) ?_
    exact W.iret (v := xs j) hx hb hr (fun t ht hW => ⟨⟨xs j, (), rfl, (if_pos hlt).symm, trivial⟩, hS.F ht⟩) hS.2.2 dL_cell_13
theorem Pcell.preS {s : State} {A : Nat → Prop} {b L : Nat} {xs : Nat → Int32} {H : Heap} {locs : List Loc} {As : List Value} (hX : va_X b L xs s s.heap) (hbl : b < s.heap.size) (hbA : ¬ A b) (hS : va_S A s.heap H locs) : PreS s H (va_Pc As (Pcell b L xs H.size)) As :=
  ⟨fun a U g mk q => ⟨q.1, q.2.1, va_X.moved (u := U) (Vm.Alike.refl U.vm) q.2.2⟩, fun U hU hW => ⟨rfl, by rw [hU], by rw [hU]; exact (hX.kept (hS.2.1 b hbl hbA)).moved hW.alike⟩⟩
theorem xskSK : xSk [.int, .byte, .long] SK := by
  intro i t n h
  have hall : SK.all (fun c => match c with | .inl q => decide (q.1 < 3) | .inr _ => true) = true := by decide +kernel
  have := of_decide_eq_true (List.all_eq_true.mp hall _ (List.mem_of_getElem? h))
  dsimp only at this
  match t, this with
  | 0, _ => exact ⟨rfl, by decide⟩
  | 1, _ => exact ⟨rfl, by decide⟩
  | 2, _ => exact ⟨rfl, by decide⟩
def skF (i : Nat) : List (Nat ⊕ Nat) := match SK[i]? with | some (.inr q) => q.2 | _ => []
theorem fmA {α : Type} {ws : List α} {i : Nat} {a : α} (h1 : ws[i]? = some a) : [i].filterMap (fun i => ws[i]?) = [a] := by simp [h1]
theorem fnA {α : Type} {ws : List α} {i : Nat} {a : α} (h1 : ws[i]? = some a) : [i].map (fun i => ws[i]?) = [a].map some := by simp [h1]
theorem fmB {α : Type} {ws : List α} {i j : Nat} {a b : α} (h1 : ws[i]? = some a) (h2 : ws[j]? = some b) : [i, j].filterMap (fun i => ws[i]?) = [a, b] := by simp [h1, h2]
theorem fnB {α : Type} {ws : List α} {i j : Nat} {a b : α} (h1 : ws[i]? = some a) (h2 : ws[j]? = some b) : [i, j].map (fun i => ws[i]?) = [a, b].map some := by simp [h1, h2]
set_option maxRecDepth 100000 in
theorem sk_0 {ad : Nat → Nat} {cI : Nat → ClassId} {S : xS} : (xW ad cI S SK)[0]? = some (ad 0, .inr (12, xfs ad S 0 (skF 0))) := xW_get (sk := SK) (i := 0) (c := .inr (12, skF 0)) rfl
set_option maxRecDepth 100000 in
theorem sk_12 {ad : Nat → Nat} {cI : Nat → ClassId} {S : xS} : (xW ad cI S SK)[12]? = some (ad 12, .inr (11, xfs ad S 12 (skF 12))) := xW_get (sk := SK) (i := 12) (c := .inr (11, skF 12)) rfl
def zsN : List Cond := .code yL_isNumber cL_isNumber 6 (some .boolean) :: (wtZA ++ va_wsS RL 77 yL_resultAt zsTlres)
set_option maxRecDepth 100000 in
theorem gzN : GoodIn zsN (va_wsS RL 77 yL_resultAt zsTlres) := goodIn_sub (fun _ h => List.mem_cons_of_mem _ (List.mem_append_right _ h)) (by decide +kernel)
abbrev tyA (cI : Nat → ClassId) : List (ClassId × FieldType) := xtys cI [.int, .byte, .long]
set_option maxHeartbeats 8000000 in
set_option maxRecDepth 100000 in
/-- isNumber: what stands behind the last byte too -/
theorem t_isNum (l : Launch) (hst : l.stackTraces = false) (dC : Nat → ClassId) (dI : Nat → Nat → Nat) (cI : Nat → ClassId) (ad : Nat → Nat) (sz d : Nat) (hd : d ≤ 100) {S S1 : xS} {x : Int32} {lv : xLV} (hn : XH SK MT d 330 soL_isNumber (0, [some (.ref 0), some (.int x), none, none, none, none], [], S) (90, some (.ref 0) :: some (.int x) :: some (.int (nI (nmB x.toInt).length)) :: lv, [], S1)) (hst1 : RSt S1 (nmB x.toInt)) :
    Met l yL_isNumber zsN ({ frames := 200, cells := 1, slots := 6, locals := 8000 } : Jvm.Room) (va_Pc [.ref (ad 0), .int x] (wBT (dC, dI) vwCl nestM strL (tyA cI) (xW ad cI S SK) sz)) (xQ (dC, dI) vwCl cI [.int, .byte, .long] ad SK (some (.int 1), S1) (va_A (xW ad cI S SK) sz)) 1 6 (va_A (xW ad cI S SK) sz) := by
  refine va_MetF (cc := cL_isNumber) (maxL := 6) (ret := (some .boolean)) (by decide) rfl ?_
  intro p e s m args below meth c s₁ B hml hv
  obtain ⟨rfl, ⟨hsz, hP, hK, hD0, hN⟩, hT⟩ := hv
  have hx := B.exec
  have hb := B.bytes
  have hr := B.returns
  have hts := atoms_spec (ws := zsN) B.pre
  have hown : s.vm.findClass RL = some m.cls := findClass_of_methodNamed B.named
  subst hsz
  have hD := hD0.self (sz := s.heap.size)
  generalize hAe : va_A (xW ad cI S SK) s.heap.size = A at hT hD ⊢
  have hA : ∀ q, s.heap.size ≤ q → A q := fun q h => by rw [← hAe]; exact Or.inr h
  have hl := lv_entry ([.ref (ad 0), .int x]) (n := 6) (Nat.le_of_ble_eq_true rfl)
  rw [lg_entry_eq]
  have hza : ∀ w ∈ ZA, w.before #[Value.ref (ad 0), .int x] s = true := fun w h => hts w (List.mem_cons_of_mem _ (List.mem_append_left _ h))
  refine xh_go (own := RL) (cc := cL_isNumber) (y := 330) xskSK xTabNum xSokNum ⟨Nat.zero_le _, Nat.zero_le _⟩ (fun L hL => ⟨by show d + 1 ≤ 200; omega, by show 8 + (L + 11) + 40 * d ≤ 8000; omega⟩) hx hb hml hown hza hK hN hA hn ?_ s.heap [] _ ⟨hP, hD, va_S.rf, lv_less hl (fun q hq => hq)⟩
  intro H locs ls ⟨hP, hD, hS, hl⟩
  show W _ _ _ _ _ _ _ _ _ _ _ _ _ _ _ (F0 m 90 ls [])
  have hz : S1.1 12 10 = nI (nmB x.toInt).length := hst1.1
  have hle := hst1.2.1
  refine lv_aload_n hx hb dL_isNumber_90 rfl (xlook_at hl (i := 0) (v := .ref 0) rfl) ?_
  refine lv_iload_n hx hb dL_isNumber_91 rfl (xlook_at hl (i := 2) (v := .int (nI (nmB x.toInt).length)) rfl) ?_
  refine aft_kx (vx_runSX (As := [.ref (ad 0), .int (nI (nmB x.toInt).length)]) (rest := []) ⟨hx, hb, hml, hown, hts⟩ (t_llres l hst dC dI H.size (ad 0) (ad 12) (xfs ad S1 0 (skF 0)) (xfs ad S1 12 (skF 12)) (S1.1 12 10) (nI (nmB x.toInt).length) (xfs_get (d := .inr 12) rfl) (xfs_get (d := .inl 0) rfl) (nI_pos (by omega)) (by rw [hz]; exact nI_nlt (Nat.le_refl _) (by omega))) (vx_cwSW 2 hts gzN rfl rfl rfl (by decide +kernel) ⟨Nat.le_of_ble_eq_true rfl, Nat.le_of_ble_eq_true rfl⟩)
    (wBT.preS (hP.sub (ws' := [(ad 0, .inr (12, xfs ad S1 0 (skF 0))), (ad 12, .inr (11, xfs ad S1 12 (skF 12)))]) [0, 12] (fmB sk_0 sk_12)) (va_K0 hK) (hD.sub (ws' := [(ad 0, .inr (12, xfs ad S1 0 (skF 0))), (ad 12, .inr (11, xfs ad S1 12 (skF 12)))]) [0, 12] (by decide) (fnB sk_0 sk_12)) hN hT hS (va_free (wc := [(ad 0, .inr (12, xfs ad S1 0 (skF 0))), (ad 12, .inr (11, xfs ad S1 12 (skF 12)))]) hD hS hA [0, 12] (fnB sk_0 sk_12))) rfl rfl hl.1 rfl (lv_room (Nat.le_of_ble_eq_true rfl)) dL_isNumber_92 ⟨Nat.le_of_ble_eq_true rfl, Nat.le_of_ble_eq_true rfl⟩) hP hS hA ?_
  intro r u H1 locs1 hr9 hP1 hS1
  obtain rfl : r = -9 := hr9
  refine lv_bipush (v := -9) hx hb dL_isNumber_95 (by decide) ?_
  refine lv_icmp_ne (tgt := 104) hx hb dL_isNumber_97 (by decide) (fun c_1 => absurd rfl c_1) (fun _ => ?_)
  refine lv_iconst (v := 1) hx hb dL_isNumber_100 (by decide) ?_
  refine lv_goto (tgt := 105) hx hb dL_isNumber_101 (by decide) ?_
  exact W.zret (v := 1) hx hb hr (by decide) (fun t ht hW => ⟨⟨rfl, wE.of ht hW hP1 hK hD⟩, hS1.F ht⟩) hS1.2.2 dL_isNumber_105
