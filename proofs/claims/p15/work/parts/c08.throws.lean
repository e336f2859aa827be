/-! What is thrown and caught in the law's last questions. -/
/-! Exceptions: what a throw needs of the world; methods that throw, and their callers. -/
def castL : List String := ["java/lang/IllegalStateException", "java/lang/IllegalArgumentException", "java/lang/IndexOutOfBoundsException"]
def decL : List MethodName := [⟨"java/lang/RuntimeException", "<init>", "(Ljava/lang/String;)V"⟩, ⟨"java/lang/Exception", "<init>", "(Ljava/lang/String;)V"⟩, ⟨"java/lang/Throwable", "<init>", "(Ljava/lang/String;)V"⟩]
def DS (U : State) : Prop := ∀ x ∈ decL, va_Nw (.declares x) U
def SR (L : List (String × Nat × String)) (U : State) : Prop := ∀ q ∈ L, ∃ a, vk_R q.1 q.2.1 q.2.2 a U
def CS (U : State) : Prop := ∀ x ∈ castL, va_Nw (.castable x x) U
def NCS (U : State) : Prop := va_Nc "java/lang/IllegalStateException" "java/lang/IllegalArgumentException" U ∧ va_Nc "java/lang/IllegalStateException" "java/lang/IndexOutOfBoundsException" U
/-- the statics of Throwable that a throw reads, the texts, that the classes can be caught -/
def TW (L : List (String × Nat × String)) (A : Nat → Prop) (U : State) (H : Heap) : Prop := vx_Zq Bundle.tN "UNASSIGNED_STACK" Bundle.steD A U H ∧ vx_Zq Bundle.tN "SUPPRESSED_SENTINEL" Bundle.listD A U H ∧ SR L U ∧ CS U ∧ NCS U ∧ DS U
theorem TW.same {L : List (String × Nat × String)} {A : Nat → Prop} {u U : State} {H : Heap} (hvm : u.vm = U.vm) (h : TW L A u H) : TW L A U H := by
  have ha : u.vm.Alike U.vm := by rw [hvm]; exact Vm.Alike.refl _
  exact ⟨h.1.moved ha, h.2.1.moved ha, fun q hq => (h.2.2.1 q hq).imp fun a z => vk_R.same hvm.symm z, fun x hx => va_Nw.same rfl hvm (h.2.2.2.1 x hx), ⟨va_Nc.moved ha h.2.2.2.2.1.1, va_Nc.moved ha h.2.2.2.2.1.2⟩, fun x hx => va_Nw.same rfl hvm (h.2.2.2.2.2 x hx)⟩
theorem TW.warm {L : List (String × Nat × String)} {A : Nat → Prop} {s U : State} {H : Heap} (hW : s.WarmedH U.vm) (h : TW L A s H) : TW L A U H :=
  ⟨h.1.moved hW.alike, h.2.1.moved hW.alike, fun q hq => (h.2.2.1 q hq).imp fun a z => vk_R.warm hW z, fun x hx => va_Nw.warmC hW (h.2.2.2.1 x hx), ⟨va_Nc.moved hW.alike h.2.2.2.2.1.1, va_Nc.moved hW.alike h.2.2.2.2.1.2⟩, fun x hx => va_Nw.warmD hW (h.2.2.2.2.2 x hx)⟩
theorem TW.kept {L : List (String × Nat × String)} {A : Nat → Prop} {U : State} {H H1 : Heap} (h : TW L A U H) (hq : ∀ a : Nat, a < H.size → ¬ A a → H1[a]? = H[a]?) : TW L A U H1 := ⟨h.1.kept hq, h.2.1.kept hq, h.2.2⟩
theorem TW.narrow {L : List (String × Nat × String)} {A B : Nat → Prop} {U : State} {H : Heap} (h : TW L A U H) (hAB : ∀ q, B q → A q) : TW L B U H := ⟨h.1.narrow hAB, h.2.1.narrow hAB, h.2.2⟩
def wBT (D : va_G) (cl : List vw_C) (L : List (String × Nat × MethodName × String)) (SL : List (String × Nat × String)) (tys : List (ClassId × FieldType)) (ws : va_W) (sz : Nat) (U : State) : Prop := wB D cl L tys ws sz U ∧ TW SL (va_A ws sz) U U.heap
theorem wBT.blind {D : va_G} {cl : List vw_C} {L : List (String × Nat × MethodName × String)} {SL : List (String × Nat × String)} {tys : List (ClassId × FieldType)} {ws : va_W} {sz : Nat} {As : List Value} : FrameBlind (va_Pc As (wBT D cl L SL tys ws sz)) := fun a U g mk q => by
  obtain ⟨q0, q1, q2⟩ := q
  obtain ⟨h0, h1⟩ := wB.blind a U g mk ⟨q0, q1⟩
  exact ⟨q0, h1, TW.same (u := U) rfl q2⟩
section
variable {D : va_G} {cl : List vw_C} {L : List (String × Nat × MethodName × String)} {SL : List (String × Nat × String)} {tys : List (ClassId × FieldType)} {ws : va_W} {s : State} {H : Heap} {locs : List Loc} {As : List Value} {A : Nat → Prop}
theorem wBT.start (hP : va_P D cl ws H) (hK : va_K D cl tys s) (hD : va_D A ws) (hN : NW L s) (hT : TW SL A s s.heap) (hS : va_S A s.heap H locs) (hF : ∀ q, va_A ws H.size q → A q) (U : State) (hU : U.heap = H) (hW : s.WarmedH U.vm) : va_Pc As (wBT D cl L SL tys ws H.size) As.toArray U :=
  ⟨rfl, (wB.start (As := As) hP hK hD hN U hU hW).2, by rw [hU]; exact ((hT.kept hS.2.1).narrow hF).warm hW⟩
theorem wBT.preS (hP : va_P D cl ws H) (hK : va_K D cl tys s) (hD : va_D A ws) (hN : NW L s) (hT : TW SL A s s.heap) (hS : va_S A s.heap H locs) (hF : ∀ q, va_A ws H.size q → A q) : PreS s H (va_Pc As (wBT D cl L SL tys ws H.size)) As := ⟨wBT.blind, wBT.start hP hK hD hN hT hS hF⟩
theorem wBT.preV {b : Nat} (hP : va_P D cl ws H) (hK : va_K D cl tys s) (hD : va_D A ws) (hN : NW L s) (hT : TW SL A s s.heap) (hS : va_S A s.heap H locs) (hF : ∀ q, va_A ws H.size q → A q) (ci q0 : Nat) {fs : List Value} {q : vw_C} (hc : cl[ci]? = some q) (he : ws[q0]? = some (b, .inr (ci, fs))) : PreV s H q.1 b (va_Pc (.ref b :: As) (wBT D cl L SL tys ws H.size)) As :=
  ⟨wBT.blind, va_recv hK hP hc he, wBT.start hP hK hD hN hT hS hF⟩
end
theorem vF {A : Nat → Prop} {s t : State} {H : Heap} {locs : List Loc} (hS : va_S A s.heap H locs) (h1 : H.size ≤ t.heap.size) (h2 : ∀ q : Nat, q < H.size → t.heap[q]? = H[q]?) : va_F A s t :=
  ⟨Nat.le_trans hS.1 h1, fun q hq ha => (h2 q (Nat.lt_of_lt_of_le hq hS.1)).trans (hS.2.1 q hq ha)⟩
abbrev noQ (A : Nat → Prop) : Array Value → State → Outcome → State → Prop := va_Qi (fun (_ : Int32) (_ : Unit) => False) (fun _ _ => True) A
abbrev isX (E0 : String) (A : Nat → Prop) : String → State → State → Prop := vx_X (fun _ : Unit => True) (fun E _ _ => E = E0) A
abbrev noX (A : Nat → Prop) : String → State → State → Prop := vx_X (fun _ : Unit => False) (fun _ _ _ => True) A
/-- the rest of a world stays where a callee has thrown -/
theorem va_rest {A0 : Nat → Prop} {D : va_G} {cl : List vw_C} {ws wc wr : va_W} {H H1 : Heap} (hP : va_P D cl ws H) (hD : va_D A0 ws) (isC isR : List Nat) (hC : isC.map (fun i => ws[i]?) = wc.map some) (hR : isR.map (fun i => ws[i]?) = wr.map some) (hn : va_nd isR = true) (hdis : ∀ i ∈ isR, i ∉ isC) (hk : ∀ q : Nat, q < H.size → ¬ va_A wc H.size q → H1[q]? = H[q]?) (hs : H.size ≤ H1.size) (hF : ∀ q, va_A wc H.size q → A0 q) : va_P D cl wr H1 ∧ va_D A0 wr := by
  have h := va_join (w1 := ([] : va_W)) hP hD isC isR hC hR hn hdis hk hF (fun k q hq => by simp at hq) ⟨(fun i j p q hi => by simp at hi), (fun k q hq => by simp at hq)⟩
  rw [List.append_nil] at h
  exact h
section
variable {p : Program} {l : Launch} {e : Env} {R : Jvm.Room} {s : State} {m : MethodId} {args : Array Value} {below : List Frame} {meth : Method} {c : Code} {H : Heap} {locs : List Loc} {cells slots mc ms : Nat} {Q : State → Prop}
variable {pc : Nat} {ls : Array Slot} {rest st0 : List Value} {D : va_G} {cl : List vw_C} {A : Nat → Prop} {H0 : Heap} {ws wc wr : va_W} {tys1 : List (ClassId × FieldType)} {a : Array Value}
theorem aft_x {E0 : String} (hr : vx_Run p l e R s m args below meth c H locs cells slots mc ms (F0 m pc ls st0) rest (noQ (va_A wc H.size) a) (isX E0 (va_A wc H.size)) (va_A wc H.size))
    (hP : va_P D cl ws H) (hD : va_D A ws) (hS : va_S A H0 H locs) (hA : ∀ q, H0.size ≤ q → A q) (isC isR : List Nat) (hC : isC.map (fun i => ws[i]?) = wc.map some) (hR : isR.map (fun i => ws[i]?) = wr.map some) (hn : va_nd isR = true) (hdis : ∀ i ∈ isR, i ∉ isC)
    (kx : ∀ (ce : Cell) (q9 : Addr) (H1 : Heap) (locs1 : List Loc), va_P D cl wr H1 → va_D A wr → va_S A H0 H1 locs1 → H1[q9]? = some ce → ce.vm = .none → s.vm.findClass E0 = some ce.cls → vx_W p l e R s m args below meth c H1 locs1 (cells + mc) (slots + ms) Q (F0 m pc ls rest) q9) : W p l e R s m args below meth c H locs cells slots Q (F0 m pc ls st0) := by
  have hF := va_free (wc := wc) hD hS hA isC hC
  refine vx_calli hr hS (fun q _ h => hF q h) hF (fun q _ h => hF q h) (fun E ce q9 u t H1 locs1 ht hvm hp hB hz hk hS1 h1 h2 h3 => ?_) (fun r u t H1 locs1 ht hvm hw => absurd hw id)
  obtain rfl : E = E0 := hB
  obtain ⟨hP2, hD2⟩ := va_rest (wr := wr) hP hD isC isR hC hR hn hdis hk hz hF
  exact kx ce q9 H1 locs1 hP2 hD2 hS1 h1 h2 h3
theorem aft_n {S : Type} {post : Int32 → S → Prop} {w1 : S → va_W} (hr : vx_Run p l e R s m args below meth c H locs cells slots mc ms (F0 m pc ls st0) rest (va_Qi post (fun u t => wE D cl tys1 (w1 u) (va_A wc H.size) t) (va_A wc H.size) a) (noX (va_A wc H.size)) (va_A wc H.size))
    (hP : va_P D cl ws H) (hD : va_D A ws) (hS : va_S A H0 H locs) (hA : ∀ q, H0.size ≤ q → A q) (isC isR : List Nat) (hC : isC.map (fun i => ws[i]?) = wc.map some) (hR : isR.map (fun i => ws[i]?) = wr.map some) (hn : va_nd isR = true) (hdis : ∀ i ∈ isR, i ∉ isC)
    (kk : ∀ (r : Int32) (u : S) (H1 : Heap) (locs1 : List Loc), post r u → va_K D cl tys1 s → va_P D cl (wr ++ w1 u) H1 → va_D A (wr ++ w1 u) → va_S A H0 H1 locs1 → W p l e R s m args below meth c H1 locs1 (cells + mc) (slots + ms) Q (F0 m (pc + 3) ls (.int r :: rest))) : W p l e R s m args below meth c H locs cells slots Q (F0 m pc ls st0) := by
  have hF := va_free (wc := wc) hD hS hA isC hC
  refine vx_calli hr hS (fun q _ h => hF q h) hF (fun q _ h => hF q h) (fun E ce q9 u t H1 locs1 ht hvm hp => absurd hp id) (fun r u t H1 locs1 ht hvm hw hB hz1 hk1 hS1 => ?_)
  obtain ⟨hP1, hK1, hD1⟩ := hB
  rw [ht] at hP1
  obtain ⟨hP2, hD2⟩ := va_join (wr := wr) (w1 := w1 u) hP hD isC isR hC hR hn hdis hk1 hF hP1 hD1
  exact kk r u H1 locs1 hw (va_K.moved hvm.symm hK1) hP2 hD2 hS1
end

theorem eq0 {x : Int32} (h : ¬ x < 0) (q : x ≤ 0) : x = 0 := by
  have h1 := Int32.not_lt.mp h
  exact Int32.le_antisymm q h1
theorem eq1 {x : Int32} (h : ¬ x < 0) (h0 : ¬ x = 0) (q : x ≤ 1) : x = 1 := by
  have h1 := Int32.le_iff_toInt_le.mp (Int32.not_lt.mp h)
  have h2 := Int32.le_iff_toInt_le.mp q
  have e0 : (0 : Int32).toInt = 0 := by decide
  have e1 : (1 : Int32).toInt = 1 := by decide
  have h3 : ¬ x.toInt = 0 := fun e => h0 (Int32.toInt_inj.mp (by rw [e, e0]))
  exact Int32.toInt_inj.mp (by rw [e1]; omega)
def strL : List (String × Nat × String) := [(RX12, 115, "the text is full"), (RX12, 130, "not so many bytes"), (RX12, 168, "no such number of a fault"), (RX12, 180, "no such way to run"), (RX12, 182, "so many steps are not allowed"), (RX12, 184, "no such heap"), (RX12, 186, "there is no program"), (RX12, 209, "no such number of a run"), (RX12, 211, "there was no run"), (RX12, 215, "no such result"), (RX12, 224, "there is no value"), (RX12, 232, "no such byte of the result")]
abbrev wtO : List Cond := (vx_atS RX12 170 "java/lang/IndexOutOfBoundsException" ["java/lang/RuntimeException", "java/lang/Exception"]).filter goodWord
theorem gwTO : wtO.all goodWord = true := by decide +kernel
theorem hbO : ∀ w ∈ (vx_atS RX12 170 "java/lang/IndexOutOfBoundsException" ["java/lang/RuntimeException", "java/lang/Exception"]).filter (fun w => !goodWord w), w ∈ (Cond.castable "java/lang/IndexOutOfBoundsException" "java/lang/IndexOutOfBoundsException" :: decL.map Cond.declares : List Cond) := by decide +kernel
theorem hgO : ∀ w ∈ vx_atS RX12 170 "java/lang/IndexOutOfBoundsException" ["java/lang/RuntimeException", "java/lang/Exception"], vx_ot w = true := by decide +kernel
theorem va_A0 {sz q : Nat} (h : va_A [] sz q) : sz ≤ q := by
  rcases h with ⟨k, e, h⟩ | h
  · cases h
  · exact h
theorem va_P0 {D : va_G} {cl : List vw_C} {H : Heap} : va_P D cl [] H := fun k q h => by cases h
theorem va_D0 {A : Nat → Prop} : va_D A [] := ⟨fun i j p q h => (by cases h), fun k q h => (by cases h)⟩
theorem va_K0 {D : va_G} {cl : List vw_C} {tys : List (ClassId × FieldType)} {U : State} (h : va_K D cl tys U) : va_K D cl [] U := ⟨h.1, fun k q h => (by cases h)⟩
theorem dX12_seen_0 : decode cX12_seen 0 = .ok (.iload_n 1, 1) := by decide +kernel
theorem dX12_seen_1 : decode cX12_seen 1 = .ok (.ifCond .lt 8, 3) := by decide +kernel
theorem dX12_seen_4 : decode cX12_seen 4 = .ok (.iload_n 1, 1) := by decide +kernel
theorem dX12_seen_5 : decode cX12_seen 5 = .ok (.iconst 4, 1) := by decide +kernel
theorem dX12_seen_6 : decode cX12_seen 6 = .ok (.if_icmp .le 13, 3) := by decide +kernel
theorem dX12_seen_9 : decode cX12_seen 9 = .ok (.new 166, 3) := by decide +kernel
theorem dX12_seen_12 : decode cX12_seen 12 = .ok (.dup, 1) := by decide +kernel
theorem dX12_seen_13 : decode cX12_seen 13 = .ok (.ldc 209, 2) := by decide +kernel
theorem dX12_seen_15 : decode cX12_seen 15 = .ok (.invokespecial 170, 3) := by decide +kernel
theorem dX12_seen_18 : decode cX12_seen 18 = .ok (.athrow, 1) := by decide +kernel
def zlTs : List Cond := [.classLink RX12 166 "java/lang/IndexOutOfBoundsException", .initialized "java/lang/IndexOutOfBoundsException"]
def zsTs : List Cond := .code yX12_seen cX12_seen 2 (some .int) :: (zlTs ++ (wtO ++ []))
set_option maxHeartbeats 8000000 in
set_option maxRecDepth 100000 in
theorem t_seen (l : Launch) (hst : l.stackTraces = false) (dC : Nat → ClassId) (dI : Nat → Nat → Nat) (sz h0 : Nat) (fs : List Value) : vx_Met l yX12_seen zsTs ({ frames := 8, cells := 1, slots := 6, locals := 140 } : Jvm.Room) (va_Pc [.ref h0, .int 5] (wBT (dC, dI) vwCl nestM strL [] [(h0, .inr (12, fs))] sz)) (noQ (va_A [] sz)) (isX "java/lang/IndexOutOfBoundsException" (va_A [] sz)) 1 6 (va_A [] sz) := by
  refine vx_ofW (cc := cX12_seen) (maxL := 2) (ret := (some .int)) (by decide) rfl ?_
  intro p e s m args below meth c s₁ B hml htab hv
  obtain ⟨rfl, ⟨hsz, hP, hK, hD0, hN⟩, hT⟩ := hv
  have hx := B.exec
  have hb := B.bytes
  have hr := B.returns
  have hts := atoms_spec (ws := zsTs) B.pre
  have hown : s.vm.findClass RX12 = some m.cls := findClass_of_methodNamed B.named
  have hlocks := B.notSynchronized
  subst hsz
  have hT1 := hT
  have hT := hT.narrow (B := va_A [] s.heap.size) (fun q h => Or.inr (va_A0 h))
  generalize hAe : va_A [] s.heap.size = A at hT ⊢
  have hA : ∀ q : Nat, s.heap.size ≤ q → A q := fun q h => by rw [← hAe]; exact Or.inr h
  have hS : va_S A s.heap s.heap [] := va_S.rf
  have hl := lv_entry ([.ref h0, .int 5]) (n := 2) (Nat.le_of_ble_eq_true rfl)
  rw [lg_entry_eq]
  generalize (lg_sl ([.ref h0, .int 5]) ++ List.replicate (2 - (lg_sl ([.ref h0, .int 5])).length) Slot.unset).toArray = ls at hl ⊢
  have hl : lv_has ls 2 [(0, .ref h0), (1, .int 5)] := hl
  refine lv_iload_n hx hb dX12_seen_0 rfl (lv_at hl 1 rfl) ?_
  refine lv_if_lt (tgt := 9) hx hb dX12_seen_1 (by decide) (fun c_1 => absurd c_1 (by decide)) (fun c_1 => ?_)
  refine lv_iload_n hx hb dX12_seen_4 rfl (lv_at hl 1 rfl) ?_
  refine lv_iconst (v := 4) hx hb dX12_seen_5 (by decide) ?_
  refine lv_icmp_le (tgt := 19) hx hb dX12_seen_6 (by decide) (fun c_2 => absurd c_2 (by decide)) (fun c_2 => ?_)
  obtain ⟨sa9, hsa⟩ := hT.2.2.1 (RX12, 209, "no such number of a run") (List.mem_of_getElem? (i := 7) rfl)
  exact vx_throwS (own := RX12) (cls := "java/lang/IndexOutOfBoundsException") (text := "no such number of a run") (names := ["java/lang/RuntimeException", "java/lang/Exception"]) (ik := 166) (is := 209) (ic := 170) (sa := sa9) hx hb hst hown (by decide +kernel) (by decide +kernel) (hts _ (List.mem_cons_of_mem _ (List.mem_append_left _ (List.mem_of_getElem? (i := 0) rfl)))) (hts _ (List.mem_cons_of_mem _ (List.mem_append_left _ (List.mem_of_getElem? (i := 1) rfl)))) hsa (vx_hat (B := Cond.castable "java/lang/IndexOutOfBoundsException" "java/lang/IndexOutOfBoundsException" :: decL.map Cond.declares) (fun w hw => hts w ((fun _ h9 => List.mem_cons_of_mem _ (List.mem_append_right _ (List.mem_append_left _ h9))) w hw)) hbO (vx_c (va_Nw.use rfl (hT.2.2.2.1 _ (by decide))) (fun w hw => by obtain ⟨x, hx, rfl⟩ := List.mem_map.mp hw; exact va_Nw.use rfl (hT.2.2.2.2.2 x hx)))) (List.forall_mem_cons.mpr ⟨by decide +kernel, List.forall_mem_cons.mpr ⟨by decide +kernel, hgO⟩⟩) hT.1 hT.2.1 hS (hl.1.trans hml.symm) dX12_seen_9 dX12_seen_12 dX12_seen_13 dX12_seen_15 dX12_seen_18 (fun x hx => (htab x hx).elim) (Nat.lt_of_lt_of_le (Nat.lt_succ_self _) (Nat.le_of_ble_eq_true rfl)) (Nat.le_of_ble_eq_true rfl) (Nat.le_of_ble_eq_true rfl) (Nat.le_of_ble_eq_true rfl) hlocks (fun t ha h1 h2 => ⟨(), trivial, rfl, vF hS h1 h2⟩) hS.2.2 (Nat.le_of_ble_eq_true rfl) (Nat.le_of_ble_eq_true rfl)

theorem dX12_resultAt_0 : decode cX12_resultAt 0 = .ok (.iload_n 1, 1) := by decide +kernel
theorem dX12_resultAt_1 : decode cX12_resultAt 1 = .ok (.ifCond .lt 14, 3) := by decide +kernel
theorem dX12_resultAt_4 : decode cX12_resultAt 4 = .ok (.iload_n 1, 1) := by decide +kernel
theorem dX12_resultAt_5 : decode cX12_resultAt 5 = .ok (.aload_n 0, 1) := by decide +kernel
theorem dX12_resultAt_6 : decode cX12_resultAt 6 = .ok (.getfield 99, 3) := by decide +kernel
theorem dX12_resultAt_9 : decode cX12_resultAt 9 = .ok (.getfield 229, 3) := by decide +kernel
theorem dX12_resultAt_12 : decode cX12_resultAt 12 = .ok (.if_icmp .lt 13, 3) := by decide +kernel
theorem dX12_resultAt_15 : decode cX12_resultAt 15 = .ok (.new 166, 3) := by decide +kernel
theorem dX12_resultAt_18 : decode cX12_resultAt 18 = .ok (.dup, 1) := by decide +kernel
theorem dX12_resultAt_19 : decode cX12_resultAt 19 = .ok (.ldc 232, 2) := by decide +kernel
theorem dX12_resultAt_21 : decode cX12_resultAt 21 = .ok (.invokespecial 170, 3) := by decide +kernel
theorem dX12_resultAt_24 : decode cX12_resultAt 24 = .ok (.athrow, 1) := by decide +kernel
def zlTr : List Cond := [.classLink RX12 166 "java/lang/IndexOutOfBoundsException", .initialized "java/lang/IndexOutOfBoundsException", .fieldLink RX12 99 "LeanHouse" "writer" "LLeanHouse$Writer;", .fieldLink RX12 229 "LeanHouse$Writer" "size" "I"]
def zsTr : List Cond := .code yX12_resultAt cX12_resultAt 2 (some .int) :: (zlTr ++ (wtO ++ (wsX120 ++ wsX110)))
set_option maxHeartbeats 8000000 in
set_option maxRecDepth 100000 in
theorem t_res (l : Launch) (hst : l.stackTraces = false) (dC : Nat → ClassId) (dI : Nat → Nat → Nat) (sz h0 hw : Nat) (fs gs : List Value) (z n : Int32) (hf : fs[11]? = some (.ref hw)) (hg : gs[10]? = some (.int z)) (hn0 : ¬ n < 0) (hnz : ¬ n < z) : vx_Met l yX12_resultAt zsTr ({ frames := 8, cells := 1, slots := 6, locals := 140 } : Jvm.Room) (va_Pc [.ref h0, .int n] (wBT (dC, dI) vwCl nestM strL [] [(h0, .inr (12, fs)), (hw, .inr (11, gs))] sz)) (noQ (va_A [] sz)) (isX "java/lang/IndexOutOfBoundsException" (va_A [] sz)) 1 6 (va_A [] sz) := by
  refine vx_ofW (cc := cX12_resultAt) (maxL := 2) (ret := (some .int)) (by decide) rfl ?_
  intro p e s m args below meth c s₁ B hml htab hv
  obtain ⟨rfl, ⟨hsz, hP, hK, hD0, hN⟩, hT⟩ := hv
  have hx := B.exec
  have hb := B.bytes
  have hr := B.returns
  have hts := atoms_spec (ws := zsTr) B.pre
  have hown : s.vm.findClass RX12 = some m.cls := findClass_of_methodNamed B.named
  have hlocks := B.notSynchronized
  subst hsz
  have hT1 := hT
  have hT := hT.narrow (B := va_A [] s.heap.size) (fun q h => Or.inr (va_A0 h))
  generalize hAe : va_A [] s.heap.size = A at hT ⊢
  have hA : ∀ q : Nat, s.heap.size ≤ q → A q := fun q h => by rw [← hAe]; exact Or.inr h
  have hS : va_S A s.heap s.heap [] := va_S.rf
  have hl := lv_entry ([.ref h0, .int n]) (n := 2) (Nat.le_of_ble_eq_true rfl)
  rw [lg_entry_eq]
  generalize (lg_sl ([.ref h0, .int n]) ++ List.replicate (2 - (lg_sl ([.ref h0, .int n])).length) Slot.unset).toArray = ls at hl ⊢
  have hl : lv_has ls 2 [(0, .ref h0), (1, .int n)] := hl
  refine lv_iload_n hx hb dX12_resultAt_0 rfl (lv_at hl 1 rfl) ?_
  refine lv_if_lt (tgt := 15) hx hb dX12_resultAt_1 (by decide) (fun c_1 => absurd c_1 hn0) (fun c_1 => ?_)
  refine lv_iload_n hx hb dX12_resultAt_4 rfl (lv_at hl 1 rfl) ?_
  refine lv_aload_n hx hb dX12_resultAt_5 rfl (lv_at hl 0 rfl) ?_
  refine va_get (D := (dC, dI)) (ci := 12) (v := .ref hw) (C := RX12) (T := TX12) (N := 20) hx hb hts (fun _ h9 => List.mem_cons_of_mem _ (List.mem_append_right _ (List.mem_append_right _ (List.mem_append_left _ h9)))) hown hK hP 0 rfl rfl 11 (by decide) (hts _ (List.mem_cons_of_mem _ (List.mem_append_left _ (List.mem_of_getElem? (i := 2) rfl)))) (fun _ h9 => h9) hf dX12_resultAt_6 ?_
  refine va_get (D := (dC, dI)) (ci := 11) (v := .int z) (C := RX11) (T := TX11) (N := 11) hx hb hts (fun _ h9 => List.mem_cons_of_mem _ (List.mem_append_right _ (List.mem_append_right _ (List.mem_append_right _ h9)))) hown hK hP 1 rfl rfl 10 (by decide) (hts _ (List.mem_cons_of_mem _ (List.mem_append_left _ (List.mem_of_getElem? (i := 3) rfl)))) (fun _ h9 => h9) hg dX12_resultAt_9 ?_
  refine lv_icmp_lt (tgt := 25) hx hb dX12_resultAt_12 (by decide) (fun c_2 => absurd c_2 hnz) (fun c_2 => ?_)
  obtain ⟨sa9, hsa⟩ := hT.2.2.1 (RX12, 232, "no such byte of the result") (List.mem_of_getElem? (i := 11) rfl)
  exact vx_throwS (own := RX12) (cls := "java/lang/IndexOutOfBoundsException") (text := "no such byte of the result") (names := ["java/lang/RuntimeException", "java/lang/Exception"]) (ik := 166) (is := 232) (ic := 170) (sa := sa9) hx hb hst hown (by decide +kernel) (by decide +kernel) (hts _ (List.mem_cons_of_mem _ (List.mem_append_left _ (List.mem_of_getElem? (i := 0) rfl)))) (hts _ (List.mem_cons_of_mem _ (List.mem_append_left _ (List.mem_of_getElem? (i := 1) rfl)))) hsa (vx_hat (B := Cond.castable "java/lang/IndexOutOfBoundsException" "java/lang/IndexOutOfBoundsException" :: decL.map Cond.declares) (fun w hw => hts w ((fun _ h9 => List.mem_cons_of_mem _ (List.mem_append_right _ (List.mem_append_left _ h9))) w hw)) hbO (vx_c (va_Nw.use rfl (hT.2.2.2.1 _ (by decide))) (fun w hw => by obtain ⟨x, hx, rfl⟩ := List.mem_map.mp hw; exact va_Nw.use rfl (hT.2.2.2.2.2 x hx)))) (List.forall_mem_cons.mpr ⟨by decide +kernel, List.forall_mem_cons.mpr ⟨by decide +kernel, hgO⟩⟩) hT.1 hT.2.1 hS (hl.1.trans hml.symm) dX12_resultAt_15 dX12_resultAt_18 dX12_resultAt_19 dX12_resultAt_21 dX12_resultAt_24 (fun x hx => (htab x hx).elim) (Nat.lt_of_lt_of_le (Nat.lt_succ_self _) (Nat.le_of_ble_eq_true rfl)) (Nat.le_of_ble_eq_true rfl) (Nat.le_of_ble_eq_true rfl) (Nat.le_of_ble_eq_true rfl) hlocks (fun t ha h1 h2 => ⟨(), trivial, rfl, vF hS h1 h2⟩) hS.2.2 (Nat.le_of_ble_eq_true rfl) (Nat.le_of_ble_eq_true rfl)

theorem dL_seen_0 : decode cL_seen 0 = .ok (.iconst 0, 1) := by decide +kernel
theorem dL_seen_1 : decode cL_seen 1 = .ok (.istore_n 2, 1) := by decide +kernel
theorem dL_seen_2 : decode cL_seen 2 = .ok (.aload_n 0, 1) := by decide +kernel
theorem dL_seen_3 : decode cL_seen 3 = .ok (.iload_n 1, 1) := by decide +kernel
theorem dL_seen_4 : decode cL_seen 4 = .ok (.invokevirtual 60, 3) := by decide +kernel
theorem dL_seen_11 : decode cL_seen 11 = .ok (.astore_n 3, 1) := by decide +kernel
theorem dL_seen_12 : decode cL_seen 12 = .ok (.bipush (-9), 2) := by decide +kernel
theorem dL_seen_14 : decode cL_seen 14 = .ok (.ireturn, 1) := by decide +kernel
def zlTlseen : List Cond := [.methodLink RL 60 yX12_seen, .instanceMethod yX12_seen, .selects RX12 yX12_seen yX12_seen, .initialized RX12, .code yX12_seen cX12_seen 2 (some .int), .classLink RX12 166 "java/lang/IndexOutOfBoundsException", .initialized "java/lang/IndexOutOfBoundsException", .classLink RL 63 "java/lang/IndexOutOfBoundsException"]
def zsTlseen : List Cond := .codeWith yL_seen cL_seen 4 (some .int) [(2, 8, 11, 63), (2, 8, 15, 13)] :: (zlTlseen ++ (wtO ++ []))
theorem gzTlseen : GoodIn zsTlseen (wsV RL 60 RX12 yX12_seen zsTs) := (goodIn_app (goodIn_r _ [1, 2, 3, 4] (by decide +kernel) (by decide +kernel)) (goodIn_ca (goodIn_r _ [5, 6, 7] (by decide +kernel) (by decide +kernel)) (goodIn_app (goodIn_sub (fun _ h9 => List.mem_cons_of_mem _ (List.mem_append_right _ (List.mem_append_left _ h9))) gwTO) (fun w h => (by cases h)))))
set_option maxHeartbeats 8000000 in
set_option maxRecDepth 100000 in
theorem t_llseen (l : Launch) (hst : l.stackTraces = false) (dC : Nat → ClassId) (dI : Nat → Nat → Nat) (sz h0 : Nat) (fs : List Value) : vx_Met l yL_seen zsTlseen ({ frames := 10, cells := 1, slots := 6, locals := 220 } : Jvm.Room) (va_Pc [.ref h0, .int 5] (wBT (dC, dI) vwCl nestM strL [] [(h0, .inr (12, fs))] sz)) (va_Qi (fun (r : Int32) (_ : Unit) => r = -9) (fun (_ : Unit) (t : State) => wE (dC, dI) vwCl [] [] (va_A [] sz) t) (va_A [] sz)) (noX (va_A [] sz)) 1 6 (va_A [] sz) := by
  refine vx_ofWH (cc := cL_seen) (maxL := 4) (ret := (some .int)) (by decide) rfl ?_
  intro p e s m args below meth c s₁ B hml hv
  obtain ⟨rfl, ⟨hsz, hP, hK, hD0, hN⟩, hT⟩ := hv
  have hx := B.exec
  have hb := B.bytes
  have hr := B.returns
  have hts := atoms_spec (ws := zsTlseen) B.pre
  have hown : s.vm.findClass RL = some m.cls := findClass_of_methodNamed B.named
  have hlocks := B.notSynchronized
  have htab := vx_table (x := yL_seen) B (hts _ List.mem_cons_self)
  subst hsz
  have hT1 := hT
  have hT := hT.narrow (B := va_A [] s.heap.size) (fun q h => Or.inr (va_A0 h))
  generalize hAe : va_A [] s.heap.size = A at hT ⊢
  have hA : ∀ q : Nat, s.heap.size ≤ q → A q := fun q h => by rw [← hAe]; exact Or.inr h
  have hS : va_S A s.heap s.heap [] := va_S.rf
  have hl := lv_entry ([.ref h0, .int 5]) (n := 4) (Nat.le_of_ble_eq_true rfl)
  rw [lg_entry_eq]
  generalize (lg_sl ([.ref h0, .int 5]) ++ List.replicate (4 - (lg_sl ([.ref h0, .int 5])).length) Slot.unset).toArray = ls at hl ⊢
  have hl : lv_has ls 4 [(0, .ref h0), (1, .int 5)] := hl
  refine lv_iconst (v := 0) hx hb dL_seen_0 (by decide) ?_
  refine lv_istore_n (lv' := [(2, .int 0), (0, .ref h0), (1, .int 5)]) hx hb dL_seen_1 rfl hl (by decide) rfl ?_
  clear hl
  intro ls hl
  refine lv_aload_n hx hb dL_seen_2 rfl (lv_at hl 1 rfl) ?_
  refine lv_iload_n hx hb dL_seen_3 rfl (lv_at hl 2 rfl) ?_
  refine aft_x (D := (dC, dI)) (cl := vwCl) (ws := []) (wc := []) (wr := []) (vx_runV (As := [.int 5]) (rest := []) ⟨hx, hb, hml, hown, hts⟩ (t_seen l hst dC dI s.heap.size h0 fs) (cwV 1 hts gzTlseen rfl rfl rfl (by decide +kernel) ⟨Nat.le_of_ble_eq_true rfl, Nat.le_of_ble_eq_true rfl⟩) (wBT.preV hP (va_K0 hK) (hD0.self (sz := s.heap.size)) hN hT1 va_S.rf (fun q h => h) 12 0 rfl rfl) rfl rfl hl.1 rfl (lv_room (Nat.le_of_ble_eq_true rfl)) dL_seen_4 ⟨Nat.le_of_ble_eq_true rfl, Nat.le_of_ble_eq_true rfl⟩) va_P0 va_D0 hS hA [] [] rfl rfl (by decide) (by decide) ?_
  clear hS
  intro ce q9 H locs hP9 hD9 hS hc1 hc2 hc3
  refine vx_catch (own := RL) (name := "java/lang/IndexOutOfBoundsException") hown [] ⟨2, 8, 11, 63⟩ [⟨2, 8, 15, 13⟩] htab (fun z hz => nomatch hz) (by decide) (by decide) (hts _ (List.mem_cons_of_mem _ (List.mem_append_left _ (List.mem_of_getElem? (i := 7) rfl)))) (va_Nw.use rfl (hT.2.2.2.1 _ (by decide))) hc1 hc2 hc3 ?_
  refine lv_astore_n (lv' := [(3, .ref q9), (2, .int 0), (0, .ref h0), (1, .int 5)]) hx hb dL_seen_11 rfl hl (by decide) rfl ?_
  clear hl
  intro ls hl
  refine lv_bipush (v := -9) hx hb dL_seen_12 (by decide) ?_
  refine vx_ret ?_
  exact W.iret (v := -9) hx hb hr (fun t ht hW => ⟨⟨-9, (), rfl, rfl, wE.of ht hW va_P0 (va_K0 hK) va_D0⟩, hS.F ht⟩) hS.2.2 dL_seen_14

theorem dL_resultAt_0 : decode cL_resultAt 0 = .ok (.iconst 0, 1) := by decide +kernel
theorem dL_resultAt_1 : decode cL_resultAt 1 = .ok (.istore_n 2, 1) := by decide +kernel
theorem dL_resultAt_2 : decode cL_resultAt 2 = .ok (.aload_n 0, 1) := by decide +kernel
theorem dL_resultAt_3 : decode cL_resultAt 3 = .ok (.iload_n 1, 1) := by decide +kernel
theorem dL_resultAt_4 : decode cL_resultAt 4 = .ok (.invokevirtual 71, 3) := by decide +kernel
theorem dL_resultAt_11 : decode cL_resultAt 11 = .ok (.astore_n 3, 1) := by decide +kernel
theorem dL_resultAt_12 : decode cL_resultAt 12 = .ok (.bipush (-9), 2) := by decide +kernel
theorem dL_resultAt_14 : decode cL_resultAt 14 = .ok (.ireturn, 1) := by decide +kernel
def zlTlres : List Cond := [.methodLink RL 71 yX12_resultAt, .instanceMethod yX12_resultAt, .selects RX12 yX12_resultAt yX12_resultAt, .initialized RX12, .code yX12_resultAt cX12_resultAt 2 (some .int), .classLink RX12 166 "java/lang/IndexOutOfBoundsException", .initialized "java/lang/IndexOutOfBoundsException", .fieldLink RX12 99 "LeanHouse" "writer" "LLeanHouse$Writer;", .fieldLink RX12 229 "LeanHouse$Writer" "size" "I", .classLink RL 63 "java/lang/IndexOutOfBoundsException"]
def zsTlres : List Cond := .codeWith yL_resultAt cL_resultAt 4 (some .int) [(2, 8, 11, 63)] :: (zlTlres ++ (wtO ++ (wsX120 ++ wsX110)))
theorem gzTlres : GoodIn zsTlres (wsV RL 71 RX12 yX12_resultAt zsTr) := (goodIn_app (goodIn_r _ [1, 2, 3, 4] (by decide +kernel) (by decide +kernel)) (goodIn_ca (goodIn_r _ [5, 6, 7, 8, 9] (by decide +kernel) (by decide +kernel)) (goodIn_app (goodIn_sub (fun _ h9 => List.mem_cons_of_mem _ (List.mem_append_right _ (List.mem_append_left _ h9))) gwTO) (goodIn_app (goodIn_sub (fun _ h9 => List.mem_cons_of_mem _ (List.mem_append_right _ (List.mem_append_right _ (List.mem_append_left _ h9)))) gwX12) (goodIn_sub (fun _ h9 => List.mem_cons_of_mem _ (List.mem_append_right _ (List.mem_append_right _ (List.mem_append_right _ h9)))) gwX11)))))
set_option maxHeartbeats 8000000 in
set_option maxRecDepth 100000 in
theorem t_llres (l : Launch) (hst : l.stackTraces = false) (dC : Nat → ClassId) (dI : Nat → Nat → Nat) (sz h0 hw : Nat) (fs gs : List Value) (z n : Int32) (hf : fs[11]? = some (.ref hw)) (hg : gs[10]? = some (.int z)) (hn0 : ¬ n < 0) (hnz : ¬ n < z) : vx_Met l yL_resultAt zsTlres ({ frames := 10, cells := 1, slots := 6, locals := 220 } : Jvm.Room) (va_Pc [.ref h0, .int n] (wBT (dC, dI) vwCl nestM strL [] [(h0, .inr (12, fs)), (hw, .inr (11, gs))] sz)) (va_Qi (fun (r : Int32) (_ : Unit) => r = -9) (fun (_ : Unit) (t : State) => wE (dC, dI) vwCl [] [] (va_A [] sz) t) (va_A [] sz)) (noX (va_A [] sz)) 1 6 (va_A [] sz) := by
  refine vx_ofWH (cc := cL_resultAt) (maxL := 4) (ret := (some .int)) (by decide) rfl ?_
  intro p e s m args below meth c s₁ B hml hv
  obtain ⟨rfl, ⟨hsz, hP, hK, hD0, hN⟩, hT⟩ := hv
  have hx := B.exec
  have hb := B.bytes
  have hr := B.returns
  have hts := atoms_spec (ws := zsTlres) B.pre
  have hown : s.vm.findClass RL = some m.cls := findClass_of_methodNamed B.named
  have hlocks := B.notSynchronized
  have htab := vx_table (x := yL_resultAt) B (hts _ List.mem_cons_self)
  subst hsz
  have hT1 := hT
  have hT := hT.narrow (B := va_A [] s.heap.size) (fun q h => Or.inr (va_A0 h))
  generalize hAe : va_A [] s.heap.size = A at hT ⊢
  have hA : ∀ q : Nat, s.heap.size ≤ q → A q := fun q h => by rw [← hAe]; exact Or.inr h
  have hS : va_S A s.heap s.heap [] := va_S.rf
  have hl := lv_entry ([.ref h0, .int n]) (n := 4) (Nat.le_of_ble_eq_true rfl)
  rw [lg_entry_eq]
  generalize (lg_sl ([.ref h0, .int n]) ++ List.replicate (4 - (lg_sl ([.ref h0, .int n])).length) Slot.unset).toArray = ls at hl ⊢
  have hl : lv_has ls 4 [(0, .ref h0), (1, .int n)] := hl
  refine lv_iconst (v := 0) hx hb dL_resultAt_0 (by decide) ?_
  refine lv_istore_n (lv' := [(2, .int 0), (0, .ref h0), (1, .int n)]) hx hb dL_resultAt_1 rfl hl (by decide) rfl ?_
  clear hl
  intro ls hl
  refine lv_aload_n hx hb dL_resultAt_2 rfl (lv_at hl 1 rfl) ?_
  refine lv_iload_n hx hb dL_resultAt_3 rfl (lv_at hl 2 rfl) ?_
  refine aft_x (D := (dC, dI)) (cl := vwCl) (ws := []) (wc := []) (wr := []) (vx_runV (As := [.int n]) (rest := []) ⟨hx, hb, hml, hown, hts⟩ (t_res l hst dC dI s.heap.size h0 hw fs gs z n hf hg hn0 hnz) (cwV 1 hts gzTlres rfl rfl rfl (by decide +kernel) ⟨Nat.le_of_ble_eq_true rfl, Nat.le_of_ble_eq_true rfl⟩) (wBT.preV hP (va_K0 hK) (hD0.self (sz := s.heap.size)) hN hT1 va_S.rf (fun q h => h) 12 0 rfl rfl) rfl rfl hl.1 rfl (lv_room (Nat.le_of_ble_eq_true rfl)) dL_resultAt_4 ⟨Nat.le_of_ble_eq_true rfl, Nat.le_of_ble_eq_true rfl⟩) va_P0 va_D0 hS hA [] [] rfl rfl (by decide) (by decide) ?_
  clear hS
  intro ce q9 H locs hP9 hD9 hS hc1 hc2 hc3
  refine vx_catch (own := RL) (name := "java/lang/IndexOutOfBoundsException") hown [] ⟨2, 8, 11, 63⟩ [] htab (fun z hz => nomatch hz) (by decide) (by decide) (hts _ (List.mem_cons_of_mem _ (List.mem_append_left _ (List.mem_of_getElem? (i := 9) rfl)))) (va_Nw.use rfl (hT.2.2.2.1 _ (by decide))) hc1 hc2 hc3 ?_
  refine lv_astore_n (lv' := [(3, .ref q9), (2, .int 0), (0, .ref h0), (1, .int n)]) hx hb dL_resultAt_11 rfl hl (by decide) rfl ?_
  clear hl
  intro ls hl
  refine lv_bipush (v := -9) hx hb dL_resultAt_12 (by decide) ?_
  refine vx_ret ?_
  exact W.iret (v := -9) hx hb hr (fun t ht hW => ⟨⟨-9, (), rfl, rfl, wE.of ht hW va_P0 (va_K0 hK) va_D0⟩, hS.F ht⟩) hS.2.2 dL_resultAt_14

