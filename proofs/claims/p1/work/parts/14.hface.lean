/-! Exceptions: what a throw needs of the world; methods that throw, and their callers. -/
def castL : List String := ["java/lang/IllegalStateException", "java/lang/IllegalArgumentException", "java/lang/IndexOutOfBoundsException"]
def decL : List MethodName := [⟨"java/lang/RuntimeException", "<init>", "(Ljava/lang/String;)V"⟩, ⟨"java/lang/Exception", "<init>", "(Ljava/lang/String;)V"⟩, ⟨"java/lang/Throwable", "<init>", "(Ljava/lang/String;)V"⟩]
def DS (U : State) : Prop := ∀ x ∈ decL, va_Nw (.declares x) U
def SR (L : List (String × Nat × String)) (U : State) : Prop := ∀ q ∈ L, ∃ a, vk_R q.1 q.2.1 q.2.2 a U
def CS (U : State) : Prop := ∀ x ∈ castL, va_Nw (.castable x x) U
def NCS (U : State) : Prop := va_Nc "java/lang/IllegalStateException" "java/lang/IllegalArgumentException" U ∧ va_Nc "java/lang/IllegalStateException" "java/lang/IndexOutOfBoundsException" U
/-- the statics of Throwable that a throw reads, the texts, that the classes can be caught -/
def TW (L : List (String × Nat × String)) (A : Nat → Prop) (U : State) (H : Heap) : Prop := vx_Zq Bundle.tN "UNASSIGNED_STACK" Bundle.steD A U H ∧ vx_Zq Bundle.tN "SUPPRESSED_SENTINEL" Bundle.listD A U H ∧ SR L U ∧ CS U ∧ NCS U ∧ DS U
theorem TW.same {L : List (String × Nat × String)} {A : Nat → Prop} {u U : State} {H : Heap} (hvm : u.vm = U.vm) (h : TW L A u H) : TW L A U H := by
  have ha : u.vm.Alike U.vm := by rw [hvm]; exact Vm.Alike.refl _
  exact ⟨h.1.moved ha, h.2.1.moved ha, fun q hq => (h.2.2.1 q hq).imp fun a z => vk_R.same hvm.symm z, fun x hx => va_Nw.same rfl hvm (h.2.2.2.1 x hx), ⟨va_Nc.moved ha h.2.2.2.2.1.1, va_Nc.moved ha h.2.2.2.2.1.2⟩, fun x hx => va_Nw.same rfl hvm (h.2.2.2.2.2 x hx)⟩
theorem TW.warm {L : List (String × Nat × String)} {A : Nat → Prop} {s U : State} {H : Heap} (hW : s.WarmedH U.vm) (h : TW L A s H) : TW L A U H :=
  ⟨h.1.moved hW.alike, h.2.1.moved hW.alike, fun q hq => (h.2.2.1 q hq).imp fun a z => vk_R.warm hW z, fun x hx => va_Nw.warmC hW (h.2.2.2.1 x hx), ⟨va_Nc.moved hW.alike h.2.2.2.2.1.1, va_Nc.moved hW.alike h.2.2.2.2.1.2⟩, fun x hx => va_Nw.warmD hW (h.2.2.2.2.2 x hx)⟩
theorem TW.kept {L : List (String × Nat × String)} {A : Nat → Prop} {U : State} {H H1 : Heap} (h : TW L A U H) (hq : ∀ a : Nat, a < H.size → ¬ A a → H1[a]? = H[a]?) : TW L A U H1 := ⟨h.1.kept hq, h.2.1.kept hq, h.2.2⟩
theorem TW.narrow {L : List (String × Nat × String)} {A B : Nat → Prop} {U : State} {H : Heap} (h : TW L A U H) (hAB : ∀ q, B q → A q) : TW L B U H := ⟨h.1.narrow hAB, h.2.1.narrow hAB, h.2.2⟩
def wBT (D : va_G) (cl : List vw_C) (L : List (String × Nat × MethodName × String)) (SL : List (String × Nat × String)) (tys : List (ClassId × FieldType)) (ws : va_W) (sz : Nat) (U : State) : Prop := wB D cl L tys ws sz U ∧ TW SL (va_A ws sz) U U.heap
theorem wBT.blind {D : va_G} {cl : List vw_C} {L : List (String × Nat × MethodName × String)} {SL : List (String × Nat × String)} {tys : List (ClassId × FieldType)} {ws : va_W} {sz : Nat} {As : List Value} : FrameBlind (va_Pc As (wBT D cl L SL tys ws sz)) := fun a U g mk q => by
  obtain ⟨q0, q1, q2⟩ := q
  obtain ⟨h0, h1⟩ := wB.blind a U g mk ⟨q0, q1⟩
  exact ⟨q0, h1, TW.same (u := U) rfl q2⟩
section
variable {D : va_G} {cl : List vw_C} {L : List (String × Nat × MethodName × String)} {SL : List (String × Nat × String)} {tys : List (ClassId × FieldType)} {ws : va_W} {s : State} {H : Heap} {locs : List Loc} {As : List Value} {A : Nat → Prop}
theorem wBT.start (hP : va_P D cl ws H) (hK : va_K D cl tys s) (hD : va_D A ws) (hN : NW L s) (hT : TW SL A s s.heap) (hS : va_S A s.heap H locs) (hF : ∀ q, va_A ws H.size q → A q) (U : State) (hU : U.heap = H) (hW : s.WarmedH U.vm) : va_Pc As (wBT D cl L SL tys ws H.size) As.toArray U :=
  ⟨rfl, (wB.start (As := As) hP hK hD hN U hU hW).2, by rw [hU]; exact ((hT.kept hS.2.1).narrow hF).warm hW⟩
theorem wBT.preS (hP : va_P D cl ws H) (hK : va_K D cl tys s) (hD : va_D A ws) (hN : NW L s) (hT : TW SL A s s.heap) (hS : va_S A s.heap H locs) (hF : ∀ q, va_A ws H.size q → A q) : PreS s H (va_Pc As (wBT D cl L SL tys ws H.size)) As := ⟨wBT.blind, wBT.start hP hK hD hN hT hS hF⟩
theorem wBT.preV {b : Nat} (hP : va_P D cl ws H) (hK : va_K D cl tys s) (hD : va_D A ws) (hN : NW L s) (hT : TW SL A s s.heap) (hS : va_S A s.heap H locs) (hF : ∀ q, va_A ws H.size q → A q) (ci q0 : Nat) {fs : List Value} {q : vw_C} (hc : cl[ci]? = some q) (he : ws[q0]? = some (b, .inr (ci, fs))) : PreV s H q.1 b (va_Pc (.ref b :: As) (wBT D cl L SL tys ws H.size)) As :=
  ⟨wBT.blind, va_recv hK hP hc he, wBT.start hP hK hD hN hT hS hF⟩
end
theorem vF {A : Nat → Prop} {s t : State} {H : Heap} {locs : List Loc} (hS : va_S A s.heap H locs) (h1 : H.size ≤ t.heap.size) (h2 : ∀ q : Nat, q < H.size → t.heap[q]? = H[q]?) : va_F A s t :=
  ⟨Nat.le_trans hS.1 h1, fun q hq ha => (h2 q (Nat.lt_of_lt_of_le hq hS.1)).trans (hS.2.1 q hq ha)⟩
abbrev noQ (A : Nat → Prop) : Array Value → State → Outcome → State → Prop := va_Qi (fun (_ : Int32) (_ : Unit) => False) (fun _ _ => True) A
abbrev isX (E0 : String) (A : Nat → Prop) : String → State → State → Prop := vx_X (fun _ : Unit => True) (fun E _ _ => E = E0) A
abbrev noX (A : Nat → Prop) : String → State → State → Prop := vx_X (fun _ : Unit => False) (fun _ _ _ => True) A
/-- the rest of a world stays where a callee has thrown -/
theorem va_rest {A0 : Nat → Prop} {D : va_G} {cl : List vw_C} {ws wc wr : va_W} {H H1 : Heap} (hP : va_P D cl ws H) (hD : va_D A0 ws) (isC isR : List Nat) (hC : isC.map (fun i => ws[i]?) = wc.map some) (hR : isR.map (fun i => ws[i]?) = wr.map some) (hn : va_nd isR = true) (hdis : ∀ i ∈ isR, i ∉ isC) (hk : ∀ q : Nat, q < H.size → ¬ va_A wc H.size q → H1[q]? = H[q]?) (hs : H.size ≤ H1.size) (hF : ∀ q, va_A wc H.size q → A0 q) : va_P D cl wr H1 ∧ va_D A0 wr := by
  have h := va_join (w1 := ([] : va_W)) hP hD isC isR hC hR hn hdis hk hF (fun k q hq => by simp at hq) ⟨(fun i j p q hi => by simp at hi), (fun k q hq => by simp at hq)⟩
  rw [List.append_nil] at h
  exact h
section
variable {p : Program} {l : Launch} {e : Env} {R : Room} {s : State} {m : MethodId} {args : Array Value} {below : List Frame} {meth : Method} {c : Code} {H : Heap} {locs : List Loc} {cells slots mc ms : Nat} {Q : State → Prop}
variable {pc : Nat} {ls : Array Slot} {rest st0 : List Value} {D : va_G} {cl : List vw_C} {A : Nat → Prop} {H0 : Heap} {ws wc wr : va_W} {tys1 : List (ClassId × FieldType)} {a : Array Value}
theorem aft_x {E0 : String} (hr : vx_Run p l e R s m args below meth c H locs cells slots mc ms (F0 m pc ls st0) rest (noQ (va_A wc H.size) a) (isX E0 (va_A wc H.size)) (va_A wc H.size))
    (hP : va_P D cl ws H) (hD : va_D A ws) (hS : va_S A H0 H locs) (hA : ∀ q, H0.size ≤ q → A q) (isC isR : List Nat) (hC : isC.map (fun i => ws[i]?) = wc.map some) (hR : isR.map (fun i => ws[i]?) = wr.map some) (hn : va_nd isR = true) (hdis : ∀ i ∈ isR, i ∉ isC)
    (kx : ∀ (ce : Cell) (q9 : Addr) (H1 : Heap) (locs1 : List Loc), va_P D cl wr H1 → va_D A wr → va_S A H0 H1 locs1 → H1[q9]? = some ce → ce.vm = .none → s.vm.findClass E0 = some ce.cls → vx_W p l e R s m args below meth c H1 locs1 (cells + mc) (slots + ms) Q (F0 m pc ls rest) q9) : W p l e R s m args below meth c H locs cells slots Q (F0 m pc ls st0) := by
  have hF := va_free (wc := wc) hD hS hA isC hC
  refine vx_calli hr hS (fun q _ h => hF q h) hF (fun q _ h => hF q h) (fun E ce q9 u t H1 locs1 ht hvm hp hB hz hk hS1 h1 h2 h3 => ?_) (fun r u t H1 locs1 ht hvm hw => absurd hw id)
  obtain rfl : E = E0 := hB
  obtain ⟨hP2, hD2⟩ := va_rest (wr := wr) hP hD isC isR hC hR hn hdis hk hz hF
  exact kx ce q9 H1 locs1 hP2 hD2 hS1 h1 h2 h3
theorem aft_n {S : Type} {post : Int32 → S → Prop} {w1 : S → va_W} (hr : vx_Run p l e R s m args below meth c H locs cells slots mc ms (F0 m pc ls st0) rest (va_Qi post (fun u t => wE D cl tys1 (w1 u) (va_A wc H.size) t) (va_A wc H.size) a) (noX (va_A wc H.size)) (va_A wc H.size))
    (hP : va_P D cl ws H) (hD : va_D A ws) (hS : va_S A H0 H locs) (hA : ∀ q, H0.size ≤ q → A q) (isC isR : List Nat) (hC : isC.map (fun i => ws[i]?) = wc.map some) (hR : isR.map (fun i => ws[i]?) = wr.map some) (hn : va_nd isR = true) (hdis : ∀ i ∈ isR, i ∉ isC)
    (kk : ∀ (r : Int32) (u : S) (H1 : Heap) (locs1 : List Loc), post r u → va_K D cl tys1 s → va_P D cl (wr ++ w1 u) H1 → va_D A (wr ++ w1 u) → va_S A H0 H1 locs1 → W p l e R s m args below meth c H1 locs1 (cells + mc) (slots + ms) Q (F0 m (pc + 3) ls (.int r :: rest))) : W p l e R s m args below meth c H locs cells slots Q (F0 m pc ls st0) := by
  have hF := va_free (wc := wc) hD hS hA isC hC
  refine vx_calli hr hS (fun q _ h => hF q h) hF (fun q _ h => hF q h) (fun E ce q9 u t H1 locs1 ht hvm hp => absurd hp id) (fun r u t H1 locs1 ht hvm hw hB hz1 hk1 hS1 => ?_)
  obtain ⟨hP1, hK1, hD1⟩ := hB
  rw [ht] at hP1
  obtain ⟨hP2, hD2⟩ := va_join (wr := wr) (w1 := w1 u) hP hD isC isR hC hR hn hdis hk1 hF hP1 hD1
  exact kk r u H1 locs1 hw (va_K.moved hvm.symm hK1) hP2 hD2 hS1
end

theorem eq0 {x : Int32} (h : ¬ x < 0) (q : x ≤ 0) : x = 0 := by
  have h1 := Int32.not_lt.mp h
  exact Int32.le_antisymm q h1
theorem eq1 {x : Int32} (h : ¬ x < 0) (h0 : ¬ x = 0) (q : x ≤ 1) : x = 1 := by
  have h1 := Int32.le_iff_toInt_le.mp (Int32.not_lt.mp h)
  have h2 := Int32.le_iff_toInt_le.mp q
  have e0 : (0 : Int32).toInt = 0 := by decide
  have e1 : (1 : Int32).toInt = 1 := by decide
  have h3 : ¬ x.toInt = 0 := fun e => h0 (Int32.toInt_inj.mp (by rw [e, e0]))
  exact Int32.toInt_inj.mp (by rw [e1]; omega)
def strL : List (String × Nat × String) := [(RX12, 115, "the text is full"), (RX12, 130, "not so many bytes"), (RX12, 168, "no such number of a fault"), (RX12, 174, "the input is full"), (RX12, 180, "no such way to run"), (RX12, 182, "so many steps are not allowed"), (RX12, 184, "no such heap"), (RX12, 186, "there is no program"), (RX12, 209, "no such number of a run"), (RX12, 211, "there was no run"), (RX12, 213, "no such byte of the output"), (RX12, 215, "no such result"), (RX12, 224, "there is no value"), (RX12, 232, "no such byte of the result"), (RX12, 237, "no such number")]
abbrev wtA : List Cond := (vx_atS RX12 132 "java/lang/IllegalArgumentException" ["java/lang/RuntimeException", "java/lang/Exception"]).filter goodWord
theorem gwTA : wtA.all goodWord = true := by decide +kernel
theorem hbA : ∀ w ∈ (vx_atS RX12 132 "java/lang/IllegalArgumentException" ["java/lang/RuntimeException", "java/lang/Exception"]).filter (fun w => !goodWord w), w ∈ (Cond.castable "java/lang/IllegalArgumentException" "java/lang/IllegalArgumentException" :: decL.map Cond.declares : List Cond) := by decide +kernel
theorem hgA : ∀ w ∈ vx_atS RX12 132 "java/lang/IllegalArgumentException" ["java/lang/RuntimeException", "java/lang/Exception"], vx_ot w = true := by decide +kernel
abbrev wtS : List Cond := (vx_atS RX12 117 "java/lang/IllegalStateException" ["java/lang/RuntimeException", "java/lang/Exception"]).filter goodWord
theorem gwTS : wtS.all goodWord = true := by decide +kernel
theorem hbS : ∀ w ∈ (vx_atS RX12 117 "java/lang/IllegalStateException" ["java/lang/RuntimeException", "java/lang/Exception"]).filter (fun w => !goodWord w), w ∈ (Cond.castable "java/lang/IllegalStateException" "java/lang/IllegalStateException" :: decL.map Cond.declares : List Cond) := by decide +kernel
theorem hgS : ∀ w ∈ vx_atS RX12 117 "java/lang/IllegalStateException" ["java/lang/RuntimeException", "java/lang/Exception"], vx_ot w = true := by decide +kernel
abbrev wtO : List Cond := (vx_atS RX12 170 "java/lang/IndexOutOfBoundsException" ["java/lang/RuntimeException", "java/lang/Exception"]).filter goodWord
theorem gwTO : wtO.all goodWord = true := by decide +kernel
theorem hbO : ∀ w ∈ (vx_atS RX12 170 "java/lang/IndexOutOfBoundsException" ["java/lang/RuntimeException", "java/lang/Exception"]).filter (fun w => !goodWord w), w ∈ (Cond.castable "java/lang/IndexOutOfBoundsException" "java/lang/IndexOutOfBoundsException" :: decL.map Cond.declares : List Cond) := by decide +kernel
theorem hgO : ∀ w ∈ vx_atS RX12 170 "java/lang/IndexOutOfBoundsException" ["java/lang/RuntimeException", "java/lang/Exception"], vx_ot w = true := by decide +kernel
theorem dX12_addBytes_0 : decode cX12_addBytes 0 = .ok (.bipush 24, 2) := by decide +kernel
theorem dX12_addBytes_2 : decode cX12_addBytes 2 = .ok (.istore_n 2, 1) := by decide +kernel
theorem dX12_addBytes_3 : decode cX12_addBytes 3 = .ok (.iload_n 2, 1) := by decide +kernel
theorem dX12_addBytes_4 : decode cX12_addBytes 4 = .ok (.ifCond .lt 33, 3) := by decide +kernel
theorem dX12_addBytes_7 : decode cX12_addBytes 7 = .ok (.aload_n 0, 1) := by decide +kernel
theorem dX12_addBytes_8 : decode cX12_addBytes 8 = .ok (.getfield 9, 3) := by decide +kernel
theorem dX12_addBytes_11 : decode cX12_addBytes 11 = .ok (.aload_n 0, 1) := by decide +kernel
theorem dX12_addBytes_12 : decode cX12_addBytes 12 = .ok (.getfield 110, 3) := by decide +kernel
theorem dX12_addBytes_15 : decode cX12_addBytes 15 = .ok (.iload_n 1, 1) := by decide +kernel
theorem dX12_addBytes_16 : decode cX12_addBytes 16 = .ok (.iload_n 2, 1) := by decide +kernel
theorem dX12_addBytes_17 : decode cX12_addBytes 17 = .ok (.ishr, 1) := by decide +kernel
theorem dX12_addBytes_18 : decode cX12_addBytes 18 = .ok (.invokestatic 124, 3) := by decide +kernel
theorem dX12_addBytes_21 : decode cX12_addBytes 21 = .ok (.aload_n 0, 1) := by decide +kernel
theorem dX12_addBytes_22 : decode cX12_addBytes 22 = .ok (.dup, 1) := by decide +kernel
theorem dX12_addBytes_23 : decode cX12_addBytes 23 = .ok (.getfield 110, 3) := by decide +kernel
theorem dX12_addBytes_26 : decode cX12_addBytes 26 = .ok (.iconst 1, 1) := by decide +kernel
theorem dX12_addBytes_27 : decode cX12_addBytes 27 = .ok (.iadd, 1) := by decide +kernel
theorem dX12_addBytes_28 : decode cX12_addBytes 28 = .ok (.putfield 110, 3) := by decide +kernel
theorem dX12_addBytes_31 : decode cX12_addBytes 31 = .ok (.iinc 2 (-8), 3) := by decide +kernel
theorem dX12_addBytes_34 : decode cX12_addBytes 34 = .ok (.goto (-31), 3) := by decide +kernel
theorem dX12_addBytes_37 : decode cX12_addBytes 37 = .ok (.return_, 1) := by decide +kernel
def zlX12_addBytes : List Cond := [.fieldLink RX12 9 "LeanHouse" "text" "[B", .fieldLink RX12 110 "LeanHouse" "textSize" "I", .methodLink RX12 124 yX12_putByte, .static yX12_putByte, .initialized RX12, .code yX12_putByte cX12_putByte 3 none]
def zsX12_addBytes : List Cond := .code yX12_addBytes cX12_addBytes 3 none :: (zlX12_addBytes ++ (wsX120))
set_option maxRecDepth 20000 in
theorem gzX12_addBytes_X12_putByte_S124 : GoodIn zsX12_addBytes (wsS RX12 124 yX12_putByte zsX12_putByte) := (goodIn_app (goodIn_r _ [3, 4, 5] (by decide +kernel) (by decide +kernel)) (goodIn_r _ [6] (by decide +kernel) (by decide +kernel)))
set_option maxHeartbeats 8000000 in
set_option maxRecDepth 100000 in
theorem c_X12_addBytes (l : Launch) (dC : Nat → ClassId) (dI : Nat → Nat → Nat) (sz : Nat) (h0 : Nat) (w_text : Nat) (w_memory : Nat) (w_counts : Nat) (w_lexer : Nat) (w_parser : Nat) (w_checker : Nat) (w_scope : Nat) (w_coder : Nat) (w_machine : Nat) (w_compiler : Nat) (w_processor : Nat) (w_writer : Nat) (c_text : ClassId) (f_text : Nat → Int32) (v_v : Int32) (tn : Nat) : Met l yX12_addBytes zsX12_addBytes ({ frames := 2, cells := 0, slots := 0, locals := 34 } : Room) (va_Pc [.ref h0, .int v_v] (wB (dC, dI) vwCl nestM [(c_text, .byte)] [(h0, .inr (12, [.ref w_text, .ref w_memory, .ref w_counts, .ref w_lexer, .ref w_parser, .ref w_checker, .ref w_scope, .ref w_coder, .ref w_machine, .ref w_compiler, .ref w_processor, .ref w_writer, .int (nI tn), .int 0, .int 0, .int (-1), .int (-1), .int 0, .int 0, .int 0])), (w_text, .inl (c_text, 8192, .inl f_text))] sz)) (va_Qv (fun (u : (Nat → Int32)) => True) (fun (u : (Nat → Int32)) (t : State) => wE (dC, dI) vwCl [(c_text, .byte)] [(h0, .inr (12, [.ref w_text, .ref w_memory, .ref w_counts, .ref w_lexer, .ref w_parser, .ref w_checker, .ref w_scope, .ref w_coder, .ref w_machine, .ref w_compiler, .ref w_processor, .ref w_writer, .int (nI (tn + 4)), .int 0, .int 0, .int (-1), .int (-1), .int 0, .int 0, .int 0])), (w_text, .inl (c_text, 8192, .inl u))] (va_A [(h0, .inr (12, [.ref w_text, .ref w_memory, .ref w_counts, .ref w_lexer, .ref w_parser, .ref w_checker, .ref w_scope, .ref w_coder, .ref w_machine, .ref w_compiler, .ref w_processor, .ref w_writer, .int (nI tn), .int 0, .int 0, .int (-1), .int (-1), .int 0, .int 0, .int 0])), (w_text, .inl (c_text, 8192, .inl f_text))] sz) t) (va_A [(h0, .inr (12, [.ref w_text, .ref w_memory, .ref w_counts, .ref w_lexer, .ref w_parser, .ref w_checker, .ref w_scope, .ref w_coder, .ref w_machine, .ref w_compiler, .ref w_processor, .ref w_writer, .int (nI tn), .int 0, .int 0, .int (-1), .int (-1), .int 0, .int 0, .int 0])), (w_text, .inl (c_text, 8192, .inl f_text))] sz)) 0 0 (va_A [(h0, .inr (12, [.ref w_text, .ref w_memory, .ref w_counts, .ref w_lexer, .ref w_parser, .ref w_checker, .ref w_scope, .ref w_coder, .ref w_machine, .ref w_compiler, .ref w_processor, .ref w_writer, .int (nI tn), .int 0, .int 0, .int (-1), .int (-1), .int 0, .int 0, .int 0])), (w_text, .inl (c_text, 8192, .inl f_text))] sz) := by
  refine Met.ofW (cc := cX12_addBytes) (maxL := 3) (ret := none) (by decide) rfl ?_
  intro p e s m args below meth c s₁ B hml hv
  obtain ⟨rfl, hsz, hP, hK, hD0, hN⟩ := hv
  have hx := B.exec
  have hb := B.bytes
  have hr := B.returns
  have hts := atoms_spec (ws := zsX12_addBytes) B.pre
  have hown : s.vm.findClass RX12 = some m.cls := findClass_of_methodNamed B.named
  have hlocks := B.notSynchronized
  subst hsz
  have hD := hD0.self (sz := s.heap.size)
  generalize hAe : va_A [(h0, .inr (12, [.ref w_text, .ref w_memory, .ref w_counts, .ref w_lexer, .ref w_parser, .ref w_checker, .ref w_scope, .ref w_coder, .ref w_machine, .ref w_compiler, .ref w_processor, .ref w_writer, .int (nI tn), .int 0, .int 0, .int (-1), .int (-1), .int 0, .int 0, .int 0])), (w_text, .inl (c_text, 8192, .inl f_text))] s.heap.size = A at hD ⊢
  have hA : ∀ q : Nat, s.heap.size ≤ q → A q := fun q h => by rw [← hAe]; exact Or.inr h
  have hS : va_S A s.heap s.heap [] := va_S.rf
  have hP : va_P (dC, dI) vwCl [(h0, .inr (12, [.ref w_text, .ref w_memory, .ref w_counts, .ref w_lexer, .ref w_parser, .ref w_checker, .ref w_scope, .ref w_coder, .ref w_machine, .ref w_compiler, .ref w_processor, .ref w_writer, .int (nI tn), .int 0, .int 0, .int (-1), .int (-1), .int 0, .int 0, .int 0])), (w_text, .inl (c_text, 8192, .inl f_text))] s.heap := hP
  have hl := lv_entry ([.ref h0, .int v_v]) (n := 3) (Nat.le_of_ble_eq_true rfl)
  rw [lg_entry_eq]
  generalize (lg_sl ([.ref h0, .int v_v]) ++ List.replicate (3 - (lg_sl ([.ref h0, .int v_v])).length) Slot.unset).toArray = ls at hl ⊢
  have hl : lv_has ls 3 [(0, .ref h0), (1, .int v_v)] := hl
  refine lv_bipush (v := 24) hx hb dX12_addBytes_0 (by decide) ?_
  refine lv_istore_n (lv' := [(2, .int 24), (0, .ref h0), (1, .int v_v)]) hx hb dX12_addBytes_2 rfl hl (by decide) rfl ?_
  clear hl
  intro ls hl
  refine lv_iload_n hx hb dX12_addBytes_3 rfl (lv_at hl 0 rfl) ?_
  refine lv_if_lt (tgt := 37) hx hb dX12_addBytes_4 (by decide) (fun c_1 => absurd c_1 (by decide)) (fun c_1 => ?_)
  refine lv_aload_n hx hb dX12_addBytes_7 rfl (lv_at hl 1 rfl) ?_
  refine va_get (D := (dC, dI)) (ci := 12) (v := .ref w_text) (C := RX12) (T := TX12) (N := 20) hx hb hts (fun _ h9 => List.mem_cons_of_mem _ (List.mem_append_right _ h9)) hown hK hP 0 rfl rfl 0 (by decide) (hts _ (List.mem_cons_of_mem _ (List.mem_append_left _ (List.mem_of_getElem? (i := 0) rfl)))) (fun _ h9 => h9) rfl dX12_addBytes_8 ?_
  refine lv_aload_n hx hb dX12_addBytes_11 rfl (lv_at hl 1 rfl) ?_
  refine va_get (D := (dC, dI)) (ci := 12) (v := .int (nI tn)) (C := RX12) (T := TX12) (N := 20) hx hb hts (fun _ h9 => List.mem_cons_of_mem _ (List.mem_append_right _ h9)) hown hK hP 0 rfl rfl 12 (by decide) (hts _ (List.mem_cons_of_mem _ (List.mem_append_left _ (List.mem_of_getElem? (i := 1) rfl)))) (fun _ h9 => h9) rfl dX12_addBytes_12 ?_
  refine lv_iload_n hx hb dX12_addBytes_15 rfl (lv_at hl 2 rfl) ?_
  refine lv_iload_n hx hb dX12_addBytes_16 rfl (lv_at hl 0 rfl) ?_
  refine lv_ishr hx hb dX12_addBytes_17 ?_
  refine lv_topi (fun z_2 ez_2 => ?_)
  refine aft_v (wr := [(h0, .inr (12, [.ref w_text, .ref w_memory, .ref w_counts, .ref w_lexer, .ref w_parser, .ref w_checker, .ref w_scope, .ref w_coder, .ref w_machine, .ref w_compiler, .ref w_processor, .ref w_writer, .int (nI tn), .int 0, .int 0, .int (-1), .int (-1), .int 0, .int 0, .int 0]))]) (va_runS (As := [.ref w_text, .int (nI tn), .int z_2]) (rest := []) ⟨hx, hb, hml, hown, hts⟩ (c_X12_putByte l dC dI s.heap.size w_text c_text 8192 f_text (nI tn) z_2 (by first | assumption | decide | omega)) (cwS 3 hts gzX12_addBytes_X12_putByte_S124 rfl rfl rfl (by decide +kernel) ⟨Nat.le_of_ble_eq_true rfl, Nat.le_of_ble_eq_true rfl⟩) (wB.preS (hP.sub (ws' := [(w_text, .inl (c_text, 8192, .inl f_text))]) [1] rfl) (hK.sub (tys' := [(c_text, .byte)]) [0] rfl) (hD.sub (ws' := [(w_text, .inl (c_text, 8192, .inl f_text))]) [1] (by decide) rfl) hN) rfl rfl hl.1 rfl (lv_room (Nat.le_of_ble_eq_true rfl)) dX12_addBytes_18 ⟨Nat.le_of_ble_eq_true rfl, Nat.le_of_ble_eq_true rfl⟩) hP hD hS hA [1] [0] rfl rfl (by decide) (by decide) ?_
  clear hP hD hS
  intro u_3 H locs w_5 hK1 hP hD hS
  obtain ⟨g_6, rfl⟩ : ∃ z, z = u_3 := ⟨_, rfl⟩
  replace hP : va_P (dC, dI) vwCl [(h0, .inr (12, [.ref w_text, .ref w_memory, .ref w_counts, .ref w_lexer, .ref w_parser, .ref w_checker, .ref w_scope, .ref w_coder, .ref w_machine, .ref w_compiler, .ref w_processor, .ref w_writer, .int (nI tn), .int 0, .int 0, .int (-1), .int (-1), .int 0, .int 0, .int 0])), (w_text, .inl (c_text, 8192, .inl g_6))] H := hP
  replace hD : va_D A [(h0, .inr (12, [.ref w_text, .ref w_memory, .ref w_counts, .ref w_lexer, .ref w_parser, .ref w_checker, .ref w_scope, .ref w_coder, .ref w_machine, .ref w_compiler, .ref w_processor, .ref w_writer, .int (nI tn), .int 0, .int 0, .int (-1), .int (-1), .int 0, .int 0, .int 0])), (w_text, .inl (c_text, 8192, .inl g_6))] := hD
  clear hK1
  try dsimp only at w_5
  refine lv_aload_n hx hb dX12_addBytes_21 rfl (lv_at hl 1 rfl) ?_
  refine lv_dup hx hb dX12_addBytes_22 rfl ?_
  refine va_get (D := (dC, dI)) (ci := 12) (v := .int (nI tn)) (C := RX12) (T := TX12) (N := 20) hx hb hts (fun _ h9 => List.mem_cons_of_mem _ (List.mem_append_right _ h9)) hown hK hP 0 rfl rfl 12 (by decide) (hts _ (List.mem_cons_of_mem _ (List.mem_append_left _ (List.mem_of_getElem? (i := 1) rfl)))) (fun _ h9 => h9) rfl dX12_addBytes_23 ?_
  refine lv_iconst (v := 1) hx hb dX12_addBytes_26 (by decide) ?_
  refine lv_iadd hx hb dX12_addBytes_27 ?_
  refine lv_topi (fun z_7 ez_7 => ?_)
  obtain rfl : z_7 = nI (tn + 1) := ez_7.trans (nI_1 _)
  refine va_put (D := (dC, dI)) (ci := 12) (v := .int (nI (tn + 1))) (ty := .int) (C := RX12) (T := TX12) (N := 20) hx hb hts (fun _ h9 => List.mem_cons_of_mem _ (List.mem_append_right _ h9)) tyX12 tyX12_ok nmX12 hown hK hP hD hS 0 rfl rfl 12 (by decide) (hts _ (List.mem_cons_of_mem _ (List.mem_append_left _ (List.mem_of_getElem? (i := 1) rfl)))) (fun _ h9 => h9) rfl (by decide +kernel) rfl rfl (Nat.le_of_ble_eq_true rfl) dX12_addBytes_28 ?_
  clear hP hD hS
  intro H locs hP hD hS
  replace hP : va_P (dC, dI) vwCl [(h0, .inr (12, [.ref w_text, .ref w_memory, .ref w_counts, .ref w_lexer, .ref w_parser, .ref w_checker, .ref w_scope, .ref w_coder, .ref w_machine, .ref w_compiler, .ref w_processor, .ref w_writer, .int (nI (tn + 1)), .int 0, .int 0, .int (-1), .int (-1), .int 0, .int 0, .int 0])), (w_text, .inl (c_text, 8192, .inl g_6))] H := hP
  replace hD : va_D A [(h0, .inr (12, [.ref w_text, .ref w_memory, .ref w_counts, .ref w_lexer, .ref w_parser, .ref w_checker, .ref w_scope, .ref w_coder, .ref w_machine, .ref w_compiler, .ref w_processor, .ref w_writer, .int (nI (tn + 1)), .int 0, .int 0, .int (-1), .int (-1), .int 0, .int 0, .int 0])), (w_text, .inl (c_text, 8192, .inl g_6))] := hD
  refine lv_iinc (v := 16) (lv' := [(2, .int 16), (0, .ref h0), (1, .int v_v)]) hx hb dX12_addBytes_31 hl (k := 0) rfl (by decide) (by decide) rfl ?_
  clear hl
  intro ls hl
  refine lv_goto (tgt := 3) hx hb dX12_addBytes_34 (by decide) ?_
  refine lv_iload_n hx hb dX12_addBytes_3 rfl (lv_at hl 0 rfl) ?_
  refine lv_if_lt (tgt := 37) hx hb dX12_addBytes_4 (by decide) (fun c_8 => absurd c_8 (by decide)) (fun c_8 => ?_)
  refine lv_aload_n hx hb dX12_addBytes_7 rfl (lv_at hl 1 rfl) ?_
  refine va_get (D := (dC, dI)) (ci := 12) (v := .ref w_text) (C := RX12) (T := TX12) (N := 20) hx hb hts (fun _ h9 => List.mem_cons_of_mem _ (List.mem_append_right _ h9)) hown hK hP 0 rfl rfl 0 (by decide) (hts _ (List.mem_cons_of_mem _ (List.mem_append_left _ (List.mem_of_getElem? (i := 0) rfl)))) (fun _ h9 => h9) rfl dX12_addBytes_8 ?_
  refine lv_aload_n hx hb dX12_addBytes_11 rfl (lv_at hl 1 rfl) ?_
  refine va_get (D := (dC, dI)) (ci := 12) (v := .int (nI (tn + 1))) (C := RX12) (T := TX12) (N := 20) hx hb hts (fun _ h9 => List.mem_cons_of_mem _ (List.mem_append_right _ h9)) hown hK hP 0 rfl rfl 12 (by decide) (hts _ (List.mem_cons_of_mem _ (List.mem_append_left _ (List.mem_of_getElem? (i := 1) rfl)))) (fun _ h9 => h9) rfl dX12_addBytes_12 ?_
  refine lv_iload_n hx hb dX12_addBytes_15 rfl (lv_at hl 2 rfl) ?_
  refine lv_iload_n hx hb dX12_addBytes_16 rfl (lv_at hl 0 rfl) ?_
  refine lv_ishr hx hb dX12_addBytes_17 ?_
  refine lv_topi (fun z_9 ez_9 => ?_)
  refine aft_v (wr := [(h0, .inr (12, [.ref w_text, .ref w_memory, .ref w_counts, .ref w_lexer, .ref w_parser, .ref w_checker, .ref w_scope, .ref w_coder, .ref w_machine, .ref w_compiler, .ref w_processor, .ref w_writer, .int (nI (tn + 1)), .int 0, .int 0, .int (-1), .int (-1), .int 0, .int 0, .int 0]))]) (va_runS (As := [.ref w_text, .int (nI (tn + 1)), .int z_9]) (rest := []) ⟨hx, hb, hml, hown, hts⟩ (c_X12_putByte l dC dI H.size w_text c_text 8192 g_6 (nI (tn + 1)) z_9 (by first | assumption | decide | omega)) (cwS 3 hts gzX12_addBytes_X12_putByte_S124 rfl rfl rfl (by decide +kernel) ⟨Nat.le_of_ble_eq_true rfl, Nat.le_of_ble_eq_true rfl⟩) (wB.preS (hP.sub (ws' := [(w_text, .inl (c_text, 8192, .inl g_6))]) [1] rfl) (hK.sub (tys' := [(c_text, .byte)]) [0] rfl) (hD.sub (ws' := [(w_text, .inl (c_text, 8192, .inl g_6))]) [1] (by decide) rfl) hN) rfl rfl hl.1 rfl (lv_room (Nat.le_of_ble_eq_true rfl)) dX12_addBytes_18 ⟨Nat.le_of_ble_eq_true rfl, Nat.le_of_ble_eq_true rfl⟩) hP hD hS hA [1] [0] rfl rfl (by decide) (by decide) ?_
  clear hP hD hS
  intro u_10 H locs w_12 hK1 hP hD hS
  obtain ⟨g_13, rfl⟩ : ∃ z, z = u_10 := ⟨_, rfl⟩
  replace hP : va_P (dC, dI) vwCl [(h0, .inr (12, [.ref w_text, .ref w_memory, .ref w_counts, .ref w_lexer, .ref w_parser, .ref w_checker, .ref w_scope, .ref w_coder, .ref w_machine, .ref w_compiler, .ref w_processor, .ref w_writer, .int (nI (tn + 1)), .int 0, .int 0, .int (-1), .int (-1), .int 0, .int 0, .int 0])), (w_text, .inl (c_text, 8192, .inl g_13))] H := hP
  replace hD : va_D A [(h0, .inr (12, [.ref w_text, .ref w_memory, .ref w_counts, .ref w_lexer, .ref w_parser, .ref w_checker, .ref w_scope, .ref w_coder, .ref w_machine, .ref w_compiler, .ref w_processor, .ref w_writer, .int (nI (tn + 1)), .int 0, .int 0, .int (-1), .int (-1), .int 0, .int 0, .int 0])), (w_text, .inl (c_text, 8192, .inl g_13))] := hD
  clear hK1
  try dsimp only at w_12
  refine lv_aload_n hx hb dX12_addBytes_21 rfl (lv_at hl 1 rfl) ?_
  refine lv_dup hx hb dX12_addBytes_22 rfl ?_
  refine va_get (D := (dC, dI)) (ci := 12) (v := .int (nI (tn + 1))) (C := RX12) (T := TX12) (N := 20) hx hb hts (fun _ h9 => List.mem_cons_of_mem _ (List.mem_append_right _ h9)) hown hK hP 0 rfl rfl 12 (by decide) (hts _ (List.mem_cons_of_mem _ (List.mem_append_left _ (List.mem_of_getElem? (i := 1) rfl)))) (fun _ h9 => h9) rfl dX12_addBytes_23 ?_
  refine lv_iconst (v := 1) hx hb dX12_addBytes_26 (by decide) ?_
  refine lv_iadd hx hb dX12_addBytes_27 ?_
  refine lv_topi (fun z_14 ez_14 => ?_)
  obtain rfl : z_14 = nI ((tn + 1) + 1) := ez_14.trans (nI_1 _)
  refine va_put (D := (dC, dI)) (ci := 12) (v := .int (nI ((tn + 1) + 1))) (ty := .int) (C := RX12) (T := TX12) (N := 20) hx hb hts (fun _ h9 => List.mem_cons_of_mem _ (List.mem_append_right _ h9)) tyX12 tyX12_ok nmX12 hown hK hP hD hS 0 rfl rfl 12 (by decide) (hts _ (List.mem_cons_of_mem _ (List.mem_append_left _ (List.mem_of_getElem? (i := 1) rfl)))) (fun _ h9 => h9) rfl (by decide +kernel) rfl rfl (Nat.le_of_ble_eq_true rfl) dX12_addBytes_28 ?_
  clear hP hD hS
  intro H locs hP hD hS
  replace hP : va_P (dC, dI) vwCl [(h0, .inr (12, [.ref w_text, .ref w_memory, .ref w_counts, .ref w_lexer, .ref w_parser, .ref w_checker, .ref w_scope, .ref w_coder, .ref w_machine, .ref w_compiler, .ref w_processor, .ref w_writer, .int (nI ((tn + 1) + 1)), .int 0, .int 0, .int (-1), .int (-1), .int 0, .int 0, .int 0])), (w_text, .inl (c_text, 8192, .inl g_13))] H := hP
  replace hD : va_D A [(h0, .inr (12, [.ref w_text, .ref w_memory, .ref w_counts, .ref w_lexer, .ref w_parser, .ref w_checker, .ref w_scope, .ref w_coder, .ref w_machine, .ref w_compiler, .ref w_processor, .ref w_writer, .int (nI ((tn + 1) + 1)), .int 0, .int 0, .int (-1), .int (-1), .int 0, .int 0, .int 0])), (w_text, .inl (c_text, 8192, .inl g_13))] := hD
  refine lv_iinc (v := 8) (lv' := [(2, .int 8), (0, .ref h0), (1, .int v_v)]) hx hb dX12_addBytes_31 hl (k := 0) rfl (by decide) (by decide) rfl ?_
  clear hl
  intro ls hl
  refine lv_goto (tgt := 3) hx hb dX12_addBytes_34 (by decide) ?_
  refine lv_iload_n hx hb dX12_addBytes_3 rfl (lv_at hl 0 rfl) ?_
  refine lv_if_lt (tgt := 37) hx hb dX12_addBytes_4 (by decide) (fun c_15 => absurd c_15 (by decide)) (fun c_15 => ?_)
  refine lv_aload_n hx hb dX12_addBytes_7 rfl (lv_at hl 1 rfl) ?_
  refine va_get (D := (dC, dI)) (ci := 12) (v := .ref w_text) (C := RX12) (T := TX12) (N := 20) hx hb hts (fun _ h9 => List.mem_cons_of_mem _ (List.mem_append_right _ h9)) hown hK hP 0 rfl rfl 0 (by decide) (hts _ (List.mem_cons_of_mem _ (List.mem_append_left _ (List.mem_of_getElem? (i := 0) rfl)))) (fun _ h9 => h9) rfl dX12_addBytes_8 ?_
  refine lv_aload_n hx hb dX12_addBytes_11 rfl (lv_at hl 1 rfl) ?_
  refine va_get (D := (dC, dI)) (ci := 12) (v := .int (nI ((tn + 1) + 1))) (C := RX12) (T := TX12) (N := 20) hx hb hts (fun _ h9 => List.mem_cons_of_mem _ (List.mem_append_right _ h9)) hown hK hP 0 rfl rfl 12 (by decide) (hts _ (List.mem_cons_of_mem _ (List.mem_append_left _ (List.mem_of_getElem? (i := 1) rfl)))) (fun _ h9 => h9) rfl dX12_addBytes_12 ?_
  refine lv_iload_n hx hb dX12_addBytes_15 rfl (lv_at hl 2 rfl) ?_
  refine lv_iload_n hx hb dX12_addBytes_16 rfl (lv_at hl 0 rfl) ?_
  refine lv_ishr hx hb dX12_addBytes_17 ?_
  refine lv_topi (fun z_16 ez_16 => ?_)
  refine aft_v (wr := [(h0, .inr (12, [.ref w_text, .ref w_memory, .ref w_counts, .ref w_lexer, .ref w_parser, .ref w_checker, .ref w_scope, .ref w_coder, .ref w_machine, .ref w_compiler, .ref w_processor, .ref w_writer, .int (nI ((tn + 1) + 1)), .int 0, .int 0, .int (-1), .int (-1), .int 0, .int 0, .int 0]))]) (va_runS (As := [.ref w_text, .int (nI ((tn + 1) + 1)), .int z_16]) (rest := []) ⟨hx, hb, hml, hown, hts⟩ (c_X12_putByte l dC dI H.size w_text c_text 8192 g_13 (nI ((tn + 1) + 1)) z_16 (by first | assumption | decide | omega)) (cwS 3 hts gzX12_addBytes_X12_putByte_S124 rfl rfl rfl (by decide +kernel) ⟨Nat.le_of_ble_eq_true rfl, Nat.le_of_ble_eq_true rfl⟩) (wB.preS (hP.sub (ws' := [(w_text, .inl (c_text, 8192, .inl g_13))]) [1] rfl) (hK.sub (tys' := [(c_text, .byte)]) [0] rfl) (hD.sub (ws' := [(w_text, .inl (c_text, 8192, .inl g_13))]) [1] (by decide) rfl) hN) rfl rfl hl.1 rfl (lv_room (Nat.le_of_ble_eq_true rfl)) dX12_addBytes_18 ⟨Nat.le_of_ble_eq_true rfl, Nat.le_of_ble_eq_true rfl⟩) hP hD hS hA [1] [0] rfl rfl (by decide) (by decide) ?_
  clear hP hD hS
  intro u_17 H locs w_19 hK1 hP hD hS
  obtain ⟨g_20, rfl⟩ : ∃ z, z = u_17 := ⟨_, rfl⟩
  replace hP : va_P (dC, dI) vwCl [(h0, .inr (12, [.ref w_text, .ref w_memory, .ref w_counts, .ref w_lexer, .ref w_parser, .ref w_checker, .ref w_scope, .ref w_coder, .ref w_machine, .ref w_compiler, .ref w_processor, .ref w_writer, .int (nI ((tn + 1) + 1)), .int 0, .int 0, .int (-1), .int (-1), .int 0, .int 0, .int 0])), (w_text, .inl (c_text, 8192, .inl g_20))] H := hP
  replace hD : va_D A [(h0, .inr (12, [.ref w_text, .ref w_memory, .ref w_counts, .ref w_lexer, .ref w_parser, .ref w_checker, .ref w_scope, .ref w_coder, .ref w_machine, .ref w_compiler, .ref w_processor, .ref w_writer, .int (nI ((tn + 1) + 1)), .int 0, .int 0, .int (-1), .int (-1), .int 0, .int 0, .int 0])), (w_text, .inl (c_text, 8192, .inl g_20))] := hD
  clear hK1
  try dsimp only at w_19
  refine lv_aload_n hx hb dX12_addBytes_21 rfl (lv_at hl 1 rfl) ?_
  refine lv_dup hx hb dX12_addBytes_22 rfl ?_
  refine va_get (D := (dC, dI)) (ci := 12) (v := .int (nI ((tn + 1) + 1))) (C := RX12) (T := TX12) (N := 20) hx hb hts (fun _ h9 => List.mem_cons_of_mem _ (List.mem_append_right _ h9)) hown hK hP 0 rfl rfl 12 (by decide) (hts _ (List.mem_cons_of_mem _ (List.mem_append_left _ (List.mem_of_getElem? (i := 1) rfl)))) (fun _ h9 => h9) rfl dX12_addBytes_23 ?_
  refine lv_iconst (v := 1) hx hb dX12_addBytes_26 (by decide) ?_
  refine lv_iadd hx hb dX12_addBytes_27 ?_
  refine lv_topi (fun z_21 ez_21 => ?_)
  obtain rfl : z_21 = nI (((tn + 1) + 1) + 1) := ez_21.trans (nI_1 _)
  refine va_put (D := (dC, dI)) (ci := 12) (v := .int (nI (((tn + 1) + 1) + 1))) (ty := .int) (C := RX12) (T := TX12) (N := 20) hx hb hts (fun _ h9 => List.mem_cons_of_mem _ (List.mem_append_right _ h9)) tyX12 tyX12_ok nmX12 hown hK hP hD hS 0 rfl rfl 12 (by decide) (hts _ (List.mem_cons_of_mem _ (List.mem_append_left _ (List.mem_of_getElem? (i := 1) rfl)))) (fun _ h9 => h9) rfl (by decide +kernel) rfl rfl (Nat.le_of_ble_eq_true rfl) dX12_addBytes_28 ?_
  clear hP hD hS
  intro H locs hP hD hS
  replace hP : va_P (dC, dI) vwCl [(h0, .inr (12, [.ref w_text, .ref w_memory, .ref w_counts, .ref w_lexer, .ref w_parser, .ref w_checker, .ref w_scope, .ref w_coder, .ref w_machine, .ref w_compiler, .ref w_processor, .ref w_writer, .int (nI (((tn + 1) + 1) + 1)), .int 0, .int 0, .int (-1), .int (-1), .int 0, .int 0, .int 0])), (w_text, .inl (c_text, 8192, .inl g_20))] H := hP
  replace hD : va_D A [(h0, .inr (12, [.ref w_text, .ref w_memory, .ref w_counts, .ref w_lexer, .ref w_parser, .ref w_checker, .ref w_scope, .ref w_coder, .ref w_machine, .ref w_compiler, .ref w_processor, .ref w_writer, .int (nI (((tn + 1) + 1) + 1)), .int 0, .int 0, .int (-1), .int (-1), .int 0, .int 0, .int 0])), (w_text, .inl (c_text, 8192, .inl g_20))] := hD
  refine lv_iinc (v := 0) (lv' := [(2, .int 0), (0, .ref h0), (1, .int v_v)]) hx hb dX12_addBytes_31 hl (k := 0) rfl (by decide) (by decide) rfl ?_
  clear hl
  intro ls hl
  refine lv_goto (tgt := 3) hx hb dX12_addBytes_34 (by decide) ?_
  refine lv_iload_n hx hb dX12_addBytes_3 rfl (lv_at hl 0 rfl) ?_
  refine lv_if_lt (tgt := 37) hx hb dX12_addBytes_4 (by decide) (fun c_22 => absurd c_22 (by decide)) (fun c_22 => ?_)
  refine lv_aload_n hx hb dX12_addBytes_7 rfl (lv_at hl 1 rfl) ?_
  refine va_get (D := (dC, dI)) (ci := 12) (v := .ref w_text) (C := RX12) (T := TX12) (N := 20) hx hb hts (fun _ h9 => List.mem_cons_of_mem _ (List.mem_append_right _ h9)) hown hK hP 0 rfl rfl 0 (by decide) (hts _ (List.mem_cons_of_mem _ (List.mem_append_left _ (List.mem_of_getElem? (i := 0) rfl)))) (fun _ h9 => h9) rfl dX12_addBytes_8 ?_
  refine lv_aload_n hx hb dX12_addBytes_11 rfl (lv_at hl 1 rfl) ?_
  refine va_get (D := (dC, dI)) (ci := 12) (v := .int (nI (((tn + 1) + 1) + 1))) (C := RX12) (T := TX12) (N := 20) hx hb hts (fun _ h9 => List.mem_cons_of_mem _ (List.mem_append_right _ h9)) hown hK hP 0 rfl rfl 12 (by decide) (hts _ (List.mem_cons_of_mem _ (List.mem_append_left _ (List.mem_of_getElem? (i := 1) rfl)))) (fun _ h9 => h9) rfl dX12_addBytes_12 ?_
  refine lv_iload_n hx hb dX12_addBytes_15 rfl (lv_at hl 2 rfl) ?_
  refine lv_iload_n hx hb dX12_addBytes_16 rfl (lv_at hl 0 rfl) ?_
  refine lv_ishr hx hb dX12_addBytes_17 ?_
  refine lv_topi (fun z_23 ez_23 => ?_)
  refine aft_v (wr := [(h0, .inr (12, [.ref w_text, .ref w_memory, .ref w_counts, .ref w_lexer, .ref w_parser, .ref w_checker, .ref w_scope, .ref w_coder, .ref w_machine, .ref w_compiler, .ref w_processor, .ref w_writer, .int (nI (((tn + 1) + 1) + 1)), .int 0, .int 0, .int (-1), .int (-1), .int 0, .int 0, .int 0]))]) (va_runS (As := [.ref w_text, .int (nI (((tn + 1) + 1) + 1)), .int z_23]) (rest := []) ⟨hx, hb, hml, hown, hts⟩ (c_X12_putByte l dC dI H.size w_text c_text 8192 g_20 (nI (((tn + 1) + 1) + 1)) z_23 (by first | assumption | decide | omega)) (cwS 3 hts gzX12_addBytes_X12_putByte_S124 rfl rfl rfl (by decide +kernel) ⟨Nat.le_of_ble_eq_true rfl, Nat.le_of_ble_eq_true rfl⟩) (wB.preS (hP.sub (ws' := [(w_text, .inl (c_text, 8192, .inl g_20))]) [1] rfl) (hK.sub (tys' := [(c_text, .byte)]) [0] rfl) (hD.sub (ws' := [(w_text, .inl (c_text, 8192, .inl g_20))]) [1] (by decide) rfl) hN) rfl rfl hl.1 rfl (lv_room (Nat.le_of_ble_eq_true rfl)) dX12_addBytes_18 ⟨Nat.le_of_ble_eq_true rfl, Nat.le_of_ble_eq_true rfl⟩) hP hD hS hA [1] [0] rfl rfl (by decide) (by decide) ?_
  clear hP hD hS
  intro u_24 H locs w_26 hK1 hP hD hS
  obtain ⟨g_27, rfl⟩ : ∃ z, z = u_24 := ⟨_, rfl⟩
  replace hP : va_P (dC, dI) vwCl [(h0, .inr (12, [.ref w_text, .ref w_memory, .ref w_counts, .ref w_lexer, .ref w_parser, .ref w_checker, .ref w_scope, .ref w_coder, .ref w_machine, .ref w_compiler, .ref w_processor, .ref w_writer, .int (nI (((tn + 1) + 1) + 1)), .int 0, .int 0, .int (-1), .int (-1), .int 0, .int 0, .int 0])), (w_text, .inl (c_text, 8192, .inl g_27))] H := hP
  replace hD : va_D A [(h0, .inr (12, [.ref w_text, .ref w_memory, .ref w_counts, .ref w_lexer, .ref w_parser, .ref w_checker, .ref w_scope, .ref w_coder, .ref w_machine, .ref w_compiler, .ref w_processor, .ref w_writer, .int (nI (((tn + 1) + 1) + 1)), .int 0, .int 0, .int (-1), .int (-1), .int 0, .int 0, .int 0])), (w_text, .inl (c_text, 8192, .inl g_27))] := hD
  clear hK1
  try dsimp only at w_26
  refine lv_aload_n hx hb dX12_addBytes_21 rfl (lv_at hl 1 rfl) ?_
  refine lv_dup hx hb dX12_addBytes_22 rfl ?_
  refine va_get (D := (dC, dI)) (ci := 12) (v := .int (nI (((tn + 1) + 1) + 1))) (C := RX12) (T := TX12) (N := 20) hx hb hts (fun _ h9 => List.mem_cons_of_mem _ (List.mem_append_right _ h9)) hown hK hP 0 rfl rfl 12 (by decide) (hts _ (List.mem_cons_of_mem _ (List.mem_append_left _ (List.mem_of_getElem? (i := 1) rfl)))) (fun _ h9 => h9) rfl dX12_addBytes_23 ?_
  refine lv_iconst (v := 1) hx hb dX12_addBytes_26 (by decide) ?_
  refine lv_iadd hx hb dX12_addBytes_27 ?_
  refine lv_topi (fun z_28 ez_28 => ?_)
  obtain rfl : z_28 = nI ((((tn + 1) + 1) + 1) + 1) := ez_28.trans (nI_1 _)
  refine va_put (D := (dC, dI)) (ci := 12) (v := .int (nI ((((tn + 1) + 1) + 1) + 1))) (ty := .int) (C := RX12) (T := TX12) (N := 20) hx hb hts (fun _ h9 => List.mem_cons_of_mem _ (List.mem_append_right _ h9)) tyX12 tyX12_ok nmX12 hown hK hP hD hS 0 rfl rfl 12 (by decide) (hts _ (List.mem_cons_of_mem _ (List.mem_append_left _ (List.mem_of_getElem? (i := 1) rfl)))) (fun _ h9 => h9) rfl (by decide +kernel) rfl rfl (Nat.le_of_ble_eq_true rfl) dX12_addBytes_28 ?_
  clear hP hD hS
  intro H locs hP hD hS
  replace hP : va_P (dC, dI) vwCl [(h0, .inr (12, [.ref w_text, .ref w_memory, .ref w_counts, .ref w_lexer, .ref w_parser, .ref w_checker, .ref w_scope, .ref w_coder, .ref w_machine, .ref w_compiler, .ref w_processor, .ref w_writer, .int (nI ((((tn + 1) + 1) + 1) + 1)), .int 0, .int 0, .int (-1), .int (-1), .int 0, .int 0, .int 0])), (w_text, .inl (c_text, 8192, .inl g_27))] H := hP
  replace hD : va_D A [(h0, .inr (12, [.ref w_text, .ref w_memory, .ref w_counts, .ref w_lexer, .ref w_parser, .ref w_checker, .ref w_scope, .ref w_coder, .ref w_machine, .ref w_compiler, .ref w_processor, .ref w_writer, .int (nI ((((tn + 1) + 1) + 1) + 1)), .int 0, .int 0, .int (-1), .int (-1), .int 0, .int 0, .int 0])), (w_text, .inl (c_text, 8192, .inl g_27))] := hD
  refine lv_iinc (v := (-8)) (lv' := [(2, .int (-8)), (0, .ref h0), (1, .int v_v)]) hx hb dX12_addBytes_31 hl (k := 0) rfl (by decide) (by decide) rfl ?_
  clear hl
  intro ls hl
  refine lv_goto (tgt := 3) hx hb dX12_addBytes_34 (by decide) ?_
  refine lv_iload_n hx hb dX12_addBytes_3 rfl (lv_at hl 0 rfl) ?_
  refine lv_if_lt (tgt := 37) hx hb dX12_addBytes_4 (by decide) (fun c_29 => ?_) (fun c_29 => absurd (by decide) c_29)
  have hP9 := hP.sub (ws' := [(h0, .inr (12, [.ref w_text, .ref w_memory, .ref w_counts, .ref w_lexer, .ref w_parser, .ref w_checker, .ref w_scope, .ref w_coder, .ref w_machine, .ref w_compiler, .ref w_processor, .ref w_writer, .int (nI (tn + 4)), .int 0, .int 0, .int (-1), .int (-1), .int 0, .int 0, .int 0])), (w_text, .inl (c_text, 8192, .inl g_27))]) [0, 1] rfl
  have hD9 := hD.sub (ws' := [(h0, .inr (12, [.ref w_text, .ref w_memory, .ref w_counts, .ref w_lexer, .ref w_parser, .ref w_checker, .ref w_scope, .ref w_coder, .ref w_machine, .ref w_compiler, .ref w_processor, .ref w_writer, .int (nI (tn + 4)), .int 0, .int 0, .int (-1), .int (-1), .int 0, .int 0, .int 0])), (w_text, .inl (c_text, 8192, .inl g_27))]) [0, 1] (by decide) rfl
  have hK9 := hK.sub (tys' := [(c_text, .byte)]) [0] rfl
  exact W.vret hx hb hr (fun t ht hW => ⟨⟨g_27, rfl, trivial, wE.of ht hW hP9 hK9 hD9⟩, hS.F ht⟩) hS.2.2 dX12_addBytes_37

theorem dX12_feed_0 : decode cX12_feed 0 = .ok (.aload_n 0, 1) := by decide +kernel
theorem dX12_feed_1 : decode cX12_feed 1 = .ok (.getfield 110, 3) := by decide +kernel
theorem dX12_feed_4 : decode cX12_feed 4 = .ok (.bipush 20, 2) := by decide +kernel
theorem dX12_feed_6 : decode cX12_feed 6 = .ok (.iadd, 1) := by decide +kernel
theorem dX12_feed_7 : decode cX12_feed 7 = .ok (.sipush 8192, 3) := by decide +kernel
theorem dX12_feed_10 : decode cX12_feed 10 = .ok (.if_icmp .le 13, 3) := by decide +kernel
theorem dX12_feed_23 : decode cX12_feed 23 = .ok (.aload_n 0, 1) := by decide +kernel
theorem dX12_feed_24 : decode cX12_feed 24 = .ok (.iload_n 1, 1) := by decide +kernel
theorem dX12_feed_25 : decode cX12_feed 25 = .ok (.invokevirtual 120, 3) := by decide +kernel
theorem dX12_feed_28 : decode cX12_feed 28 = .ok (.aload_n 0, 1) := by decide +kernel
theorem dX12_feed_29 : decode cX12_feed 29 = .ok (.iload_n 2, 1) := by decide +kernel
theorem dX12_feed_30 : decode cX12_feed 30 = .ok (.invokevirtual 120, 3) := by decide +kernel
theorem dX12_feed_33 : decode cX12_feed 33 = .ok (.aload_n 0, 1) := by decide +kernel
theorem dX12_feed_34 : decode cX12_feed 34 = .ok (.iload_n 3, 1) := by decide +kernel
theorem dX12_feed_35 : decode cX12_feed 35 = .ok (.invokevirtual 120, 3) := by decide +kernel
theorem dX12_feed_38 : decode cX12_feed 38 = .ok (.aload_n 0, 1) := by decide +kernel
theorem dX12_feed_39 : decode cX12_feed 39 = .ok (.iload 4, 2) := by decide +kernel
theorem dX12_feed_41 : decode cX12_feed 41 = .ok (.invokevirtual 120, 3) := by decide +kernel
theorem dX12_feed_44 : decode cX12_feed 44 = .ok (.aload_n 0, 1) := by decide +kernel
theorem dX12_feed_45 : decode cX12_feed 45 = .ok (.iload 5, 2) := by decide +kernel
theorem dX12_feed_47 : decode cX12_feed 47 = .ok (.invokevirtual 120, 3) := by decide +kernel
theorem dX12_feed_50 : decode cX12_feed 50 = .ok (.aload_n 0, 1) := by decide +kernel
theorem dX12_feed_51 : decode cX12_feed 51 = .ok (.getfield 110, 3) := by decide +kernel
theorem dX12_feed_54 : decode cX12_feed 54 = .ok (.ireturn, 1) := by decide +kernel
def zlX12_feed : List Cond := [.fieldLink RX12 110 "LeanHouse" "textSize" "I", .methodLink RX12 120 yX12_addBytes, .instanceMethod yX12_addBytes, .selects RX12 yX12_addBytes yX12_addBytes, .initialized RX12, .code yX12_addBytes cX12_addBytes 3 none, .fieldLink RX12 9 "LeanHouse" "text" "[B", .methodLink RX12 124 yX12_putByte, .static yX12_putByte, .code yX12_putByte cX12_putByte 3 none]
def zsX12_feed : List Cond := .code yX12_feed cX12_feed 6 (some .int) :: (zlX12_feed ++ (wsX120))
set_option maxRecDepth 20000 in
theorem gzX12_feed_X12_addBytes_V120 : GoodIn zsX12_feed (wsV RX12 120 RX12 yX12_addBytes zsX12_addBytes) := (goodIn_app (goodIn_r _ [2, 3, 4, 5] (by decide +kernel) (by decide +kernel)) (goodIn_ca (goodIn_r _ [6, 7, 1, 8, 9, 5, 10] (by decide +kernel) (by decide +kernel)) (goodIn_sub (fun _ h9 => List.mem_cons_of_mem _ (List.mem_append_right _ h9)) gwX12)))
set_option maxHeartbeats 8000000 in
set_option maxRecDepth 100000 in
theorem c_X12_feed (l : Launch) (dC : Nat → ClassId) (dI : Nat → Nat → Nat) (sz : Nat) (h0 : Nat) (w_text : Nat) (w_memory : Nat) (w_counts : Nat) (w_lexer : Nat) (w_parser : Nat) (w_checker : Nat) (w_scope : Nat) (w_coder : Nat) (w_machine : Nat) (w_compiler : Nat) (w_processor : Nat) (w_writer : Nat) (c_text : ClassId) (f_text : Nat → Int32) (v_a : Int32) (v_b : Int32) (v_c : Int32) (v_d : Int32) (v_e : Int32) : Met l yX12_feed zsX12_feed ({ frames := 3, cells := 0, slots := 0, locals := 56 } : Room) (va_Pc [.ref h0, .int v_a, .int v_b, .int v_c, .int v_d, .int v_e] (wB (dC, dI) vwCl nestM [(c_text, .byte)] [(h0, .inr (12, [.ref w_text, .ref w_memory, .ref w_counts, .ref w_lexer, .ref w_parser, .ref w_checker, .ref w_scope, .ref w_coder, .ref w_machine, .ref w_compiler, .ref w_processor, .ref w_writer, .int 0, .int 0, .int 0, .int (-1), .int (-1), .int 0, .int 0, .int 0])), (w_text, .inl (c_text, 8192, .inl f_text))] sz)) (va_Qi (fun (r : Int32) (u : (Nat → Int32)) => r = 20) (fun (u : (Nat → Int32)) (t : State) => wE (dC, dI) vwCl [(c_text, .byte)] [(h0, .inr (12, [.ref w_text, .ref w_memory, .ref w_counts, .ref w_lexer, .ref w_parser, .ref w_checker, .ref w_scope, .ref w_coder, .ref w_machine, .ref w_compiler, .ref w_processor, .ref w_writer, .int 20, .int 0, .int 0, .int (-1), .int (-1), .int 0, .int 0, .int 0])), (w_text, .inl (c_text, 8192, .inl u))] (va_A [(h0, .inr (12, [.ref w_text, .ref w_memory, .ref w_counts, .ref w_lexer, .ref w_parser, .ref w_checker, .ref w_scope, .ref w_coder, .ref w_machine, .ref w_compiler, .ref w_processor, .ref w_writer, .int 0, .int 0, .int 0, .int (-1), .int (-1), .int 0, .int 0, .int 0])), (w_text, .inl (c_text, 8192, .inl f_text))] sz) t) (va_A [(h0, .inr (12, [.ref w_text, .ref w_memory, .ref w_counts, .ref w_lexer, .ref w_parser, .ref w_checker, .ref w_scope, .ref w_coder, .ref w_machine, .ref w_compiler, .ref w_processor, .ref w_writer, .int 0, .int 0, .int 0, .int (-1), .int (-1), .int 0, .int 0, .int 0])), (w_text, .inl (c_text, 8192, .inl f_text))] sz)) 0 0 (va_A [(h0, .inr (12, [.ref w_text, .ref w_memory, .ref w_counts, .ref w_lexer, .ref w_parser, .ref w_checker, .ref w_scope, .ref w_coder, .ref w_machine, .ref w_compiler, .ref w_processor, .ref w_writer, .int 0, .int 0, .int 0, .int (-1), .int (-1), .int 0, .int 0, .int 0])), (w_text, .inl (c_text, 8192, .inl f_text))] sz) := by
  refine Met.ofW (cc := cX12_feed) (maxL := 6) (ret := (some .int)) (by decide) rfl ?_
  intro p e s m args below meth c s₁ B hml hv
  obtain ⟨rfl, hsz, hP, hK, hD0, hN⟩ := hv
  have hx := B.exec
  have hb := B.bytes
  have hr := B.returns
  have hts := atoms_spec (ws := zsX12_feed) B.pre
  have hown : s.vm.findClass RX12 = some m.cls := findClass_of_methodNamed B.named
  have hlocks := B.notSynchronized
  subst hsz
  have hD := hD0.self (sz := s.heap.size)
  generalize hAe : va_A [(h0, .inr (12, [.ref w_text, .ref w_memory, .ref w_counts, .ref w_lexer, .ref w_parser, .ref w_checker, .ref w_scope, .ref w_coder, .ref w_machine, .ref w_compiler, .ref w_processor, .ref w_writer, .int 0, .int 0, .int 0, .int (-1), .int (-1), .int 0, .int 0, .int 0])), (w_text, .inl (c_text, 8192, .inl f_text))] s.heap.size = A at hD ⊢
  have hA : ∀ q : Nat, s.heap.size ≤ q → A q := fun q h => by rw [← hAe]; exact Or.inr h
  have hS : va_S A s.heap s.heap [] := va_S.rf
  have hP : va_P (dC, dI) vwCl [(h0, .inr (12, [.ref w_text, .ref w_memory, .ref w_counts, .ref w_lexer, .ref w_parser, .ref w_checker, .ref w_scope, .ref w_coder, .ref w_machine, .ref w_compiler, .ref w_processor, .ref w_writer, .int 0, .int 0, .int 0, .int (-1), .int (-1), .int 0, .int 0, .int 0])), (w_text, .inl (c_text, 8192, .inl f_text))] s.heap := hP
  have hl := lv_entry ([.ref h0, .int v_a, .int v_b, .int v_c, .int v_d, .int v_e]) (n := 6) (Nat.le_of_ble_eq_true rfl)
  rw [lg_entry_eq]
  generalize (lg_sl ([.ref h0, .int v_a, .int v_b, .int v_c, .int v_d, .int v_e]) ++ List.replicate (6 - (lg_sl ([.ref h0, .int v_a, .int v_b, .int v_c, .int v_d, .int v_e])).length) Slot.unset).toArray = ls at hl ⊢
  have hl : lv_has ls 6 [(0, .ref h0), (1, .int v_a), (2, .int v_b), (3, .int v_c), (4, .int v_d), (5, .int v_e)] := hl
  refine lv_aload_n hx hb dX12_feed_0 rfl (lv_at hl 0 rfl) ?_
  refine va_get (D := (dC, dI)) (ci := 12) (v := .int 0) (C := RX12) (T := TX12) (N := 20) hx hb hts (fun _ h9 => List.mem_cons_of_mem _ (List.mem_append_right _ h9)) hown hK hP 0 rfl rfl 12 (by decide) (hts _ (List.mem_cons_of_mem _ (List.mem_append_left _ (List.mem_of_getElem? (i := 0) rfl)))) (fun _ h9 => h9) rfl dX12_feed_1 ?_
  refine lv_bipush (v := 20) hx hb dX12_feed_4 (by decide) ?_
  refine lv_iadd hx hb dX12_feed_6 ?_
  refine lv_topi (fun z_1 ez_1 => ?_)
  obtain rfl : z_1 = 20 := ez_1.trans (by decide)
  refine lv_sipush (v := 8192) hx hb dX12_feed_7 (by decide) ?_
  refine lv_icmp_le (tgt := 23) hx hb dX12_feed_10 (by decide) (fun c_2 => ?_) (fun c_2 => absurd (by decide) c_2)
  refine lv_aload_n hx hb dX12_feed_23 rfl (lv_at hl 0 rfl) ?_
  refine lv_iload_n hx hb dX12_feed_24 rfl (lv_at hl 1 rfl) ?_
  refine aft_v (wr := []) (va_runV (As := [.int v_a]) (rest := []) ⟨hx, hb, hml, hown, hts⟩ (c_X12_addBytes l dC dI s.heap.size h0 w_text w_memory w_counts w_lexer w_parser w_checker w_scope w_coder w_machine w_compiler w_processor w_writer c_text f_text v_a 0) (cwV 1 hts gzX12_feed_X12_addBytes_V120 rfl rfl rfl (by decide +kernel) ⟨Nat.le_of_ble_eq_true rfl, Nat.le_of_ble_eq_true rfl⟩) (wB.preV (hP.sub (ws' := [(h0, .inr (12, [.ref w_text, .ref w_memory, .ref w_counts, .ref w_lexer, .ref w_parser, .ref w_checker, .ref w_scope, .ref w_coder, .ref w_machine, .ref w_compiler, .ref w_processor, .ref w_writer, .int 0, .int 0, .int 0, .int (-1), .int (-1), .int 0, .int 0, .int 0])), (w_text, .inl (c_text, 8192, .inl f_text))]) [0, 1] rfl) (hK.sub (tys' := [(c_text, .byte)]) [0] rfl) (hD.sub (ws' := [(h0, .inr (12, [.ref w_text, .ref w_memory, .ref w_counts, .ref w_lexer, .ref w_parser, .ref w_checker, .ref w_scope, .ref w_coder, .ref w_machine, .ref w_compiler, .ref w_processor, .ref w_writer, .int 0, .int 0, .int 0, .int (-1), .int (-1), .int 0, .int 0, .int 0])), (w_text, .inl (c_text, 8192, .inl f_text))]) [0, 1] (by decide) rfl) hN 12 0 rfl rfl) rfl rfl hl.1 rfl (lv_room (Nat.le_of_ble_eq_true rfl)) dX12_feed_25 ⟨Nat.le_of_ble_eq_true rfl, Nat.le_of_ble_eq_true rfl⟩) hP hD hS hA [0, 1] [] rfl rfl (by decide) (by decide) ?_
  clear hP hD hS
  intro u_3 H locs w_5 hK1 hP hD hS
  obtain ⟨gtext_6, rfl⟩ : ∃ z, z = u_3 := ⟨_, rfl⟩
  replace hP : va_P (dC, dI) vwCl [(h0, .inr (12, [.ref w_text, .ref w_memory, .ref w_counts, .ref w_lexer, .ref w_parser, .ref w_checker, .ref w_scope, .ref w_coder, .ref w_machine, .ref w_compiler, .ref w_processor, .ref w_writer, .int 4, .int 0, .int 0, .int (-1), .int (-1), .int 0, .int 0, .int 0])), (w_text, .inl (c_text, 8192, .inl gtext_6))] H := hP
  replace hD : va_D A [(h0, .inr (12, [.ref w_text, .ref w_memory, .ref w_counts, .ref w_lexer, .ref w_parser, .ref w_checker, .ref w_scope, .ref w_coder, .ref w_machine, .ref w_compiler, .ref w_processor, .ref w_writer, .int 4, .int 0, .int 0, .int (-1), .int (-1), .int 0, .int 0, .int 0])), (w_text, .inl (c_text, 8192, .inl gtext_6))] := hD
  clear hK1
  try dsimp only at w_5
  refine lv_aload_n hx hb dX12_feed_28 rfl (lv_at hl 0 rfl) ?_
  refine lv_iload_n hx hb dX12_feed_29 rfl (lv_at hl 2 rfl) ?_
  refine aft_v (wr := []) (va_runV (As := [.int v_b]) (rest := []) ⟨hx, hb, hml, hown, hts⟩ (c_X12_addBytes l dC dI H.size h0 w_text w_memory w_counts w_lexer w_parser w_checker w_scope w_coder w_machine w_compiler w_processor w_writer c_text gtext_6 v_b 4) (cwV 1 hts gzX12_feed_X12_addBytes_V120 rfl rfl rfl (by decide +kernel) ⟨Nat.le_of_ble_eq_true rfl, Nat.le_of_ble_eq_true rfl⟩) (wB.preV (hP.sub (ws' := [(h0, .inr (12, [.ref w_text, .ref w_memory, .ref w_counts, .ref w_lexer, .ref w_parser, .ref w_checker, .ref w_scope, .ref w_coder, .ref w_machine, .ref w_compiler, .ref w_processor, .ref w_writer, .int 4, .int 0, .int 0, .int (-1), .int (-1), .int 0, .int 0, .int 0])), (w_text, .inl (c_text, 8192, .inl gtext_6))]) [0, 1] rfl) (hK.sub (tys' := [(c_text, .byte)]) [0] rfl) (hD.sub (ws' := [(h0, .inr (12, [.ref w_text, .ref w_memory, .ref w_counts, .ref w_lexer, .ref w_parser, .ref w_checker, .ref w_scope, .ref w_coder, .ref w_machine, .ref w_compiler, .ref w_processor, .ref w_writer, .int 4, .int 0, .int 0, .int (-1), .int (-1), .int 0, .int 0, .int 0])), (w_text, .inl (c_text, 8192, .inl gtext_6))]) [0, 1] (by decide) rfl) hN 12 0 rfl rfl) rfl rfl hl.1 rfl (lv_room (Nat.le_of_ble_eq_true rfl)) dX12_feed_30 ⟨Nat.le_of_ble_eq_true rfl, Nat.le_of_ble_eq_true rfl⟩) hP hD hS hA [0, 1] [] rfl rfl (by decide) (by decide) ?_
  clear hP hD hS
  intro u_7 H locs w_9 hK1 hP hD hS
  obtain ⟨gtext_10, rfl⟩ : ∃ z, z = u_7 := ⟨_, rfl⟩
  replace hP : va_P (dC, dI) vwCl [(h0, .inr (12, [.ref w_text, .ref w_memory, .ref w_counts, .ref w_lexer, .ref w_parser, .ref w_checker, .ref w_scope, .ref w_coder, .ref w_machine, .ref w_compiler, .ref w_processor, .ref w_writer, .int 8, .int 0, .int 0, .int (-1), .int (-1), .int 0, .int 0, .int 0])), (w_text, .inl (c_text, 8192, .inl gtext_10))] H := hP
  replace hD : va_D A [(h0, .inr (12, [.ref w_text, .ref w_memory, .ref w_counts, .ref w_lexer, .ref w_parser, .ref w_checker, .ref w_scope, .ref w_coder, .ref w_machine, .ref w_compiler, .ref w_processor, .ref w_writer, .int 8, .int 0, .int 0, .int (-1), .int (-1), .int 0, .int 0, .int 0])), (w_text, .inl (c_text, 8192, .inl gtext_10))] := hD
  clear hK1
  try dsimp only at w_9
  refine lv_aload_n hx hb dX12_feed_33 rfl (lv_at hl 0 rfl) ?_
  refine lv_iload_n hx hb dX12_feed_34 rfl (lv_at hl 3 rfl) ?_
  refine aft_v (wr := []) (va_runV (As := [.int v_c]) (rest := []) ⟨hx, hb, hml, hown, hts⟩ (c_X12_addBytes l dC dI H.size h0 w_text w_memory w_counts w_lexer w_parser w_checker w_scope w_coder w_machine w_compiler w_processor w_writer c_text gtext_10 v_c 8) (cwV 1 hts gzX12_feed_X12_addBytes_V120 rfl rfl rfl (by decide +kernel) ⟨Nat.le_of_ble_eq_true rfl, Nat.le_of_ble_eq_true rfl⟩) (wB.preV (hP.sub (ws' := [(h0, .inr (12, [.ref w_text, .ref w_memory, .ref w_counts, .ref w_lexer, .ref w_parser, .ref w_checker, .ref w_scope, .ref w_coder, .ref w_machine, .ref w_compiler, .ref w_processor, .ref w_writer, .int 8, .int 0, .int 0, .int (-1), .int (-1), .int 0, .int 0, .int 0])), (w_text, .inl (c_text, 8192, .inl gtext_10))]) [0, 1] rfl) (hK.sub (tys' := [(c_text, .byte)]) [0] rfl) (hD.sub (ws' := [(h0, .inr (12, [.ref w_text, .ref w_memory, .ref w_counts, .ref w_lexer, .ref w_parser, .ref w_checker, .ref w_scope, .ref w_coder, .ref w_machine, .ref w_compiler, .ref w_processor, .ref w_writer, .int 8, .int 0, .int 0, .int (-1), .int (-1), .int 0, .int 0, .int 0])), (w_text, .inl (c_text, 8192, .inl gtext_10))]) [0, 1] (by decide) rfl) hN 12 0 rfl rfl) rfl rfl hl.1 rfl (lv_room (Nat.le_of_ble_eq_true rfl)) dX12_feed_35 ⟨Nat.le_of_ble_eq_true rfl, Nat.le_of_ble_eq_true rfl⟩) hP hD hS hA [0, 1] [] rfl rfl (by decide) (by decide) ?_
  clear hP hD hS
  intro u_11 H locs w_13 hK1 hP hD hS
  obtain ⟨gtext_14, rfl⟩ : ∃ z, z = u_11 := ⟨_, rfl⟩
  replace hP : va_P (dC, dI) vwCl [(h0, .inr (12, [.ref w_text, .ref w_memory, .ref w_counts, .ref w_lexer, .ref w_parser, .ref w_checker, .ref w_scope, .ref w_coder, .ref w_machine, .ref w_compiler, .ref w_processor, .ref w_writer, .int 12, .int 0, .int 0, .int (-1), .int (-1), .int 0, .int 0, .int 0])), (w_text, .inl (c_text, 8192, .inl gtext_14))] H := hP
  replace hD : va_D A [(h0, .inr (12, [.ref w_text, .ref w_memory, .ref w_counts, .ref w_lexer, .ref w_parser, .ref w_checker, .ref w_scope, .ref w_coder, .ref w_machine, .ref w_compiler, .ref w_processor, .ref w_writer, .int 12, .int 0, .int 0, .int (-1), .int (-1), .int 0, .int 0, .int 0])), (w_text, .inl (c_text, 8192, .inl gtext_14))] := hD
  clear hK1
  try dsimp only at w_13
  refine lv_aload_n hx hb dX12_feed_38 rfl (lv_at hl 0 rfl) ?_
  refine lv_iload hx hb dX12_feed_39 (lv_at hl 4 rfl) ?_
  refine aft_v (wr := []) (va_runV (As := [.int v_d]) (rest := []) ⟨hx, hb, hml, hown, hts⟩ (c_X12_addBytes l dC dI H.size h0 w_text w_memory w_counts w_lexer w_parser w_checker w_scope w_coder w_machine w_compiler w_processor w_writer c_text gtext_14 v_d 12) (cwV 1 hts gzX12_feed_X12_addBytes_V120 rfl rfl rfl (by decide +kernel) ⟨Nat.le_of_ble_eq_true rfl, Nat.le_of_ble_eq_true rfl⟩) (wB.preV (hP.sub (ws' := [(h0, .inr (12, [.ref w_text, .ref w_memory, .ref w_counts, .ref w_lexer, .ref w_parser, .ref w_checker, .ref w_scope, .ref w_coder, .ref w_machine, .ref w_compiler, .ref w_processor, .ref w_writer, .int 12, .int 0, .int 0, .int (-1), .int (-1), .int 0, .int 0, .int 0])), (w_text, .inl (c_text, 8192, .inl gtext_14))]) [0, 1] rfl) (hK.sub (tys' := [(c_text, .byte)]) [0] rfl) (hD.sub (ws' := [(h0, .inr (12, [.ref w_text, .ref w_memory, .ref w_counts, .ref w_lexer, .ref w_parser, .ref w_checker, .ref w_scope, .ref w_coder, .ref w_machine, .ref w_compiler, .ref w_processor, .ref w_writer, .int 12, .int 0, .int 0, .int (-1), .int (-1), .int 0, .int 0, .int 0])), (w_text, .inl (c_text, 8192, .inl gtext_14))]) [0, 1] (by decide) rfl) hN 12 0 rfl rfl) rfl rfl hl.1 rfl (lv_room (Nat.le_of_ble_eq_true rfl)) dX12_feed_41 ⟨Nat.le_of_ble_eq_true rfl, Nat.le_of_ble_eq_true rfl⟩) hP hD hS hA [0, 1] [] rfl rfl (by decide) (by decide) ?_
  clear hP hD hS
  intro u_15 H locs w_17 hK1 hP hD hS
  obtain ⟨gtext_18, rfl⟩ : ∃ z, z = u_15 := ⟨_, rfl⟩
  replace hP : va_P (dC, dI) vwCl [(h0, .inr (12, [.ref w_text, .ref w_memory, .ref w_counts, .ref w_lexer, .ref w_parser, .ref w_checker, .ref w_scope, .ref w_coder, .ref w_machine, .ref w_compiler, .ref w_processor, .ref w_writer, .int 16, .int 0, .int 0, .int (-1), .int (-1), .int 0, .int 0, .int 0])), (w_text, .inl (c_text, 8192, .inl gtext_18))] H := hP
  replace hD : va_D A [(h0, .inr (12, [.ref w_text, .ref w_memory, .ref w_counts, .ref w_lexer, .ref w_parser, .ref w_checker, .ref w_scope, .ref w_coder, .ref w_machine, .ref w_compiler, .ref w_processor, .ref w_writer, .int 16, .int 0, .int 0, .int (-1), .int (-1), .int 0, .int 0, .int 0])), (w_text, .inl (c_text, 8192, .inl gtext_18))] := hD
  clear hK1
  try dsimp only at w_17
  refine lv_aload_n hx hb dX12_feed_44 rfl (lv_at hl 0 rfl) ?_
  refine lv_iload hx hb dX12_feed_45 (lv_at hl 5 rfl) ?_
  refine aft_v (wr := []) (va_runV (As := [.int v_e]) (rest := []) ⟨hx, hb, hml, hown, hts⟩ (c_X12_addBytes l dC dI H.size h0 w_text w_memory w_counts w_lexer w_parser w_checker w_scope w_coder w_machine w_compiler w_processor w_writer c_text gtext_18 v_e 16) (cwV 1 hts gzX12_feed_X12_addBytes_V120 rfl rfl rfl (by decide +kernel) ⟨Nat.le_of_ble_eq_true rfl, Nat.le_of_ble_eq_true rfl⟩) (wB.preV (hP.sub (ws' := [(h0, .inr (12, [.ref w_text, .ref w_memory, .ref w_counts, .ref w_lexer, .ref w_parser, .ref w_checker, .ref w_scope, .ref w_coder, .ref w_machine, .ref w_compiler, .ref w_processor, .ref w_writer, .int 16, .int 0, .int 0, .int (-1), .int (-1), .int 0, .int 0, .int 0])), (w_text, .inl (c_text, 8192, .inl gtext_18))]) [0, 1] rfl) (hK.sub (tys' := [(c_text, .byte)]) [0] rfl) (hD.sub (ws' := [(h0, .inr (12, [.ref w_text, .ref w_memory, .ref w_counts, .ref w_lexer, .ref w_parser, .ref w_checker, .ref w_scope, .ref w_coder, .ref w_machine, .ref w_compiler, .ref w_processor, .ref w_writer, .int 16, .int 0, .int 0, .int (-1), .int (-1), .int 0, .int 0, .int 0])), (w_text, .inl (c_text, 8192, .inl gtext_18))]) [0, 1] (by decide) rfl) hN 12 0 rfl rfl) rfl rfl hl.1 rfl (lv_room (Nat.le_of_ble_eq_true rfl)) dX12_feed_47 ⟨Nat.le_of_ble_eq_true rfl, Nat.le_of_ble_eq_true rfl⟩) hP hD hS hA [0, 1] [] rfl rfl (by decide) (by decide) ?_
  clear hP hD hS
  intro u_19 H locs w_21 hK1 hP hD hS
  obtain ⟨gtext_22, rfl⟩ : ∃ z, z = u_19 := ⟨_, rfl⟩
  replace hP : va_P (dC, dI) vwCl [(h0, .inr (12, [.ref w_text, .ref w_memory, .ref w_counts, .ref w_lexer, .ref w_parser, .ref w_checker, .ref w_scope, .ref w_coder, .ref w_machine, .ref w_compiler, .ref w_processor, .ref w_writer, .int 20, .int 0, .int 0, .int (-1), .int (-1), .int 0, .int 0, .int 0])), (w_text, .inl (c_text, 8192, .inl gtext_22))] H := hP
  replace hD : va_D A [(h0, .inr (12, [.ref w_text, .ref w_memory, .ref w_counts, .ref w_lexer, .ref w_parser, .ref w_checker, .ref w_scope, .ref w_coder, .ref w_machine, .ref w_compiler, .ref w_processor, .ref w_writer, .int 20, .int 0, .int 0, .int (-1), .int (-1), .int 0, .int 0, .int 0])), (w_text, .inl (c_text, 8192, .inl gtext_22))] := hD
  clear hK1
  try dsimp only at w_21
  refine lv_aload_n hx hb dX12_feed_50 rfl (lv_at hl 0 rfl) ?_
  refine va_get (D := (dC, dI)) (ci := 12) (v := .int 20) (C := RX12) (T := TX12) (N := 20) hx hb hts (fun _ h9 => List.mem_cons_of_mem _ (List.mem_append_right _ h9)) hown hK hP 0 rfl rfl 12 (by decide) (hts _ (List.mem_cons_of_mem _ (List.mem_append_left _ (List.mem_of_getElem? (i := 0) rfl)))) (fun _ h9 => h9) rfl dX12_feed_51 ?_
  have hP9 := hP.sub (ws' := [(h0, .inr (12, [.ref w_text, .ref w_memory, .ref w_counts, .ref w_lexer, .ref w_parser, .ref w_checker, .ref w_scope, .ref w_coder, .ref w_machine, .ref w_compiler, .ref w_processor, .ref w_writer, .int 20, .int 0, .int 0, .int (-1), .int (-1), .int 0, .int 0, .int 0])), (w_text, .inl (c_text, 8192, .inl gtext_22))]) [0, 1] rfl
  have hD9 := hD.sub (ws' := [(h0, .inr (12, [.ref w_text, .ref w_memory, .ref w_counts, .ref w_lexer, .ref w_parser, .ref w_checker, .ref w_scope, .ref w_coder, .ref w_machine, .ref w_compiler, .ref w_processor, .ref w_writer, .int 20, .int 0, .int 0, .int (-1), .int (-1), .int 0, .int 0, .int 0])), (w_text, .inl (c_text, 8192, .inl gtext_22))]) [0, 1] (by decide) rfl
  have hK9 := hK.sub (tys' := [(c_text, .byte)]) [0] rfl
  exact W.iret (v := 20) hx hb hr (fun t ht hW => ⟨⟨20, gtext_22, rfl, rfl, wE.of ht hW hP9 hK9 hD9⟩, hS.F ht⟩) hS.2.2 dX12_feed_54

theorem dX12_end_0 : decode cX12_end 0 = .ok (.iload_n 1, 1) := by decide +kernel
theorem dX12_end_1 : decode cX12_end 1 = .ok (.ifCond .lt 17, 3) := by decide +kernel
theorem dX12_end_4 : decode cX12_end 4 = .ok (.iload_n 1, 1) := by decide +kernel
theorem dX12_end_5 : decode cX12_end 5 = .ok (.bipush 19, 2) := by decide +kernel
theorem dX12_end_7 : decode cX12_end 7 = .ok (.if_icmp .gt 11, 3) := by decide +kernel
theorem dX12_end_10 : decode cX12_end 10 = .ok (.iload_n 1, 1) := by decide +kernel
theorem dX12_end_11 : decode cX12_end 11 = .ok (.aload_n 0, 1) := by decide +kernel
theorem dX12_end_12 : decode cX12_end 12 = .ok (.getfield 110, 3) := by decide +kernel
theorem dX12_end_15 : decode cX12_end 15 = .ok (.if_icmp .le 13, 3) := by decide +kernel
theorem dX12_end_28 : decode cX12_end 28 = .ok (.aload_n 0, 1) := by decide +kernel
theorem dX12_end_29 : decode cX12_end 29 = .ok (.dup, 1) := by decide +kernel
theorem dX12_end_30 : decode cX12_end 30 = .ok (.getfield 110, 3) := by decide +kernel
theorem dX12_end_33 : decode cX12_end 33 = .ok (.iload_n 1, 1) := by decide +kernel
theorem dX12_end_34 : decode cX12_end 34 = .ok (.isub, 1) := by decide +kernel
theorem dX12_end_35 : decode cX12_end 35 = .ok (.putfield 110, 3) := by decide +kernel
theorem dX12_end_38 : decode cX12_end 38 = .ok (.aload_n 0, 1) := by decide +kernel
theorem dX12_end_39 : decode cX12_end 39 = .ok (.getfield 110, 3) := by decide +kernel
theorem dX12_end_42 : decode cX12_end 42 = .ok (.ireturn, 1) := by decide +kernel
def zlX12_end : List Cond := [.fieldLink RX12 110 "LeanHouse" "textSize" "I"]
def zsX12_end : List Cond := .code yX12_end cX12_end 2 (some .int) :: (zlX12_end ++ (wsX120))
set_option maxHeartbeats 8000000 in
set_option maxRecDepth 100000 in
theorem c_X12_endA (l : Launch) (dC : Nat → ClassId) (dI : Nat → Nat → Nat) (sz : Nat) (h0 : Nat) (w_text : Nat) (w_memory : Nat) (w_counts : Nat) (w_lexer : Nat) (w_parser : Nat) (w_checker : Nat) (w_scope : Nat) (w_coder : Nat) (w_machine : Nat) (w_compiler : Nat) (w_processor : Nat) (w_writer : Nat) (v_n : Int32) (hn : v_n = 0) : Met l yX12_end zsX12_end ({ frames := 1, cells := 0, slots := 0, locals := 12 } : Room) (va_Pc [.ref h0, .int v_n] (wB (dC, dI) vwCl nestM [] [(h0, .inr (12, [.ref w_text, .ref w_memory, .ref w_counts, .ref w_lexer, .ref w_parser, .ref w_checker, .ref w_scope, .ref w_coder, .ref w_machine, .ref w_compiler, .ref w_processor, .ref w_writer, .int 0, .int 0, .int 0, .int (-1), .int (-1), .int 0, .int 0, .int 0]))] sz)) (va_Qi (fun (r : Int32) (u : Unit) => r = 0) (fun (u : Unit) (t : State) => wE (dC, dI) vwCl [] [(h0, .inr (12, [.ref w_text, .ref w_memory, .ref w_counts, .ref w_lexer, .ref w_parser, .ref w_checker, .ref w_scope, .ref w_coder, .ref w_machine, .ref w_compiler, .ref w_processor, .ref w_writer, .int 0, .int 0, .int 0, .int (-1), .int (-1), .int 0, .int 0, .int 0]))] (va_A [(h0, .inr (12, [.ref w_text, .ref w_memory, .ref w_counts, .ref w_lexer, .ref w_parser, .ref w_checker, .ref w_scope, .ref w_coder, .ref w_machine, .ref w_compiler, .ref w_processor, .ref w_writer, .int 0, .int 0, .int 0, .int (-1), .int (-1), .int 0, .int 0, .int 0]))] sz) t) (va_A [(h0, .inr (12, [.ref w_text, .ref w_memory, .ref w_counts, .ref w_lexer, .ref w_parser, .ref w_checker, .ref w_scope, .ref w_coder, .ref w_machine, .ref w_compiler, .ref w_processor, .ref w_writer, .int 0, .int 0, .int 0, .int (-1), .int (-1), .int 0, .int 0, .int 0]))] sz)) 0 0 (va_A [(h0, .inr (12, [.ref w_text, .ref w_memory, .ref w_counts, .ref w_lexer, .ref w_parser, .ref w_checker, .ref w_scope, .ref w_coder, .ref w_machine, .ref w_compiler, .ref w_processor, .ref w_writer, .int 0, .int 0, .int 0, .int (-1), .int (-1), .int 0, .int 0, .int 0]))] sz) := by
  refine Met.ofW (cc := cX12_end) (maxL := 2) (ret := (some .int)) (by decide) rfl ?_
  intro p e s m args below meth c s₁ B hml hv
  obtain ⟨rfl, hsz, hP, hK, hD0, hN⟩ := hv
  have hx := B.exec
  have hb := B.bytes
  have hr := B.returns
  have hts := atoms_spec (ws := zsX12_end) B.pre
  have hown : s.vm.findClass RX12 = some m.cls := findClass_of_methodNamed B.named
  have hlocks := B.notSynchronized
  subst hsz
  have hD := hD0.self (sz := s.heap.size)
  generalize hAe : va_A [(h0, .inr (12, [.ref w_text, .ref w_memory, .ref w_counts, .ref w_lexer, .ref w_parser, .ref w_checker, .ref w_scope, .ref w_coder, .ref w_machine, .ref w_compiler, .ref w_processor, .ref w_writer, .int 0, .int 0, .int 0, .int (-1), .int (-1), .int 0, .int 0, .int 0]))] s.heap.size = A at hD ⊢
  have hA : ∀ q : Nat, s.heap.size ≤ q → A q := fun q h => by rw [← hAe]; exact Or.inr h
  have hS : va_S A s.heap s.heap [] := va_S.rf
  have hP : va_P (dC, dI) vwCl [(h0, .inr (12, [.ref w_text, .ref w_memory, .ref w_counts, .ref w_lexer, .ref w_parser, .ref w_checker, .ref w_scope, .ref w_coder, .ref w_machine, .ref w_compiler, .ref w_processor, .ref w_writer, .int 0, .int 0, .int 0, .int (-1), .int (-1), .int 0, .int 0, .int 0]))] s.heap := hP
  have hl := lv_entry ([.ref h0, .int v_n]) (n := 2) (Nat.le_of_ble_eq_true rfl)
  rw [lg_entry_eq]
  generalize (lg_sl ([.ref h0, .int v_n]) ++ List.replicate (2 - (lg_sl ([.ref h0, .int v_n])).length) Slot.unset).toArray = ls at hl ⊢
  have hl : lv_has ls 2 [(0, .ref h0), (1, .int v_n)] := hl
  refine lv_iload_n hx hb dX12_end_0 rfl (lv_at hl 1 rfl) ?_
  refine lv_if_lt (tgt := 18) hx hb dX12_end_1 (by decide) (fun c_1 => absurd c_1 (by rw [hn]; decide)) (fun c_1 => ?_)
  refine lv_iload_n hx hb dX12_end_4 rfl (lv_at hl 1 rfl) ?_
  refine lv_bipush (v := 19) hx hb dX12_end_5 (by decide) ?_
  refine lv_icmp_gt (tgt := 18) hx hb dX12_end_7 (by decide) (fun c_2 => absurd c_2 (by rw [hn]; decide)) (fun c_2 => ?_)
  refine lv_iload_n hx hb dX12_end_10 rfl (lv_at hl 1 rfl) ?_
  refine lv_aload_n hx hb dX12_end_11 rfl (lv_at hl 0 rfl) ?_
  refine va_get (D := (dC, dI)) (ci := 12) (v := .int 0) (C := RX12) (T := TX12) (N := 20) hx hb hts (fun _ h9 => List.mem_cons_of_mem _ (List.mem_append_right _ h9)) hown hK hP 0 rfl rfl 12 (by decide) (hts _ (List.mem_cons_of_mem _ (List.mem_append_left _ (List.mem_of_getElem? (i := 0) rfl)))) (fun _ h9 => h9) rfl dX12_end_12 ?_
  refine lv_icmp_le (tgt := 28) hx hb dX12_end_15 (by decide) (fun c_3 => ?_) (fun c_3 => absurd (by rw [hn]; decide) c_3)
  refine lv_aload_n hx hb dX12_end_28 rfl (lv_at hl 0 rfl) ?_
  refine lv_dup hx hb dX12_end_29 rfl ?_
  refine va_get (D := (dC, dI)) (ci := 12) (v := .int 0) (C := RX12) (T := TX12) (N := 20) hx hb hts (fun _ h9 => List.mem_cons_of_mem _ (List.mem_append_right _ h9)) hown hK hP 0 rfl rfl 12 (by decide) (hts _ (List.mem_cons_of_mem _ (List.mem_append_left _ (List.mem_of_getElem? (i := 0) rfl)))) (fun _ h9 => h9) rfl dX12_end_30 ?_
  refine lv_iload_n hx hb dX12_end_33 rfl (lv_at hl 1 rfl) ?_
  refine lv_isub hx hb dX12_end_34 ?_
  refine lv_topi (fun z_4 ez_4 => ?_)
  obtain rfl : z_4 = 0 := ez_4.trans (by rw [hn]; decide)
  refine va_put (D := (dC, dI)) (ci := 12) (v := .int 0) (ty := .int) (C := RX12) (T := TX12) (N := 20) hx hb hts (fun _ h9 => List.mem_cons_of_mem _ (List.mem_append_right _ h9)) tyX12 tyX12_ok nmX12 hown hK hP hD hS 0 rfl rfl 12 (by decide) (hts _ (List.mem_cons_of_mem _ (List.mem_append_left _ (List.mem_of_getElem? (i := 0) rfl)))) (fun _ h9 => h9) rfl (by decide +kernel) rfl rfl (Nat.le_of_ble_eq_true rfl) dX12_end_35 ?_
  clear hP hD hS
  intro H locs hP hD hS
  replace hP : va_P (dC, dI) vwCl [(h0, .inr (12, [.ref w_text, .ref w_memory, .ref w_counts, .ref w_lexer, .ref w_parser, .ref w_checker, .ref w_scope, .ref w_coder, .ref w_machine, .ref w_compiler, .ref w_processor, .ref w_writer, .int 0, .int 0, .int 0, .int (-1), .int (-1), .int 0, .int 0, .int 0]))] H := hP
  replace hD : va_D A [(h0, .inr (12, [.ref w_text, .ref w_memory, .ref w_counts, .ref w_lexer, .ref w_parser, .ref w_checker, .ref w_scope, .ref w_coder, .ref w_machine, .ref w_compiler, .ref w_processor, .ref w_writer, .int 0, .int 0, .int 0, .int (-1), .int (-1), .int 0, .int 0, .int 0]))] := hD
  refine lv_aload_n hx hb dX12_end_38 rfl (lv_at hl 0 rfl) ?_
  refine va_get (D := (dC, dI)) (ci := 12) (v := .int 0) (C := RX12) (T := TX12) (N := 20) hx hb hts (fun _ h9 => List.mem_cons_of_mem _ (List.mem_append_right _ h9)) hown hK hP 0 rfl rfl 12 (by decide) (hts _ (List.mem_cons_of_mem _ (List.mem_append_left _ (List.mem_of_getElem? (i := 0) rfl)))) (fun _ h9 => h9) rfl dX12_end_39 ?_
  have hP9 := hP.sub (ws' := [(h0, .inr (12, [.ref w_text, .ref w_memory, .ref w_counts, .ref w_lexer, .ref w_parser, .ref w_checker, .ref w_scope, .ref w_coder, .ref w_machine, .ref w_compiler, .ref w_processor, .ref w_writer, .int 0, .int 0, .int 0, .int (-1), .int (-1), .int 0, .int 0, .int 0]))]) [0] rfl
  have hD9 := hD.sub (ws' := [(h0, .inr (12, [.ref w_text, .ref w_memory, .ref w_counts, .ref w_lexer, .ref w_parser, .ref w_checker, .ref w_scope, .ref w_coder, .ref w_machine, .ref w_compiler, .ref w_processor, .ref w_writer, .int 0, .int 0, .int 0, .int (-1), .int (-1), .int 0, .int 0, .int 0]))]) [0] (by decide) rfl
  have hK9 := hK.sub (tys' := []) [] rfl
  exact W.iret (v := 0) hx hb hr (fun t ht hW => ⟨⟨0, (), rfl, rfl, wE.of ht hW hP9 hK9 hD9⟩, hS.F ht⟩) hS.2.2 dX12_end_42

theorem dX12_end_18 : decode cX12_end 18 = .ok (.new 128, 3) := by decide +kernel
theorem dX12_end_21 : decode cX12_end 21 = .ok (.dup, 1) := by decide +kernel
theorem dX12_end_22 : decode cX12_end 22 = .ok (.ldc 130, 2) := by decide +kernel
theorem dX12_end_24 : decode cX12_end 24 = .ok (.invokespecial 132, 3) := by decide +kernel
theorem dX12_end_27 : decode cX12_end 27 = .ok (.athrow, 1) := by decide +kernel
def zlX12_end_v2 : List Cond := [.classLink RX12 128 "java/lang/IllegalArgumentException", .initialized "java/lang/IllegalArgumentException", .fieldLink RX12 110 "LeanHouse" "textSize" "I"]
def zsX12_end_v2 : List Cond := .code yX12_end cX12_end 2 (some .int) :: (zlX12_end_v2 ++ (wtA ++ (wsX120)))
set_option maxHeartbeats 8000000 in
set_option maxRecDepth 100000 in
theorem c_X12_endB (l : Launch) (hst : l.stackTraces = false) (dC : Nat → ClassId) (dI : Nat → Nat → Nat) (sz : Nat) (h0 : Nat) (w_text : Nat) (w_memory : Nat) (w_counts : Nat) (w_lexer : Nat) (w_parser : Nat) (w_checker : Nat) (w_scope : Nat) (w_coder : Nat) (w_machine : Nat) (w_compiler : Nat) (w_processor : Nat) (w_writer : Nat) (v_n : Int32) (hn : ¬ v_n = 0) : vx_Met l yX12_end zsX12_end_v2 ({ frames := 8, cells := 1, slots := 6, locals := 140 } : Room) (va_Pc [.ref h0, .int v_n] (wBT (dC, dI) vwCl nestM strL [] [(h0, .inr (12, [.ref w_text, .ref w_memory, .ref w_counts, .ref w_lexer, .ref w_parser, .ref w_checker, .ref w_scope, .ref w_coder, .ref w_machine, .ref w_compiler, .ref w_processor, .ref w_writer, .int 0, .int 0, .int 0, .int (-1), .int (-1), .int 0, .int 0, .int 0]))] sz)) (noQ (va_A [(h0, .inr (12, [.ref w_text, .ref w_memory, .ref w_counts, .ref w_lexer, .ref w_parser, .ref w_checker, .ref w_scope, .ref w_coder, .ref w_machine, .ref w_compiler, .ref w_processor, .ref w_writer, .int 0, .int 0, .int 0, .int (-1), .int (-1), .int 0, .int 0, .int 0]))] sz)) (isX "java/lang/IllegalArgumentException" (va_A [(h0, .inr (12, [.ref w_text, .ref w_memory, .ref w_counts, .ref w_lexer, .ref w_parser, .ref w_checker, .ref w_scope, .ref w_coder, .ref w_machine, .ref w_compiler, .ref w_processor, .ref w_writer, .int 0, .int 0, .int 0, .int (-1), .int (-1), .int 0, .int 0, .int 0]))] sz)) 1 6 (va_A [(h0, .inr (12, [.ref w_text, .ref w_memory, .ref w_counts, .ref w_lexer, .ref w_parser, .ref w_checker, .ref w_scope, .ref w_coder, .ref w_machine, .ref w_compiler, .ref w_processor, .ref w_writer, .int 0, .int 0, .int 0, .int (-1), .int (-1), .int 0, .int 0, .int 0]))] sz) := by
  refine vx_ofW (cc := cX12_end) (maxL := 2) (ret := (some .int)) (by decide) rfl ?_
  intro p e s m args below meth c s₁ B hml htab hv
  obtain ⟨rfl, ⟨hsz, hP, hK, hD0, hN⟩, hT⟩ := hv
  have hx := B.exec
  have hb := B.bytes
  have hr := B.returns
  have hts := atoms_spec (ws := zsX12_end_v2) B.pre
  have hown : s.vm.findClass RX12 = some m.cls := findClass_of_methodNamed B.named
  have hlocks := B.notSynchronized
  subst hsz
  have hD := hD0.self (sz := s.heap.size)
  generalize hAe : va_A [(h0, .inr (12, [.ref w_text, .ref w_memory, .ref w_counts, .ref w_lexer, .ref w_parser, .ref w_checker, .ref w_scope, .ref w_coder, .ref w_machine, .ref w_compiler, .ref w_processor, .ref w_writer, .int 0, .int 0, .int 0, .int (-1), .int (-1), .int 0, .int 0, .int 0]))] s.heap.size = A at hD hT ⊢
  have hA : ∀ q : Nat, s.heap.size ≤ q → A q := fun q h => by rw [← hAe]; exact Or.inr h
  have hS : va_S A s.heap s.heap [] := va_S.rf
  have hP : va_P (dC, dI) vwCl [(h0, .inr (12, [.ref w_text, .ref w_memory, .ref w_counts, .ref w_lexer, .ref w_parser, .ref w_checker, .ref w_scope, .ref w_coder, .ref w_machine, .ref w_compiler, .ref w_processor, .ref w_writer, .int 0, .int 0, .int 0, .int (-1), .int (-1), .int 0, .int 0, .int 0]))] s.heap := hP
  have hl := lv_entry ([.ref h0, .int v_n]) (n := 2) (Nat.le_of_ble_eq_true rfl)
  rw [lg_entry_eq]
  generalize (lg_sl ([.ref h0, .int v_n]) ++ List.replicate (2 - (lg_sl ([.ref h0, .int v_n])).length) Slot.unset).toArray = ls at hl ⊢
  have hl : lv_has ls 2 [(0, .ref h0), (1, .int v_n)] := hl
  refine lv_iload_n hx hb dX12_end_0 rfl (lv_at hl 1 rfl) ?_
  refine lv_if_lt (tgt := 18) hx hb dX12_end_1 (by decide) (fun c_1 => ?_) (fun c_1 => ?_)
  · obtain ⟨sa9, hsa⟩ := hT.2.2.1 (RX12, 130, "not so many bytes") (List.mem_of_getElem? (i := 1) rfl)
    exact vx_throwS (own := RX12) (cls := "java/lang/IllegalArgumentException") (text := "not so many bytes") (names := ["java/lang/RuntimeException", "java/lang/Exception"]) (ik := 128) (is := 130) (ic := 132) (sa := sa9) hx hb hst hown (by decide +kernel) (by decide +kernel) (hts _ (List.mem_cons_of_mem _ (List.mem_append_left _ (List.mem_of_getElem? (i := 0) rfl)))) (hts _ (List.mem_cons_of_mem _ (List.mem_append_left _ (List.mem_of_getElem? (i := 1) rfl)))) hsa (vx_hat (B := Cond.castable "java/lang/IllegalArgumentException" "java/lang/IllegalArgumentException" :: decL.map Cond.declares) (fun w hw => hts w ((fun _ h9 => List.mem_cons_of_mem _ (List.mem_append_right _ (List.mem_append_left _ h9))) w hw)) hbA (vx_c (va_Nw.use rfl (hT.2.2.2.1 _ (by decide))) (fun w hw => by obtain ⟨x, hx, rfl⟩ := List.mem_map.mp hw; exact va_Nw.use rfl (hT.2.2.2.2.2 x hx)))) (List.forall_mem_cons.mpr ⟨by decide +kernel, List.forall_mem_cons.mpr ⟨by decide +kernel, hgA⟩⟩) hT.1 hT.2.1 hS (hl.1.trans hml.symm) dX12_end_18 dX12_end_21 dX12_end_22 dX12_end_24 dX12_end_27 (fun x hx => (htab x hx).elim) (Nat.lt_of_lt_of_le (Nat.lt_succ_self _) (Nat.le_of_ble_eq_true rfl)) (Nat.le_of_ble_eq_true rfl) (Nat.le_of_ble_eq_true rfl) (Nat.le_of_ble_eq_true rfl) hlocks (fun t ha h1 h2 => ⟨(), trivial, rfl, vF hS h1 h2⟩) hS.2.2 (Nat.le_of_ble_eq_true rfl) (Nat.le_of_ble_eq_true rfl)
  · refine lv_iload_n hx hb dX12_end_4 rfl (lv_at hl 1 rfl) ?_
    refine lv_bipush (v := 19) hx hb dX12_end_5 (by decide) ?_
    refine lv_icmp_gt (tgt := 18) hx hb dX12_end_7 (by decide) (fun c_2 => ?_) (fun c_2 => ?_)
    · obtain ⟨sa9, hsa⟩ := hT.2.2.1 (RX12, 130, "not so many bytes") (List.mem_of_getElem? (i := 1) rfl)
      exact vx_throwS (own := RX12) (cls := "java/lang/IllegalArgumentException") (text := "not so many bytes") (names := ["java/lang/RuntimeException", "java/lang/Exception"]) (ik := 128) (is := 130) (ic := 132) (sa := sa9) hx hb hst hown (by decide +kernel) (by decide +kernel) (hts _ (List.mem_cons_of_mem _ (List.mem_append_left _ (List.mem_of_getElem? (i := 0) rfl)))) (hts _ (List.mem_cons_of_mem _ (List.mem_append_left _ (List.mem_of_getElem? (i := 1) rfl)))) hsa (vx_hat (B := Cond.castable "java/lang/IllegalArgumentException" "java/lang/IllegalArgumentException" :: decL.map Cond.declares) (fun w hw => hts w ((fun _ h9 => List.mem_cons_of_mem _ (List.mem_append_right _ (List.mem_append_left _ h9))) w hw)) hbA (vx_c (va_Nw.use rfl (hT.2.2.2.1 _ (by decide))) (fun w hw => by obtain ⟨x, hx, rfl⟩ := List.mem_map.mp hw; exact va_Nw.use rfl (hT.2.2.2.2.2 x hx)))) (List.forall_mem_cons.mpr ⟨by decide +kernel, List.forall_mem_cons.mpr ⟨by decide +kernel, hgA⟩⟩) hT.1 hT.2.1 hS (hl.1.trans hml.symm) dX12_end_18 dX12_end_21 dX12_end_22 dX12_end_24 dX12_end_27 (fun x hx => (htab x hx).elim) (Nat.lt_of_lt_of_le (Nat.lt_succ_self _) (Nat.le_of_ble_eq_true rfl)) (Nat.le_of_ble_eq_true rfl) (Nat.le_of_ble_eq_true rfl) (Nat.le_of_ble_eq_true rfl) hlocks (fun t ha h1 h2 => ⟨(), trivial, rfl, vF hS h1 h2⟩) hS.2.2 (Nat.le_of_ble_eq_true rfl) (Nat.le_of_ble_eq_true rfl)
    · refine lv_iload_n hx hb dX12_end_10 rfl (lv_at hl 1 rfl) ?_
      refine lv_aload_n hx hb dX12_end_11 rfl (lv_at hl 0 rfl) ?_
      refine va_get (D := (dC, dI)) (ci := 12) (v := .int 0) (C := RX12) (T := TX12) (N := 20) hx hb hts (fun _ h9 => List.mem_cons_of_mem _ (List.mem_append_right _ (List.mem_append_right _ h9))) hown hK hP 0 rfl rfl 12 (by decide) (hts _ (List.mem_cons_of_mem _ (List.mem_append_left _ (List.mem_of_getElem? (i := 2) rfl)))) (fun _ h9 => h9) rfl dX12_end_12 ?_
      refine lv_icmp_le (tgt := 28) hx hb dX12_end_15 (by decide) (fun c_3 => absurd c_3 (fun q => hn (eq0 c_1 q))) (fun c_3 => ?_)
      obtain ⟨sa9, hsa⟩ := hT.2.2.1 (RX12, 130, "not so many bytes") (List.mem_of_getElem? (i := 1) rfl)
      exact vx_throwS (own := RX12) (cls := "java/lang/IllegalArgumentException") (text := "not so many bytes") (names := ["java/lang/RuntimeException", "java/lang/Exception"]) (ik := 128) (is := 130) (ic := 132) (sa := sa9) hx hb hst hown (by decide +kernel) (by decide +kernel) (hts _ (List.mem_cons_of_mem _ (List.mem_append_left _ (List.mem_of_getElem? (i := 0) rfl)))) (hts _ (List.mem_cons_of_mem _ (List.mem_append_left _ (List.mem_of_getElem? (i := 1) rfl)))) hsa (vx_hat (B := Cond.castable "java/lang/IllegalArgumentException" "java/lang/IllegalArgumentException" :: decL.map Cond.declares) (fun w hw => hts w ((fun _ h9 => List.mem_cons_of_mem _ (List.mem_append_right _ (List.mem_append_left _ h9))) w hw)) hbA (vx_c (va_Nw.use rfl (hT.2.2.2.1 _ (by decide))) (fun w hw => by obtain ⟨x, hx, rfl⟩ := List.mem_map.mp hw; exact va_Nw.use rfl (hT.2.2.2.2.2 x hx)))) (List.forall_mem_cons.mpr ⟨by decide +kernel, List.forall_mem_cons.mpr ⟨by decide +kernel, hgA⟩⟩) hT.1 hT.2.1 hS (hl.1.trans hml.symm) dX12_end_18 dX12_end_21 dX12_end_22 dX12_end_24 dX12_end_27 (fun x hx => (htab x hx).elim) (Nat.lt_of_lt_of_le (Nat.lt_succ_self _) (Nat.le_of_ble_eq_true rfl)) (Nat.le_of_ble_eq_true rfl) (Nat.le_of_ble_eq_true rfl) (Nat.le_of_ble_eq_true rfl) hlocks (fun t ha h1 h2 => ⟨(), trivial, rfl, vF hS h1 h2⟩) hS.2.2 (Nat.le_of_ble_eq_true rfl) (Nat.le_of_ble_eq_true rfl)

theorem dX12_fault_0 : decode cX12_fault 0 = .ok (.iload_n 1, 1) := by decide +kernel
theorem dX12_fault_1 : decode cX12_fault 1 = .ok (.ifCond .eq 18, 3) := by decide +kernel
theorem dX12_fault_19 : decode cX12_fault 19 = .ok (.iload_n 1, 1) := by decide +kernel
theorem dX12_fault_20 : decode cX12_fault 20 = .ok (.ifCond .ne 10, 3) := by decide +kernel
theorem dX12_fault_23 : decode cX12_fault 23 = .ok (.aload_n 0, 1) := by decide +kernel
theorem dX12_fault_24 : decode cX12_fault 24 = .ok (.getfield 137, 3) := by decide +kernel
theorem dX12_fault_27 : decode cX12_fault 27 = .ok (.goto 7, 3) := by decide +kernel
theorem dX12_fault_34 : decode cX12_fault 34 = .ok (.ireturn, 1) := by decide +kernel
def zlX12_fault : List Cond := [.fieldLink RX12 137 "LeanHouse" "foundFault" "I"]
def zsX12_fault : List Cond := .code yX12_fault cX12_fault 2 (some .int) :: (zlX12_fault ++ (wsX120))
set_option maxHeartbeats 8000000 in
set_option maxRecDepth 100000 in
theorem c_X12_faultA (l : Launch) (dC : Nat → ClassId) (dI : Nat → Nat → Nat) (sz : Nat) (h0 : Nat) (w_text : Nat) (w_memory : Nat) (w_counts : Nat) (w_lexer : Nat) (w_parser : Nat) (w_checker : Nat) (w_scope : Nat) (w_coder : Nat) (w_machine : Nat) (w_compiler : Nat) (w_processor : Nat) (w_writer : Nat) (v_n : Int32) (hn : v_n = 0) : Met l yX12_fault zsX12_fault ({ frames := 1, cells := 0, slots := 0, locals := 12 } : Room) (va_Pc [.ref h0, .int v_n] (wB (dC, dI) vwCl nestM [] [(h0, .inr (12, [.ref w_text, .ref w_memory, .ref w_counts, .ref w_lexer, .ref w_parser, .ref w_checker, .ref w_scope, .ref w_coder, .ref w_machine, .ref w_compiler, .ref w_processor, .ref w_writer, .int 0, .int 0, .int 0, .int (-1), .int (-1), .int 0, .int 0, .int 0]))] sz)) (va_Qi (fun (r : Int32) (u : Unit) => r = 0) (fun (u : Unit) (t : State) => wE (dC, dI) vwCl [] [(h0, .inr (12, [.ref w_text, .ref w_memory, .ref w_counts, .ref w_lexer, .ref w_parser, .ref w_checker, .ref w_scope, .ref w_coder, .ref w_machine, .ref w_compiler, .ref w_processor, .ref w_writer, .int 0, .int 0, .int 0, .int (-1), .int (-1), .int 0, .int 0, .int 0]))] (va_A [(h0, .inr (12, [.ref w_text, .ref w_memory, .ref w_counts, .ref w_lexer, .ref w_parser, .ref w_checker, .ref w_scope, .ref w_coder, .ref w_machine, .ref w_compiler, .ref w_processor, .ref w_writer, .int 0, .int 0, .int 0, .int (-1), .int (-1), .int 0, .int 0, .int 0]))] sz) t) (va_A [(h0, .inr (12, [.ref w_text, .ref w_memory, .ref w_counts, .ref w_lexer, .ref w_parser, .ref w_checker, .ref w_scope, .ref w_coder, .ref w_machine, .ref w_compiler, .ref w_processor, .ref w_writer, .int 0, .int 0, .int 0, .int (-1), .int (-1), .int 0, .int 0, .int 0]))] sz)) 0 0 (va_A [(h0, .inr (12, [.ref w_text, .ref w_memory, .ref w_counts, .ref w_lexer, .ref w_parser, .ref w_checker, .ref w_scope, .ref w_coder, .ref w_machine, .ref w_compiler, .ref w_processor, .ref w_writer, .int 0, .int 0, .int 0, .int (-1), .int (-1), .int 0, .int 0, .int 0]))] sz) := by
  refine Met.ofW (cc := cX12_fault) (maxL := 2) (ret := (some .int)) (by decide) rfl ?_
  intro p e s m args below meth c s₁ B hml hv
  obtain ⟨rfl, hsz, hP, hK, hD0, hN⟩ := hv
  have hx := B.exec
  have hb := B.bytes
  have hr := B.returns
  have hts := atoms_spec (ws := zsX12_fault) B.pre
  have hown : s.vm.findClass RX12 = some m.cls := findClass_of_methodNamed B.named
  have hlocks := B.notSynchronized
  subst hsz
  have hD := hD0.self (sz := s.heap.size)
  generalize hAe : va_A [(h0, .inr (12, [.ref w_text, .ref w_memory, .ref w_counts, .ref w_lexer, .ref w_parser, .ref w_checker, .ref w_scope, .ref w_coder, .ref w_machine, .ref w_compiler, .ref w_processor, .ref w_writer, .int 0, .int 0, .int 0, .int (-1), .int (-1), .int 0, .int 0, .int 0]))] s.heap.size = A at hD ⊢
  have hA : ∀ q : Nat, s.heap.size ≤ q → A q := fun q h => by rw [← hAe]; exact Or.inr h
  have hS : va_S A s.heap s.heap [] := va_S.rf
  have hP : va_P (dC, dI) vwCl [(h0, .inr (12, [.ref w_text, .ref w_memory, .ref w_counts, .ref w_lexer, .ref w_parser, .ref w_checker, .ref w_scope, .ref w_coder, .ref w_machine, .ref w_compiler, .ref w_processor, .ref w_writer, .int 0, .int 0, .int 0, .int (-1), .int (-1), .int 0, .int 0, .int 0]))] s.heap := hP
  have hl := lv_entry ([.ref h0, .int v_n]) (n := 2) (Nat.le_of_ble_eq_true rfl)
  rw [lg_entry_eq]
  generalize (lg_sl ([.ref h0, .int v_n]) ++ List.replicate (2 - (lg_sl ([.ref h0, .int v_n])).length) Slot.unset).toArray = ls at hl ⊢
  have hl : lv_has ls 2 [(0, .ref h0), (1, .int v_n)] := hl
  refine lv_iload_n hx hb dX12_fault_0 rfl (lv_at hl 1 rfl) ?_
  refine lv_if_eq (tgt := 19) hx hb dX12_fault_1 (by decide) (fun c_1 => ?_) (fun c_1 => absurd hn c_1)
  refine lv_iload_n hx hb dX12_fault_19 rfl (lv_at hl 1 rfl) ?_
  refine lv_if_ne (tgt := 30) hx hb dX12_fault_20 (by decide) (fun c_2 => absurd hn c_2) (fun c_2 => ?_)
  refine lv_aload_n hx hb dX12_fault_23 rfl (lv_at hl 0 rfl) ?_
  refine va_get (D := (dC, dI)) (ci := 12) (v := .int 0) (C := RX12) (T := TX12) (N := 20) hx hb hts (fun _ h9 => List.mem_cons_of_mem _ (List.mem_append_right _ h9)) hown hK hP 0 rfl rfl 14 (by decide) (hts _ (List.mem_cons_of_mem _ (List.mem_append_left _ (List.mem_of_getElem? (i := 0) rfl)))) (fun _ h9 => h9) rfl dX12_fault_24 ?_
  refine lv_goto (tgt := 34) hx hb dX12_fault_27 (by decide) ?_
  have hP9 := hP.sub (ws' := [(h0, .inr (12, [.ref w_text, .ref w_memory, .ref w_counts, .ref w_lexer, .ref w_parser, .ref w_checker, .ref w_scope, .ref w_coder, .ref w_machine, .ref w_compiler, .ref w_processor, .ref w_writer, .int 0, .int 0, .int 0, .int (-1), .int (-1), .int 0, .int 0, .int 0]))]) [0] rfl
  have hD9 := hD.sub (ws' := [(h0, .inr (12, [.ref w_text, .ref w_memory, .ref w_counts, .ref w_lexer, .ref w_parser, .ref w_checker, .ref w_scope, .ref w_coder, .ref w_machine, .ref w_compiler, .ref w_processor, .ref w_writer, .int 0, .int 0, .int 0, .int (-1), .int (-1), .int 0, .int 0, .int 0]))]) [0] (by decide) rfl
  have hK9 := hK.sub (tys' := []) [] rfl
  exact W.iret (v := 0) hx hb hr (fun t ht hW => ⟨⟨0, (), rfl, rfl, wE.of ht hW hP9 hK9 hD9⟩, hS.F ht⟩) hS.2.2 dX12_fault_34

theorem dX12_fault_4 : decode cX12_fault 4 = .ok (.iload_n 1, 1) := by decide +kernel
theorem dX12_fault_5 : decode cX12_fault 5 = .ok (.iconst 1, 1) := by decide +kernel
theorem dX12_fault_6 : decode cX12_fault 6 = .ok (.if_icmp .eq 13, 3) := by decide +kernel
theorem dX12_fault_30 : decode cX12_fault 30 = .ok (.aload_n 0, 1) := by decide +kernel
theorem dX12_fault_31 : decode cX12_fault 31 = .ok (.getfield 103, 3) := by decide +kernel
def zlX12_fault_v2 : List Cond := [.fieldLink RX12 103 "LeanHouse" "foundPlace" "I"]
def zsX12_fault_v2 : List Cond := .code yX12_fault cX12_fault 2 (some .int) :: (zlX12_fault_v2 ++ (wsX120))
set_option maxHeartbeats 8000000 in
set_option maxRecDepth 100000 in
theorem c_X12_faultB (l : Launch) (dC : Nat → ClassId) (dI : Nat → Nat → Nat) (sz : Nat) (h0 : Nat) (w_text : Nat) (w_memory : Nat) (w_counts : Nat) (w_lexer : Nat) (w_parser : Nat) (w_checker : Nat) (w_scope : Nat) (w_coder : Nat) (w_machine : Nat) (w_compiler : Nat) (w_processor : Nat) (w_writer : Nat) (v_n : Int32) (hn : v_n = 1) : Met l yX12_fault zsX12_fault_v2 ({ frames := 1, cells := 0, slots := 0, locals := 12 } : Room) (va_Pc [.ref h0, .int v_n] (wB (dC, dI) vwCl nestM [] [(h0, .inr (12, [.ref w_text, .ref w_memory, .ref w_counts, .ref w_lexer, .ref w_parser, .ref w_checker, .ref w_scope, .ref w_coder, .ref w_machine, .ref w_compiler, .ref w_processor, .ref w_writer, .int 0, .int 0, .int 0, .int (-1), .int (-1), .int 0, .int 0, .int 0]))] sz)) (va_Qi (fun (r : Int32) (u : Unit) => r = -1) (fun (u : Unit) (t : State) => wE (dC, dI) vwCl [] [(h0, .inr (12, [.ref w_text, .ref w_memory, .ref w_counts, .ref w_lexer, .ref w_parser, .ref w_checker, .ref w_scope, .ref w_coder, .ref w_machine, .ref w_compiler, .ref w_processor, .ref w_writer, .int 0, .int 0, .int 0, .int (-1), .int (-1), .int 0, .int 0, .int 0]))] (va_A [(h0, .inr (12, [.ref w_text, .ref w_memory, .ref w_counts, .ref w_lexer, .ref w_parser, .ref w_checker, .ref w_scope, .ref w_coder, .ref w_machine, .ref w_compiler, .ref w_processor, .ref w_writer, .int 0, .int 0, .int 0, .int (-1), .int (-1), .int 0, .int 0, .int 0]))] sz) t) (va_A [(h0, .inr (12, [.ref w_text, .ref w_memory, .ref w_counts, .ref w_lexer, .ref w_parser, .ref w_checker, .ref w_scope, .ref w_coder, .ref w_machine, .ref w_compiler, .ref w_processor, .ref w_writer, .int 0, .int 0, .int 0, .int (-1), .int (-1), .int 0, .int 0, .int 0]))] sz)) 0 0 (va_A [(h0, .inr (12, [.ref w_text, .ref w_memory, .ref w_counts, .ref w_lexer, .ref w_parser, .ref w_checker, .ref w_scope, .ref w_coder, .ref w_machine, .ref w_compiler, .ref w_processor, .ref w_writer, .int 0, .int 0, .int 0, .int (-1), .int (-1), .int 0, .int 0, .int 0]))] sz) := by
  refine Met.ofW (cc := cX12_fault) (maxL := 2) (ret := (some .int)) (by decide) rfl ?_
  intro p e s m args below meth c s₁ B hml hv
  obtain ⟨rfl, hsz, hP, hK, hD0, hN⟩ := hv
  have hx := B.exec
  have hb := B.bytes
  have hr := B.returns
  have hts := atoms_spec (ws := zsX12_fault_v2) B.pre
  have hown : s.vm.findClass RX12 = some m.cls := findClass_of_methodNamed B.named
  have hlocks := B.notSynchronized
  subst hsz
  have hD := hD0.self (sz := s.heap.size)
  generalize hAe : va_A [(h0, .inr (12, [.ref w_text, .ref w_memory, .ref w_counts, .ref w_lexer, .ref w_parser, .ref w_checker, .ref w_scope, .ref w_coder, .ref w_machine, .ref w_compiler, .ref w_processor, .ref w_writer, .int 0, .int 0, .int 0, .int (-1), .int (-1), .int 0, .int 0, .int 0]))] s.heap.size = A at hD ⊢
  have hA : ∀ q : Nat, s.heap.size ≤ q → A q := fun q h => by rw [← hAe]; exact Or.inr h
  have hS : va_S A s.heap s.heap [] := va_S.rf
  have hP : va_P (dC, dI) vwCl [(h0, .inr (12, [.ref w_text, .ref w_memory, .ref w_counts, .ref w_lexer, .ref w_parser, .ref w_checker, .ref w_scope, .ref w_coder, .ref w_machine, .ref w_compiler, .ref w_processor, .ref w_writer, .int 0, .int 0, .int 0, .int (-1), .int (-1), .int 0, .int 0, .int 0]))] s.heap := hP
  have hl := lv_entry ([.ref h0, .int v_n]) (n := 2) (Nat.le_of_ble_eq_true rfl)
  rw [lg_entry_eq]
  generalize (lg_sl ([.ref h0, .int v_n]) ++ List.replicate (2 - (lg_sl ([.ref h0, .int v_n])).length) Slot.unset).toArray = ls at hl ⊢
  have hl : lv_has ls 2 [(0, .ref h0), (1, .int v_n)] := hl
  refine lv_iload_n hx hb dX12_fault_0 rfl (lv_at hl 1 rfl) ?_
  refine lv_if_eq (tgt := 19) hx hb dX12_fault_1 (by decide) (fun c_1 => absurd c_1 (by rw [hn]; decide)) (fun c_1 => ?_)
  refine lv_iload_n hx hb dX12_fault_4 rfl (lv_at hl 1 rfl) ?_
  refine lv_iconst (v := 1) hx hb dX12_fault_5 (by decide) ?_
  refine lv_icmp_eq (tgt := 19) hx hb dX12_fault_6 (by decide) (fun c_2 => ?_) (fun c_2 => absurd hn c_2)
  refine lv_iload_n hx hb dX12_fault_19 rfl (lv_at hl 1 rfl) ?_
  refine lv_if_ne (tgt := 30) hx hb dX12_fault_20 (by decide) (fun c_3 => ?_) (fun c_3 => absurd c_3 (by rw [hn]; decide))
  refine lv_aload_n hx hb dX12_fault_30 rfl (lv_at hl 0 rfl) ?_
  refine va_get (D := (dC, dI)) (ci := 12) (v := .int (-1)) (C := RX12) (T := TX12) (N := 20) hx hb hts (fun _ h9 => List.mem_cons_of_mem _ (List.mem_append_right _ h9)) hown hK hP 0 rfl rfl 15 (by decide) (hts _ (List.mem_cons_of_mem _ (List.mem_append_left _ (List.mem_of_getElem? (i := 0) rfl)))) (fun _ h9 => h9) rfl dX12_fault_31 ?_
  have hP9 := hP.sub (ws' := [(h0, .inr (12, [.ref w_text, .ref w_memory, .ref w_counts, .ref w_lexer, .ref w_parser, .ref w_checker, .ref w_scope, .ref w_coder, .ref w_machine, .ref w_compiler, .ref w_processor, .ref w_writer, .int 0, .int 0, .int 0, .int (-1), .int (-1), .int 0, .int 0, .int 0]))]) [0] rfl
  have hD9 := hD.sub (ws' := [(h0, .inr (12, [.ref w_text, .ref w_memory, .ref w_counts, .ref w_lexer, .ref w_parser, .ref w_checker, .ref w_scope, .ref w_coder, .ref w_machine, .ref w_compiler, .ref w_processor, .ref w_writer, .int 0, .int 0, .int 0, .int (-1), .int (-1), .int 0, .int 0, .int 0]))]) [0] (by decide) rfl
  have hK9 := hK.sub (tys' := []) [] rfl
  exact W.iret (v := (-1)) hx hb hr (fun t ht hW => ⟨⟨(-1), (), rfl, rfl, wE.of ht hW hP9 hK9 hD9⟩, hS.F ht⟩) hS.2.2 dX12_fault_34

theorem dX12_fault_9 : decode cX12_fault 9 = .ok (.new 166, 3) := by decide +kernel
theorem dX12_fault_12 : decode cX12_fault 12 = .ok (.dup, 1) := by decide +kernel
theorem dX12_fault_13 : decode cX12_fault 13 = .ok (.ldc 168, 2) := by decide +kernel
theorem dX12_fault_15 : decode cX12_fault 15 = .ok (.invokespecial 170, 3) := by decide +kernel
theorem dX12_fault_18 : decode cX12_fault 18 = .ok (.athrow, 1) := by decide +kernel
def zlX12_fault_v3 : List Cond := [.classLink RX12 166 "java/lang/IndexOutOfBoundsException", .initialized "java/lang/IndexOutOfBoundsException"]
def zsX12_fault_v3 : List Cond := .code yX12_fault cX12_fault 2 (some .int) :: (zlX12_fault_v3 ++ (wtO))
set_option maxHeartbeats 8000000 in
set_option maxRecDepth 100000 in
theorem c_X12_faultC (l : Launch) (hst : l.stackTraces = false) (dC : Nat → ClassId) (dI : Nat → Nat → Nat) (sz : Nat) (h0 : Nat) (w_text : Nat) (w_memory : Nat) (w_counts : Nat) (w_lexer : Nat) (w_parser : Nat) (w_checker : Nat) (w_scope : Nat) (w_coder : Nat) (w_machine : Nat) (w_compiler : Nat) (w_processor : Nat) (w_writer : Nat) (v_n : Int32) (q0 : ¬ v_n = 0) (q1 : ¬ v_n = 1) : vx_Met l yX12_fault zsX12_fault_v3 ({ frames := 8, cells := 1, slots := 6, locals := 140 } : Room) (va_Pc [.ref h0, .int v_n] (wBT (dC, dI) vwCl nestM strL [] [(h0, .inr (12, [.ref w_text, .ref w_memory, .ref w_counts, .ref w_lexer, .ref w_parser, .ref w_checker, .ref w_scope, .ref w_coder, .ref w_machine, .ref w_compiler, .ref w_processor, .ref w_writer, .int 0, .int 0, .int 0, .int (-1), .int (-1), .int 0, .int 0, .int 0]))] sz)) (noQ (va_A [(h0, .inr (12, [.ref w_text, .ref w_memory, .ref w_counts, .ref w_lexer, .ref w_parser, .ref w_checker, .ref w_scope, .ref w_coder, .ref w_machine, .ref w_compiler, .ref w_processor, .ref w_writer, .int 0, .int 0, .int 0, .int (-1), .int (-1), .int 0, .int 0, .int 0]))] sz)) (isX "java/lang/IndexOutOfBoundsException" (va_A [(h0, .inr (12, [.ref w_text, .ref w_memory, .ref w_counts, .ref w_lexer, .ref w_parser, .ref w_checker, .ref w_scope, .ref w_coder, .ref w_machine, .ref w_compiler, .ref w_processor, .ref w_writer, .int 0, .int 0, .int 0, .int (-1), .int (-1), .int 0, .int 0, .int 0]))] sz)) 1 6 (va_A [(h0, .inr (12, [.ref w_text, .ref w_memory, .ref w_counts, .ref w_lexer, .ref w_parser, .ref w_checker, .ref w_scope, .ref w_coder, .ref w_machine, .ref w_compiler, .ref w_processor, .ref w_writer, .int 0, .int 0, .int 0, .int (-1), .int (-1), .int 0, .int 0, .int 0]))] sz) := by
  refine vx_ofW (cc := cX12_fault) (maxL := 2) (ret := (some .int)) (by decide) rfl ?_
  intro p e s m args below meth c s₁ B hml htab hv
  obtain ⟨rfl, ⟨hsz, hP, hK, hD0, hN⟩, hT⟩ := hv
  have hx := B.exec
  have hb := B.bytes
  have hr := B.returns
  have hts := atoms_spec (ws := zsX12_fault_v3) B.pre
  have hown : s.vm.findClass RX12 = some m.cls := findClass_of_methodNamed B.named
  have hlocks := B.notSynchronized
  subst hsz
  have hD := hD0.self (sz := s.heap.size)
  generalize hAe : va_A [(h0, .inr (12, [.ref w_text, .ref w_memory, .ref w_counts, .ref w_lexer, .ref w_parser, .ref w_checker, .ref w_scope, .ref w_coder, .ref w_machine, .ref w_compiler, .ref w_processor, .ref w_writer, .int 0, .int 0, .int 0, .int (-1), .int (-1), .int 0, .int 0, .int 0]))] s.heap.size = A at hD hT ⊢
  have hA : ∀ q : Nat, s.heap.size ≤ q → A q := fun q h => by rw [← hAe]; exact Or.inr h
  have hS : va_S A s.heap s.heap [] := va_S.rf
  have hP : va_P (dC, dI) vwCl [(h0, .inr (12, [.ref w_text, .ref w_memory, .ref w_counts, .ref w_lexer, .ref w_parser, .ref w_checker, .ref w_scope, .ref w_coder, .ref w_machine, .ref w_compiler, .ref w_processor, .ref w_writer, .int 0, .int 0, .int 0, .int (-1), .int (-1), .int 0, .int 0, .int 0]))] s.heap := hP
  have hl := lv_entry ([.ref h0, .int v_n]) (n := 2) (Nat.le_of_ble_eq_true rfl)
  rw [lg_entry_eq]
  generalize (lg_sl ([.ref h0, .int v_n]) ++ List.replicate (2 - (lg_sl ([.ref h0, .int v_n])).length) Slot.unset).toArray = ls at hl ⊢
  have hl : lv_has ls 2 [(0, .ref h0), (1, .int v_n)] := hl
  refine lv_iload_n hx hb dX12_fault_0 rfl (lv_at hl 1 rfl) ?_
  refine lv_if_eq (tgt := 19) hx hb dX12_fault_1 (by decide) (fun c_1 => absurd c_1 q0) (fun c_1 => ?_)
  refine lv_iload_n hx hb dX12_fault_4 rfl (lv_at hl 1 rfl) ?_
  refine lv_iconst (v := 1) hx hb dX12_fault_5 (by decide) ?_
  refine lv_icmp_eq (tgt := 19) hx hb dX12_fault_6 (by decide) (fun c_2 => absurd c_2 q1) (fun c_2 => ?_)
  obtain ⟨sa9, hsa⟩ := hT.2.2.1 (RX12, 168, "no such number of a fault") (List.mem_of_getElem? (i := 2) rfl)
  exact vx_throwS (own := RX12) (cls := "java/lang/IndexOutOfBoundsException") (text := "no such number of a fault") (names := ["java/lang/RuntimeException", "java/lang/Exception"]) (ik := 166) (is := 168) (ic := 170) (sa := sa9) hx hb hst hown (by decide +kernel) (by decide +kernel) (hts _ (List.mem_cons_of_mem _ (List.mem_append_left _ (List.mem_of_getElem? (i := 0) rfl)))) (hts _ (List.mem_cons_of_mem _ (List.mem_append_left _ (List.mem_of_getElem? (i := 1) rfl)))) hsa (vx_hat (B := Cond.castable "java/lang/IndexOutOfBoundsException" "java/lang/IndexOutOfBoundsException" :: decL.map Cond.declares) (fun w hw => hts w ((fun _ h9 => List.mem_cons_of_mem _ (List.mem_append_right _ h9)) w hw)) hbO (vx_c (va_Nw.use rfl (hT.2.2.2.1 _ (by decide))) (fun w hw => by obtain ⟨x, hx, rfl⟩ := List.mem_map.mp hw; exact va_Nw.use rfl (hT.2.2.2.2.2 x hx)))) (List.forall_mem_cons.mpr ⟨by decide +kernel, List.forall_mem_cons.mpr ⟨by decide +kernel, hgO⟩⟩) hT.1 hT.2.1 hS (hl.1.trans hml.symm) dX12_fault_9 dX12_fault_12 dX12_fault_13 dX12_fault_15 dX12_fault_18 (fun x hx => (htab x hx).elim) (Nat.lt_of_lt_of_le (Nat.lt_succ_self _) (Nat.le_of_ble_eq_true rfl)) (Nat.le_of_ble_eq_true rfl) (Nat.le_of_ble_eq_true rfl) (Nat.le_of_ble_eq_true rfl) hlocks (fun t ha h1 h2 => ⟨(), trivial, rfl, vF hS h1 h2⟩) hS.2.2 (Nat.le_of_ble_eq_true rfl) (Nat.le_of_ble_eq_true rfl)

theorem dX12_give_0 : decode cX12_give 0 = .ok (.aload_n 0, 1) := by decide +kernel
theorem dX12_give_1 : decode cX12_give 1 = .ok (.getfield 171, 3) := by decide +kernel
theorem dX12_give_4 : decode cX12_give 4 = .ok (.bipush 100, 2) := by decide +kernel
theorem dX12_give_6 : decode cX12_give 6 = .ok (.if_icmp .lt 13, 3) := by decide +kernel
theorem dX12_give_19 : decode cX12_give 19 = .ok (.aload_n 0, 1) := by decide +kernel
theorem dX12_give_20 : decode cX12_give 20 = .ok (.getfield 14, 3) := by decide +kernel
theorem dX12_give_23 : decode cX12_give 23 = .ok (.sipush 336, 3) := by decide +kernel
theorem dX12_give_26 : decode cX12_give 26 = .ok (.aload_n 0, 1) := by decide +kernel
theorem dX12_give_27 : decode cX12_give 27 = .ok (.getfield 171, 3) := by decide +kernel
theorem dX12_give_30 : decode cX12_give 30 = .ok (.iadd, 1) := by decide +kernel
theorem dX12_give_31 : decode cX12_give 31 = .ok (.iload_n 1, 1) := by decide +kernel
theorem dX12_give_32 : decode cX12_give 32 = .ok (.iconst 2, 1) := by decide +kernel
theorem dX12_give_33 : decode cX12_give 33 = .ok (.imul, 1) := by decide +kernel
theorem dX12_give_34 : decode cX12_give 34 = .ok (.iconst 1, 1) := by decide +kernel
theorem dX12_give_35 : decode cX12_give 35 = .ok (.iadd, 1) := by decide +kernel
theorem dX12_give_36 : decode cX12_give 36 = .ok (.invokestatic 176, 3) := by decide +kernel
theorem dX12_give_39 : decode cX12_give 39 = .ok (.aload_n 0, 1) := by decide +kernel
theorem dX12_give_40 : decode cX12_give 40 = .ok (.dup, 1) := by decide +kernel
theorem dX12_give_41 : decode cX12_give 41 = .ok (.getfield 171, 3) := by decide +kernel
theorem dX12_give_44 : decode cX12_give 44 = .ok (.iconst 1, 1) := by decide +kernel
theorem dX12_give_45 : decode cX12_give 45 = .ok (.iadd, 1) := by decide +kernel
theorem dX12_give_46 : decode cX12_give 46 = .ok (.putfield 171, 3) := by decide +kernel
theorem dX12_give_49 : decode cX12_give 49 = .ok (.aload_n 0, 1) := by decide +kernel
theorem dX12_give_50 : decode cX12_give 50 = .ok (.getfield 171, 3) := by decide +kernel
theorem dX12_give_53 : decode cX12_give 53 = .ok (.ireturn, 1) := by decide +kernel
def zlX12_give : List Cond := [.fieldLink RX12 171 "LeanHouse" "inputSize" "I", .fieldLink RX12 14 "LeanHouse" "memory" "[I", .methodLink RX12 176 yX12_put, .static yX12_put, .initialized RX12, .code yX12_put cX12_put 3 none]
def zsX12_give : List Cond := .code yX12_give cX12_give 2 (some .int) :: (zlX12_give ++ (wsX120))
set_option maxRecDepth 20000 in
theorem gzX12_give_X12_put_S176 : GoodIn zsX12_give (wsS RX12 176 yX12_put zsX12_put) := (goodIn_app (goodIn_r _ [3, 4, 5] (by decide +kernel) (by decide +kernel)) (goodIn_r _ [6] (by decide +kernel) (by decide +kernel)))
set_option maxHeartbeats 8000000 in
set_option maxRecDepth 100000 in
theorem c_X12_give (l : Launch) (dC : Nat → ClassId) (dI : Nat → Nat → Nat) (sz : Nat) (h0 : Nat) (w_text : Nat) (w_memory : Nat) (w_counts : Nat) (w_lexer : Nat) (w_parser : Nat) (w_checker : Nat) (w_scope : Nat) (w_coder : Nat) (w_machine : Nat) (w_compiler : Nat) (w_processor : Nat) (w_writer : Nat) (c_memory : ClassId) (f_memory : Nat → Int32) (v_n : Int32) : Met l yX12_give zsX12_give ({ frames := 2, cells := 0, slots := 0, locals := 34 } : Room) (va_Pc [.ref h0, .int v_n] (wB (dC, dI) vwCl nestM [(c_memory, .int)] [(h0, .inr (12, [.ref w_text, .ref w_memory, .ref w_counts, .ref w_lexer, .ref w_parser, .ref w_checker, .ref w_scope, .ref w_coder, .ref w_machine, .ref w_compiler, .ref w_processor, .ref w_writer, .int 0, .int 0, .int 0, .int (-1), .int (-1), .int 0, .int 0, .int 0])), (w_memory, .inl (c_memory, 281984, .inl f_memory))] sz)) (va_Qi (fun (r : Int32) (u : (Nat → Int32)) => r = 1) (fun (u : (Nat → Int32)) (t : State) => wE (dC, dI) vwCl [(c_memory, .int)] [(h0, .inr (12, [.ref w_text, .ref w_memory, .ref w_counts, .ref w_lexer, .ref w_parser, .ref w_checker, .ref w_scope, .ref w_coder, .ref w_machine, .ref w_compiler, .ref w_processor, .ref w_writer, .int 0, .int 1, .int 0, .int (-1), .int (-1), .int 0, .int 0, .int 0])), (w_memory, .inl (c_memory, 281984, .inl u))] (va_A [(h0, .inr (12, [.ref w_text, .ref w_memory, .ref w_counts, .ref w_lexer, .ref w_parser, .ref w_checker, .ref w_scope, .ref w_coder, .ref w_machine, .ref w_compiler, .ref w_processor, .ref w_writer, .int 0, .int 0, .int 0, .int (-1), .int (-1), .int 0, .int 0, .int 0])), (w_memory, .inl (c_memory, 281984, .inl f_memory))] sz) t) (va_A [(h0, .inr (12, [.ref w_text, .ref w_memory, .ref w_counts, .ref w_lexer, .ref w_parser, .ref w_checker, .ref w_scope, .ref w_coder, .ref w_machine, .ref w_compiler, .ref w_processor, .ref w_writer, .int 0, .int 0, .int 0, .int (-1), .int (-1), .int 0, .int 0, .int 0])), (w_memory, .inl (c_memory, 281984, .inl f_memory))] sz)) 0 0 (va_A [(h0, .inr (12, [.ref w_text, .ref w_memory, .ref w_counts, .ref w_lexer, .ref w_parser, .ref w_checker, .ref w_scope, .ref w_coder, .ref w_machine, .ref w_compiler, .ref w_processor, .ref w_writer, .int 0, .int 0, .int 0, .int (-1), .int (-1), .int 0, .int 0, .int 0])), (w_memory, .inl (c_memory, 281984, .inl f_memory))] sz) := by
  refine Met.ofW (cc := cX12_give) (maxL := 2) (ret := (some .int)) (by decide) rfl ?_
  intro p e s m args below meth c s₁ B hml hv
  obtain ⟨rfl, hsz, hP, hK, hD0, hN⟩ := hv
  have hx := B.exec
  have hb := B.bytes
  have hr := B.returns
  have hts := atoms_spec (ws := zsX12_give) B.pre
  have hown : s.vm.findClass RX12 = some m.cls := findClass_of_methodNamed B.named
  have hlocks := B.notSynchronized
  subst hsz
  have hD := hD0.self (sz := s.heap.size)
  generalize hAe : va_A [(h0, .inr (12, [.ref w_text, .ref w_memory, .ref w_counts, .ref w_lexer, .ref w_parser, .ref w_checker, .ref w_scope, .ref w_coder, .ref w_machine, .ref w_compiler, .ref w_processor, .ref w_writer, .int 0, .int 0, .int 0, .int (-1), .int (-1), .int 0, .int 0, .int 0])), (w_memory, .inl (c_memory, 281984, .inl f_memory))] s.heap.size = A at hD ⊢
  have hA : ∀ q : Nat, s.heap.size ≤ q → A q := fun q h => by rw [← hAe]; exact Or.inr h
  have hS : va_S A s.heap s.heap [] := va_S.rf
  have hP : va_P (dC, dI) vwCl [(h0, .inr (12, [.ref w_text, .ref w_memory, .ref w_counts, .ref w_lexer, .ref w_parser, .ref w_checker, .ref w_scope, .ref w_coder, .ref w_machine, .ref w_compiler, .ref w_processor, .ref w_writer, .int 0, .int 0, .int 0, .int (-1), .int (-1), .int 0, .int 0, .int 0])), (w_memory, .inl (c_memory, 281984, .inl f_memory))] s.heap := hP
  have hl := lv_entry ([.ref h0, .int v_n]) (n := 2) (Nat.le_of_ble_eq_true rfl)
  rw [lg_entry_eq]
  generalize (lg_sl ([.ref h0, .int v_n]) ++ List.replicate (2 - (lg_sl ([.ref h0, .int v_n])).length) Slot.unset).toArray = ls at hl ⊢
  have hl : lv_has ls 2 [(0, .ref h0), (1, .int v_n)] := hl
  refine lv_aload_n hx hb dX12_give_0 rfl (lv_at hl 0 rfl) ?_
  refine va_get (D := (dC, dI)) (ci := 12) (v := .int 0) (C := RX12) (T := TX12) (N := 20) hx hb hts (fun _ h9 => List.mem_cons_of_mem _ (List.mem_append_right _ h9)) hown hK hP 0 rfl rfl 13 (by decide) (hts _ (List.mem_cons_of_mem _ (List.mem_append_left _ (List.mem_of_getElem? (i := 0) rfl)))) (fun _ h9 => h9) rfl dX12_give_1 ?_
  refine lv_bipush (v := 100) hx hb dX12_give_4 (by decide) ?_
  refine lv_icmp_lt (tgt := 19) hx hb dX12_give_6 (by decide) (fun c_1 => ?_) (fun c_1 => absurd (by decide) c_1)
  refine lv_aload_n hx hb dX12_give_19 rfl (lv_at hl 0 rfl) ?_
  refine va_get (D := (dC, dI)) (ci := 12) (v := .ref w_memory) (C := RX12) (T := TX12) (N := 20) hx hb hts (fun _ h9 => List.mem_cons_of_mem _ (List.mem_append_right _ h9)) hown hK hP 0 rfl rfl 1 (by decide) (hts _ (List.mem_cons_of_mem _ (List.mem_append_left _ (List.mem_of_getElem? (i := 1) rfl)))) (fun _ h9 => h9) rfl dX12_give_20 ?_
  refine lv_sipush (v := 336) hx hb dX12_give_23 (by decide) ?_
  refine lv_aload_n hx hb dX12_give_26 rfl (lv_at hl 0 rfl) ?_
  refine va_get (D := (dC, dI)) (ci := 12) (v := .int 0) (C := RX12) (T := TX12) (N := 20) hx hb hts (fun _ h9 => List.mem_cons_of_mem _ (List.mem_append_right _ h9)) hown hK hP 0 rfl rfl 13 (by decide) (hts _ (List.mem_cons_of_mem _ (List.mem_append_left _ (List.mem_of_getElem? (i := 0) rfl)))) (fun _ h9 => h9) rfl dX12_give_27 ?_
  refine lv_iadd hx hb dX12_give_30 ?_
  refine lv_topi (fun z_2 ez_2 => ?_)
  obtain rfl : z_2 = 336 := ez_2.trans (by decide)
  refine lv_iload_n hx hb dX12_give_31 rfl (lv_at hl 1 rfl) ?_
  refine lv_iconst (v := 2) hx hb dX12_give_32 (by decide) ?_
  refine lv_imul hx hb dX12_give_33 ?_
  refine lv_topi (fun z_3 ez_3 => ?_)
  refine lv_iconst (v := 1) hx hb dX12_give_34 (by decide) ?_
  refine lv_iadd hx hb dX12_give_35 ?_
  refine lv_topi (fun z_4 ez_4 => ?_)
  refine aft_v (wr := [(h0, .inr (12, [.ref w_text, .ref w_memory, .ref w_counts, .ref w_lexer, .ref w_parser, .ref w_checker, .ref w_scope, .ref w_coder, .ref w_machine, .ref w_compiler, .ref w_processor, .ref w_writer, .int 0, .int 0, .int 0, .int (-1), .int (-1), .int 0, .int 0, .int 0]))]) (va_runS (As := [.ref w_memory, .int 336, .int z_4]) (rest := []) ⟨hx, hb, hml, hown, hts⟩ (c_X12_put l dC dI s.heap.size w_memory c_memory 281984 f_memory 336 z_4 (by first | assumption | decide | omega)) (cwS 3 hts gzX12_give_X12_put_S176 rfl rfl rfl (by decide +kernel) ⟨Nat.le_of_ble_eq_true rfl, Nat.le_of_ble_eq_true rfl⟩) (wB.preS (hP.sub (ws' := [(w_memory, .inl (c_memory, 281984, .inl f_memory))]) [1] rfl) (hK.sub (tys' := [(c_memory, .int)]) [0] rfl) (hD.sub (ws' := [(w_memory, .inl (c_memory, 281984, .inl f_memory))]) [1] (by decide) rfl) hN) rfl rfl hl.1 rfl (lv_room (Nat.le_of_ble_eq_true rfl)) dX12_give_36 ⟨Nat.le_of_ble_eq_true rfl, Nat.le_of_ble_eq_true rfl⟩) hP hD hS hA [1] [0] rfl rfl (by decide) (by decide) ?_
  clear hP hD hS
  intro u_5 H locs w_7 hK1 hP hD hS
  obtain ⟨g_8, rfl⟩ : ∃ z, z = u_5 := ⟨_, rfl⟩
  replace hP : va_P (dC, dI) vwCl [(h0, .inr (12, [.ref w_text, .ref w_memory, .ref w_counts, .ref w_lexer, .ref w_parser, .ref w_checker, .ref w_scope, .ref w_coder, .ref w_machine, .ref w_compiler, .ref w_processor, .ref w_writer, .int 0, .int 0, .int 0, .int (-1), .int (-1), .int 0, .int 0, .int 0])), (w_memory, .inl (c_memory, 281984, .inl g_8))] H := hP
  replace hD : va_D A [(h0, .inr (12, [.ref w_text, .ref w_memory, .ref w_counts, .ref w_lexer, .ref w_parser, .ref w_checker, .ref w_scope, .ref w_coder, .ref w_machine, .ref w_compiler, .ref w_processor, .ref w_writer, .int 0, .int 0, .int 0, .int (-1), .int (-1), .int 0, .int 0, .int 0])), (w_memory, .inl (c_memory, 281984, .inl g_8))] := hD
  clear hK1
  try dsimp only at w_7
  refine lv_aload_n hx hb dX12_give_39 rfl (lv_at hl 0 rfl) ?_
  refine lv_dup hx hb dX12_give_40 rfl ?_
  refine va_get (D := (dC, dI)) (ci := 12) (v := .int 0) (C := RX12) (T := TX12) (N := 20) hx hb hts (fun _ h9 => List.mem_cons_of_mem _ (List.mem_append_right _ h9)) hown hK hP 0 rfl rfl 13 (by decide) (hts _ (List.mem_cons_of_mem _ (List.mem_append_left _ (List.mem_of_getElem? (i := 0) rfl)))) (fun _ h9 => h9) rfl dX12_give_41 ?_
  refine lv_iconst (v := 1) hx hb dX12_give_44 (by decide) ?_
  refine lv_iadd hx hb dX12_give_45 ?_
  refine lv_topi (fun z_9 ez_9 => ?_)
  obtain rfl : z_9 = 1 := ez_9.trans (by decide)
  refine va_put (D := (dC, dI)) (ci := 12) (v := .int 1) (ty := .int) (C := RX12) (T := TX12) (N := 20) hx hb hts (fun _ h9 => List.mem_cons_of_mem _ (List.mem_append_right _ h9)) tyX12 tyX12_ok nmX12 hown hK hP hD hS 0 rfl rfl 13 (by decide) (hts _ (List.mem_cons_of_mem _ (List.mem_append_left _ (List.mem_of_getElem? (i := 0) rfl)))) (fun _ h9 => h9) rfl (by decide +kernel) rfl rfl (Nat.le_of_ble_eq_true rfl) dX12_give_46 ?_
  clear hP hD hS
  intro H locs hP hD hS
  replace hP : va_P (dC, dI) vwCl [(h0, .inr (12, [.ref w_text, .ref w_memory, .ref w_counts, .ref w_lexer, .ref w_parser, .ref w_checker, .ref w_scope, .ref w_coder, .ref w_machine, .ref w_compiler, .ref w_processor, .ref w_writer, .int 0, .int 1, .int 0, .int (-1), .int (-1), .int 0, .int 0, .int 0])), (w_memory, .inl (c_memory, 281984, .inl g_8))] H := hP
  replace hD : va_D A [(h0, .inr (12, [.ref w_text, .ref w_memory, .ref w_counts, .ref w_lexer, .ref w_parser, .ref w_checker, .ref w_scope, .ref w_coder, .ref w_machine, .ref w_compiler, .ref w_processor, .ref w_writer, .int 0, .int 1, .int 0, .int (-1), .int (-1), .int 0, .int 0, .int 0])), (w_memory, .inl (c_memory, 281984, .inl g_8))] := hD
  refine lv_aload_n hx hb dX12_give_49 rfl (lv_at hl 0 rfl) ?_
  refine va_get (D := (dC, dI)) (ci := 12) (v := .int 1) (C := RX12) (T := TX12) (N := 20) hx hb hts (fun _ h9 => List.mem_cons_of_mem _ (List.mem_append_right _ h9)) hown hK hP 0 rfl rfl 13 (by decide) (hts _ (List.mem_cons_of_mem _ (List.mem_append_left _ (List.mem_of_getElem? (i := 0) rfl)))) (fun _ h9 => h9) rfl dX12_give_50 ?_
  have hP9 := hP.sub (ws' := [(h0, .inr (12, [.ref w_text, .ref w_memory, .ref w_counts, .ref w_lexer, .ref w_parser, .ref w_checker, .ref w_scope, .ref w_coder, .ref w_machine, .ref w_compiler, .ref w_processor, .ref w_writer, .int 0, .int 1, .int 0, .int (-1), .int (-1), .int 0, .int 0, .int 0])), (w_memory, .inl (c_memory, 281984, .inl g_8))]) [0, 1] rfl
  have hD9 := hD.sub (ws' := [(h0, .inr (12, [.ref w_text, .ref w_memory, .ref w_counts, .ref w_lexer, .ref w_parser, .ref w_checker, .ref w_scope, .ref w_coder, .ref w_machine, .ref w_compiler, .ref w_processor, .ref w_writer, .int 0, .int 1, .int 0, .int (-1), .int (-1), .int 0, .int 0, .int 0])), (w_memory, .inl (c_memory, 281984, .inl g_8))]) [0, 1] (by decide) rfl
  have hK9 := hK.sub (tys' := [(c_memory, .int)]) [0] rfl
  exact W.iret (v := 1) hx hb hr (fun t ht hW => ⟨⟨1, g_8, rfl, rfl, wE.of ht hW hP9 hK9 hD9⟩, hS.F ht⟩) hS.2.2 dX12_give_53

theorem dX12_take_0 : decode cX12_take 0 = .ok (.aload_n 0, 1) := by decide +kernel
theorem dX12_take_1 : decode cX12_take 1 = .ok (.getfield 171, 3) := by decide +kernel
theorem dX12_take_4 : decode cX12_take 4 = .ok (.istore_n 1, 1) := by decide +kernel
theorem dX12_take_5 : decode cX12_take 5 = .ok (.aload_n 0, 1) := by decide +kernel
theorem dX12_take_6 : decode cX12_take 6 = .ok (.iconst 0, 1) := by decide +kernel
theorem dX12_take_7 : decode cX12_take 7 = .ok (.putfield 171, 3) := by decide +kernel
theorem dX12_take_10 : decode cX12_take 10 = .ok (.iload_n 1, 1) := by decide +kernel
theorem dX12_take_11 : decode cX12_take 11 = .ok (.ireturn, 1) := by decide +kernel
def zlX12_take : List Cond := [.fieldLink RX12 171 "LeanHouse" "inputSize" "I"]
def zsX12_take : List Cond := .code yX12_take cX12_take 2 (some .int) :: (zlX12_take ++ (wsX120))
set_option maxHeartbeats 8000000 in
set_option maxRecDepth 100000 in
theorem c_X12_take (l : Launch) (dC : Nat → ClassId) (dI : Nat → Nat → Nat) (sz : Nat) (h0 : Nat) (w_text : Nat) (w_memory : Nat) (w_counts : Nat) (w_lexer : Nat) (w_parser : Nat) (w_checker : Nat) (w_scope : Nat) (w_coder : Nat) (w_machine : Nat) (w_compiler : Nat) (w_processor : Nat) (w_writer : Nat) : Met l yX12_take zsX12_take ({ frames := 1, cells := 0, slots := 0, locals := 12 } : Room) (va_Pc [.ref h0] (wB (dC, dI) vwCl nestM [] [(h0, .inr (12, [.ref w_text, .ref w_memory, .ref w_counts, .ref w_lexer, .ref w_parser, .ref w_checker, .ref w_scope, .ref w_coder, .ref w_machine, .ref w_compiler, .ref w_processor, .ref w_writer, .int 0, .int 0, .int 0, .int (-1), .int (-1), .int 0, .int 0, .int 0]))] sz)) (va_Qi (fun (r : Int32) (u : Unit) => r = 0) (fun (u : Unit) (t : State) => wE (dC, dI) vwCl [] [(h0, .inr (12, [.ref w_text, .ref w_memory, .ref w_counts, .ref w_lexer, .ref w_parser, .ref w_checker, .ref w_scope, .ref w_coder, .ref w_machine, .ref w_compiler, .ref w_processor, .ref w_writer, .int 0, .int 0, .int 0, .int (-1), .int (-1), .int 0, .int 0, .int 0]))] (va_A [(h0, .inr (12, [.ref w_text, .ref w_memory, .ref w_counts, .ref w_lexer, .ref w_parser, .ref w_checker, .ref w_scope, .ref w_coder, .ref w_machine, .ref w_compiler, .ref w_processor, .ref w_writer, .int 0, .int 0, .int 0, .int (-1), .int (-1), .int 0, .int 0, .int 0]))] sz) t) (va_A [(h0, .inr (12, [.ref w_text, .ref w_memory, .ref w_counts, .ref w_lexer, .ref w_parser, .ref w_checker, .ref w_scope, .ref w_coder, .ref w_machine, .ref w_compiler, .ref w_processor, .ref w_writer, .int 0, .int 0, .int 0, .int (-1), .int (-1), .int 0, .int 0, .int 0]))] sz)) 0 0 (va_A [(h0, .inr (12, [.ref w_text, .ref w_memory, .ref w_counts, .ref w_lexer, .ref w_parser, .ref w_checker, .ref w_scope, .ref w_coder, .ref w_machine, .ref w_compiler, .ref w_processor, .ref w_writer, .int 0, .int 0, .int 0, .int (-1), .int (-1), .int 0, .int 0, .int 0]))] sz) := by
  refine Met.ofW (cc := cX12_take) (maxL := 2) (ret := (some .int)) (by decide) rfl ?_
  intro p e s m args below meth c s₁ B hml hv
  obtain ⟨rfl, hsz, hP, hK, hD0, hN⟩ := hv
  have hx := B.exec
  have hb := B.bytes
  have hr := B.returns
  have hts := atoms_spec (ws := zsX12_take) B.pre
  have hown : s.vm.findClass RX12 = some m.cls := findClass_of_methodNamed B.named
  have hlocks := B.notSynchronized
  subst hsz
  have hD := hD0.self (sz := s.heap.size)
  generalize hAe : va_A [(h0, .inr (12, [.ref w_text, .ref w_memory, .ref w_counts, .ref w_lexer, .ref w_parser, .ref w_checker, .ref w_scope, .ref w_coder, .ref w_machine, .ref w_compiler, .ref w_processor, .ref w_writer, .int 0, .int 0, .int 0, .int (-1), .int (-1), .int 0, .int 0, .int 0]))] s.heap.size = A at hD ⊢
  have hA : ∀ q : Nat, s.heap.size ≤ q → A q := fun q h => by rw [← hAe]; exact Or.inr h
  have hS : va_S A s.heap s.heap [] := va_S.rf
  have hP : va_P (dC, dI) vwCl [(h0, .inr (12, [.ref w_text, .ref w_memory, .ref w_counts, .ref w_lexer, .ref w_parser, .ref w_checker, .ref w_scope, .ref w_coder, .ref w_machine, .ref w_compiler, .ref w_processor, .ref w_writer, .int 0, .int 0, .int 0, .int (-1), .int (-1), .int 0, .int 0, .int 0]))] s.heap := hP
  have hl := lv_entry ([.ref h0]) (n := 2) (Nat.le_of_ble_eq_true rfl)
  rw [lg_entry_eq]
  generalize (lg_sl ([.ref h0]) ++ List.replicate (2 - (lg_sl ([.ref h0])).length) Slot.unset).toArray = ls at hl ⊢
  have hl : lv_has ls 2 [(0, .ref h0)] := hl
  refine lv_aload_n hx hb dX12_take_0 rfl (lv_at hl 0 rfl) ?_
  refine va_get (D := (dC, dI)) (ci := 12) (v := .int 0) (C := RX12) (T := TX12) (N := 20) hx hb hts (fun _ h9 => List.mem_cons_of_mem _ (List.mem_append_right _ h9)) hown hK hP 0 rfl rfl 13 (by decide) (hts _ (List.mem_cons_of_mem _ (List.mem_append_left _ (List.mem_of_getElem? (i := 0) rfl)))) (fun _ h9 => h9) rfl dX12_take_1 ?_
  refine lv_istore_n (lv' := [(1, .int 0), (0, .ref h0)]) hx hb dX12_take_4 rfl hl (by decide) rfl ?_
  clear hl
  intro ls hl
  refine lv_aload_n hx hb dX12_take_5 rfl (lv_at hl 1 rfl) ?_
  refine lv_iconst (v := 0) hx hb dX12_take_6 (by decide) ?_
  refine va_put (D := (dC, dI)) (ci := 12) (v := .int 0) (ty := .int) (C := RX12) (T := TX12) (N := 20) hx hb hts (fun _ h9 => List.mem_cons_of_mem _ (List.mem_append_right _ h9)) tyX12 tyX12_ok nmX12 hown hK hP hD hS 0 rfl rfl 13 (by decide) (hts _ (List.mem_cons_of_mem _ (List.mem_append_left _ (List.mem_of_getElem? (i := 0) rfl)))) (fun _ h9 => h9) rfl (by decide +kernel) rfl rfl (Nat.le_of_ble_eq_true rfl) dX12_take_7 ?_
  clear hP hD hS
  intro H locs hP hD hS
  replace hP : va_P (dC, dI) vwCl [(h0, .inr (12, [.ref w_text, .ref w_memory, .ref w_counts, .ref w_lexer, .ref w_parser, .ref w_checker, .ref w_scope, .ref w_coder, .ref w_machine, .ref w_compiler, .ref w_processor, .ref w_writer, .int 0, .int 0, .int 0, .int (-1), .int (-1), .int 0, .int 0, .int 0]))] H := hP
  replace hD : va_D A [(h0, .inr (12, [.ref w_text, .ref w_memory, .ref w_counts, .ref w_lexer, .ref w_parser, .ref w_checker, .ref w_scope, .ref w_coder, .ref w_machine, .ref w_compiler, .ref w_processor, .ref w_writer, .int 0, .int 0, .int 0, .int (-1), .int (-1), .int 0, .int 0, .int 0]))] := hD
  refine lv_iload_n hx hb dX12_take_10 rfl (lv_at hl 0 rfl) ?_
  have hP9 := hP.sub (ws' := [(h0, .inr (12, [.ref w_text, .ref w_memory, .ref w_counts, .ref w_lexer, .ref w_parser, .ref w_checker, .ref w_scope, .ref w_coder, .ref w_machine, .ref w_compiler, .ref w_processor, .ref w_writer, .int 0, .int 0, .int 0, .int (-1), .int (-1), .int 0, .int 0, .int 0]))]) [0] rfl
  have hD9 := hD.sub (ws' := [(h0, .inr (12, [.ref w_text, .ref w_memory, .ref w_counts, .ref w_lexer, .ref w_parser, .ref w_checker, .ref w_scope, .ref w_coder, .ref w_machine, .ref w_compiler, .ref w_processor, .ref w_writer, .int 0, .int 0, .int 0, .int (-1), .int (-1), .int 0, .int 0, .int 0]))]) [0] (by decide) rfl
  have hK9 := hK.sub (tys' := []) [] rfl
  exact W.iret (v := 0) hx hb hr (fun t ht hW => ⟨⟨0, (), rfl, rfl, wE.of ht hW hP9 hK9 hD9⟩, hS.F ht⟩) hS.2.2 dX12_take_11

theorem dX12_run_0 : decode cX12_run 0 = .ok (.iload_n 1, 1) := by decide +kernel
theorem dX12_run_1 : decode cX12_run 1 = .ok (.ifCond .lt 8, 3) := by decide +kernel
theorem dX12_run_4 : decode cX12_run 4 = .ok (.iload_n 1, 1) := by decide +kernel
theorem dX12_run_5 : decode cX12_run 5 = .ok (.iconst 2, 1) := by decide +kernel
theorem dX12_run_6 : decode cX12_run 6 = .ok (.if_icmp .le 13, 3) := by decide +kernel
theorem dX12_run_9 : decode cX12_run 9 = .ok (.new 128, 3) := by decide +kernel
theorem dX12_run_12 : decode cX12_run 12 = .ok (.dup, 1) := by decide +kernel
theorem dX12_run_13 : decode cX12_run 13 = .ok (.ldc 180, 2) := by decide +kernel
theorem dX12_run_15 : decode cX12_run 15 = .ok (.invokespecial 132, 3) := by decide +kernel
theorem dX12_run_18 : decode cX12_run 18 = .ok (.athrow, 1) := by decide +kernel
theorem dX12_run_19 : decode cX12_run 19 = .ok (.iload_n 2, 1) := by decide +kernel
theorem dX12_run_20 : decode cX12_run 20 = .ok (.iconst 1, 1) := by decide +kernel
theorem dX12_run_21 : decode cX12_run 21 = .ok (.if_icmp .lt 10, 3) := by decide +kernel
theorem dX12_run_24 : decode cX12_run 24 = .ok (.iload_n 2, 1) := by decide +kernel
theorem dX12_run_25 : decode cX12_run 25 = .ok (.sipush 20000, 3) := by decide +kernel
theorem dX12_run_28 : decode cX12_run 28 = .ok (.if_icmp .le 13, 3) := by decide +kernel
theorem dX12_run_31 : decode cX12_run 31 = .ok (.new 128, 3) := by decide +kernel
theorem dX12_run_34 : decode cX12_run 34 = .ok (.dup, 1) := by decide +kernel
theorem dX12_run_35 : decode cX12_run 35 = .ok (.ldc 182, 2) := by decide +kernel
theorem dX12_run_37 : decode cX12_run 37 = .ok (.invokespecial 132, 3) := by decide +kernel
theorem dX12_run_40 : decode cX12_run 40 = .ok (.athrow, 1) := by decide +kernel
theorem dX12_run_41 : decode cX12_run 41 = .ok (.iload_n 3, 1) := by decide +kernel
theorem dX12_run_42 : decode cX12_run 42 = .ok (.bipush 16, 2) := by decide +kernel
theorem dX12_run_44 : decode cX12_run 44 = .ok (.if_icmp .lt 10, 3) := by decide +kernel
theorem dX12_run_47 : decode cX12_run 47 = .ok (.iload_n 3, 1) := by decide +kernel
theorem dX12_run_48 : decode cX12_run 48 = .ok (.sipush 4096, 3) := by decide +kernel
theorem dX12_run_51 : decode cX12_run 51 = .ok (.if_icmp .le 13, 3) := by decide +kernel
theorem dX12_run_54 : decode cX12_run 54 = .ok (.new 128, 3) := by decide +kernel
theorem dX12_run_57 : decode cX12_run 57 = .ok (.dup, 1) := by decide +kernel
theorem dX12_run_58 : decode cX12_run 58 = .ok (.ldc 184, 2) := by decide +kernel
theorem dX12_run_60 : decode cX12_run 60 = .ok (.invokespecial 132, 3) := by decide +kernel
theorem dX12_run_63 : decode cX12_run 63 = .ok (.athrow, 1) := by decide +kernel
def zlX12_run : List Cond := [.classLink RX12 128 "java/lang/IllegalArgumentException", .initialized "java/lang/IllegalArgumentException"]
def zsX12_run : List Cond := .code yX12_run cX12_run 4 (some .int) :: (zlX12_run ++ (wtA))
set_option maxHeartbeats 8000000 in
set_option maxRecDepth 100000 in
theorem c_X12_runA (l : Launch) (hst : l.stackTraces = false) (dC : Nat → ClassId) (dI : Nat → Nat → Nat) (sz : Nat) (h0 : Nat) (w_text : Nat) (w_memory : Nat) (w_counts : Nat) (w_lexer : Nat) (w_parser : Nat) (w_checker : Nat) (w_scope : Nat) (w_coder : Nat) (w_machine : Nat) (w_compiler : Nat) (w_processor : Nat) (w_writer : Nat) (v_h : Int32) (v_n : Int32) (v_p : Int32) (hbad : v_h < 0 ∨ 2 < v_h ∨ v_n < 1 ∨ 20000 < v_n ∨ v_p < 16 ∨ ¬ v_p ≤ 4096) : vx_Met l yX12_run zsX12_run ({ frames := 8, cells := 1, slots := 6, locals := 140 } : Room) (va_Pc [.ref h0, .int v_h, .int v_n, .int v_p] (wBT (dC, dI) vwCl nestM strL [] [(h0, .inr (12, [.ref w_text, .ref w_memory, .ref w_counts, .ref w_lexer, .ref w_parser, .ref w_checker, .ref w_scope, .ref w_coder, .ref w_machine, .ref w_compiler, .ref w_processor, .ref w_writer, .int 0, .int 0, .int 0, .int (-1), .int (-1), .int 0, .int 0, .int 0]))] sz)) (noQ (va_A [(h0, .inr (12, [.ref w_text, .ref w_memory, .ref w_counts, .ref w_lexer, .ref w_parser, .ref w_checker, .ref w_scope, .ref w_coder, .ref w_machine, .ref w_compiler, .ref w_processor, .ref w_writer, .int 0, .int 0, .int 0, .int (-1), .int (-1), .int 0, .int 0, .int 0]))] sz)) (isX "java/lang/IllegalArgumentException" (va_A [(h0, .inr (12, [.ref w_text, .ref w_memory, .ref w_counts, .ref w_lexer, .ref w_parser, .ref w_checker, .ref w_scope, .ref w_coder, .ref w_machine, .ref w_compiler, .ref w_processor, .ref w_writer, .int 0, .int 0, .int 0, .int (-1), .int (-1), .int 0, .int 0, .int 0]))] sz)) 1 6 (va_A [(h0, .inr (12, [.ref w_text, .ref w_memory, .ref w_counts, .ref w_lexer, .ref w_parser, .ref w_checker, .ref w_scope, .ref w_coder, .ref w_machine, .ref w_compiler, .ref w_processor, .ref w_writer, .int 0, .int 0, .int 0, .int (-1), .int (-1), .int 0, .int 0, .int 0]))] sz) := by
  refine vx_ofW (cc := cX12_run) (maxL := 4) (ret := (some .int)) (by decide) rfl ?_
  intro p e s m args below meth c s₁ B hml htab hv
  obtain ⟨rfl, ⟨hsz, hP, hK, hD0, hN⟩, hT⟩ := hv
  have hx := B.exec
  have hb := B.bytes
  have hr := B.returns
  have hts := atoms_spec (ws := zsX12_run) B.pre
  have hown : s.vm.findClass RX12 = some m.cls := findClass_of_methodNamed B.named
  have hlocks := B.notSynchronized
  subst hsz
  have hD := hD0.self (sz := s.heap.size)
  generalize hAe : va_A [(h0, .inr (12, [.ref w_text, .ref w_memory, .ref w_counts, .ref w_lexer, .ref w_parser, .ref w_checker, .ref w_scope, .ref w_coder, .ref w_machine, .ref w_compiler, .ref w_processor, .ref w_writer, .int 0, .int 0, .int 0, .int (-1), .int (-1), .int 0, .int 0, .int 0]))] s.heap.size = A at hD hT ⊢
  have hA : ∀ q : Nat, s.heap.size ≤ q → A q := fun q h => by rw [← hAe]; exact Or.inr h
  have hS : va_S A s.heap s.heap [] := va_S.rf
  have hP : va_P (dC, dI) vwCl [(h0, .inr (12, [.ref w_text, .ref w_memory, .ref w_counts, .ref w_lexer, .ref w_parser, .ref w_checker, .ref w_scope, .ref w_coder, .ref w_machine, .ref w_compiler, .ref w_processor, .ref w_writer, .int 0, .int 0, .int 0, .int (-1), .int (-1), .int 0, .int 0, .int 0]))] s.heap := hP
  have hl := lv_entry ([.ref h0, .int v_h, .int v_n, .int v_p]) (n := 4) (Nat.le_of_ble_eq_true rfl)
  rw [lg_entry_eq]
  generalize (lg_sl ([.ref h0, .int v_h, .int v_n, .int v_p]) ++ List.replicate (4 - (lg_sl ([.ref h0, .int v_h, .int v_n, .int v_p])).length) Slot.unset).toArray = ls at hl ⊢
  have hl : lv_has ls 4 [(0, .ref h0), (1, .int v_h), (2, .int v_n), (3, .int v_p)] := hl
  refine lv_iload_n hx hb dX12_run_0 rfl (lv_at hl 1 rfl) ?_
  refine lv_if_lt (tgt := 9) hx hb dX12_run_1 (by decide) (fun c_1 => ?_) (fun c_1 => ?_)
  · obtain ⟨sa9, hsa⟩ := hT.2.2.1 (RX12, 180, "no such way to run") (List.mem_of_getElem? (i := 4) rfl)
    exact vx_throwS (own := RX12) (cls := "java/lang/IllegalArgumentException") (text := "no such way to run") (names := ["java/lang/RuntimeException", "java/lang/Exception"]) (ik := 128) (is := 180) (ic := 132) (sa := sa9) hx hb hst hown (by decide +kernel) (by decide +kernel) (hts _ (List.mem_cons_of_mem _ (List.mem_append_left _ (List.mem_of_getElem? (i := 0) rfl)))) (hts _ (List.mem_cons_of_mem _ (List.mem_append_left _ (List.mem_of_getElem? (i := 1) rfl)))) hsa (vx_hat (B := Cond.castable "java/lang/IllegalArgumentException" "java/lang/IllegalArgumentException" :: decL.map Cond.declares) (fun w hw => hts w ((fun _ h9 => List.mem_cons_of_mem _ (List.mem_append_right _ h9)) w hw)) hbA (vx_c (va_Nw.use rfl (hT.2.2.2.1 _ (by decide))) (fun w hw => by obtain ⟨x, hx, rfl⟩ := List.mem_map.mp hw; exact va_Nw.use rfl (hT.2.2.2.2.2 x hx)))) (List.forall_mem_cons.mpr ⟨by decide +kernel, List.forall_mem_cons.mpr ⟨by decide +kernel, hgA⟩⟩) hT.1 hT.2.1 hS (hl.1.trans hml.symm) dX12_run_9 dX12_run_12 dX12_run_13 dX12_run_15 dX12_run_18 (fun x hx => (htab x hx).elim) (Nat.lt_of_lt_of_le (Nat.lt_succ_self _) (Nat.le_of_ble_eq_true rfl)) (Nat.le_of_ble_eq_true rfl) (Nat.le_of_ble_eq_true rfl) (Nat.le_of_ble_eq_true rfl) hlocks (fun t ha h1 h2 => ⟨(), trivial, rfl, vF hS h1 h2⟩) hS.2.2 (Nat.le_of_ble_eq_true rfl) (Nat.le_of_ble_eq_true rfl)
  · refine lv_iload_n hx hb dX12_run_4 rfl (lv_at hl 1 rfl) ?_
    refine lv_iconst (v := 2) hx hb dX12_run_5 (by decide) ?_
    refine lv_icmp_le (tgt := 19) hx hb dX12_run_6 (by decide) (fun c_2 => ?_) (fun c_2 => ?_)
    · refine lv_iload_n hx hb dX12_run_19 rfl (lv_at hl 2 rfl) ?_
      refine lv_iconst (v := 1) hx hb dX12_run_20 (by decide) ?_
      refine lv_icmp_lt (tgt := 31) hx hb dX12_run_21 (by decide) (fun c_3 => ?_) (fun c_3 => ?_)
      · obtain ⟨sa9, hsa⟩ := hT.2.2.1 (RX12, 182, "so many steps are not allowed") (List.mem_of_getElem? (i := 5) rfl)
        exact vx_throwS (own := RX12) (cls := "java/lang/IllegalArgumentException") (text := "so many steps are not allowed") (names := ["java/lang/RuntimeException", "java/lang/Exception"]) (ik := 128) (is := 182) (ic := 132) (sa := sa9) hx hb hst hown (by decide +kernel) (by decide +kernel) (hts _ (List.mem_cons_of_mem _ (List.mem_append_left _ (List.mem_of_getElem? (i := 0) rfl)))) (hts _ (List.mem_cons_of_mem _ (List.mem_append_left _ (List.mem_of_getElem? (i := 1) rfl)))) hsa (vx_hat (B := Cond.castable "java/lang/IllegalArgumentException" "java/lang/IllegalArgumentException" :: decL.map Cond.declares) (fun w hw => hts w ((fun _ h9 => List.mem_cons_of_mem _ (List.mem_append_right _ h9)) w hw)) hbA (vx_c (va_Nw.use rfl (hT.2.2.2.1 _ (by decide))) (fun w hw => by obtain ⟨x, hx, rfl⟩ := List.mem_map.mp hw; exact va_Nw.use rfl (hT.2.2.2.2.2 x hx)))) (List.forall_mem_cons.mpr ⟨by decide +kernel, List.forall_mem_cons.mpr ⟨by decide +kernel, hgA⟩⟩) hT.1 hT.2.1 hS (hl.1.trans hml.symm) dX12_run_31 dX12_run_34 dX12_run_35 dX12_run_37 dX12_run_40 (fun x hx => (htab x hx).elim) (Nat.lt_of_lt_of_le (Nat.lt_succ_self _) (Nat.le_of_ble_eq_true rfl)) (Nat.le_of_ble_eq_true rfl) (Nat.le_of_ble_eq_true rfl) (Nat.le_of_ble_eq_true rfl) hlocks (fun t ha h1 h2 => ⟨(), trivial, rfl, vF hS h1 h2⟩) hS.2.2 (Nat.le_of_ble_eq_true rfl) (Nat.le_of_ble_eq_true rfl)
      · refine lv_iload_n hx hb dX12_run_24 rfl (lv_at hl 2 rfl) ?_
        refine lv_sipush (v := 20000) hx hb dX12_run_25 (by decide) ?_
        refine lv_icmp_le (tgt := 41) hx hb dX12_run_28 (by decide) (fun c_4 => ?_) (fun c_4 => ?_)
        · refine lv_iload_n hx hb dX12_run_41 rfl (lv_at hl 3 rfl) ?_
          refine lv_bipush (v := 16) hx hb dX12_run_42 (by decide) ?_
          refine lv_icmp_lt (tgt := 54) hx hb dX12_run_44 (by decide) (fun c_5 => ?_) (fun c_5 => ?_)
          · obtain ⟨sa9, hsa⟩ := hT.2.2.1 (RX12, 184, "no such heap") (List.mem_of_getElem? (i := 6) rfl)
            exact vx_throwS (own := RX12) (cls := "java/lang/IllegalArgumentException") (text := "no such heap") (names := ["java/lang/RuntimeException", "java/lang/Exception"]) (ik := 128) (is := 184) (ic := 132) (sa := sa9) hx hb hst hown (by decide +kernel) (by decide +kernel) (hts _ (List.mem_cons_of_mem _ (List.mem_append_left _ (List.mem_of_getElem? (i := 0) rfl)))) (hts _ (List.mem_cons_of_mem _ (List.mem_append_left _ (List.mem_of_getElem? (i := 1) rfl)))) hsa (vx_hat (B := Cond.castable "java/lang/IllegalArgumentException" "java/lang/IllegalArgumentException" :: decL.map Cond.declares) (fun w hw => hts w ((fun _ h9 => List.mem_cons_of_mem _ (List.mem_append_right _ h9)) w hw)) hbA (vx_c (va_Nw.use rfl (hT.2.2.2.1 _ (by decide))) (fun w hw => by obtain ⟨x, hx, rfl⟩ := List.mem_map.mp hw; exact va_Nw.use rfl (hT.2.2.2.2.2 x hx)))) (List.forall_mem_cons.mpr ⟨by decide +kernel, List.forall_mem_cons.mpr ⟨by decide +kernel, hgA⟩⟩) hT.1 hT.2.1 hS (hl.1.trans hml.symm) dX12_run_54 dX12_run_57 dX12_run_58 dX12_run_60 dX12_run_63 (fun x hx => (htab x hx).elim) (Nat.lt_of_lt_of_le (Nat.lt_succ_self _) (Nat.le_of_ble_eq_true rfl)) (Nat.le_of_ble_eq_true rfl) (Nat.le_of_ble_eq_true rfl) (Nat.le_of_ble_eq_true rfl) hlocks (fun t ha h1 h2 => ⟨(), trivial, rfl, vF hS h1 h2⟩) hS.2.2 (Nat.le_of_ble_eq_true rfl) (Nat.le_of_ble_eq_true rfl)
          · refine lv_iload_n hx hb dX12_run_47 rfl (lv_at hl 3 rfl) ?_
            refine lv_sipush (v := 4096) hx hb dX12_run_48 (by decide) ?_
            refine lv_icmp_le (tgt := 64) hx hb dX12_run_51 (by decide) (fun c_6 => absurd c_6 (fun q => by rcases hbad with h | h | h | h | h | h <;> first | exact c_1 h | exact Int32.not_le.mpr h c_2 | exact c_3 h | exact Int32.not_le.mpr h c_4 | exact c_5 h | exact h q)) (fun c_6 => ?_)
            obtain ⟨sa9, hsa⟩ := hT.2.2.1 (RX12, 184, "no such heap") (List.mem_of_getElem? (i := 6) rfl)
            exact vx_throwS (own := RX12) (cls := "java/lang/IllegalArgumentException") (text := "no such heap") (names := ["java/lang/RuntimeException", "java/lang/Exception"]) (ik := 128) (is := 184) (ic := 132) (sa := sa9) hx hb hst hown (by decide +kernel) (by decide +kernel) (hts _ (List.mem_cons_of_mem _ (List.mem_append_left _ (List.mem_of_getElem? (i := 0) rfl)))) (hts _ (List.mem_cons_of_mem _ (List.mem_append_left _ (List.mem_of_getElem? (i := 1) rfl)))) hsa (vx_hat (B := Cond.castable "java/lang/IllegalArgumentException" "java/lang/IllegalArgumentException" :: decL.map Cond.declares) (fun w hw => hts w ((fun _ h9 => List.mem_cons_of_mem _ (List.mem_append_right _ h9)) w hw)) hbA (vx_c (va_Nw.use rfl (hT.2.2.2.1 _ (by decide))) (fun w hw => by obtain ⟨x, hx, rfl⟩ := List.mem_map.mp hw; exact va_Nw.use rfl (hT.2.2.2.2.2 x hx)))) (List.forall_mem_cons.mpr ⟨by decide +kernel, List.forall_mem_cons.mpr ⟨by decide +kernel, hgA⟩⟩) hT.1 hT.2.1 hS (hl.1.trans hml.symm) dX12_run_54 dX12_run_57 dX12_run_58 dX12_run_60 dX12_run_63 (fun x hx => (htab x hx).elim) (Nat.lt_of_lt_of_le (Nat.lt_succ_self _) (Nat.le_of_ble_eq_true rfl)) (Nat.le_of_ble_eq_true rfl) (Nat.le_of_ble_eq_true rfl) (Nat.le_of_ble_eq_true rfl) hlocks (fun t ha h1 h2 => ⟨(), trivial, rfl, vF hS h1 h2⟩) hS.2.2 (Nat.le_of_ble_eq_true rfl) (Nat.le_of_ble_eq_true rfl)
        · obtain ⟨sa9, hsa⟩ := hT.2.2.1 (RX12, 182, "so many steps are not allowed") (List.mem_of_getElem? (i := 5) rfl)
          exact vx_throwS (own := RX12) (cls := "java/lang/IllegalArgumentException") (text := "so many steps are not allowed") (names := ["java/lang/RuntimeException", "java/lang/Exception"]) (ik := 128) (is := 182) (ic := 132) (sa := sa9) hx hb hst hown (by decide +kernel) (by decide +kernel) (hts _ (List.mem_cons_of_mem _ (List.mem_append_left _ (List.mem_of_getElem? (i := 0) rfl)))) (hts _ (List.mem_cons_of_mem _ (List.mem_append_left _ (List.mem_of_getElem? (i := 1) rfl)))) hsa (vx_hat (B := Cond.castable "java/lang/IllegalArgumentException" "java/lang/IllegalArgumentException" :: decL.map Cond.declares) (fun w hw => hts w ((fun _ h9 => List.mem_cons_of_mem _ (List.mem_append_right _ h9)) w hw)) hbA (vx_c (va_Nw.use rfl (hT.2.2.2.1 _ (by decide))) (fun w hw => by obtain ⟨x, hx, rfl⟩ := List.mem_map.mp hw; exact va_Nw.use rfl (hT.2.2.2.2.2 x hx)))) (List.forall_mem_cons.mpr ⟨by decide +kernel, List.forall_mem_cons.mpr ⟨by decide +kernel, hgA⟩⟩) hT.1 hT.2.1 hS (hl.1.trans hml.symm) dX12_run_31 dX12_run_34 dX12_run_35 dX12_run_37 dX12_run_40 (fun x hx => (htab x hx).elim) (Nat.lt_of_lt_of_le (Nat.lt_succ_self _) (Nat.le_of_ble_eq_true rfl)) (Nat.le_of_ble_eq_true rfl) (Nat.le_of_ble_eq_true rfl) (Nat.le_of_ble_eq_true rfl) hlocks (fun t ha h1 h2 => ⟨(), trivial, rfl, vF hS h1 h2⟩) hS.2.2 (Nat.le_of_ble_eq_true rfl) (Nat.le_of_ble_eq_true rfl)
    · obtain ⟨sa9, hsa⟩ := hT.2.2.1 (RX12, 180, "no such way to run") (List.mem_of_getElem? (i := 4) rfl)
      exact vx_throwS (own := RX12) (cls := "java/lang/IllegalArgumentException") (text := "no such way to run") (names := ["java/lang/RuntimeException", "java/lang/Exception"]) (ik := 128) (is := 180) (ic := 132) (sa := sa9) hx hb hst hown (by decide +kernel) (by decide +kernel) (hts _ (List.mem_cons_of_mem _ (List.mem_append_left _ (List.mem_of_getElem? (i := 0) rfl)))) (hts _ (List.mem_cons_of_mem _ (List.mem_append_left _ (List.mem_of_getElem? (i := 1) rfl)))) hsa (vx_hat (B := Cond.castable "java/lang/IllegalArgumentException" "java/lang/IllegalArgumentException" :: decL.map Cond.declares) (fun w hw => hts w ((fun _ h9 => List.mem_cons_of_mem _ (List.mem_append_right _ h9)) w hw)) hbA (vx_c (va_Nw.use rfl (hT.2.2.2.1 _ (by decide))) (fun w hw => by obtain ⟨x, hx, rfl⟩ := List.mem_map.mp hw; exact va_Nw.use rfl (hT.2.2.2.2.2 x hx)))) (List.forall_mem_cons.mpr ⟨by decide +kernel, List.forall_mem_cons.mpr ⟨by decide +kernel, hgA⟩⟩) hT.1 hT.2.1 hS (hl.1.trans hml.symm) dX12_run_9 dX12_run_12 dX12_run_13 dX12_run_15 dX12_run_18 (fun x hx => (htab x hx).elim) (Nat.lt_of_lt_of_le (Nat.lt_succ_self _) (Nat.le_of_ble_eq_true rfl)) (Nat.le_of_ble_eq_true rfl) (Nat.le_of_ble_eq_true rfl) (Nat.le_of_ble_eq_true rfl) hlocks (fun t ha h1 h2 => ⟨(), trivial, rfl, vF hS h1 h2⟩) hS.2.2 (Nat.le_of_ble_eq_true rfl) (Nat.le_of_ble_eq_true rfl)

theorem dX12_run_64 : decode cX12_run 64 = .ok (.aload_n 0, 1) := by decide +kernel
theorem dX12_run_65 : decode cX12_run 65 = .ok (.getfield 133, 3) := by decide +kernel
theorem dX12_run_68 : decode cX12_run 68 = .ok (.ifCond .ne 13, 3) := by decide +kernel
theorem dX12_run_71 : decode cX12_run 71 = .ok (.new 113, 3) := by decide +kernel
theorem dX12_run_74 : decode cX12_run 74 = .ok (.dup, 1) := by decide +kernel
theorem dX12_run_75 : decode cX12_run 75 = .ok (.ldc 186, 2) := by decide +kernel
theorem dX12_run_77 : decode cX12_run 77 = .ok (.invokespecial 117, 3) := by decide +kernel
theorem dX12_run_80 : decode cX12_run 80 = .ok (.athrow, 1) := by decide +kernel
def zlX12_run_v2 : List Cond := [.fieldLink RX12 133 "LeanHouse" "isProgram" "Z", .classLink RX12 113 "java/lang/IllegalStateException", .initialized "java/lang/IllegalStateException"]
def zsX12_run_v2 : List Cond := .code yX12_run cX12_run 4 (some .int) :: (zlX12_run_v2 ++ (wsX120 ++ (wtS)))
set_option maxHeartbeats 8000000 in
set_option maxRecDepth 100000 in
theorem c_X12_runB (l : Launch) (hst : l.stackTraces = false) (dC : Nat → ClassId) (dI : Nat → Nat → Nat) (sz : Nat) (h0 : Nat) (w_text : Nat) (w_memory : Nat) (w_counts : Nat) (w_lexer : Nat) (w_parser : Nat) (w_checker : Nat) (w_scope : Nat) (w_coder : Nat) (w_machine : Nat) (w_compiler : Nat) (w_processor : Nat) (w_writer : Nat) (v_h : Int32) (v_n : Int32) (v_p : Int32) (b1 : ¬ v_h < 0) (b2 : ¬ 2 < v_h) (b3 : ¬ v_n < 1) (b4 : ¬ 20000 < v_n) (b5 : ¬ v_p < 16) (b6 : v_p ≤ 4096) : vx_Met l yX12_run zsX12_run_v2 ({ frames := 8, cells := 1, slots := 6, locals := 140 } : Room) (va_Pc [.ref h0, .int v_h, .int v_n, .int v_p] (wBT (dC, dI) vwCl nestM strL [] [(h0, .inr (12, [.ref w_text, .ref w_memory, .ref w_counts, .ref w_lexer, .ref w_parser, .ref w_checker, .ref w_scope, .ref w_coder, .ref w_machine, .ref w_compiler, .ref w_processor, .ref w_writer, .int 0, .int 0, .int 0, .int (-1), .int (-1), .int 0, .int 0, .int 0]))] sz)) (noQ (va_A [(h0, .inr (12, [.ref w_text, .ref w_memory, .ref w_counts, .ref w_lexer, .ref w_parser, .ref w_checker, .ref w_scope, .ref w_coder, .ref w_machine, .ref w_compiler, .ref w_processor, .ref w_writer, .int 0, .int 0, .int 0, .int (-1), .int (-1), .int 0, .int 0, .int 0]))] sz)) (isX "java/lang/IllegalStateException" (va_A [(h0, .inr (12, [.ref w_text, .ref w_memory, .ref w_counts, .ref w_lexer, .ref w_parser, .ref w_checker, .ref w_scope, .ref w_coder, .ref w_machine, .ref w_compiler, .ref w_processor, .ref w_writer, .int 0, .int 0, .int 0, .int (-1), .int (-1), .int 0, .int 0, .int 0]))] sz)) 1 6 (va_A [(h0, .inr (12, [.ref w_text, .ref w_memory, .ref w_counts, .ref w_lexer, .ref w_parser, .ref w_checker, .ref w_scope, .ref w_coder, .ref w_machine, .ref w_compiler, .ref w_processor, .ref w_writer, .int 0, .int 0, .int 0, .int (-1), .int (-1), .int 0, .int 0, .int 0]))] sz) := by
  refine vx_ofW (cc := cX12_run) (maxL := 4) (ret := (some .int)) (by decide) rfl ?_
  intro p e s m args below meth c s₁ B hml htab hv
  obtain ⟨rfl, ⟨hsz, hP, hK, hD0, hN⟩, hT⟩ := hv
  have hx := B.exec
  have hb := B.bytes
  have hr := B.returns
  have hts := atoms_spec (ws := zsX12_run_v2) B.pre
  have hown : s.vm.findClass RX12 = some m.cls := findClass_of_methodNamed B.named
  have hlocks := B.notSynchronized
  subst hsz
  have hD := hD0.self (sz := s.heap.size)
  generalize hAe : va_A [(h0, .inr (12, [.ref w_text, .ref w_memory, .ref w_counts, .ref w_lexer, .ref w_parser, .ref w_checker, .ref w_scope, .ref w_coder, .ref w_machine, .ref w_compiler, .ref w_processor, .ref w_writer, .int 0, .int 0, .int 0, .int (-1), .int (-1), .int 0, .int 0, .int 0]))] s.heap.size = A at hD hT ⊢
  have hA : ∀ q : Nat, s.heap.size ≤ q → A q := fun q h => by rw [← hAe]; exact Or.inr h
  have hS : va_S A s.heap s.heap [] := va_S.rf
  have hP : va_P (dC, dI) vwCl [(h0, .inr (12, [.ref w_text, .ref w_memory, .ref w_counts, .ref w_lexer, .ref w_parser, .ref w_checker, .ref w_scope, .ref w_coder, .ref w_machine, .ref w_compiler, .ref w_processor, .ref w_writer, .int 0, .int 0, .int 0, .int (-1), .int (-1), .int 0, .int 0, .int 0]))] s.heap := hP
  have hl := lv_entry ([.ref h0, .int v_h, .int v_n, .int v_p]) (n := 4) (Nat.le_of_ble_eq_true rfl)
  rw [lg_entry_eq]
  generalize (lg_sl ([.ref h0, .int v_h, .int v_n, .int v_p]) ++ List.replicate (4 - (lg_sl ([.ref h0, .int v_h, .int v_n, .int v_p])).length) Slot.unset).toArray = ls at hl ⊢
  have hl : lv_has ls 4 [(0, .ref h0), (1, .int v_h), (2, .int v_n), (3, .int v_p)] := hl
  refine lv_iload_n hx hb dX12_run_0 rfl (lv_at hl 1 rfl) ?_
  refine lv_if_lt (tgt := 9) hx hb dX12_run_1 (by decide) (fun c_1 => absurd c_1 b1) (fun c_1 => ?_)
  refine lv_iload_n hx hb dX12_run_4 rfl (lv_at hl 1 rfl) ?_
  refine lv_iconst (v := 2) hx hb dX12_run_5 (by decide) ?_
  refine lv_icmp_le (tgt := 19) hx hb dX12_run_6 (by decide) (fun c_2 => ?_) (fun c_2 => absurd (Int32.not_lt.mp b2) c_2)
  refine lv_iload_n hx hb dX12_run_19 rfl (lv_at hl 2 rfl) ?_
  refine lv_iconst (v := 1) hx hb dX12_run_20 (by decide) ?_
  refine lv_icmp_lt (tgt := 31) hx hb dX12_run_21 (by decide) (fun c_3 => absurd c_3 b3) (fun c_3 => ?_)
  refine lv_iload_n hx hb dX12_run_24 rfl (lv_at hl 2 rfl) ?_
  refine lv_sipush (v := 20000) hx hb dX12_run_25 (by decide) ?_
  refine lv_icmp_le (tgt := 41) hx hb dX12_run_28 (by decide) (fun c_4 => ?_) (fun c_4 => absurd (Int32.not_lt.mp b4) c_4)
  refine lv_iload_n hx hb dX12_run_41 rfl (lv_at hl 3 rfl) ?_
  refine lv_bipush (v := 16) hx hb dX12_run_42 (by decide) ?_
  refine lv_icmp_lt (tgt := 54) hx hb dX12_run_44 (by decide) (fun c_5 => absurd c_5 b5) (fun c_5 => ?_)
  refine lv_iload_n hx hb dX12_run_47 rfl (lv_at hl 3 rfl) ?_
  refine lv_sipush (v := 4096) hx hb dX12_run_48 (by decide) ?_
  refine lv_icmp_le (tgt := 64) hx hb dX12_run_51 (by decide) (fun c_6 => ?_) (fun c_6 => absurd b6 c_6)
  refine lv_aload_n hx hb dX12_run_64 rfl (lv_at hl 0 rfl) ?_
  refine va_get (D := (dC, dI)) (ci := 12) (v := .int 0) (C := RX12) (T := TX12) (N := 20) hx hb hts (fun _ h9 => List.mem_cons_of_mem _ (List.mem_append_right _ (List.mem_append_left _ h9))) hown hK hP 0 rfl rfl 19 (by decide) (hts _ (List.mem_cons_of_mem _ (List.mem_append_left _ (List.mem_of_getElem? (i := 0) rfl)))) (fun _ h9 => h9) rfl dX12_run_65 ?_
  refine lv_if_ne (tgt := 81) hx hb dX12_run_68 (by decide) (fun c_7 => absurd (by decide) c_7) (fun c_7 => ?_)
  obtain ⟨sa9, hsa⟩ := hT.2.2.1 (RX12, 186, "there is no program") (List.mem_of_getElem? (i := 7) rfl)
  exact vx_throwS (own := RX12) (cls := "java/lang/IllegalStateException") (text := "there is no program") (names := ["java/lang/RuntimeException", "java/lang/Exception"]) (ik := 113) (is := 186) (ic := 117) (sa := sa9) hx hb hst hown (by decide +kernel) (by decide +kernel) (hts _ (List.mem_cons_of_mem _ (List.mem_append_left _ (List.mem_of_getElem? (i := 1) rfl)))) (hts _ (List.mem_cons_of_mem _ (List.mem_append_left _ (List.mem_of_getElem? (i := 2) rfl)))) hsa (vx_hat (B := Cond.castable "java/lang/IllegalStateException" "java/lang/IllegalStateException" :: decL.map Cond.declares) (fun w hw => hts w ((fun _ h9 => List.mem_cons_of_mem _ (List.mem_append_right _ (List.mem_append_right _ h9))) w hw)) hbS (vx_c (va_Nw.use rfl (hT.2.2.2.1 _ (by decide))) (fun w hw => by obtain ⟨x, hx, rfl⟩ := List.mem_map.mp hw; exact va_Nw.use rfl (hT.2.2.2.2.2 x hx)))) (List.forall_mem_cons.mpr ⟨by decide +kernel, List.forall_mem_cons.mpr ⟨by decide +kernel, hgS⟩⟩) hT.1 hT.2.1 hS (hl.1.trans hml.symm) dX12_run_71 dX12_run_74 dX12_run_75 dX12_run_77 dX12_run_80 (fun x hx => (htab x hx).elim) (Nat.lt_of_lt_of_le (Nat.lt_succ_self _) (Nat.le_of_ble_eq_true rfl)) (Nat.le_of_ble_eq_true rfl) (Nat.le_of_ble_eq_true rfl) (Nat.le_of_ble_eq_true rfl) hlocks (fun t ha h1 h2 => ⟨(), trivial, rfl, vF hS h1 h2⟩) hS.2.2 (Nat.le_of_ble_eq_true rfl) (Nat.le_of_ble_eq_true rfl)

theorem dX12_seen_0 : decode cX12_seen 0 = .ok (.iload_n 1, 1) := by decide +kernel
theorem dX12_seen_1 : decode cX12_seen 1 = .ok (.ifCond .lt 8, 3) := by decide +kernel
theorem dX12_seen_4 : decode cX12_seen 4 = .ok (.iload_n 1, 1) := by decide +kernel
theorem dX12_seen_5 : decode cX12_seen 5 = .ok (.iconst 4, 1) := by decide +kernel
theorem dX12_seen_6 : decode cX12_seen 6 = .ok (.if_icmp .le 13, 3) := by decide +kernel
theorem dX12_seen_9 : decode cX12_seen 9 = .ok (.new 166, 3) := by decide +kernel
theorem dX12_seen_12 : decode cX12_seen 12 = .ok (.dup, 1) := by decide +kernel
theorem dX12_seen_13 : decode cX12_seen 13 = .ok (.ldc 209, 2) := by decide +kernel
theorem dX12_seen_15 : decode cX12_seen 15 = .ok (.invokespecial 170, 3) := by decide +kernel
theorem dX12_seen_18 : decode cX12_seen 18 = .ok (.athrow, 1) := by decide +kernel
def zlX12_seen : List Cond := [.classLink RX12 166 "java/lang/IndexOutOfBoundsException", .initialized "java/lang/IndexOutOfBoundsException"]
def zsX12_seen : List Cond := .code yX12_seen cX12_seen 2 (some .int) :: (zlX12_seen ++ (wtO))
set_option maxHeartbeats 8000000 in
set_option maxRecDepth 100000 in
theorem c_X12_seenA (l : Launch) (hst : l.stackTraces = false) (dC : Nat → ClassId) (dI : Nat → Nat → Nat) (sz : Nat) (h0 : Nat) (w_text : Nat) (w_memory : Nat) (w_counts : Nat) (w_lexer : Nat) (w_parser : Nat) (w_checker : Nat) (w_scope : Nat) (w_coder : Nat) (w_machine : Nat) (w_compiler : Nat) (w_processor : Nat) (w_writer : Nat) (v_n : Int32) (hbad : v_n < 0 ∨ ¬ v_n ≤ 4) : vx_Met l yX12_seen zsX12_seen ({ frames := 8, cells := 1, slots := 6, locals := 140 } : Room) (va_Pc [.ref h0, .int v_n] (wBT (dC, dI) vwCl nestM strL [] [(h0, .inr (12, [.ref w_text, .ref w_memory, .ref w_counts, .ref w_lexer, .ref w_parser, .ref w_checker, .ref w_scope, .ref w_coder, .ref w_machine, .ref w_compiler, .ref w_processor, .ref w_writer, .int 0, .int 0, .int 0, .int (-1), .int (-1), .int 0, .int 0, .int 0]))] sz)) (noQ (va_A [(h0, .inr (12, [.ref w_text, .ref w_memory, .ref w_counts, .ref w_lexer, .ref w_parser, .ref w_checker, .ref w_scope, .ref w_coder, .ref w_machine, .ref w_compiler, .ref w_processor, .ref w_writer, .int 0, .int 0, .int 0, .int (-1), .int (-1), .int 0, .int 0, .int 0]))] sz)) (isX "java/lang/IndexOutOfBoundsException" (va_A [(h0, .inr (12, [.ref w_text, .ref w_memory, .ref w_counts, .ref w_lexer, .ref w_parser, .ref w_checker, .ref w_scope, .ref w_coder, .ref w_machine, .ref w_compiler, .ref w_processor, .ref w_writer, .int 0, .int 0, .int 0, .int (-1), .int (-1), .int 0, .int 0, .int 0]))] sz)) 1 6 (va_A [(h0, .inr (12, [.ref w_text, .ref w_memory, .ref w_counts, .ref w_lexer, .ref w_parser, .ref w_checker, .ref w_scope, .ref w_coder, .ref w_machine, .ref w_compiler, .ref w_processor, .ref w_writer, .int 0, .int 0, .int 0, .int (-1), .int (-1), .int 0, .int 0, .int 0]))] sz) := by
  refine vx_ofW (cc := cX12_seen) (maxL := 2) (ret := (some .int)) (by decide) rfl ?_
  intro p e s m args below meth c s₁ B hml htab hv
  obtain ⟨rfl, ⟨hsz, hP, hK, hD0, hN⟩, hT⟩ := hv
  have hx := B.exec
  have hb := B.bytes
  have hr := B.returns
  have hts := atoms_spec (ws := zsX12_seen) B.pre
  have hown : s.vm.findClass RX12 = some m.cls := findClass_of_methodNamed B.named
  have hlocks := B.notSynchronized
  subst hsz
  have hD := hD0.self (sz := s.heap.size)
  generalize hAe : va_A [(h0, .inr (12, [.ref w_text, .ref w_memory, .ref w_counts, .ref w_lexer, .ref w_parser, .ref w_checker, .ref w_scope, .ref w_coder, .ref w_machine, .ref w_compiler, .ref w_processor, .ref w_writer, .int 0, .int 0, .int 0, .int (-1), .int (-1), .int 0, .int 0, .int 0]))] s.heap.size = A at hD hT ⊢
  have hA : ∀ q : Nat, s.heap.size ≤ q → A q := fun q h => by rw [← hAe]; exact Or.inr h
  have hS : va_S A s.heap s.heap [] := va_S.rf
  have hP : va_P (dC, dI) vwCl [(h0, .inr (12, [.ref w_text, .ref w_memory, .ref w_counts, .ref w_lexer, .ref w_parser, .ref w_checker, .ref w_scope, .ref w_coder, .ref w_machine, .ref w_compiler, .ref w_processor, .ref w_writer, .int 0, .int 0, .int 0, .int (-1), .int (-1), .int 0, .int 0, .int 0]))] s.heap := hP
  have hl := lv_entry ([.ref h0, .int v_n]) (n := 2) (Nat.le_of_ble_eq_true rfl)
  rw [lg_entry_eq]
  generalize (lg_sl ([.ref h0, .int v_n]) ++ List.replicate (2 - (lg_sl ([.ref h0, .int v_n])).length) Slot.unset).toArray = ls at hl ⊢
  have hl : lv_has ls 2 [(0, .ref h0), (1, .int v_n)] := hl
  refine lv_iload_n hx hb dX12_seen_0 rfl (lv_at hl 1 rfl) ?_
  refine lv_if_lt (tgt := 9) hx hb dX12_seen_1 (by decide) (fun c_1 => ?_) (fun c_1 => ?_)
  · obtain ⟨sa9, hsa⟩ := hT.2.2.1 (RX12, 209, "no such number of a run") (List.mem_of_getElem? (i := 8) rfl)
    exact vx_throwS (own := RX12) (cls := "java/lang/IndexOutOfBoundsException") (text := "no such number of a run") (names := ["java/lang/RuntimeException", "java/lang/Exception"]) (ik := 166) (is := 209) (ic := 170) (sa := sa9) hx hb hst hown (by decide +kernel) (by decide +kernel) (hts _ (List.mem_cons_of_mem _ (List.mem_append_left _ (List.mem_of_getElem? (i := 0) rfl)))) (hts _ (List.mem_cons_of_mem _ (List.mem_append_left _ (List.mem_of_getElem? (i := 1) rfl)))) hsa (vx_hat (B := Cond.castable "java/lang/IndexOutOfBoundsException" "java/lang/IndexOutOfBoundsException" :: decL.map Cond.declares) (fun w hw => hts w ((fun _ h9 => List.mem_cons_of_mem _ (List.mem_append_right _ h9)) w hw)) hbO (vx_c (va_Nw.use rfl (hT.2.2.2.1 _ (by decide))) (fun w hw => by obtain ⟨x, hx, rfl⟩ := List.mem_map.mp hw; exact va_Nw.use rfl (hT.2.2.2.2.2 x hx)))) (List.forall_mem_cons.mpr ⟨by decide +kernel, List.forall_mem_cons.mpr ⟨by decide +kernel, hgO⟩⟩) hT.1 hT.2.1 hS (hl.1.trans hml.symm) dX12_seen_9 dX12_seen_12 dX12_seen_13 dX12_seen_15 dX12_seen_18 (fun x hx => (htab x hx).elim) (Nat.lt_of_lt_of_le (Nat.lt_succ_self _) (Nat.le_of_ble_eq_true rfl)) (Nat.le_of_ble_eq_true rfl) (Nat.le_of_ble_eq_true rfl) (Nat.le_of_ble_eq_true rfl) hlocks (fun t ha h1 h2 => ⟨(), trivial, rfl, vF hS h1 h2⟩) hS.2.2 (Nat.le_of_ble_eq_true rfl) (Nat.le_of_ble_eq_true rfl)
  · refine lv_iload_n hx hb dX12_seen_4 rfl (lv_at hl 1 rfl) ?_
    refine lv_iconst (v := 4) hx hb dX12_seen_5 (by decide) ?_
    refine lv_icmp_le (tgt := 19) hx hb dX12_seen_6 (by decide) (fun c_2 => absurd c_2 (fun q => hbad.elim c_1 (fun z => z q))) (fun c_2 => ?_)
    obtain ⟨sa9, hsa⟩ := hT.2.2.1 (RX12, 209, "no such number of a run") (List.mem_of_getElem? (i := 8) rfl)
    exact vx_throwS (own := RX12) (cls := "java/lang/IndexOutOfBoundsException") (text := "no such number of a run") (names := ["java/lang/RuntimeException", "java/lang/Exception"]) (ik := 166) (is := 209) (ic := 170) (sa := sa9) hx hb hst hown (by decide +kernel) (by decide +kernel) (hts _ (List.mem_cons_of_mem _ (List.mem_append_left _ (List.mem_of_getElem? (i := 0) rfl)))) (hts _ (List.mem_cons_of_mem _ (List.mem_append_left _ (List.mem_of_getElem? (i := 1) rfl)))) hsa (vx_hat (B := Cond.castable "java/lang/IndexOutOfBoundsException" "java/lang/IndexOutOfBoundsException" :: decL.map Cond.declares) (fun w hw => hts w ((fun _ h9 => List.mem_cons_of_mem _ (List.mem_append_right _ h9)) w hw)) hbO (vx_c (va_Nw.use rfl (hT.2.2.2.1 _ (by decide))) (fun w hw => by obtain ⟨x, hx, rfl⟩ := List.mem_map.mp hw; exact va_Nw.use rfl (hT.2.2.2.2.2 x hx)))) (List.forall_mem_cons.mpr ⟨by decide +kernel, List.forall_mem_cons.mpr ⟨by decide +kernel, hgO⟩⟩) hT.1 hT.2.1 hS (hl.1.trans hml.symm) dX12_seen_9 dX12_seen_12 dX12_seen_13 dX12_seen_15 dX12_seen_18 (fun x hx => (htab x hx).elim) (Nat.lt_of_lt_of_le (Nat.lt_succ_self _) (Nat.le_of_ble_eq_true rfl)) (Nat.le_of_ble_eq_true rfl) (Nat.le_of_ble_eq_true rfl) (Nat.le_of_ble_eq_true rfl) hlocks (fun t ha h1 h2 => ⟨(), trivial, rfl, vF hS h1 h2⟩) hS.2.2 (Nat.le_of_ble_eq_true rfl) (Nat.le_of_ble_eq_true rfl)

theorem dX12_seen_19 : decode cX12_seen 19 = .ok (.aload_n 0, 1) := by decide +kernel
theorem dX12_seen_20 : decode cX12_seen 20 = .ok (.getfield 107, 3) := by decide +kernel
theorem dX12_seen_23 : decode cX12_seen 23 = .ok (.ifCond .ge 13, 3) := by decide +kernel
theorem dX12_seen_26 : decode cX12_seen 26 = .ok (.new 113, 3) := by decide +kernel
theorem dX12_seen_29 : decode cX12_seen 29 = .ok (.dup, 1) := by decide +kernel
theorem dX12_seen_30 : decode cX12_seen 30 = .ok (.ldc 211, 2) := by decide +kernel
theorem dX12_seen_32 : decode cX12_seen 32 = .ok (.invokespecial 117, 3) := by decide +kernel
theorem dX12_seen_35 : decode cX12_seen 35 = .ok (.athrow, 1) := by decide +kernel
def zlX12_seen_v2 : List Cond := [.fieldLink RX12 107 "LeanHouse" "ending" "I", .classLink RX12 113 "java/lang/IllegalStateException", .initialized "java/lang/IllegalStateException"]
def zsX12_seen_v2 : List Cond := .code yX12_seen cX12_seen 2 (some .int) :: (zlX12_seen_v2 ++ (wsX120 ++ (wtS)))
set_option maxHeartbeats 8000000 in
set_option maxRecDepth 100000 in
theorem c_X12_seenB (l : Launch) (hst : l.stackTraces = false) (dC : Nat → ClassId) (dI : Nat → Nat → Nat) (sz : Nat) (h0 : Nat) (w_text : Nat) (w_memory : Nat) (w_counts : Nat) (w_lexer : Nat) (w_parser : Nat) (w_checker : Nat) (w_scope : Nat) (w_coder : Nat) (w_machine : Nat) (w_compiler : Nat) (w_processor : Nat) (w_writer : Nat) (v_n : Int32) (b1 : ¬ v_n < 0) (b2 : v_n ≤ 4) : vx_Met l yX12_seen zsX12_seen_v2 ({ frames := 8, cells := 1, slots := 6, locals := 140 } : Room) (va_Pc [.ref h0, .int v_n] (wBT (dC, dI) vwCl nestM strL [] [(h0, .inr (12, [.ref w_text, .ref w_memory, .ref w_counts, .ref w_lexer, .ref w_parser, .ref w_checker, .ref w_scope, .ref w_coder, .ref w_machine, .ref w_compiler, .ref w_processor, .ref w_writer, .int 0, .int 0, .int 0, .int (-1), .int (-1), .int 0, .int 0, .int 0]))] sz)) (noQ (va_A [(h0, .inr (12, [.ref w_text, .ref w_memory, .ref w_counts, .ref w_lexer, .ref w_parser, .ref w_checker, .ref w_scope, .ref w_coder, .ref w_machine, .ref w_compiler, .ref w_processor, .ref w_writer, .int 0, .int 0, .int 0, .int (-1), .int (-1), .int 0, .int 0, .int 0]))] sz)) (isX "java/lang/IllegalStateException" (va_A [(h0, .inr (12, [.ref w_text, .ref w_memory, .ref w_counts, .ref w_lexer, .ref w_parser, .ref w_checker, .ref w_scope, .ref w_coder, .ref w_machine, .ref w_compiler, .ref w_processor, .ref w_writer, .int 0, .int 0, .int 0, .int (-1), .int (-1), .int 0, .int 0, .int 0]))] sz)) 1 6 (va_A [(h0, .inr (12, [.ref w_text, .ref w_memory, .ref w_counts, .ref w_lexer, .ref w_parser, .ref w_checker, .ref w_scope, .ref w_coder, .ref w_machine, .ref w_compiler, .ref w_processor, .ref w_writer, .int 0, .int 0, .int 0, .int (-1), .int (-1), .int 0, .int 0, .int 0]))] sz) := by
  refine vx_ofW (cc := cX12_seen) (maxL := 2) (ret := (some .int)) (by decide) rfl ?_
  intro p e s m args below meth c s₁ B hml htab hv
  obtain ⟨rfl, ⟨hsz, hP, hK, hD0, hN⟩, hT⟩ := hv
  have hx := B.exec
  have hb := B.bytes
  have hr := B.returns
  have hts := atoms_spec (ws := zsX12_seen_v2) B.pre
  have hown : s.vm.findClass RX12 = some m.cls := findClass_of_methodNamed B.named
  have hlocks := B.notSynchronized
  subst hsz
  have hD := hD0.self (sz := s.heap.size)
  generalize hAe : va_A [(h0, .inr (12, [.ref w_text, .ref w_memory, .ref w_counts, .ref w_lexer, .ref w_parser, .ref w_checker, .ref w_scope, .ref w_coder, .ref w_machine, .ref w_compiler, .ref w_processor, .ref w_writer, .int 0, .int 0, .int 0, .int (-1), .int (-1), .int 0, .int 0, .int 0]))] s.heap.size = A at hD hT ⊢
  have hA : ∀ q : Nat, s.heap.size ≤ q → A q := fun q h => by rw [← hAe]; exact Or.inr h
  have hS : va_S A s.heap s.heap [] := va_S.rf
  have hP : va_P (dC, dI) vwCl [(h0, .inr (12, [.ref w_text, .ref w_memory, .ref w_counts, .ref w_lexer, .ref w_parser, .ref w_checker, .ref w_scope, .ref w_coder, .ref w_machine, .ref w_compiler, .ref w_processor, .ref w_writer, .int 0, .int 0, .int 0, .int (-1), .int (-1), .int 0, .int 0, .int 0]))] s.heap := hP
  have hl := lv_entry ([.ref h0, .int v_n]) (n := 2) (Nat.le_of_ble_eq_true rfl)
  rw [lg_entry_eq]
  generalize (lg_sl ([.ref h0, .int v_n]) ++ List.replicate (2 - (lg_sl ([.ref h0, .int v_n])).length) Slot.unset).toArray = ls at hl ⊢
  have hl : lv_has ls 2 [(0, .ref h0), (1, .int v_n)] := hl
  refine lv_iload_n hx hb dX12_seen_0 rfl (lv_at hl 1 rfl) ?_
  refine lv_if_lt (tgt := 9) hx hb dX12_seen_1 (by decide) (fun c_1 => absurd c_1 b1) (fun c_1 => ?_)
  refine lv_iload_n hx hb dX12_seen_4 rfl (lv_at hl 1 rfl) ?_
  refine lv_iconst (v := 4) hx hb dX12_seen_5 (by decide) ?_
  refine lv_icmp_le (tgt := 19) hx hb dX12_seen_6 (by decide) (fun c_2 => ?_) (fun c_2 => absurd b2 c_2)
  refine lv_aload_n hx hb dX12_seen_19 rfl (lv_at hl 0 rfl) ?_
  refine va_get (D := (dC, dI)) (ci := 12) (v := .int (-1)) (C := RX12) (T := TX12) (N := 20) hx hb hts (fun _ h9 => List.mem_cons_of_mem _ (List.mem_append_right _ (List.mem_append_left _ h9))) hown hK hP 0 rfl rfl 16 (by decide) (hts _ (List.mem_cons_of_mem _ (List.mem_append_left _ (List.mem_of_getElem? (i := 0) rfl)))) (fun _ h9 => h9) rfl dX12_seen_20 ?_
  refine lv_if_ge (tgt := 36) hx hb dX12_seen_23 (by decide) (fun c_3 => absurd c_3 (by decide)) (fun c_3 => ?_)
  obtain ⟨sa9, hsa⟩ := hT.2.2.1 (RX12, 211, "there was no run") (List.mem_of_getElem? (i := 9) rfl)
  exact vx_throwS (own := RX12) (cls := "java/lang/IllegalStateException") (text := "there was no run") (names := ["java/lang/RuntimeException", "java/lang/Exception"]) (ik := 113) (is := 211) (ic := 117) (sa := sa9) hx hb hst hown (by decide +kernel) (by decide +kernel) (hts _ (List.mem_cons_of_mem _ (List.mem_append_left _ (List.mem_of_getElem? (i := 1) rfl)))) (hts _ (List.mem_cons_of_mem _ (List.mem_append_left _ (List.mem_of_getElem? (i := 2) rfl)))) hsa (vx_hat (B := Cond.castable "java/lang/IllegalStateException" "java/lang/IllegalStateException" :: decL.map Cond.declares) (fun w hw => hts w ((fun _ h9 => List.mem_cons_of_mem _ (List.mem_append_right _ (List.mem_append_right _ h9))) w hw)) hbS (vx_c (va_Nw.use rfl (hT.2.2.2.1 _ (by decide))) (fun w hw => by obtain ⟨x, hx, rfl⟩ := List.mem_map.mp hw; exact va_Nw.use rfl (hT.2.2.2.2.2 x hx)))) (List.forall_mem_cons.mpr ⟨by decide +kernel, List.forall_mem_cons.mpr ⟨by decide +kernel, hgS⟩⟩) hT.1 hT.2.1 hS (hl.1.trans hml.symm) dX12_seen_26 dX12_seen_29 dX12_seen_30 dX12_seen_32 dX12_seen_35 (fun x hx => (htab x hx).elim) (Nat.lt_of_lt_of_le (Nat.lt_succ_self _) (Nat.le_of_ble_eq_true rfl)) (Nat.le_of_ble_eq_true rfl) (Nat.le_of_ble_eq_true rfl) (Nat.le_of_ble_eq_true rfl) hlocks (fun t ha h1 h2 => ⟨(), trivial, rfl, vF hS h1 h2⟩) hS.2.2 (Nat.le_of_ble_eq_true rfl) (Nat.le_of_ble_eq_true rfl)

theorem dX12_byteAt_0 : decode cX12_byteAt 0 = .ok (.iload_n 1, 1) := by decide +kernel
theorem dX12_byteAt_1 : decode cX12_byteAt 1 = .ok (.ifCond .lt 11, 3) := by decide +kernel
theorem dX12_byteAt_4 : decode cX12_byteAt 4 = .ok (.iload_n 1, 1) := by decide +kernel
theorem dX12_byteAt_5 : decode cX12_byteAt 5 = .ok (.aload_n 0, 1) := by decide +kernel
theorem dX12_byteAt_6 : decode cX12_byteAt 6 = .ok (.getfield 206, 3) := by decide +kernel
theorem dX12_byteAt_9 : decode cX12_byteAt 9 = .ok (.if_icmp .lt 13, 3) := by decide +kernel
theorem dX12_byteAt_12 : decode cX12_byteAt 12 = .ok (.new 166, 3) := by decide +kernel
theorem dX12_byteAt_15 : decode cX12_byteAt 15 = .ok (.dup, 1) := by decide +kernel
theorem dX12_byteAt_16 : decode cX12_byteAt 16 = .ok (.ldc 213, 2) := by decide +kernel
theorem dX12_byteAt_18 : decode cX12_byteAt 18 = .ok (.invokespecial 170, 3) := by decide +kernel
theorem dX12_byteAt_21 : decode cX12_byteAt 21 = .ok (.athrow, 1) := by decide +kernel
def zlX12_byteAt : List Cond := [.classLink RX12 166 "java/lang/IndexOutOfBoundsException", .initialized "java/lang/IndexOutOfBoundsException", .fieldLink RX12 206 "LeanHouse" "outputKept" "I"]
def zsX12_byteAt : List Cond := .code yX12_byteAt cX12_byteAt 2 (some .int) :: (zlX12_byteAt ++ (wtO ++ (wsX120)))
set_option maxHeartbeats 8000000 in
set_option maxRecDepth 100000 in
theorem c_X12_byteAt (l : Launch) (hst : l.stackTraces = false) (dC : Nat → ClassId) (dI : Nat → Nat → Nat) (sz : Nat) (h0 : Nat) (w_text : Nat) (w_memory : Nat) (w_counts : Nat) (w_lexer : Nat) (w_parser : Nat) (w_checker : Nat) (w_scope : Nat) (w_coder : Nat) (w_machine : Nat) (w_compiler : Nat) (w_processor : Nat) (w_writer : Nat) (v_n : Int32) : vx_Met l yX12_byteAt zsX12_byteAt ({ frames := 8, cells := 1, slots := 6, locals := 140 } : Room) (va_Pc [.ref h0, .int v_n] (wBT (dC, dI) vwCl nestM strL [] [(h0, .inr (12, [.ref w_text, .ref w_memory, .ref w_counts, .ref w_lexer, .ref w_parser, .ref w_checker, .ref w_scope, .ref w_coder, .ref w_machine, .ref w_compiler, .ref w_processor, .ref w_writer, .int 0, .int 0, .int 0, .int (-1), .int (-1), .int 0, .int 0, .int 0]))] sz)) (noQ (va_A [(h0, .inr (12, [.ref w_text, .ref w_memory, .ref w_counts, .ref w_lexer, .ref w_parser, .ref w_checker, .ref w_scope, .ref w_coder, .ref w_machine, .ref w_compiler, .ref w_processor, .ref w_writer, .int 0, .int 0, .int 0, .int (-1), .int (-1), .int 0, .int 0, .int 0]))] sz)) (isX "java/lang/IndexOutOfBoundsException" (va_A [(h0, .inr (12, [.ref w_text, .ref w_memory, .ref w_counts, .ref w_lexer, .ref w_parser, .ref w_checker, .ref w_scope, .ref w_coder, .ref w_machine, .ref w_compiler, .ref w_processor, .ref w_writer, .int 0, .int 0, .int 0, .int (-1), .int (-1), .int 0, .int 0, .int 0]))] sz)) 1 6 (va_A [(h0, .inr (12, [.ref w_text, .ref w_memory, .ref w_counts, .ref w_lexer, .ref w_parser, .ref w_checker, .ref w_scope, .ref w_coder, .ref w_machine, .ref w_compiler, .ref w_processor, .ref w_writer, .int 0, .int 0, .int 0, .int (-1), .int (-1), .int 0, .int 0, .int 0]))] sz) := by
  refine vx_ofW (cc := cX12_byteAt) (maxL := 2) (ret := (some .int)) (by decide) rfl ?_
  intro p e s m args below meth c s₁ B hml htab hv
  obtain ⟨rfl, ⟨hsz, hP, hK, hD0, hN⟩, hT⟩ := hv
  have hx := B.exec
  have hb := B.bytes
  have hr := B.returns
  have hts := atoms_spec (ws := zsX12_byteAt) B.pre
  have hown : s.vm.findClass RX12 = some m.cls := findClass_of_methodNamed B.named
  have hlocks := B.notSynchronized
  subst hsz
  have hD := hD0.self (sz := s.heap.size)
  generalize hAe : va_A [(h0, .inr (12, [.ref w_text, .ref w_memory, .ref w_counts, .ref w_lexer, .ref w_parser, .ref w_checker, .ref w_scope, .ref w_coder, .ref w_machine, .ref w_compiler, .ref w_processor, .ref w_writer, .int 0, .int 0, .int 0, .int (-1), .int (-1), .int 0, .int 0, .int 0]))] s.heap.size = A at hD hT ⊢
  have hA : ∀ q : Nat, s.heap.size ≤ q → A q := fun q h => by rw [← hAe]; exact Or.inr h
  have hS : va_S A s.heap s.heap [] := va_S.rf
  have hP : va_P (dC, dI) vwCl [(h0, .inr (12, [.ref w_text, .ref w_memory, .ref w_counts, .ref w_lexer, .ref w_parser, .ref w_checker, .ref w_scope, .ref w_coder, .ref w_machine, .ref w_compiler, .ref w_processor, .ref w_writer, .int 0, .int 0, .int 0, .int (-1), .int (-1), .int 0, .int 0, .int 0]))] s.heap := hP
  have hl := lv_entry ([.ref h0, .int v_n]) (n := 2) (Nat.le_of_ble_eq_true rfl)
  rw [lg_entry_eq]
  generalize (lg_sl ([.ref h0, .int v_n]) ++ List.replicate (2 - (lg_sl ([.ref h0, .int v_n])).length) Slot.unset).toArray = ls at hl ⊢
  have hl : lv_has ls 2 [(0, .ref h0), (1, .int v_n)] := hl
  refine lv_iload_n hx hb dX12_byteAt_0 rfl (lv_at hl 1 rfl) ?_
  refine lv_if_lt (tgt := 12) hx hb dX12_byteAt_1 (by decide) (fun c_1 => ?_) (fun c_1 => ?_)
  · obtain ⟨sa9, hsa⟩ := hT.2.2.1 (RX12, 213, "no such byte of the output") (List.mem_of_getElem? (i := 10) rfl)
    exact vx_throwS (own := RX12) (cls := "java/lang/IndexOutOfBoundsException") (text := "no such byte of the output") (names := ["java/lang/RuntimeException", "java/lang/Exception"]) (ik := 166) (is := 213) (ic := 170) (sa := sa9) hx hb hst hown (by decide +kernel) (by decide +kernel) (hts _ (List.mem_cons_of_mem _ (List.mem_append_left _ (List.mem_of_getElem? (i := 0) rfl)))) (hts _ (List.mem_cons_of_mem _ (List.mem_append_left _ (List.mem_of_getElem? (i := 1) rfl)))) hsa (vx_hat (B := Cond.castable "java/lang/IndexOutOfBoundsException" "java/lang/IndexOutOfBoundsException" :: decL.map Cond.declares) (fun w hw => hts w ((fun _ h9 => List.mem_cons_of_mem _ (List.mem_append_right _ (List.mem_append_left _ h9))) w hw)) hbO (vx_c (va_Nw.use rfl (hT.2.2.2.1 _ (by decide))) (fun w hw => by obtain ⟨x, hx, rfl⟩ := List.mem_map.mp hw; exact va_Nw.use rfl (hT.2.2.2.2.2 x hx)))) (List.forall_mem_cons.mpr ⟨by decide +kernel, List.forall_mem_cons.mpr ⟨by decide +kernel, hgO⟩⟩) hT.1 hT.2.1 hS (hl.1.trans hml.symm) dX12_byteAt_12 dX12_byteAt_15 dX12_byteAt_16 dX12_byteAt_18 dX12_byteAt_21 (fun x hx => (htab x hx).elim) (Nat.lt_of_lt_of_le (Nat.lt_succ_self _) (Nat.le_of_ble_eq_true rfl)) (Nat.le_of_ble_eq_true rfl) (Nat.le_of_ble_eq_true rfl) (Nat.le_of_ble_eq_true rfl) hlocks (fun t ha h1 h2 => ⟨(), trivial, rfl, vF hS h1 h2⟩) hS.2.2 (Nat.le_of_ble_eq_true rfl) (Nat.le_of_ble_eq_true rfl)
  · refine lv_iload_n hx hb dX12_byteAt_4 rfl (lv_at hl 1 rfl) ?_
    refine lv_aload_n hx hb dX12_byteAt_5 rfl (lv_at hl 0 rfl) ?_
    refine va_get (D := (dC, dI)) (ci := 12) (v := .int 0) (C := RX12) (T := TX12) (N := 20) hx hb hts (fun _ h9 => List.mem_cons_of_mem _ (List.mem_append_right _ (List.mem_append_right _ h9))) hown hK hP 0 rfl rfl 17 (by decide) (hts _ (List.mem_cons_of_mem _ (List.mem_append_left _ (List.mem_of_getElem? (i := 2) rfl)))) (fun _ h9 => h9) rfl dX12_byteAt_6 ?_
    refine lv_icmp_lt (tgt := 22) hx hb dX12_byteAt_9 (by decide) (fun c_2 => absurd c_2 c_1) (fun c_2 => ?_)
    obtain ⟨sa9, hsa⟩ := hT.2.2.1 (RX12, 213, "no such byte of the output") (List.mem_of_getElem? (i := 10) rfl)
    exact vx_throwS (own := RX12) (cls := "java/lang/IndexOutOfBoundsException") (text := "no such byte of the output") (names := ["java/lang/RuntimeException", "java/lang/Exception"]) (ik := 166) (is := 213) (ic := 170) (sa := sa9) hx hb hst hown (by decide +kernel) (by decide +kernel) (hts _ (List.mem_cons_of_mem _ (List.mem_append_left _ (List.mem_of_getElem? (i := 0) rfl)))) (hts _ (List.mem_cons_of_mem _ (List.mem_append_left _ (List.mem_of_getElem? (i := 1) rfl)))) hsa (vx_hat (B := Cond.castable "java/lang/IndexOutOfBoundsException" "java/lang/IndexOutOfBoundsException" :: decL.map Cond.declares) (fun w hw => hts w ((fun _ h9 => List.mem_cons_of_mem _ (List.mem_append_right _ (List.mem_append_left _ h9))) w hw)) hbO (vx_c (va_Nw.use rfl (hT.2.2.2.1 _ (by decide))) (fun w hw => by obtain ⟨x, hx, rfl⟩ := List.mem_map.mp hw; exact va_Nw.use rfl (hT.2.2.2.2.2 x hx)))) (List.forall_mem_cons.mpr ⟨by decide +kernel, List.forall_mem_cons.mpr ⟨by decide +kernel, hgO⟩⟩) hT.1 hT.2.1 hS (hl.1.trans hml.symm) dX12_byteAt_12 dX12_byteAt_15 dX12_byteAt_16 dX12_byteAt_18 dX12_byteAt_21 (fun x hx => (htab x hx).elim) (Nat.lt_of_lt_of_le (Nat.lt_succ_self _) (Nat.le_of_ble_eq_true rfl)) (Nat.le_of_ble_eq_true rfl) (Nat.le_of_ble_eq_true rfl) (Nat.le_of_ble_eq_true rfl) hlocks (fun t ha h1 h2 => ⟨(), trivial, rfl, vF hS h1 h2⟩) hS.2.2 (Nat.le_of_ble_eq_true rfl) (Nat.le_of_ble_eq_true rfl)

theorem dX12_tell_0 : decode cX12_tell 0 = .ok (.iload_n 1, 1) := by decide +kernel
theorem dX12_tell_1 : decode cX12_tell 1 = .ok (.ifCond .eq 18, 3) := by decide +kernel
theorem dX12_tell_4 : decode cX12_tell 4 = .ok (.iload_n 1, 1) := by decide +kernel
theorem dX12_tell_5 : decode cX12_tell 5 = .ok (.iconst 1, 1) := by decide +kernel
theorem dX12_tell_6 : decode cX12_tell 6 = .ok (.if_icmp .eq 13, 3) := by decide +kernel
theorem dX12_tell_9 : decode cX12_tell 9 = .ok (.new 166, 3) := by decide +kernel
theorem dX12_tell_12 : decode cX12_tell 12 = .ok (.dup, 1) := by decide +kernel
theorem dX12_tell_13 : decode cX12_tell 13 = .ok (.ldc 215, 2) := by decide +kernel
theorem dX12_tell_15 : decode cX12_tell 15 = .ok (.invokespecial 170, 3) := by decide +kernel
theorem dX12_tell_18 : decode cX12_tell 18 = .ok (.athrow, 1) := by decide +kernel
def zlX12_tell : List Cond := [.classLink RX12 166 "java/lang/IndexOutOfBoundsException", .initialized "java/lang/IndexOutOfBoundsException"]
def zsX12_tell : List Cond := .code yX12_tell cX12_tell 2 (some .int) :: (zlX12_tell ++ (wtO))
set_option maxHeartbeats 8000000 in
set_option maxRecDepth 100000 in
theorem c_X12_tellA (l : Launch) (hst : l.stackTraces = false) (dC : Nat → ClassId) (dI : Nat → Nat → Nat) (sz : Nat) (h0 : Nat) (w_text : Nat) (w_memory : Nat) (w_counts : Nat) (w_lexer : Nat) (w_parser : Nat) (w_checker : Nat) (w_scope : Nat) (w_coder : Nat) (w_machine : Nat) (w_compiler : Nat) (w_processor : Nat) (w_writer : Nat) (v_n : Int32) (q0 : ¬ v_n = 0) (q1 : ¬ v_n = 1) : vx_Met l yX12_tell zsX12_tell ({ frames := 8, cells := 1, slots := 6, locals := 140 } : Room) (va_Pc [.ref h0, .int v_n] (wBT (dC, dI) vwCl nestM strL [] [(h0, .inr (12, [.ref w_text, .ref w_memory, .ref w_counts, .ref w_lexer, .ref w_parser, .ref w_checker, .ref w_scope, .ref w_coder, .ref w_machine, .ref w_compiler, .ref w_processor, .ref w_writer, .int 0, .int 0, .int 0, .int (-1), .int (-1), .int 0, .int 0, .int 0]))] sz)) (noQ (va_A [(h0, .inr (12, [.ref w_text, .ref w_memory, .ref w_counts, .ref w_lexer, .ref w_parser, .ref w_checker, .ref w_scope, .ref w_coder, .ref w_machine, .ref w_compiler, .ref w_processor, .ref w_writer, .int 0, .int 0, .int 0, .int (-1), .int (-1), .int 0, .int 0, .int 0]))] sz)) (isX "java/lang/IndexOutOfBoundsException" (va_A [(h0, .inr (12, [.ref w_text, .ref w_memory, .ref w_counts, .ref w_lexer, .ref w_parser, .ref w_checker, .ref w_scope, .ref w_coder, .ref w_machine, .ref w_compiler, .ref w_processor, .ref w_writer, .int 0, .int 0, .int 0, .int (-1), .int (-1), .int 0, .int 0, .int 0]))] sz)) 1 6 (va_A [(h0, .inr (12, [.ref w_text, .ref w_memory, .ref w_counts, .ref w_lexer, .ref w_parser, .ref w_checker, .ref w_scope, .ref w_coder, .ref w_machine, .ref w_compiler, .ref w_processor, .ref w_writer, .int 0, .int 0, .int 0, .int (-1), .int (-1), .int 0, .int 0, .int 0]))] sz) := by
  refine vx_ofW (cc := cX12_tell) (maxL := 2) (ret := (some .int)) (by decide) rfl ?_
  intro p e s m args below meth c s₁ B hml htab hv
  obtain ⟨rfl, ⟨hsz, hP, hK, hD0, hN⟩, hT⟩ := hv
  have hx := B.exec
  have hb := B.bytes
  have hr := B.returns
  have hts := atoms_spec (ws := zsX12_tell) B.pre
  have hown : s.vm.findClass RX12 = some m.cls := findClass_of_methodNamed B.named
  have hlocks := B.notSynchronized
  subst hsz
  have hD := hD0.self (sz := s.heap.size)
  generalize hAe : va_A [(h0, .inr (12, [.ref w_text, .ref w_memory, .ref w_counts, .ref w_lexer, .ref w_parser, .ref w_checker, .ref w_scope, .ref w_coder, .ref w_machine, .ref w_compiler, .ref w_processor, .ref w_writer, .int 0, .int 0, .int 0, .int (-1), .int (-1), .int 0, .int 0, .int 0]))] s.heap.size = A at hD hT ⊢
  have hA : ∀ q : Nat, s.heap.size ≤ q → A q := fun q h => by rw [← hAe]; exact Or.inr h
  have hS : va_S A s.heap s.heap [] := va_S.rf
  have hP : va_P (dC, dI) vwCl [(h0, .inr (12, [.ref w_text, .ref w_memory, .ref w_counts, .ref w_lexer, .ref w_parser, .ref w_checker, .ref w_scope, .ref w_coder, .ref w_machine, .ref w_compiler, .ref w_processor, .ref w_writer, .int 0, .int 0, .int 0, .int (-1), .int (-1), .int 0, .int 0, .int 0]))] s.heap := hP
  have hl := lv_entry ([.ref h0, .int v_n]) (n := 2) (Nat.le_of_ble_eq_true rfl)
  rw [lg_entry_eq]
  generalize (lg_sl ([.ref h0, .int v_n]) ++ List.replicate (2 - (lg_sl ([.ref h0, .int v_n])).length) Slot.unset).toArray = ls at hl ⊢
  have hl : lv_has ls 2 [(0, .ref h0), (1, .int v_n)] := hl
  refine lv_iload_n hx hb dX12_tell_0 rfl (lv_at hl 1 rfl) ?_
  refine lv_if_eq (tgt := 19) hx hb dX12_tell_1 (by decide) (fun c_1 => absurd c_1 q0) (fun c_1 => ?_)
  refine lv_iload_n hx hb dX12_tell_4 rfl (lv_at hl 1 rfl) ?_
  refine lv_iconst (v := 1) hx hb dX12_tell_5 (by decide) ?_
  refine lv_icmp_eq (tgt := 19) hx hb dX12_tell_6 (by decide) (fun c_2 => absurd c_2 q1) (fun c_2 => ?_)
  obtain ⟨sa9, hsa⟩ := hT.2.2.1 (RX12, 215, "no such result") (List.mem_of_getElem? (i := 11) rfl)
  exact vx_throwS (own := RX12) (cls := "java/lang/IndexOutOfBoundsException") (text := "no such result") (names := ["java/lang/RuntimeException", "java/lang/Exception"]) (ik := 166) (is := 215) (ic := 170) (sa := sa9) hx hb hst hown (by decide +kernel) (by decide +kernel) (hts _ (List.mem_cons_of_mem _ (List.mem_append_left _ (List.mem_of_getElem? (i := 0) rfl)))) (hts _ (List.mem_cons_of_mem _ (List.mem_append_left _ (List.mem_of_getElem? (i := 1) rfl)))) hsa (vx_hat (B := Cond.castable "java/lang/IndexOutOfBoundsException" "java/lang/IndexOutOfBoundsException" :: decL.map Cond.declares) (fun w hw => hts w ((fun _ h9 => List.mem_cons_of_mem _ (List.mem_append_right _ h9)) w hw)) hbO (vx_c (va_Nw.use rfl (hT.2.2.2.1 _ (by decide))) (fun w hw => by obtain ⟨x, hx, rfl⟩ := List.mem_map.mp hw; exact va_Nw.use rfl (hT.2.2.2.2.2 x hx)))) (List.forall_mem_cons.mpr ⟨by decide +kernel, List.forall_mem_cons.mpr ⟨by decide +kernel, hgO⟩⟩) hT.1 hT.2.1 hS (hl.1.trans hml.symm) dX12_tell_9 dX12_tell_12 dX12_tell_13 dX12_tell_15 dX12_tell_18 (fun x hx => (htab x hx).elim) (Nat.lt_of_lt_of_le (Nat.lt_succ_self _) (Nat.le_of_ble_eq_true rfl)) (Nat.le_of_ble_eq_true rfl) (Nat.le_of_ble_eq_true rfl) (Nat.le_of_ble_eq_true rfl) hlocks (fun t ha h1 h2 => ⟨(), trivial, rfl, vF hS h1 h2⟩) hS.2.2 (Nat.le_of_ble_eq_true rfl) (Nat.le_of_ble_eq_true rfl)

theorem dX12_tell_19 : decode cX12_tell 19 = .ok (.aload_n 0, 1) := by decide +kernel
theorem dX12_tell_20 : decode cX12_tell 20 = .ok (.getfield 133, 3) := by decide +kernel
theorem dX12_tell_23 : decode cX12_tell 23 = .ok (.ifCond .ne 13, 3) := by decide +kernel
theorem dX12_tell_26 : decode cX12_tell 26 = .ok (.new 113, 3) := by decide +kernel
theorem dX12_tell_29 : decode cX12_tell 29 = .ok (.dup, 1) := by decide +kernel
theorem dX12_tell_30 : decode cX12_tell 30 = .ok (.ldc 186, 2) := by decide +kernel
theorem dX12_tell_32 : decode cX12_tell 32 = .ok (.invokespecial 117, 3) := by decide +kernel
theorem dX12_tell_35 : decode cX12_tell 35 = .ok (.athrow, 1) := by decide +kernel
def zlX12_tell_v2 : List Cond := [.fieldLink RX12 133 "LeanHouse" "isProgram" "Z", .classLink RX12 113 "java/lang/IllegalStateException", .initialized "java/lang/IllegalStateException"]
def zsX12_tell_v2 : List Cond := .code yX12_tell cX12_tell 2 (some .int) :: (zlX12_tell_v2 ++ (wsX120 ++ (wtS)))
set_option maxHeartbeats 8000000 in
set_option maxRecDepth 100000 in
theorem c_X12_tellB (l : Launch) (hst : l.stackTraces = false) (dC : Nat → ClassId) (dI : Nat → Nat → Nat) (sz : Nat) (h0 : Nat) (w_text : Nat) (w_memory : Nat) (w_counts : Nat) (w_lexer : Nat) (w_parser : Nat) (w_checker : Nat) (w_scope : Nat) (w_coder : Nat) (w_machine : Nat) (w_compiler : Nat) (w_processor : Nat) (w_writer : Nat) (v_n : Int32) (hbad : v_n = 0 ∨ v_n = 1) : vx_Met l yX12_tell zsX12_tell_v2 ({ frames := 8, cells := 1, slots := 6, locals := 140 } : Room) (va_Pc [.ref h0, .int v_n] (wBT (dC, dI) vwCl nestM strL [] [(h0, .inr (12, [.ref w_text, .ref w_memory, .ref w_counts, .ref w_lexer, .ref w_parser, .ref w_checker, .ref w_scope, .ref w_coder, .ref w_machine, .ref w_compiler, .ref w_processor, .ref w_writer, .int 0, .int 0, .int 0, .int (-1), .int (-1), .int 0, .int 0, .int 0]))] sz)) (noQ (va_A [(h0, .inr (12, [.ref w_text, .ref w_memory, .ref w_counts, .ref w_lexer, .ref w_parser, .ref w_checker, .ref w_scope, .ref w_coder, .ref w_machine, .ref w_compiler, .ref w_processor, .ref w_writer, .int 0, .int 0, .int 0, .int (-1), .int (-1), .int 0, .int 0, .int 0]))] sz)) (isX "java/lang/IllegalStateException" (va_A [(h0, .inr (12, [.ref w_text, .ref w_memory, .ref w_counts, .ref w_lexer, .ref w_parser, .ref w_checker, .ref w_scope, .ref w_coder, .ref w_machine, .ref w_compiler, .ref w_processor, .ref w_writer, .int 0, .int 0, .int 0, .int (-1), .int (-1), .int 0, .int 0, .int 0]))] sz)) 1 6 (va_A [(h0, .inr (12, [.ref w_text, .ref w_memory, .ref w_counts, .ref w_lexer, .ref w_parser, .ref w_checker, .ref w_scope, .ref w_coder, .ref w_machine, .ref w_compiler, .ref w_processor, .ref w_writer, .int 0, .int 0, .int 0, .int (-1), .int (-1), .int 0, .int 0, .int 0]))] sz) := by
  refine vx_ofW (cc := cX12_tell) (maxL := 2) (ret := (some .int)) (by decide) rfl ?_
  intro p e s m args below meth c s₁ B hml htab hv
  obtain ⟨rfl, ⟨hsz, hP, hK, hD0, hN⟩, hT⟩ := hv
  have hx := B.exec
  have hb := B.bytes
  have hr := B.returns
  have hts := atoms_spec (ws := zsX12_tell_v2) B.pre
  have hown : s.vm.findClass RX12 = some m.cls := findClass_of_methodNamed B.named
  have hlocks := B.notSynchronized
  subst hsz
  have hD := hD0.self (sz := s.heap.size)
  generalize hAe : va_A [(h0, .inr (12, [.ref w_text, .ref w_memory, .ref w_counts, .ref w_lexer, .ref w_parser, .ref w_checker, .ref w_scope, .ref w_coder, .ref w_machine, .ref w_compiler, .ref w_processor, .ref w_writer, .int 0, .int 0, .int 0, .int (-1), .int (-1), .int 0, .int 0, .int 0]))] s.heap.size = A at hD hT ⊢
  have hA : ∀ q : Nat, s.heap.size ≤ q → A q := fun q h => by rw [← hAe]; exact Or.inr h
  have hS : va_S A s.heap s.heap [] := va_S.rf
  have hP : va_P (dC, dI) vwCl [(h0, .inr (12, [.ref w_text, .ref w_memory, .ref w_counts, .ref w_lexer, .ref w_parser, .ref w_checker, .ref w_scope, .ref w_coder, .ref w_machine, .ref w_compiler, .ref w_processor, .ref w_writer, .int 0, .int 0, .int 0, .int (-1), .int (-1), .int 0, .int 0, .int 0]))] s.heap := hP
  have hl := lv_entry ([.ref h0, .int v_n]) (n := 2) (Nat.le_of_ble_eq_true rfl)
  rw [lg_entry_eq]
  generalize (lg_sl ([.ref h0, .int v_n]) ++ List.replicate (2 - (lg_sl ([.ref h0, .int v_n])).length) Slot.unset).toArray = ls at hl ⊢
  have hl : lv_has ls 2 [(0, .ref h0), (1, .int v_n)] := hl
  refine lv_iload_n hx hb dX12_tell_0 rfl (lv_at hl 1 rfl) ?_
  refine lv_if_eq (tgt := 19) hx hb dX12_tell_1 (by decide) (fun c_1 => ?_) (fun c_1 => ?_)
  · refine lv_aload_n hx hb dX12_tell_19 rfl (lv_at hl 0 rfl) ?_
    refine va_get (D := (dC, dI)) (ci := 12) (v := .int 0) (C := RX12) (T := TX12) (N := 20) hx hb hts (fun _ h9 => List.mem_cons_of_mem _ (List.mem_append_right _ (List.mem_append_left _ h9))) hown hK hP 0 rfl rfl 19 (by decide) (hts _ (List.mem_cons_of_mem _ (List.mem_append_left _ (List.mem_of_getElem? (i := 0) rfl)))) (fun _ h9 => h9) rfl dX12_tell_20 ?_
    refine lv_if_ne (tgt := 36) hx hb dX12_tell_23 (by decide) (fun c_2 => absurd (by decide) c_2) (fun c_2 => ?_)
    obtain ⟨sa9, hsa⟩ := hT.2.2.1 (RX12, 186, "there is no program") (List.mem_of_getElem? (i := 7) rfl)
    exact vx_throwS (own := RX12) (cls := "java/lang/IllegalStateException") (text := "there is no program") (names := ["java/lang/RuntimeException", "java/lang/Exception"]) (ik := 113) (is := 186) (ic := 117) (sa := sa9) hx hb hst hown (by decide +kernel) (by decide +kernel) (hts _ (List.mem_cons_of_mem _ (List.mem_append_left _ (List.mem_of_getElem? (i := 1) rfl)))) (hts _ (List.mem_cons_of_mem _ (List.mem_append_left _ (List.mem_of_getElem? (i := 2) rfl)))) hsa (vx_hat (B := Cond.castable "java/lang/IllegalStateException" "java/lang/IllegalStateException" :: decL.map Cond.declares) (fun w hw => hts w ((fun _ h9 => List.mem_cons_of_mem _ (List.mem_append_right _ (List.mem_append_right _ h9))) w hw)) hbS (vx_c (va_Nw.use rfl (hT.2.2.2.1 _ (by decide))) (fun w hw => by obtain ⟨x, hx, rfl⟩ := List.mem_map.mp hw; exact va_Nw.use rfl (hT.2.2.2.2.2 x hx)))) (List.forall_mem_cons.mpr ⟨by decide +kernel, List.forall_mem_cons.mpr ⟨by decide +kernel, hgS⟩⟩) hT.1 hT.2.1 hS (hl.1.trans hml.symm) dX12_tell_26 dX12_tell_29 dX12_tell_30 dX12_tell_32 dX12_tell_35 (fun x hx => (htab x hx).elim) (Nat.lt_of_lt_of_le (Nat.lt_succ_self _) (Nat.le_of_ble_eq_true rfl)) (Nat.le_of_ble_eq_true rfl) (Nat.le_of_ble_eq_true rfl) (Nat.le_of_ble_eq_true rfl) hlocks (fun t ha h1 h2 => ⟨(), trivial, rfl, vF hS h1 h2⟩) hS.2.2 (Nat.le_of_ble_eq_true rfl) (Nat.le_of_ble_eq_true rfl)
  · refine lv_iload_n hx hb dX12_tell_4 rfl (lv_at hl 1 rfl) ?_
    refine lv_iconst (v := 1) hx hb dX12_tell_5 (by decide) ?_
    refine lv_icmp_eq (tgt := 19) hx hb dX12_tell_6 (by decide) (fun c_3 => ?_) (fun c_3 => absurd (hbad.elim (fun z => absurd z c_1) id) c_3)
    refine lv_aload_n hx hb dX12_tell_19 rfl (lv_at hl 0 rfl) ?_
    refine va_get (D := (dC, dI)) (ci := 12) (v := .int 0) (C := RX12) (T := TX12) (N := 20) hx hb hts (fun _ h9 => List.mem_cons_of_mem _ (List.mem_append_right _ (List.mem_append_left _ h9))) hown hK hP 0 rfl rfl 19 (by decide) (hts _ (List.mem_cons_of_mem _ (List.mem_append_left _ (List.mem_of_getElem? (i := 0) rfl)))) (fun _ h9 => h9) rfl dX12_tell_20 ?_
    refine lv_if_ne (tgt := 36) hx hb dX12_tell_23 (by decide) (fun c_4 => absurd (by decide) c_4) (fun c_4 => ?_)
    obtain ⟨sa9, hsa⟩ := hT.2.2.1 (RX12, 186, "there is no program") (List.mem_of_getElem? (i := 7) rfl)
    exact vx_throwS (own := RX12) (cls := "java/lang/IllegalStateException") (text := "there is no program") (names := ["java/lang/RuntimeException", "java/lang/Exception"]) (ik := 113) (is := 186) (ic := 117) (sa := sa9) hx hb hst hown (by decide +kernel) (by decide +kernel) (hts _ (List.mem_cons_of_mem _ (List.mem_append_left _ (List.mem_of_getElem? (i := 1) rfl)))) (hts _ (List.mem_cons_of_mem _ (List.mem_append_left _ (List.mem_of_getElem? (i := 2) rfl)))) hsa (vx_hat (B := Cond.castable "java/lang/IllegalStateException" "java/lang/IllegalStateException" :: decL.map Cond.declares) (fun w hw => hts w ((fun _ h9 => List.mem_cons_of_mem _ (List.mem_append_right _ (List.mem_append_right _ h9))) w hw)) hbS (vx_c (va_Nw.use rfl (hT.2.2.2.1 _ (by decide))) (fun w hw => by obtain ⟨x, hx, rfl⟩ := List.mem_map.mp hw; exact va_Nw.use rfl (hT.2.2.2.2.2 x hx)))) (List.forall_mem_cons.mpr ⟨by decide +kernel, List.forall_mem_cons.mpr ⟨by decide +kernel, hgS⟩⟩) hT.1 hT.2.1 hS (hl.1.trans hml.symm) dX12_tell_26 dX12_tell_29 dX12_tell_30 dX12_tell_32 dX12_tell_35 (fun x hx => (htab x hx).elim) (Nat.lt_of_lt_of_le (Nat.lt_succ_self _) (Nat.le_of_ble_eq_true rfl)) (Nat.le_of_ble_eq_true rfl) (Nat.le_of_ble_eq_true rfl) (Nat.le_of_ble_eq_true rfl) hlocks (fun t ha h1 h2 => ⟨(), trivial, rfl, vF hS h1 h2⟩) hS.2.2 (Nat.le_of_ble_eq_true rfl) (Nat.le_of_ble_eq_true rfl)

theorem dX12_resultAt_0 : decode cX12_resultAt 0 = .ok (.iload_n 1, 1) := by decide +kernel
theorem dX12_resultAt_1 : decode cX12_resultAt 1 = .ok (.ifCond .lt 14, 3) := by decide +kernel
theorem dX12_resultAt_4 : decode cX12_resultAt 4 = .ok (.iload_n 1, 1) := by decide +kernel
theorem dX12_resultAt_5 : decode cX12_resultAt 5 = .ok (.aload_n 0, 1) := by decide +kernel
theorem dX12_resultAt_6 : decode cX12_resultAt 6 = .ok (.getfield 99, 3) := by decide +kernel
theorem dX12_resultAt_9 : decode cX12_resultAt 9 = .ok (.getfield 229, 3) := by decide +kernel
theorem dX12_resultAt_12 : decode cX12_resultAt 12 = .ok (.if_icmp .lt 13, 3) := by decide +kernel
theorem dX12_resultAt_15 : decode cX12_resultAt 15 = .ok (.new 166, 3) := by decide +kernel
theorem dX12_resultAt_18 : decode cX12_resultAt 18 = .ok (.dup, 1) := by decide +kernel
theorem dX12_resultAt_19 : decode cX12_resultAt 19 = .ok (.ldc 232, 2) := by decide +kernel
theorem dX12_resultAt_21 : decode cX12_resultAt 21 = .ok (.invokespecial 170, 3) := by decide +kernel
theorem dX12_resultAt_24 : decode cX12_resultAt 24 = .ok (.athrow, 1) := by decide +kernel
def zlX12_resultAt : List Cond := [.classLink RX12 166 "java/lang/IndexOutOfBoundsException", .initialized "java/lang/IndexOutOfBoundsException", .fieldLink RX12 99 "LeanHouse" "writer" "LLeanHouse$Writer;", .fieldLink RX12 229 "LeanHouse$Writer" "size" "I"]
def zsX12_resultAt : List Cond := .code yX12_resultAt cX12_resultAt 2 (some .int) :: (zlX12_resultAt ++ (wtO ++ (wsX120 ++ (wsX110))))
set_option maxHeartbeats 8000000 in
set_option maxRecDepth 100000 in
theorem c_X12_resultAt (l : Launch) (hst : l.stackTraces = false) (dC : Nat → ClassId) (dI : Nat → Nat → Nat) (sz : Nat) (h0 : Nat) (w_text : Nat) (w_memory : Nat) (w_counts : Nat) (w_lexer : Nat) (w_parser : Nat) (w_checker : Nat) (w_scope : Nat) (w_coder : Nat) (w_machine : Nat) (w_compiler : Nat) (w_processor : Nat) (w_writer : Nat) (y_types : Nat) (y_scope : Nat) (y_lexer : Nat) (y_memory : Nat) (y_bytes : Nat) (y_variables : Nat) (v_n : Int32) : vx_Met l yX12_resultAt zsX12_resultAt ({ frames := 8, cells := 1, slots := 6, locals := 140 } : Room) (va_Pc [.ref h0, .int v_n] (wBT (dC, dI) vwCl nestM strL [] [(h0, .inr (12, [.ref w_text, .ref w_memory, .ref w_counts, .ref w_lexer, .ref w_parser, .ref w_checker, .ref w_scope, .ref w_coder, .ref w_machine, .ref w_compiler, .ref w_processor, .ref w_writer, .int 0, .int 0, .int 0, .int (-1), .int (-1), .int 0, .int 0, .int 0])), (w_writer, .inr (11, [.ref y_types, .ref y_scope, .ref y_lexer, .ref y_memory, .ref y_bytes, .ref y_variables, .int 0, .int 0, .int 0, .int 0, .int 0]))] sz)) (noQ (va_A [(h0, .inr (12, [.ref w_text, .ref w_memory, .ref w_counts, .ref w_lexer, .ref w_parser, .ref w_checker, .ref w_scope, .ref w_coder, .ref w_machine, .ref w_compiler, .ref w_processor, .ref w_writer, .int 0, .int 0, .int 0, .int (-1), .int (-1), .int 0, .int 0, .int 0])), (w_writer, .inr (11, [.ref y_types, .ref y_scope, .ref y_lexer, .ref y_memory, .ref y_bytes, .ref y_variables, .int 0, .int 0, .int 0, .int 0, .int 0]))] sz)) (isX "java/lang/IndexOutOfBoundsException" (va_A [(h0, .inr (12, [.ref w_text, .ref w_memory, .ref w_counts, .ref w_lexer, .ref w_parser, .ref w_checker, .ref w_scope, .ref w_coder, .ref w_machine, .ref w_compiler, .ref w_processor, .ref w_writer, .int 0, .int 0, .int 0, .int (-1), .int (-1), .int 0, .int 0, .int 0])), (w_writer, .inr (11, [.ref y_types, .ref y_scope, .ref y_lexer, .ref y_memory, .ref y_bytes, .ref y_variables, .int 0, .int 0, .int 0, .int 0, .int 0]))] sz)) 1 6 (va_A [(h0, .inr (12, [.ref w_text, .ref w_memory, .ref w_counts, .ref w_lexer, .ref w_parser, .ref w_checker, .ref w_scope, .ref w_coder, .ref w_machine, .ref w_compiler, .ref w_processor, .ref w_writer, .int 0, .int 0, .int 0, .int (-1), .int (-1), .int 0, .int 0, .int 0])), (w_writer, .inr (11, [.ref y_types, .ref y_scope, .ref y_lexer, .ref y_memory, .ref y_bytes, .ref y_variables, .int 0, .int 0, .int 0, .int 0, .int 0]))] sz) := by
  refine vx_ofW (cc := cX12_resultAt) (maxL := 2) (ret := (some .int)) (by decide) rfl ?_
  intro p e s m args below meth c s₁ B hml htab hv
  obtain ⟨rfl, ⟨hsz, hP, hK, hD0, hN⟩, hT⟩ := hv
  have hx := B.exec
  have hb := B.bytes
  have hr := B.returns
  have hts := atoms_spec (ws := zsX12_resultAt) B.pre
  have hown : s.vm.findClass RX12 = some m.cls := findClass_of_methodNamed B.named
  have hlocks := B.notSynchronized
  subst hsz
  have hD := hD0.self (sz := s.heap.size)
  generalize hAe : va_A [(h0, .inr (12, [.ref w_text, .ref w_memory, .ref w_counts, .ref w_lexer, .ref w_parser, .ref w_checker, .ref w_scope, .ref w_coder, .ref w_machine, .ref w_compiler, .ref w_processor, .ref w_writer, .int 0, .int 0, .int 0, .int (-1), .int (-1), .int 0, .int 0, .int 0])), (w_writer, .inr (11, [.ref y_types, .ref y_scope, .ref y_lexer, .ref y_memory, .ref y_bytes, .ref y_variables, .int 0, .int 0, .int 0, .int 0, .int 0]))] s.heap.size = A at hD hT ⊢
  have hA : ∀ q : Nat, s.heap.size ≤ q → A q := fun q h => by rw [← hAe]; exact Or.inr h
  have hS : va_S A s.heap s.heap [] := va_S.rf
  have hP : va_P (dC, dI) vwCl [(h0, .inr (12, [.ref w_text, .ref w_memory, .ref w_counts, .ref w_lexer, .ref w_parser, .ref w_checker, .ref w_scope, .ref w_coder, .ref w_machine, .ref w_compiler, .ref w_processor, .ref w_writer, .int 0, .int 0, .int 0, .int (-1), .int (-1), .int 0, .int 0, .int 0])), (w_writer, .inr (11, [.ref y_types, .ref y_scope, .ref y_lexer, .ref y_memory, .ref y_bytes, .ref y_variables, .int 0, .int 0, .int 0, .int 0, .int 0]))] s.heap := hP
  have hl := lv_entry ([.ref h0, .int v_n]) (n := 2) (Nat.le_of_ble_eq_true rfl)
  rw [lg_entry_eq]
  generalize (lg_sl ([.ref h0, .int v_n]) ++ List.replicate (2 - (lg_sl ([.ref h0, .int v_n])).length) Slot.unset).toArray = ls at hl ⊢
  have hl : lv_has ls 2 [(0, .ref h0), (1, .int v_n)] := hl
  refine lv_iload_n hx hb dX12_resultAt_0 rfl (lv_at hl 1 rfl) ?_
  refine lv_if_lt (tgt := 15) hx hb dX12_resultAt_1 (by decide) (fun c_1 => ?_) (fun c_1 => ?_)
  · obtain ⟨sa9, hsa⟩ := hT.2.2.1 (RX12, 232, "no such byte of the result") (List.mem_of_getElem? (i := 13) rfl)
    exact vx_throwS (own := RX12) (cls := "java/lang/IndexOutOfBoundsException") (text := "no such byte of the result") (names := ["java/lang/RuntimeException", "java/lang/Exception"]) (ik := 166) (is := 232) (ic := 170) (sa := sa9) hx hb hst hown (by decide +kernel) (by decide +kernel) (hts _ (List.mem_cons_of_mem _ (List.mem_append_left _ (List.mem_of_getElem? (i := 0) rfl)))) (hts _ (List.mem_cons_of_mem _ (List.mem_append_left _ (List.mem_of_getElem? (i := 1) rfl)))) hsa (vx_hat (B := Cond.castable "java/lang/IndexOutOfBoundsException" "java/lang/IndexOutOfBoundsException" :: decL.map Cond.declares) (fun w hw => hts w ((fun _ h9 => List.mem_cons_of_mem _ (List.mem_append_right _ (List.mem_append_left _ h9))) w hw)) hbO (vx_c (va_Nw.use rfl (hT.2.2.2.1 _ (by decide))) (fun w hw => by obtain ⟨x, hx, rfl⟩ := List.mem_map.mp hw; exact va_Nw.use rfl (hT.2.2.2.2.2 x hx)))) (List.forall_mem_cons.mpr ⟨by decide +kernel, List.forall_mem_cons.mpr ⟨by decide +kernel, hgO⟩⟩) hT.1 hT.2.1 hS (hl.1.trans hml.symm) dX12_resultAt_15 dX12_resultAt_18 dX12_resultAt_19 dX12_resultAt_21 dX12_resultAt_24 (fun x hx => (htab x hx).elim) (Nat.lt_of_lt_of_le (Nat.lt_succ_self _) (Nat.le_of_ble_eq_true rfl)) (Nat.le_of_ble_eq_true rfl) (Nat.le_of_ble_eq_true rfl) (Nat.le_of_ble_eq_true rfl) hlocks (fun t ha h1 h2 => ⟨(), trivial, rfl, vF hS h1 h2⟩) hS.2.2 (Nat.le_of_ble_eq_true rfl) (Nat.le_of_ble_eq_true rfl)
  · refine lv_iload_n hx hb dX12_resultAt_4 rfl (lv_at hl 1 rfl) ?_
    refine lv_aload_n hx hb dX12_resultAt_5 rfl (lv_at hl 0 rfl) ?_
    refine va_get (D := (dC, dI)) (ci := 12) (v := .ref w_writer) (C := RX12) (T := TX12) (N := 20) hx hb hts (fun _ h9 => List.mem_cons_of_mem _ (List.mem_append_right _ (List.mem_append_right _ (List.mem_append_left _ h9)))) hown hK hP 0 rfl rfl 11 (by decide) (hts _ (List.mem_cons_of_mem _ (List.mem_append_left _ (List.mem_of_getElem? (i := 2) rfl)))) (fun _ h9 => h9) rfl dX12_resultAt_6 ?_
    refine va_get (D := (dC, dI)) (ci := 11) (v := .int 0) (C := RX11) (T := TX11) (N := 11) hx hb hts (fun _ h9 => List.mem_cons_of_mem _ (List.mem_append_right _ (List.mem_append_right _ (List.mem_append_right _ h9)))) hown hK hP 1 rfl rfl 10 (by decide) (hts _ (List.mem_cons_of_mem _ (List.mem_append_left _ (List.mem_of_getElem? (i := 3) rfl)))) (fun _ h9 => h9) rfl dX12_resultAt_9 ?_
    refine lv_icmp_lt (tgt := 25) hx hb dX12_resultAt_12 (by decide) (fun c_2 => absurd c_2 c_1) (fun c_2 => ?_)
    obtain ⟨sa9, hsa⟩ := hT.2.2.1 (RX12, 232, "no such byte of the result") (List.mem_of_getElem? (i := 13) rfl)
    exact vx_throwS (own := RX12) (cls := "java/lang/IndexOutOfBoundsException") (text := "no such byte of the result") (names := ["java/lang/RuntimeException", "java/lang/Exception"]) (ik := 166) (is := 232) (ic := 170) (sa := sa9) hx hb hst hown (by decide +kernel) (by decide +kernel) (hts _ (List.mem_cons_of_mem _ (List.mem_append_left _ (List.mem_of_getElem? (i := 0) rfl)))) (hts _ (List.mem_cons_of_mem _ (List.mem_append_left _ (List.mem_of_getElem? (i := 1) rfl)))) hsa (vx_hat (B := Cond.castable "java/lang/IndexOutOfBoundsException" "java/lang/IndexOutOfBoundsException" :: decL.map Cond.declares) (fun w hw => hts w ((fun _ h9 => List.mem_cons_of_mem _ (List.mem_append_right _ (List.mem_append_left _ h9))) w hw)) hbO (vx_c (va_Nw.use rfl (hT.2.2.2.1 _ (by decide))) (fun w hw => by obtain ⟨x, hx, rfl⟩ := List.mem_map.mp hw; exact va_Nw.use rfl (hT.2.2.2.2.2 x hx)))) (List.forall_mem_cons.mpr ⟨by decide +kernel, List.forall_mem_cons.mpr ⟨by decide +kernel, hgO⟩⟩) hT.1 hT.2.1 hS (hl.1.trans hml.symm) dX12_resultAt_15 dX12_resultAt_18 dX12_resultAt_19 dX12_resultAt_21 dX12_resultAt_24 (fun x hx => (htab x hx).elim) (Nat.lt_of_lt_of_le (Nat.lt_succ_self _) (Nat.le_of_ble_eq_true rfl)) (Nat.le_of_ble_eq_true rfl) (Nat.le_of_ble_eq_true rfl) (Nat.le_of_ble_eq_true rfl) hlocks (fun t ha h1 h2 => ⟨(), trivial, rfl, vF hS h1 h2⟩) hS.2.2 (Nat.le_of_ble_eq_true rfl) (Nat.le_of_ble_eq_true rfl)

theorem dX12_count_0 : decode cX12_count 0 = .ok (.iload_n 1, 1) := by decide +kernel
theorem dX12_count_1 : decode cX12_count 1 = .ok (.ifCond .lt 8, 3) := by decide +kernel
theorem dX12_count_4 : decode cX12_count 4 = .ok (.iload_n 1, 1) := by decide +kernel
theorem dX12_count_5 : decode cX12_count 5 = .ok (.iconst 2, 1) := by decide +kernel
theorem dX12_count_6 : decode cX12_count 6 = .ok (.if_icmp .le 13, 3) := by decide +kernel
theorem dX12_count_9 : decode cX12_count 9 = .ok (.new 166, 3) := by decide +kernel
theorem dX12_count_12 : decode cX12_count 12 = .ok (.dup, 1) := by decide +kernel
theorem dX12_count_13 : decode cX12_count 13 = .ok (.ldc 237, 2) := by decide +kernel
theorem dX12_count_15 : decode cX12_count 15 = .ok (.invokespecial 170, 3) := by decide +kernel
theorem dX12_count_18 : decode cX12_count 18 = .ok (.athrow, 1) := by decide +kernel
def zlX12_count : List Cond := [.classLink RX12 166 "java/lang/IndexOutOfBoundsException", .initialized "java/lang/IndexOutOfBoundsException"]
def zsX12_count : List Cond := .code yX12_count cX12_count 2 (some .int) :: (zlX12_count ++ (wtO))
set_option maxHeartbeats 8000000 in
set_option maxRecDepth 100000 in
theorem c_X12_countA (l : Launch) (hst : l.stackTraces = false) (dC : Nat → ClassId) (dI : Nat → Nat → Nat) (sz : Nat) (h0 : Nat) (w_text : Nat) (w_memory : Nat) (w_counts : Nat) (w_lexer : Nat) (w_parser : Nat) (w_checker : Nat) (w_scope : Nat) (w_coder : Nat) (w_machine : Nat) (w_compiler : Nat) (w_processor : Nat) (w_writer : Nat) (v_n : Int32) (hbad : v_n < 0 ∨ ¬ v_n ≤ 2) : vx_Met l yX12_count zsX12_count ({ frames := 8, cells := 1, slots := 6, locals := 140 } : Room) (va_Pc [.ref h0, .int v_n] (wBT (dC, dI) vwCl nestM strL [] [(h0, .inr (12, [.ref w_text, .ref w_memory, .ref w_counts, .ref w_lexer, .ref w_parser, .ref w_checker, .ref w_scope, .ref w_coder, .ref w_machine, .ref w_compiler, .ref w_processor, .ref w_writer, .int 0, .int 0, .int 0, .int (-1), .int (-1), .int 0, .int 0, .int 0]))] sz)) (noQ (va_A [(h0, .inr (12, [.ref w_text, .ref w_memory, .ref w_counts, .ref w_lexer, .ref w_parser, .ref w_checker, .ref w_scope, .ref w_coder, .ref w_machine, .ref w_compiler, .ref w_processor, .ref w_writer, .int 0, .int 0, .int 0, .int (-1), .int (-1), .int 0, .int 0, .int 0]))] sz)) (isX "java/lang/IndexOutOfBoundsException" (va_A [(h0, .inr (12, [.ref w_text, .ref w_memory, .ref w_counts, .ref w_lexer, .ref w_parser, .ref w_checker, .ref w_scope, .ref w_coder, .ref w_machine, .ref w_compiler, .ref w_processor, .ref w_writer, .int 0, .int 0, .int 0, .int (-1), .int (-1), .int 0, .int 0, .int 0]))] sz)) 1 6 (va_A [(h0, .inr (12, [.ref w_text, .ref w_memory, .ref w_counts, .ref w_lexer, .ref w_parser, .ref w_checker, .ref w_scope, .ref w_coder, .ref w_machine, .ref w_compiler, .ref w_processor, .ref w_writer, .int 0, .int 0, .int 0, .int (-1), .int (-1), .int 0, .int 0, .int 0]))] sz) := by
  refine vx_ofW (cc := cX12_count) (maxL := 2) (ret := (some .int)) (by decide) rfl ?_
  intro p e s m args below meth c s₁ B hml htab hv
  obtain ⟨rfl, ⟨hsz, hP, hK, hD0, hN⟩, hT⟩ := hv
  have hx := B.exec
  have hb := B.bytes
  have hr := B.returns
  have hts := atoms_spec (ws := zsX12_count) B.pre
  have hown : s.vm.findClass RX12 = some m.cls := findClass_of_methodNamed B.named
  have hlocks := B.notSynchronized
  subst hsz
  have hD := hD0.self (sz := s.heap.size)
  generalize hAe : va_A [(h0, .inr (12, [.ref w_text, .ref w_memory, .ref w_counts, .ref w_lexer, .ref w_parser, .ref w_checker, .ref w_scope, .ref w_coder, .ref w_machine, .ref w_compiler, .ref w_processor, .ref w_writer, .int 0, .int 0, .int 0, .int (-1), .int (-1), .int 0, .int 0, .int 0]))] s.heap.size = A at hD hT ⊢
  have hA : ∀ q : Nat, s.heap.size ≤ q → A q := fun q h => by rw [← hAe]; exact Or.inr h
  have hS : va_S A s.heap s.heap [] := va_S.rf
  have hP : va_P (dC, dI) vwCl [(h0, .inr (12, [.ref w_text, .ref w_memory, .ref w_counts, .ref w_lexer, .ref w_parser, .ref w_checker, .ref w_scope, .ref w_coder, .ref w_machine, .ref w_compiler, .ref w_processor, .ref w_writer, .int 0, .int 0, .int 0, .int (-1), .int (-1), .int 0, .int 0, .int 0]))] s.heap := hP
  have hl := lv_entry ([.ref h0, .int v_n]) (n := 2) (Nat.le_of_ble_eq_true rfl)
  rw [lg_entry_eq]
  generalize (lg_sl ([.ref h0, .int v_n]) ++ List.replicate (2 - (lg_sl ([.ref h0, .int v_n])).length) Slot.unset).toArray = ls at hl ⊢
  have hl : lv_has ls 2 [(0, .ref h0), (1, .int v_n)] := hl
  refine lv_iload_n hx hb dX12_count_0 rfl (lv_at hl 1 rfl) ?_
  refine lv_if_lt (tgt := 9) hx hb dX12_count_1 (by decide) (fun c_1 => ?_) (fun c_1 => ?_)
  · obtain ⟨sa9, hsa⟩ := hT.2.2.1 (RX12, 237, "no such number") (List.mem_of_getElem? (i := 14) rfl)
    exact vx_throwS (own := RX12) (cls := "java/lang/IndexOutOfBoundsException") (text := "no such number") (names := ["java/lang/RuntimeException", "java/lang/Exception"]) (ik := 166) (is := 237) (ic := 170) (sa := sa9) hx hb hst hown (by decide +kernel) (by decide +kernel) (hts _ (List.mem_cons_of_mem _ (List.mem_append_left _ (List.mem_of_getElem? (i := 0) rfl)))) (hts _ (List.mem_cons_of_mem _ (List.mem_append_left _ (List.mem_of_getElem? (i := 1) rfl)))) hsa (vx_hat (B := Cond.castable "java/lang/IndexOutOfBoundsException" "java/lang/IndexOutOfBoundsException" :: decL.map Cond.declares) (fun w hw => hts w ((fun _ h9 => List.mem_cons_of_mem _ (List.mem_append_right _ h9)) w hw)) hbO (vx_c (va_Nw.use rfl (hT.2.2.2.1 _ (by decide))) (fun w hw => by obtain ⟨x, hx, rfl⟩ := List.mem_map.mp hw; exact va_Nw.use rfl (hT.2.2.2.2.2 x hx)))) (List.forall_mem_cons.mpr ⟨by decide +kernel, List.forall_mem_cons.mpr ⟨by decide +kernel, hgO⟩⟩) hT.1 hT.2.1 hS (hl.1.trans hml.symm) dX12_count_9 dX12_count_12 dX12_count_13 dX12_count_15 dX12_count_18 (fun x hx => (htab x hx).elim) (Nat.lt_of_lt_of_le (Nat.lt_succ_self _) (Nat.le_of_ble_eq_true rfl)) (Nat.le_of_ble_eq_true rfl) (Nat.le_of_ble_eq_true rfl) (Nat.le_of_ble_eq_true rfl) hlocks (fun t ha h1 h2 => ⟨(), trivial, rfl, vF hS h1 h2⟩) hS.2.2 (Nat.le_of_ble_eq_true rfl) (Nat.le_of_ble_eq_true rfl)
  · refine lv_iload_n hx hb dX12_count_4 rfl (lv_at hl 1 rfl) ?_
    refine lv_iconst (v := 2) hx hb dX12_count_5 (by decide) ?_
    refine lv_icmp_le (tgt := 19) hx hb dX12_count_6 (by decide) (fun c_2 => absurd c_2 (fun q => hbad.elim c_1 (fun z => z q))) (fun c_2 => ?_)
    obtain ⟨sa9, hsa⟩ := hT.2.2.1 (RX12, 237, "no such number") (List.mem_of_getElem? (i := 14) rfl)
    exact vx_throwS (own := RX12) (cls := "java/lang/IndexOutOfBoundsException") (text := "no such number") (names := ["java/lang/RuntimeException", "java/lang/Exception"]) (ik := 166) (is := 237) (ic := 170) (sa := sa9) hx hb hst hown (by decide +kernel) (by decide +kernel) (hts _ (List.mem_cons_of_mem _ (List.mem_append_left _ (List.mem_of_getElem? (i := 0) rfl)))) (hts _ (List.mem_cons_of_mem _ (List.mem_append_left _ (List.mem_of_getElem? (i := 1) rfl)))) hsa (vx_hat (B := Cond.castable "java/lang/IndexOutOfBoundsException" "java/lang/IndexOutOfBoundsException" :: decL.map Cond.declares) (fun w hw => hts w ((fun _ h9 => List.mem_cons_of_mem _ (List.mem_append_right _ h9)) w hw)) hbO (vx_c (va_Nw.use rfl (hT.2.2.2.1 _ (by decide))) (fun w hw => by obtain ⟨x, hx, rfl⟩ := List.mem_map.mp hw; exact va_Nw.use rfl (hT.2.2.2.2.2 x hx)))) (List.forall_mem_cons.mpr ⟨by decide +kernel, List.forall_mem_cons.mpr ⟨by decide +kernel, hgO⟩⟩) hT.1 hT.2.1 hS (hl.1.trans hml.symm) dX12_count_9 dX12_count_12 dX12_count_13 dX12_count_15 dX12_count_18 (fun x hx => (htab x hx).elim) (Nat.lt_of_lt_of_le (Nat.lt_succ_self _) (Nat.le_of_ble_eq_true rfl)) (Nat.le_of_ble_eq_true rfl) (Nat.le_of_ble_eq_true rfl) (Nat.le_of_ble_eq_true rfl) hlocks (fun t ha h1 h2 => ⟨(), trivial, rfl, vF hS h1 h2⟩) hS.2.2 (Nat.le_of_ble_eq_true rfl) (Nat.le_of_ble_eq_true rfl)

theorem dX12_count_19 : decode cX12_count 19 = .ok (.iload_n 1, 1) := by decide +kernel
theorem dX12_count_20 : decode cX12_count 20 = .ok (.ifCond .ne 8, 3) := by decide +kernel
theorem dX12_count_23 : decode cX12_count 23 = .ok (.aload_n 0, 1) := by decide +kernel
theorem dX12_count_24 : decode cX12_count 24 = .ok (.getfield 110, 3) := by decide +kernel
theorem dX12_count_27 : decode cX12_count 27 = .ok (.ireturn, 1) := by decide +kernel
theorem dX12_count_28 : decode cX12_count 28 = .ok (.iload_n 1, 1) := by decide +kernel
theorem dX12_count_29 : decode cX12_count 29 = .ok (.iconst 1, 1) := by decide +kernel
theorem dX12_count_30 : decode cX12_count 30 = .ok (.if_icmp .ne 8, 3) := by decide +kernel
theorem dX12_count_33 : decode cX12_count 33 = .ok (.aload_n 0, 1) := by decide +kernel
theorem dX12_count_34 : decode cX12_count 34 = .ok (.getfield 171, 3) := by decide +kernel
theorem dX12_count_37 : decode cX12_count 37 = .ok (.ireturn, 1) := by decide +kernel
theorem dX12_count_38 : decode cX12_count 38 = .ok (.aload_n 0, 1) := by decide +kernel
theorem dX12_count_39 : decode cX12_count 39 = .ok (.getfield 133, 3) := by decide +kernel
theorem dX12_count_42 : decode cX12_count 42 = .ok (.ifCond .eq 16, 3) := by decide +kernel
theorem dX12_count_58 : decode cX12_count 58 = .ok (.iconst 0, 1) := by decide +kernel
theorem dX12_count_59 : decode cX12_count 59 = .ok (.ireturn, 1) := by decide +kernel
def zlX12_count_v2 : List Cond := [.fieldLink RX12 133 "LeanHouse" "isProgram" "Z", .fieldLink RX12 171 "LeanHouse" "inputSize" "I", .fieldLink RX12 110 "LeanHouse" "textSize" "I"]
def zsX12_count_v2 : List Cond := .code yX12_count cX12_count 2 (some .int) :: (zlX12_count_v2 ++ (wsX120))
set_option maxHeartbeats 8000000 in
set_option maxRecDepth 100000 in
theorem c_X12_countB (l : Launch) (dC : Nat → ClassId) (dI : Nat → Nat → Nat) (sz : Nat) (h0 : Nat) (w_text : Nat) (w_memory : Nat) (w_counts : Nat) (w_lexer : Nat) (w_parser : Nat) (w_checker : Nat) (w_scope : Nat) (w_coder : Nat) (w_machine : Nat) (w_compiler : Nat) (w_processor : Nat) (w_writer : Nat) (v_n : Int32) (b1 : ¬ v_n < 0) (b2 : v_n ≤ 2) : Met l yX12_count zsX12_count_v2 ({ frames := 1, cells := 0, slots := 0, locals := 12 } : Room) (va_Pc [.ref h0, .int v_n] (wB (dC, dI) vwCl nestM [] [(h0, .inr (12, [.ref w_text, .ref w_memory, .ref w_counts, .ref w_lexer, .ref w_parser, .ref w_checker, .ref w_scope, .ref w_coder, .ref w_machine, .ref w_compiler, .ref w_processor, .ref w_writer, .int 0, .int 0, .int 0, .int (-1), .int (-1), .int 0, .int 0, .int 0]))] sz)) (va_Qi (fun (r : Int32) (u : Unit) => r = 0) (fun (u : Unit) (t : State) => wE (dC, dI) vwCl [] [(h0, .inr (12, [.ref w_text, .ref w_memory, .ref w_counts, .ref w_lexer, .ref w_parser, .ref w_checker, .ref w_scope, .ref w_coder, .ref w_machine, .ref w_compiler, .ref w_processor, .ref w_writer, .int 0, .int 0, .int 0, .int (-1), .int (-1), .int 0, .int 0, .int 0]))] (va_A [(h0, .inr (12, [.ref w_text, .ref w_memory, .ref w_counts, .ref w_lexer, .ref w_parser, .ref w_checker, .ref w_scope, .ref w_coder, .ref w_machine, .ref w_compiler, .ref w_processor, .ref w_writer, .int 0, .int 0, .int 0, .int (-1), .int (-1), .int 0, .int 0, .int 0]))] sz) t) (va_A [(h0, .inr (12, [.ref w_text, .ref w_memory, .ref w_counts, .ref w_lexer, .ref w_parser, .ref w_checker, .ref w_scope, .ref w_coder, .ref w_machine, .ref w_compiler, .ref w_processor, .ref w_writer, .int 0, .int 0, .int 0, .int (-1), .int (-1), .int 0, .int 0, .int 0]))] sz)) 0 0 (va_A [(h0, .inr (12, [.ref w_text, .ref w_memory, .ref w_counts, .ref w_lexer, .ref w_parser, .ref w_checker, .ref w_scope, .ref w_coder, .ref w_machine, .ref w_compiler, .ref w_processor, .ref w_writer, .int 0, .int 0, .int 0, .int (-1), .int (-1), .int 0, .int 0, .int 0]))] sz) := by
  refine Met.ofW (cc := cX12_count) (maxL := 2) (ret := (some .int)) (by decide) rfl ?_
  intro p e s m args below meth c s₁ B hml hv
  obtain ⟨rfl, hsz, hP, hK, hD0, hN⟩ := hv
  have hx := B.exec
  have hb := B.bytes
  have hr := B.returns
  have hts := atoms_spec (ws := zsX12_count_v2) B.pre
  have hown : s.vm.findClass RX12 = some m.cls := findClass_of_methodNamed B.named
  have hlocks := B.notSynchronized
  subst hsz
  have hD := hD0.self (sz := s.heap.size)
  generalize hAe : va_A [(h0, .inr (12, [.ref w_text, .ref w_memory, .ref w_counts, .ref w_lexer, .ref w_parser, .ref w_checker, .ref w_scope, .ref w_coder, .ref w_machine, .ref w_compiler, .ref w_processor, .ref w_writer, .int 0, .int 0, .int 0, .int (-1), .int (-1), .int 0, .int 0, .int 0]))] s.heap.size = A at hD ⊢
  have hA : ∀ q : Nat, s.heap.size ≤ q → A q := fun q h => by rw [← hAe]; exact Or.inr h
  have hS : va_S A s.heap s.heap [] := va_S.rf
  have hP : va_P (dC, dI) vwCl [(h0, .inr (12, [.ref w_text, .ref w_memory, .ref w_counts, .ref w_lexer, .ref w_parser, .ref w_checker, .ref w_scope, .ref w_coder, .ref w_machine, .ref w_compiler, .ref w_processor, .ref w_writer, .int 0, .int 0, .int 0, .int (-1), .int (-1), .int 0, .int 0, .int 0]))] s.heap := hP
  have hl := lv_entry ([.ref h0, .int v_n]) (n := 2) (Nat.le_of_ble_eq_true rfl)
  rw [lg_entry_eq]
  generalize (lg_sl ([.ref h0, .int v_n]) ++ List.replicate (2 - (lg_sl ([.ref h0, .int v_n])).length) Slot.unset).toArray = ls at hl ⊢
  have hl : lv_has ls 2 [(0, .ref h0), (1, .int v_n)] := hl
  refine lv_iload_n hx hb dX12_count_0 rfl (lv_at hl 1 rfl) ?_
  refine lv_if_lt (tgt := 9) hx hb dX12_count_1 (by decide) (fun c_1 => absurd c_1 b1) (fun c_1 => ?_)
  refine lv_iload_n hx hb dX12_count_4 rfl (lv_at hl 1 rfl) ?_
  refine lv_iconst (v := 2) hx hb dX12_count_5 (by decide) ?_
  refine lv_icmp_le (tgt := 19) hx hb dX12_count_6 (by decide) (fun c_2 => ?_) (fun c_2 => absurd b2 c_2)
  refine lv_iload_n hx hb dX12_count_19 rfl (lv_at hl 1 rfl) ?_
  refine lv_if_ne (tgt := 28) hx hb dX12_count_20 (by decide) (fun c_3 => ?_) (fun c_3 => ?_)
  · refine lv_iload_n hx hb dX12_count_28 rfl (lv_at hl 1 rfl) ?_
    refine lv_iconst (v := 1) hx hb dX12_count_29 (by decide) ?_
    refine lv_icmp_ne (tgt := 38) hx hb dX12_count_30 (by decide) (fun c_4 => ?_) (fun c_4 => ?_)
    · refine lv_aload_n hx hb dX12_count_38 rfl (lv_at hl 0 rfl) ?_
      refine va_get (D := (dC, dI)) (ci := 12) (v := .int 0) (C := RX12) (T := TX12) (N := 20) hx hb hts (fun _ h9 => List.mem_cons_of_mem _ (List.mem_append_right _ h9)) hown hK hP 0 rfl rfl 19 (by decide) (hts _ (List.mem_cons_of_mem _ (List.mem_append_left _ (List.mem_of_getElem? (i := 0) rfl)))) (fun _ h9 => h9) rfl dX12_count_39 ?_
      refine lv_if_eq (tgt := 58) hx hb dX12_count_42 (by decide) (fun c_5 => ?_) (fun c_5 => absurd (by decide) c_5)
      refine lv_iconst (v := 0) hx hb dX12_count_58 (by decide) ?_
      have hP9 := hP.sub (ws' := [(h0, .inr (12, [.ref w_text, .ref w_memory, .ref w_counts, .ref w_lexer, .ref w_parser, .ref w_checker, .ref w_scope, .ref w_coder, .ref w_machine, .ref w_compiler, .ref w_processor, .ref w_writer, .int 0, .int 0, .int 0, .int (-1), .int (-1), .int 0, .int 0, .int 0]))]) [0] rfl
      have hD9 := hD.sub (ws' := [(h0, .inr (12, [.ref w_text, .ref w_memory, .ref w_counts, .ref w_lexer, .ref w_parser, .ref w_checker, .ref w_scope, .ref w_coder, .ref w_machine, .ref w_compiler, .ref w_processor, .ref w_writer, .int 0, .int 0, .int 0, .int (-1), .int (-1), .int 0, .int 0, .int 0]))]) [0] (by decide) rfl
      have hK9 := hK.sub (tys' := []) [] rfl
      exact W.iret (v := 0) hx hb hr (fun t ht hW => ⟨⟨0, (), rfl, rfl, wE.of ht hW hP9 hK9 hD9⟩, hS.F ht⟩) hS.2.2 dX12_count_59
    · refine lv_aload_n hx hb dX12_count_33 rfl (lv_at hl 0 rfl) ?_
      refine va_get (D := (dC, dI)) (ci := 12) (v := .int 0) (C := RX12) (T := TX12) (N := 20) hx hb hts (fun _ h9 => List.mem_cons_of_mem _ (List.mem_append_right _ h9)) hown hK hP 0 rfl rfl 13 (by decide) (hts _ (List.mem_cons_of_mem _ (List.mem_append_left _ (List.mem_of_getElem? (i := 1) rfl)))) (fun _ h9 => h9) rfl dX12_count_34 ?_
      have hP9 := hP.sub (ws' := [(h0, .inr (12, [.ref w_text, .ref w_memory, .ref w_counts, .ref w_lexer, .ref w_parser, .ref w_checker, .ref w_scope, .ref w_coder, .ref w_machine, .ref w_compiler, .ref w_processor, .ref w_writer, .int 0, .int 0, .int 0, .int (-1), .int (-1), .int 0, .int 0, .int 0]))]) [0] rfl
      have hD9 := hD.sub (ws' := [(h0, .inr (12, [.ref w_text, .ref w_memory, .ref w_counts, .ref w_lexer, .ref w_parser, .ref w_checker, .ref w_scope, .ref w_coder, .ref w_machine, .ref w_compiler, .ref w_processor, .ref w_writer, .int 0, .int 0, .int 0, .int (-1), .int (-1), .int 0, .int 0, .int 0]))]) [0] (by decide) rfl
      have hK9 := hK.sub (tys' := []) [] rfl
      exact W.iret (v := 0) hx hb hr (fun t ht hW => ⟨⟨0, (), rfl, rfl, wE.of ht hW hP9 hK9 hD9⟩, hS.F ht⟩) hS.2.2 dX12_count_37
  · refine lv_aload_n hx hb dX12_count_23 rfl (lv_at hl 0 rfl) ?_
    refine va_get (D := (dC, dI)) (ci := 12) (v := .int 0) (C := RX12) (T := TX12) (N := 20) hx hb hts (fun _ h9 => List.mem_cons_of_mem _ (List.mem_append_right _ h9)) hown hK hP 0 rfl rfl 12 (by decide) (hts _ (List.mem_cons_of_mem _ (List.mem_append_left _ (List.mem_of_getElem? (i := 2) rfl)))) (fun _ h9 => h9) rfl dX12_count_24 ?_
    have hP9 := hP.sub (ws' := [(h0, .inr (12, [.ref w_text, .ref w_memory, .ref w_counts, .ref w_lexer, .ref w_parser, .ref w_checker, .ref w_scope, .ref w_coder, .ref w_machine, .ref w_compiler, .ref w_processor, .ref w_writer, .int 0, .int 0, .int 0, .int (-1), .int (-1), .int 0, .int 0, .int 0]))]) [0] rfl
    have hD9 := hD.sub (ws' := [(h0, .inr (12, [.ref w_text, .ref w_memory, .ref w_counts, .ref w_lexer, .ref w_parser, .ref w_checker, .ref w_scope, .ref w_coder, .ref w_machine, .ref w_compiler, .ref w_processor, .ref w_writer, .int 0, .int 0, .int 0, .int (-1), .int (-1), .int 0, .int 0, .int 0]))]) [0] (by decide) rfl
    have hK9 := hK.sub (tys' := []) [] rfl
    exact W.iret (v := 0) hx hb hr (fun t ht hW => ⟨⟨0, (), rfl, rfl, wE.of ht hW hP9 hK9 hD9⟩, hS.F ht⟩) hS.2.2 dX12_count_27

