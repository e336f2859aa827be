/-! Parser on the empty text: no program, 2 SYNTAX at 0. -/
theorem dX7_strength_0 : decode cX7_strength 0 = .ok (.iload_n 0, 1) := by decide +kernel
theorem dX7_strength_1 : decode cX7_strength 1 = .ok (.tableswitch 238 1 51 #[221, 238, 238, 238, 235, 238, 238, 238, 238, 238, 238, 238, 238, 238, 238, 235, 238, 219, 238, 238, 238, 238, 238, 238, 238, 238, 238, 238, 238, 238, 238, 238, 238, 238, 238, 223, 238, 227, 238, 238, 235, 232, 232, 232, 229, 225, 227, 227, 227, 227, 227], 219) := by decide +kernel
theorem dX7_strength_239 : decode cX7_strength 239 = .ok (.iconst 0, 1) := by decide +kernel
theorem dX7_strength_240 : decode cX7_strength 240 = .ok (.ireturn, 1) := by decide +kernel
def zlX7_strength : List Cond := []
def zsX7_strength : List Cond := .code yX7_strength cX7_strength 1 (some .int) :: zlX7_strength
set_option maxHeartbeats 8000000 in
set_option maxRecDepth 100000 in
theorem c_X7_strength_55 (l : Launch) (dC : Nat → ClassId) (dI : Nat → Nat → Nat) (sz : Nat) : Met l yX7_strength zsX7_strength ({ frames := 1, cells := 0, slots := 0, locals := 12 } : Room) (va_Pc [.int 55] (wB (dC, dI) vwCl nestM [] [] sz)) (va_Qi (fun (r : Int32) (u : Unit) => r = 0) (fun (u : Unit) (t : State) => wE (dC, dI) vwCl [] [] (va_A [] sz) t) (va_A [] sz)) 0 0 (va_A [] sz) := by
  refine Met.ofW (cc := cX7_strength) (maxL := 1) (ret := (some .int)) (by decide) rfl ?_
  intro p e s m args below meth c s₁ B hml hv
  obtain ⟨rfl, hsz, hP, hK, hD0, hN⟩ := hv
  have hx := B.exec
  have hb := B.bytes
  have hr := B.returns
  have hts := atoms_spec (ws := zsX7_strength) B.pre
  have hown : s.vm.findClass RX7 = some m.cls := findClass_of_methodNamed B.named
  have hlocks := B.notSynchronized
  subst hsz
  have hD := hD0.self (sz := s.heap.size)
  generalize hAe : va_A [] s.heap.size = A at hD ⊢
  have hA : ∀ q : Nat, s.heap.size ≤ q → A q := fun q h => by rw [← hAe]; exact Or.inr h
  have hS : va_S A s.heap s.heap [] := va_S.rf
  have hP : va_P (dC, dI) vwCl [] s.heap := hP
  have hl := lv_entry ([.int 55]) (n := 1) (Nat.le_of_ble_eq_true rfl)
  rw [lg_entry_eq]
  generalize (lg_sl ([.int 55]) ++ List.replicate (1 - (lg_sl ([.int 55])).length) Slot.unset).toArray = ls at hl ⊢
  have hl : lv_has ls 1 [(0, .int 55)] := hl
  refine lv_iload_n hx hb dX7_strength_0 rfl (lv_at hl 0 rfl) ?_
  refine lv_tableOut (tgt := 239) hx hb dX7_strength_1 (Or.inr (by decide)) (by decide) ?_
  refine lv_iconst (v := 0) hx hb dX7_strength_239 (by decide) ?_
  have hP9 := hP.sub (ws' := []) [] rfl
  have hD9 := hD.sub (ws' := []) [] (by decide) rfl
  have hK9 := hK.sub (tys' := []) [] rfl
  exact W.iret (v := 0) hx hb hr (fun t ht hW => ⟨⟨0, (), rfl, rfl, wE.of ht hW hP9 hK9 hD9⟩, hS.F ht⟩) hS.2.2 dX7_strength_240

def zlX7_strength_v2 : List Cond := []
def zsX7_strength_v2 : List Cond := .code yX7_strength cX7_strength 1 (some .int) :: zlX7_strength_v2
set_option maxHeartbeats 8000000 in
set_option maxRecDepth 100000 in
theorem c_X7_strength_m1 (l : Launch) (dC : Nat → ClassId) (dI : Nat → Nat → Nat) (sz : Nat) : Met l yX7_strength zsX7_strength_v2 ({ frames := 1, cells := 0, slots := 0, locals := 12 } : Room) (va_Pc [.int (-1)] (wB (dC, dI) vwCl nestM [] [] sz)) (va_Qi (fun (r : Int32) (u : Unit) => r = 0) (fun (u : Unit) (t : State) => wE (dC, dI) vwCl [] [] (va_A [] sz) t) (va_A [] sz)) 0 0 (va_A [] sz) := by
  refine Met.ofW (cc := cX7_strength) (maxL := 1) (ret := (some .int)) (by decide) rfl ?_
  intro p e s m args below meth c s₁ B hml hv
  obtain ⟨rfl, hsz, hP, hK, hD0, hN⟩ := hv
  have hx := B.exec
  have hb := B.bytes
  have hr := B.returns
  have hts := atoms_spec (ws := zsX7_strength_v2) B.pre
  have hown : s.vm.findClass RX7 = some m.cls := findClass_of_methodNamed B.named
  have hlocks := B.notSynchronized
  subst hsz
  have hD := hD0.self (sz := s.heap.size)
  generalize hAe : va_A [] s.heap.size = A at hD ⊢
  have hA : ∀ q : Nat, s.heap.size ≤ q → A q := fun q h => by rw [← hAe]; exact Or.inr h
  have hS : va_S A s.heap s.heap [] := va_S.rf
  have hP : va_P (dC, dI) vwCl [] s.heap := hP
  have hl := lv_entry ([.int (-1)]) (n := 1) (Nat.le_of_ble_eq_true rfl)
  rw [lg_entry_eq]
  generalize (lg_sl ([.int (-1)]) ++ List.replicate (1 - (lg_sl ([.int (-1)])).length) Slot.unset).toArray = ls at hl ⊢
  have hl : lv_has ls 1 [(0, .int (-1))] := hl
  refine lv_iload_n hx hb dX7_strength_0 rfl (lv_at hl 0 rfl) ?_
  refine lv_tableOut (tgt := 239) hx hb dX7_strength_1 (Or.inl (by decide)) (by decide) ?_
  refine lv_iconst (v := 0) hx hb dX7_strength_239 (by decide) ?_
  have hP9 := hP.sub (ws' := []) [] rfl
  have hD9 := hD.sub (ws' := []) [] (by decide) rfl
  have hK9 := hK.sub (tys' := []) [] rfl
  exact W.iret (v := 0) hx hb hr (fun t ht hW => ⟨⟨0, (), rfl, rfl, wE.of ht hW hP9 hK9 hD9⟩, hS.F ht⟩) hS.2.2 dX7_strength_240

theorem dX7_beginsAtom_0 : decode cX7_beginsAtom 0 = .ok (.iload_n 0, 1) := by decide +kernel
theorem dX7_beginsAtom_1 : decode cX7_beginsAtom 1 = .ok (.bipush 25, 2) := by decide +kernel
theorem dX7_beginsAtom_3 : decode cX7_beginsAtom 3 = .ok (.if_icmp .eq 51, 3) := by decide +kernel
theorem dX7_beginsAtom_6 : decode cX7_beginsAtom 6 = .ok (.iload_n 0, 1) := by decide +kernel
theorem dX7_beginsAtom_7 : decode cX7_beginsAtom 7 = .ok (.bipush 27, 2) := by decide +kernel
theorem dX7_beginsAtom_9 : decode cX7_beginsAtom 9 = .ok (.if_icmp .eq 45, 3) := by decide +kernel
theorem dX7_beginsAtom_12 : decode cX7_beginsAtom 12 = .ok (.iload_n 0, 1) := by decide +kernel
theorem dX7_beginsAtom_13 : decode cX7_beginsAtom 13 = .ok (.bipush 28, 2) := by decide +kernel
theorem dX7_beginsAtom_15 : decode cX7_beginsAtom 15 = .ok (.if_icmp .eq 39, 3) := by decide +kernel
theorem dX7_beginsAtom_18 : decode cX7_beginsAtom 18 = .ok (.iload_n 0, 1) := by decide +kernel
theorem dX7_beginsAtom_19 : decode cX7_beginsAtom 19 = .ok (.bipush 53, 2) := by decide +kernel
theorem dX7_beginsAtom_21 : decode cX7_beginsAtom 21 = .ok (.if_icmp .eq 33, 3) := by decide +kernel
theorem dX7_beginsAtom_24 : decode cX7_beginsAtom 24 = .ok (.iload_n 0, 1) := by decide +kernel
theorem dX7_beginsAtom_25 : decode cX7_beginsAtom 25 = .ok (.bipush 52, 2) := by decide +kernel
theorem dX7_beginsAtom_27 : decode cX7_beginsAtom 27 = .ok (.if_icmp .eq 27, 3) := by decide +kernel
theorem dX7_beginsAtom_30 : decode cX7_beginsAtom 30 = .ok (.iload_n 0, 1) := by decide +kernel
theorem dX7_beginsAtom_31 : decode cX7_beginsAtom 31 = .ok (.bipush 21, 2) := by decide +kernel
theorem dX7_beginsAtom_33 : decode cX7_beginsAtom 33 = .ok (.if_icmp .eq 21, 3) := by decide +kernel
theorem dX7_beginsAtom_36 : decode cX7_beginsAtom 36 = .ok (.iload_n 0, 1) := by decide +kernel
theorem dX7_beginsAtom_37 : decode cX7_beginsAtom 37 = .ok (.bipush 30, 2) := by decide +kernel
theorem dX7_beginsAtom_39 : decode cX7_beginsAtom 39 = .ok (.if_icmp .eq 15, 3) := by decide +kernel
theorem dX7_beginsAtom_42 : decode cX7_beginsAtom 42 = .ok (.iload_n 0, 1) := by decide +kernel
theorem dX7_beginsAtom_43 : decode cX7_beginsAtom 43 = .ok (.bipush 32, 2) := by decide +kernel
theorem dX7_beginsAtom_45 : decode cX7_beginsAtom 45 = .ok (.if_icmp .eq 9, 3) := by decide +kernel
theorem dX7_beginsAtom_48 : decode cX7_beginsAtom 48 = .ok (.iload_n 0, 1) := by decide +kernel
theorem dX7_beginsAtom_49 : decode cX7_beginsAtom 49 = .ok (.bipush 15, 2) := by decide +kernel
theorem dX7_beginsAtom_51 : decode cX7_beginsAtom 51 = .ok (.if_icmp .ne 7, 3) := by decide +kernel
theorem dX7_beginsAtom_58 : decode cX7_beginsAtom 58 = .ok (.iconst 0, 1) := by decide +kernel
theorem dX7_beginsAtom_59 : decode cX7_beginsAtom 59 = .ok (.ireturn, 1) := by decide +kernel
def zlX7_beginsAtom : List Cond := []
def zsX7_beginsAtom : List Cond := .code yX7_beginsAtom cX7_beginsAtom 1 (some .boolean) :: zlX7_beginsAtom
set_option maxHeartbeats 8000000 in
set_option maxRecDepth 100000 in
theorem c_X7_beginsAtom (l : Launch) (dC : Nat → ClassId) (dI : Nat → Nat → Nat) (sz : Nat) : Met l yX7_beginsAtom zsX7_beginsAtom ({ frames := 1, cells := 0, slots := 0, locals := 12 } : Room) (va_Pc [.int 55] (wB (dC, dI) vwCl nestM [] [] sz)) (va_Qi (fun (r : Int32) (u : Unit) => r = 0) (fun (u : Unit) (t : State) => wE (dC, dI) vwCl [] [] (va_A [] sz) t) (va_A [] sz)) 0 0 (va_A [] sz) := by
  refine Met.ofW (cc := cX7_beginsAtom) (maxL := 1) (ret := (some .boolean)) (by decide) rfl ?_
  intro p e s m args below meth c s₁ B hml hv
  obtain ⟨rfl, hsz, hP, hK, hD0, hN⟩ := hv
  have hx := B.exec
  have hb := B.bytes
  have hr := B.returns
  have hts := atoms_spec (ws := zsX7_beginsAtom) B.pre
  have hown : s.vm.findClass RX7 = some m.cls := findClass_of_methodNamed B.named
  have hlocks := B.notSynchronized
  subst hsz
  have hD := hD0.self (sz := s.heap.size)
  generalize hAe : va_A [] s.heap.size = A at hD ⊢
  have hA : ∀ q : Nat, s.heap.size ≤ q → A q := fun q h => by rw [← hAe]; exact Or.inr h
  have hS : va_S A s.heap s.heap [] := va_S.rf
  have hP : va_P (dC, dI) vwCl [] s.heap := hP
  have hl := lv_entry ([.int 55]) (n := 1) (Nat.le_of_ble_eq_true rfl)
  rw [lg_entry_eq]
  generalize (lg_sl ([.int 55]) ++ List.replicate (1 - (lg_sl ([.int 55])).length) Slot.unset).toArray = ls at hl ⊢
  have hl : lv_has ls 1 [(0, .int 55)] := hl
  refine lv_iload_n hx hb dX7_beginsAtom_0 rfl (lv_at hl 0 rfl) ?_
  refine lv_bipush (v := 25) hx hb dX7_beginsAtom_1 (by decide) ?_
  refine lv_icmp_eq (tgt := 54) hx hb dX7_beginsAtom_3 (by decide) (fun c_1 => absurd c_1 (by decide)) (fun c_1 => ?_)
  refine lv_iload_n hx hb dX7_beginsAtom_6 rfl (lv_at hl 0 rfl) ?_
  refine lv_bipush (v := 27) hx hb dX7_beginsAtom_7 (by decide) ?_
  refine lv_icmp_eq (tgt := 54) hx hb dX7_beginsAtom_9 (by decide) (fun c_2 => absurd c_2 (by decide)) (fun c_2 => ?_)
  refine lv_iload_n hx hb dX7_beginsAtom_12 rfl (lv_at hl 0 rfl) ?_
  refine lv_bipush (v := 28) hx hb dX7_beginsAtom_13 (by decide) ?_
  refine lv_icmp_eq (tgt := 54) hx hb dX7_beginsAtom_15 (by decide) (fun c_3 => absurd c_3 (by decide)) (fun c_3 => ?_)
  refine lv_iload_n hx hb dX7_beginsAtom_18 rfl (lv_at hl 0 rfl) ?_
  refine lv_bipush (v := 53) hx hb dX7_beginsAtom_19 (by decide) ?_
  refine lv_icmp_eq (tgt := 54) hx hb dX7_beginsAtom_21 (by decide) (fun c_4 => absurd c_4 (by decide)) (fun c_4 => ?_)
  refine lv_iload_n hx hb dX7_beginsAtom_24 rfl (lv_at hl 0 rfl) ?_
  refine lv_bipush (v := 52) hx hb dX7_beginsAtom_25 (by decide) ?_
  refine lv_icmp_eq (tgt := 54) hx hb dX7_beginsAtom_27 (by decide) (fun c_5 => absurd c_5 (by decide)) (fun c_5 => ?_)
  refine lv_iload_n hx hb dX7_beginsAtom_30 rfl (lv_at hl 0 rfl) ?_
  refine lv_bipush (v := 21) hx hb dX7_beginsAtom_31 (by decide) ?_
  refine lv_icmp_eq (tgt := 54) hx hb dX7_beginsAtom_33 (by decide) (fun c_6 => absurd c_6 (by decide)) (fun c_6 => ?_)
  refine lv_iload_n hx hb dX7_beginsAtom_36 rfl (lv_at hl 0 rfl) ?_
  refine lv_bipush (v := 30) hx hb dX7_beginsAtom_37 (by decide) ?_
  refine lv_icmp_eq (tgt := 54) hx hb dX7_beginsAtom_39 (by decide) (fun c_7 => absurd c_7 (by decide)) (fun c_7 => ?_)
  refine lv_iload_n hx hb dX7_beginsAtom_42 rfl (lv_at hl 0 rfl) ?_
  refine lv_bipush (v := 32) hx hb dX7_beginsAtom_43 (by decide) ?_
  refine lv_icmp_eq (tgt := 54) hx hb dX7_beginsAtom_45 (by decide) (fun c_8 => absurd c_8 (by decide)) (fun c_8 => ?_)
  refine lv_iload_n hx hb dX7_beginsAtom_48 rfl (lv_at hl 0 rfl) ?_
  refine lv_bipush (v := 15) hx hb dX7_beginsAtom_49 (by decide) ?_
  refine lv_icmp_ne (tgt := 58) hx hb dX7_beginsAtom_51 (by decide) (fun c_9 => ?_) (fun c_9 => absurd c_9 (by decide))
  refine lv_iconst (v := 0) hx hb dX7_beginsAtom_58 (by decide) ?_
  have hP9 := hP.sub (ws' := []) [] rfl
  have hD9 := hD.sub (ws' := []) [] (by decide) rfl
  have hK9 := hK.sub (tys' := []) [] rfl
  exact W.zret (v := 0) hx hb hr (by decide) (fun t ht hW => ⟨⟨0, (), rfl, rfl, wE.of ht hW hP9 hK9 hD9⟩, hS.F ht⟩) hS.2.2 dX7_beginsAtom_59

theorem dX7_fail_0 : decode cX7_fail 0 = .ok (.aload_n 0, 1) := by decide +kernel
theorem dX7_fail_1 : decode cX7_fail 1 = .ok (.getfield 33, 3) := by decide +kernel
theorem dX7_fail_4 : decode cX7_fail 4 = .ok (.getfield 86, 3) := by decide +kernel
theorem dX7_fail_7 : decode cX7_fail 7 = .ok (.ifCond .ne 11, 3) := by decide +kernel
theorem dX7_fail_10 : decode cX7_fail 10 = .ok (.aload_n 0, 1) := by decide +kernel
theorem dX7_fail_11 : decode cX7_fail 11 = .ok (.getfield 33, 3) := by decide +kernel
theorem dX7_fail_14 : decode cX7_fail 14 = .ok (.iload_n 1, 1) := by decide +kernel
theorem dX7_fail_15 : decode cX7_fail 15 = .ok (.putfield 86, 3) := by decide +kernel
theorem dX7_fail_18 : decode cX7_fail 18 = .ok (.aload_n 0, 1) := by decide +kernel
theorem dX7_fail_19 : decode cX7_fail 19 = .ok (.getfield 33, 3) := by decide +kernel
theorem dX7_fail_22 : decode cX7_fail 22 = .ok (.bipush 55, 2) := by decide +kernel
theorem dX7_fail_24 : decode cX7_fail 24 = .ok (.putfield 64, 3) := by decide +kernel
theorem dX7_fail_27 : decode cX7_fail 27 = .ok (.return_, 1) := by decide +kernel
def zlX7_fail : List Cond := [.fieldLink RX7 33 "LeanHouse$Parser" "lexer" "LLeanHouse$Lexer;", .fieldLink RX7 86 "LeanHouse$Lexer" "trouble" "I", .fieldLink RX7 64 "LeanHouse$Lexer" "kind" "I"]
def zsX7_fail : List Cond := .code yX7_fail cX7_fail 2 none :: (zlX7_fail ++ (wsX70 ++ (wsX40)))
set_option maxHeartbeats 8000000 in
set_option maxRecDepth 100000 in
theorem c_X7_fail (l : Launch) (dC : Nat → ClassId) (dI : Nat → Nat → Nat) (sz : Nat) (h0 : Nat) (w_lexer : Nat) (p_op : Nat) (p_says : Nat) (p_places : Nat) (p_link : Nat) (p_home : Nat) (p_waiting : Nat) (p_waitingAt : Nat) (p_marks : Int32) (p_waits : Int32) (p_open : Int32) (p_cons : Int32) (p_types : Int32) (x_text : Nat) (x_pool : Nat) (x_scratch : Nat) (x_nameAt : Nat) (x_nameSize : Nat) (x_heads : Nat) (x_nexts : Nat) (x_names : Int32) (x_poolSize : Int32) (x_knownSize : Int32) (x_textSize : Int32) (x_here : Int32) (x_tokens : Int32) (x_kind : Int32) (x_start : Int32) (x_meaning : Int32) (x_spelled : Int32) (v_what : Int32) : Met l yX7_fail zsX7_fail ({ frames := 1, cells := 0, slots := 0, locals := 12 } : Room) (va_Pc [.ref h0, .int v_what] (wB (dC, dI) vwCl nestM [] [(h0, .inr (7, [.ref p_op, .ref p_says, .ref p_places, .ref p_link, .ref p_home, .int p_marks, .ref w_lexer, .ref p_waiting, .ref p_waitingAt, .int p_waits, .int p_open, .int p_cons, .int p_types])), (w_lexer, .inr (4, [.ref x_text, .ref x_pool, .ref x_scratch, .ref x_nameAt, .ref x_nameSize, .ref x_heads, .ref x_nexts, .int x_names, .int x_poolSize, .int x_knownSize, .int x_textSize, .int x_here, .int x_tokens, .int x_kind, .int x_start, .int x_meaning, .int 0, .int x_spelled]))] sz)) (va_Qv (fun (u : Unit) => True) (fun (u : Unit) (t : State) => wE (dC, dI) vwCl [] [(h0, .inr (7, [.ref p_op, .ref p_says, .ref p_places, .ref p_link, .ref p_home, .int p_marks, .ref w_lexer, .ref p_waiting, .ref p_waitingAt, .int p_waits, .int p_open, .int p_cons, .int p_types])), (w_lexer, .inr (4, [.ref x_text, .ref x_pool, .ref x_scratch, .ref x_nameAt, .ref x_nameSize, .ref x_heads, .ref x_nexts, .int x_names, .int x_poolSize, .int x_knownSize, .int x_textSize, .int x_here, .int x_tokens, .int 55, .int x_start, .int x_meaning, .int v_what, .int x_spelled]))] (va_A [(h0, .inr (7, [.ref p_op, .ref p_says, .ref p_places, .ref p_link, .ref p_home, .int p_marks, .ref w_lexer, .ref p_waiting, .ref p_waitingAt, .int p_waits, .int p_open, .int p_cons, .int p_types])), (w_lexer, .inr (4, [.ref x_text, .ref x_pool, .ref x_scratch, .ref x_nameAt, .ref x_nameSize, .ref x_heads, .ref x_nexts, .int x_names, .int x_poolSize, .int x_knownSize, .int x_textSize, .int x_here, .int x_tokens, .int x_kind, .int x_start, .int x_meaning, .int 0, .int x_spelled]))] sz) t) (va_A [(h0, .inr (7, [.ref p_op, .ref p_says, .ref p_places, .ref p_link, .ref p_home, .int p_marks, .ref w_lexer, .ref p_waiting, .ref p_waitingAt, .int p_waits, .int p_open, .int p_cons, .int p_types])), (w_lexer, .inr (4, [.ref x_text, .ref x_pool, .ref x_scratch, .ref x_nameAt, .ref x_nameSize, .ref x_heads, .ref x_nexts, .int x_names, .int x_poolSize, .int x_knownSize, .int x_textSize, .int x_here, .int x_tokens, .int x_kind, .int x_start, .int x_meaning, .int 0, .int x_spelled]))] sz)) 0 0 (va_A [(h0, .inr (7, [.ref p_op, .ref p_says, .ref p_places, .ref p_link, .ref p_home, .int p_marks, .ref w_lexer, .ref p_waiting, .ref p_waitingAt, .int p_waits, .int p_open, .int p_cons, .int p_types])), (w_lexer, .inr (4, [.ref x_text, .ref x_pool, .ref x_scratch, .ref x_nameAt, .ref x_nameSize, .ref x_heads, .ref x_nexts, .int x_names, .int x_poolSize, .int x_knownSize, .int x_textSize, .int x_here, .int x_tokens, .int x_kind, .int x_start, .int x_meaning, .int 0, .int x_spelled]))] sz) := by
  refine Met.ofW (cc := cX7_fail) (maxL := 2) (ret := none) (by decide) rfl ?_
  intro p e s m args below meth c s₁ B hml hv
  obtain ⟨rfl, hsz, hP, hK, hD0, hN⟩ := hv
  have hx := B.exec
  have hb := B.bytes
  have hr := B.returns
  have hts := atoms_spec (ws := zsX7_fail) B.pre
  have hown : s.vm.findClass RX7 = some m.cls := findClass_of_methodNamed B.named
  have hlocks := B.notSynchronized
  subst hsz
  have hD := hD0.self (sz := s.heap.size)
  generalize hAe : va_A [(h0, .inr (7, [.ref p_op, .ref p_says, .ref p_places, .ref p_link, .ref p_home, .int p_marks, .ref w_lexer, .ref p_waiting, .ref p_waitingAt, .int p_waits, .int p_open, .int p_cons, .int p_types])), (w_lexer, .inr (4, [.ref x_text, .ref x_pool, .ref x_scratch, .ref x_nameAt, .ref x_nameSize, .ref x_heads, .ref x_nexts, .int x_names, .int x_poolSize, .int x_knownSize, .int x_textSize, .int x_here, .int x_tokens, .int x_kind, .int x_start, .int x_meaning, .int 0, .int x_spelled]))] s.heap.size = A at hD ⊢
  have hA : ∀ q : Nat, s.heap.size ≤ q → A q := fun q h => by rw [← hAe]; exact Or.inr h
  have hS : va_S A s.heap s.heap [] := va_S.rf
  have hP : va_P (dC, dI) vwCl [(h0, .inr (7, [.ref p_op, .ref p_says, .ref p_places, .ref p_link, .ref p_home, .int p_marks, .ref w_lexer, .ref p_waiting, .ref p_waitingAt, .int p_waits, .int p_open, .int p_cons, .int p_types])), (w_lexer, .inr (4, [.ref x_text, .ref x_pool, .ref x_scratch, .ref x_nameAt, .ref x_nameSize, .ref x_heads, .ref x_nexts, .int x_names, .int x_poolSize, .int x_knownSize, .int x_textSize, .int x_here, .int x_tokens, .int x_kind, .int x_start, .int x_meaning, .int 0, .int x_spelled]))] s.heap := hP
  have hl := lv_entry ([.ref h0, .int v_what]) (n := 2) (Nat.le_of_ble_eq_true rfl)
  rw [lg_entry_eq]
  generalize (lg_sl ([.ref h0, .int v_what]) ++ List.replicate (2 - (lg_sl ([.ref h0, .int v_what])).length) Slot.unset).toArray = ls at hl ⊢
  have hl : lv_has ls 2 [(0, .ref h0), (1, .int v_what)] := hl
  refine lv_aload_n hx hb dX7_fail_0 rfl (lv_at hl 0 rfl) ?_
  refine va_get (D := (dC, dI)) (ci := 7) (v := .ref w_lexer) (C := RX7) (T := TX7) (N := 13) hx hb hts (fun _ h9 => List.mem_cons_of_mem _ (List.mem_append_right _ (List.mem_append_left _ h9))) hown hK hP 0 rfl rfl 6 (by decide) (hts _ (List.mem_cons_of_mem _ (List.mem_append_left _ (List.mem_of_getElem? (i := 0) rfl)))) (fun _ h9 => h9) rfl dX7_fail_1 ?_
  refine va_get (D := (dC, dI)) (ci := 4) (v := .int 0) (C := RX4) (T := TX4) (N := 18) hx hb hts (fun _ h9 => List.mem_cons_of_mem _ (List.mem_append_right _ (List.mem_append_right _ h9))) hown hK hP 1 rfl rfl 16 (by decide) (hts _ (List.mem_cons_of_mem _ (List.mem_append_left _ (List.mem_of_getElem? (i := 1) rfl)))) (fun _ h9 => h9) rfl dX7_fail_4 ?_
  refine lv_if_ne (tgt := 18) hx hb dX7_fail_7 (by decide) (fun c_1 => absurd (by decide) c_1) (fun c_1 => ?_)
  refine lv_aload_n hx hb dX7_fail_10 rfl (lv_at hl 0 rfl) ?_
  refine va_get (D := (dC, dI)) (ci := 7) (v := .ref w_lexer) (C := RX7) (T := TX7) (N := 13) hx hb hts (fun _ h9 => List.mem_cons_of_mem _ (List.mem_append_right _ (List.mem_append_left _ h9))) hown hK hP 0 rfl rfl 6 (by decide) (hts _ (List.mem_cons_of_mem _ (List.mem_append_left _ (List.mem_of_getElem? (i := 0) rfl)))) (fun _ h9 => h9) rfl dX7_fail_11 ?_
  refine lv_iload_n hx hb dX7_fail_14 rfl (lv_at hl 1 rfl) ?_
  refine va_put (D := (dC, dI)) (ci := 4) (v := .int v_what) (ty := .int) (C := RX4) (T := TX4) (N := 18) hx hb hts (fun _ h9 => List.mem_cons_of_mem _ (List.mem_append_right _ (List.mem_append_right _ h9))) tyX4 tyX4_ok nmX4 hown hK hP hD hS 1 rfl rfl 16 (by decide) (hts _ (List.mem_cons_of_mem _ (List.mem_append_left _ (List.mem_of_getElem? (i := 1) rfl)))) (fun _ h9 => h9) rfl (by decide +kernel) rfl rfl (Nat.le_of_ble_eq_true rfl) dX7_fail_15 ?_
  clear hP hD hS
  intro H locs hP hD hS
  replace hP : va_P (dC, dI) vwCl [(h0, .inr (7, [.ref p_op, .ref p_says, .ref p_places, .ref p_link, .ref p_home, .int p_marks, .ref w_lexer, .ref p_waiting, .ref p_waitingAt, .int p_waits, .int p_open, .int p_cons, .int p_types])), (w_lexer, .inr (4, [.ref x_text, .ref x_pool, .ref x_scratch, .ref x_nameAt, .ref x_nameSize, .ref x_heads, .ref x_nexts, .int x_names, .int x_poolSize, .int x_knownSize, .int x_textSize, .int x_here, .int x_tokens, .int x_kind, .int x_start, .int x_meaning, .int v_what, .int x_spelled]))] H := hP
  replace hD : va_D A [(h0, .inr (7, [.ref p_op, .ref p_says, .ref p_places, .ref p_link, .ref p_home, .int p_marks, .ref w_lexer, .ref p_waiting, .ref p_waitingAt, .int p_waits, .int p_open, .int p_cons, .int p_types])), (w_lexer, .inr (4, [.ref x_text, .ref x_pool, .ref x_scratch, .ref x_nameAt, .ref x_nameSize, .ref x_heads, .ref x_nexts, .int x_names, .int x_poolSize, .int x_knownSize, .int x_textSize, .int x_here, .int x_tokens, .int x_kind, .int x_start, .int x_meaning, .int v_what, .int x_spelled]))] := hD
  refine lv_aload_n hx hb dX7_fail_18 rfl (lv_at hl 0 rfl) ?_
  refine va_get (D := (dC, dI)) (ci := 7) (v := .ref w_lexer) (C := RX7) (T := TX7) (N := 13) hx hb hts (fun _ h9 => List.mem_cons_of_mem _ (List.mem_append_right _ (List.mem_append_left _ h9))) hown hK hP 0 rfl rfl 6 (by decide) (hts _ (List.mem_cons_of_mem _ (List.mem_append_left _ (List.mem_of_getElem? (i := 0) rfl)))) (fun _ h9 => h9) rfl dX7_fail_19 ?_
  refine lv_bipush (v := 55) hx hb dX7_fail_22 (by decide) ?_
  refine va_put (D := (dC, dI)) (ci := 4) (v := .int 55) (ty := .int) (C := RX4) (T := TX4) (N := 18) hx hb hts (fun _ h9 => List.mem_cons_of_mem _ (List.mem_append_right _ (List.mem_append_right _ h9))) tyX4 tyX4_ok nmX4 hown hK hP hD hS 1 rfl rfl 13 (by decide) (hts _ (List.mem_cons_of_mem _ (List.mem_append_left _ (List.mem_of_getElem? (i := 2) rfl)))) (fun _ h9 => h9) rfl (by decide +kernel) rfl rfl (Nat.le_of_ble_eq_true rfl) dX7_fail_24 ?_
  clear hP hD hS
  intro H locs hP hD hS
  replace hP : va_P (dC, dI) vwCl [(h0, .inr (7, [.ref p_op, .ref p_says, .ref p_places, .ref p_link, .ref p_home, .int p_marks, .ref w_lexer, .ref p_waiting, .ref p_waitingAt, .int p_waits, .int p_open, .int p_cons, .int p_types])), (w_lexer, .inr (4, [.ref x_text, .ref x_pool, .ref x_scratch, .ref x_nameAt, .ref x_nameSize, .ref x_heads, .ref x_nexts, .int x_names, .int x_poolSize, .int x_knownSize, .int x_textSize, .int x_here, .int x_tokens, .int 55, .int x_start, .int x_meaning, .int v_what, .int x_spelled]))] H := hP
  replace hD : va_D A [(h0, .inr (7, [.ref p_op, .ref p_says, .ref p_places, .ref p_link, .ref p_home, .int p_marks, .ref w_lexer, .ref p_waiting, .ref p_waitingAt, .int p_waits, .int p_open, .int p_cons, .int p_types])), (w_lexer, .inr (4, [.ref x_text, .ref x_pool, .ref x_scratch, .ref x_nameAt, .ref x_nameSize, .ref x_heads, .ref x_nexts, .int x_names, .int x_poolSize, .int x_knownSize, .int x_textSize, .int x_here, .int x_tokens, .int 55, .int x_start, .int x_meaning, .int v_what, .int x_spelled]))] := hD
  have hP9 := hP.sub (ws' := [(h0, .inr (7, [.ref p_op, .ref p_says, .ref p_places, .ref p_link, .ref p_home, .int p_marks, .ref w_lexer, .ref p_waiting, .ref p_waitingAt, .int p_waits, .int p_open, .int p_cons, .int p_types])), (w_lexer, .inr (4, [.ref x_text, .ref x_pool, .ref x_scratch, .ref x_nameAt, .ref x_nameSize, .ref x_heads, .ref x_nexts, .int x_names, .int x_poolSize, .int x_knownSize, .int x_textSize, .int x_here, .int x_tokens, .int 55, .int x_start, .int x_meaning, .int v_what, .int x_spelled]))]) [0, 1] rfl
  have hD9 := hD.sub (ws' := [(h0, .inr (7, [.ref p_op, .ref p_says, .ref p_places, .ref p_link, .ref p_home, .int p_marks, .ref w_lexer, .ref p_waiting, .ref p_waitingAt, .int p_waits, .int p_open, .int p_cons, .int p_types])), (w_lexer, .inr (4, [.ref x_text, .ref x_pool, .ref x_scratch, .ref x_nameAt, .ref x_nameSize, .ref x_heads, .ref x_nexts, .int x_names, .int x_poolSize, .int x_knownSize, .int x_textSize, .int x_here, .int x_tokens, .int 55, .int x_start, .int x_meaning, .int v_what, .int x_spelled]))]) [0, 1] (by decide) rfl
  have hK9 := hK.sub (tys' := []) [] rfl
  exact W.vret hx hb hr (fun t ht hW => ⟨⟨(), rfl, trivial, wE.of ht hW hP9 hK9 hD9⟩, hS.F ht⟩) hS.2.2 dX7_fail_27

def zlX7_fail_v2 : List Cond := [.fieldLink RX7 33 "LeanHouse$Parser" "lexer" "LLeanHouse$Lexer;", .fieldLink RX7 86 "LeanHouse$Lexer" "trouble" "I", .fieldLink RX7 64 "LeanHouse$Lexer" "kind" "I"]
def zsX7_fail_v2 : List Cond := .code yX7_fail cX7_fail 2 none :: (zlX7_fail_v2 ++ (wsX70 ++ (wsX40)))
set_option maxHeartbeats 8000000 in
set_option maxRecDepth 100000 in
theorem c_X7_fail2 (l : Launch) (dC : Nat → ClassId) (dI : Nat → Nat → Nat) (sz : Nat) (h0 : Nat) (w_lexer : Nat) (p_op : Nat) (p_says : Nat) (p_places : Nat) (p_link : Nat) (p_home : Nat) (p_waiting : Nat) (p_waitingAt : Nat) (p_marks : Int32) (p_waits : Int32) (p_open : Int32) (p_cons : Int32) (p_types : Int32) (x_text : Nat) (x_pool : Nat) (x_scratch : Nat) (x_nameAt : Nat) (x_nameSize : Nat) (x_heads : Nat) (x_nexts : Nat) (x_names : Int32) (x_poolSize : Int32) (x_knownSize : Int32) (x_textSize : Int32) (x_here : Int32) (x_tokens : Int32) (x_kind : Int32) (x_start : Int32) (x_meaning : Int32) (x_spelled : Int32) (v_what : Int32) : Met l yX7_fail zsX7_fail_v2 ({ frames := 1, cells := 0, slots := 0, locals := 12 } : Room) (va_Pc [.ref h0, .int v_what] (wB (dC, dI) vwCl nestM [] [(h0, .inr (7, [.ref p_op, .ref p_says, .ref p_places, .ref p_link, .ref p_home, .int p_marks, .ref w_lexer, .ref p_waiting, .ref p_waitingAt, .int p_waits, .int p_open, .int p_cons, .int p_types])), (w_lexer, .inr (4, [.ref x_text, .ref x_pool, .ref x_scratch, .ref x_nameAt, .ref x_nameSize, .ref x_heads, .ref x_nexts, .int x_names, .int x_poolSize, .int x_knownSize, .int x_textSize, .int x_here, .int x_tokens, .int x_kind, .int x_start, .int x_meaning, .int 2, .int x_spelled]))] sz)) (va_Qv (fun (u : Unit) => True) (fun (u : Unit) (t : State) => wE (dC, dI) vwCl [] [(h0, .inr (7, [.ref p_op, .ref p_says, .ref p_places, .ref p_link, .ref p_home, .int p_marks, .ref w_lexer, .ref p_waiting, .ref p_waitingAt, .int p_waits, .int p_open, .int p_cons, .int p_types])), (w_lexer, .inr (4, [.ref x_text, .ref x_pool, .ref x_scratch, .ref x_nameAt, .ref x_nameSize, .ref x_heads, .ref x_nexts, .int x_names, .int x_poolSize, .int x_knownSize, .int x_textSize, .int x_here, .int x_tokens, .int 55, .int x_start, .int x_meaning, .int 2, .int x_spelled]))] (va_A [(h0, .inr (7, [.ref p_op, .ref p_says, .ref p_places, .ref p_link, .ref p_home, .int p_marks, .ref w_lexer, .ref p_waiting, .ref p_waitingAt, .int p_waits, .int p_open, .int p_cons, .int p_types])), (w_lexer, .inr (4, [.ref x_text, .ref x_pool, .ref x_scratch, .ref x_nameAt, .ref x_nameSize, .ref x_heads, .ref x_nexts, .int x_names, .int x_poolSize, .int x_knownSize, .int x_textSize, .int x_here, .int x_tokens, .int x_kind, .int x_start, .int x_meaning, .int 2, .int x_spelled]))] sz) t) (va_A [(h0, .inr (7, [.ref p_op, .ref p_says, .ref p_places, .ref p_link, .ref p_home, .int p_marks, .ref w_lexer, .ref p_waiting, .ref p_waitingAt, .int p_waits, .int p_open, .int p_cons, .int p_types])), (w_lexer, .inr (4, [.ref x_text, .ref x_pool, .ref x_scratch, .ref x_nameAt, .ref x_nameSize, .ref x_heads, .ref x_nexts, .int x_names, .int x_poolSize, .int x_knownSize, .int x_textSize, .int x_here, .int x_tokens, .int x_kind, .int x_start, .int x_meaning, .int 2, .int x_spelled]))] sz)) 0 0 (va_A [(h0, .inr (7, [.ref p_op, .ref p_says, .ref p_places, .ref p_link, .ref p_home, .int p_marks, .ref w_lexer, .ref p_waiting, .ref p_waitingAt, .int p_waits, .int p_open, .int p_cons, .int p_types])), (w_lexer, .inr (4, [.ref x_text, .ref x_pool, .ref x_scratch, .ref x_nameAt, .ref x_nameSize, .ref x_heads, .ref x_nexts, .int x_names, .int x_poolSize, .int x_knownSize, .int x_textSize, .int x_here, .int x_tokens, .int x_kind, .int x_start, .int x_meaning, .int 2, .int x_spelled]))] sz) := by
  refine Met.ofW (cc := cX7_fail) (maxL := 2) (ret := none) (by decide) rfl ?_
  intro p e s m args below meth c s₁ B hml hv
  obtain ⟨rfl, hsz, hP, hK, hD0, hN⟩ := hv
  have hx := B.exec
  have hb := B.bytes
  have hr := B.returns
  have hts := atoms_spec (ws := zsX7_fail_v2) B.pre
  have hown : s.vm.findClass RX7 = some m.cls := findClass_of_methodNamed B.named
  have hlocks := B.notSynchronized
  subst hsz
  have hD := hD0.self (sz := s.heap.size)
  generalize hAe : va_A [(h0, .inr (7, [.ref p_op, .ref p_says, .ref p_places, .ref p_link, .ref p_home, .int p_marks, .ref w_lexer, .ref p_waiting, .ref p_waitingAt, .int p_waits, .int p_open, .int p_cons, .int p_types])), (w_lexer, .inr (4, [.ref x_text, .ref x_pool, .ref x_scratch, .ref x_nameAt, .ref x_nameSize, .ref x_heads, .ref x_nexts, .int x_names, .int x_poolSize, .int x_knownSize, .int x_textSize, .int x_here, .int x_tokens, .int x_kind, .int x_start, .int x_meaning, .int 2, .int x_spelled]))] s.heap.size = A at hD ⊢
  have hA : ∀ q : Nat, s.heap.size ≤ q → A q := fun q h => by rw [← hAe]; exact Or.inr h
  have hS : va_S A s.heap s.heap [] := va_S.rf
  have hP : va_P (dC, dI) vwCl [(h0, .inr (7, [.ref p_op, .ref p_says, .ref p_places, .ref p_link, .ref p_home, .int p_marks, .ref w_lexer, .ref p_waiting, .ref p_waitingAt, .int p_waits, .int p_open, .int p_cons, .int p_types])), (w_lexer, .inr (4, [.ref x_text, .ref x_pool, .ref x_scratch, .ref x_nameAt, .ref x_nameSize, .ref x_heads, .ref x_nexts, .int x_names, .int x_poolSize, .int x_knownSize, .int x_textSize, .int x_here, .int x_tokens, .int x_kind, .int x_start, .int x_meaning, .int 2, .int x_spelled]))] s.heap := hP
  have hl := lv_entry ([.ref h0, .int v_what]) (n := 2) (Nat.le_of_ble_eq_true rfl)
  rw [lg_entry_eq]
  generalize (lg_sl ([.ref h0, .int v_what]) ++ List.replicate (2 - (lg_sl ([.ref h0, .int v_what])).length) Slot.unset).toArray = ls at hl ⊢
  have hl : lv_has ls 2 [(0, .ref h0), (1, .int v_what)] := hl
  refine lv_aload_n hx hb dX7_fail_0 rfl (lv_at hl 0 rfl) ?_
  refine va_get (D := (dC, dI)) (ci := 7) (v := .ref w_lexer) (C := RX7) (T := TX7) (N := 13) hx hb hts (fun _ h9 => List.mem_cons_of_mem _ (List.mem_append_right _ (List.mem_append_left _ h9))) hown hK hP 0 rfl rfl 6 (by decide) (hts _ (List.mem_cons_of_mem _ (List.mem_append_left _ (List.mem_of_getElem? (i := 0) rfl)))) (fun _ h9 => h9) rfl dX7_fail_1 ?_
  refine va_get (D := (dC, dI)) (ci := 4) (v := .int 2) (C := RX4) (T := TX4) (N := 18) hx hb hts (fun _ h9 => List.mem_cons_of_mem _ (List.mem_append_right _ (List.mem_append_right _ h9))) hown hK hP 1 rfl rfl 16 (by decide) (hts _ (List.mem_cons_of_mem _ (List.mem_append_left _ (List.mem_of_getElem? (i := 1) rfl)))) (fun _ h9 => h9) rfl dX7_fail_4 ?_
  refine lv_if_ne (tgt := 18) hx hb dX7_fail_7 (by decide) (fun c_1 => ?_) (fun c_1 => absurd c_1 (by decide))
  refine lv_aload_n hx hb dX7_fail_18 rfl (lv_at hl 0 rfl) ?_
  refine va_get (D := (dC, dI)) (ci := 7) (v := .ref w_lexer) (C := RX7) (T := TX7) (N := 13) hx hb hts (fun _ h9 => List.mem_cons_of_mem _ (List.mem_append_right _ (List.mem_append_left _ h9))) hown hK hP 0 rfl rfl 6 (by decide) (hts _ (List.mem_cons_of_mem _ (List.mem_append_left _ (List.mem_of_getElem? (i := 0) rfl)))) (fun _ h9 => h9) rfl dX7_fail_19 ?_
  refine lv_bipush (v := 55) hx hb dX7_fail_22 (by decide) ?_
  refine va_put (D := (dC, dI)) (ci := 4) (v := .int 55) (ty := .int) (C := RX4) (T := TX4) (N := 18) hx hb hts (fun _ h9 => List.mem_cons_of_mem _ (List.mem_append_right _ (List.mem_append_right _ h9))) tyX4 tyX4_ok nmX4 hown hK hP hD hS 1 rfl rfl 13 (by decide) (hts _ (List.mem_cons_of_mem _ (List.mem_append_left _ (List.mem_of_getElem? (i := 2) rfl)))) (fun _ h9 => h9) rfl (by decide +kernel) rfl rfl (Nat.le_of_ble_eq_true rfl) dX7_fail_24 ?_
  clear hP hD hS
  intro H locs hP hD hS
  replace hP : va_P (dC, dI) vwCl [(h0, .inr (7, [.ref p_op, .ref p_says, .ref p_places, .ref p_link, .ref p_home, .int p_marks, .ref w_lexer, .ref p_waiting, .ref p_waitingAt, .int p_waits, .int p_open, .int p_cons, .int p_types])), (w_lexer, .inr (4, [.ref x_text, .ref x_pool, .ref x_scratch, .ref x_nameAt, .ref x_nameSize, .ref x_heads, .ref x_nexts, .int x_names, .int x_poolSize, .int x_knownSize, .int x_textSize, .int x_here, .int x_tokens, .int 55, .int x_start, .int x_meaning, .int 2, .int x_spelled]))] H := hP
  replace hD : va_D A [(h0, .inr (7, [.ref p_op, .ref p_says, .ref p_places, .ref p_link, .ref p_home, .int p_marks, .ref w_lexer, .ref p_waiting, .ref p_waitingAt, .int p_waits, .int p_open, .int p_cons, .int p_types])), (w_lexer, .inr (4, [.ref x_text, .ref x_pool, .ref x_scratch, .ref x_nameAt, .ref x_nameSize, .ref x_heads, .ref x_nexts, .int x_names, .int x_poolSize, .int x_knownSize, .int x_textSize, .int x_here, .int x_tokens, .int 55, .int x_start, .int x_meaning, .int 2, .int x_spelled]))] := hD
  have hP9 := hP.sub (ws' := [(h0, .inr (7, [.ref p_op, .ref p_says, .ref p_places, .ref p_link, .ref p_home, .int p_marks, .ref w_lexer, .ref p_waiting, .ref p_waitingAt, .int p_waits, .int p_open, .int p_cons, .int p_types])), (w_lexer, .inr (4, [.ref x_text, .ref x_pool, .ref x_scratch, .ref x_nameAt, .ref x_nameSize, .ref x_heads, .ref x_nexts, .int x_names, .int x_poolSize, .int x_knownSize, .int x_textSize, .int x_here, .int x_tokens, .int 55, .int x_start, .int x_meaning, .int 2, .int x_spelled]))]) [0, 1] rfl
  have hD9 := hD.sub (ws' := [(h0, .inr (7, [.ref p_op, .ref p_says, .ref p_places, .ref p_link, .ref p_home, .int p_marks, .ref w_lexer, .ref p_waiting, .ref p_waitingAt, .int p_waits, .int p_open, .int p_cons, .int p_types])), (w_lexer, .inr (4, [.ref x_text, .ref x_pool, .ref x_scratch, .ref x_nameAt, .ref x_nameSize, .ref x_heads, .ref x_nexts, .int x_names, .int x_poolSize, .int x_knownSize, .int x_textSize, .int x_here, .int x_tokens, .int 55, .int x_start, .int x_meaning, .int 2, .int x_spelled]))]) [0, 1] (by decide) rfl
  have hK9 := hK.sub (tys' := []) [] rfl
  exact W.vret hx hb hr (fun t ht hW => ⟨⟨(), rfl, trivial, wE.of ht hW hP9 hK9 hD9⟩, hS.F ht⟩) hS.2.2 dX7_fail_27

theorem dX7_add_0 : decode cX7_add 0 = .ok (.aload_n 0, 1) := by decide +kernel
theorem dX7_add_1 : decode cX7_add 1 = .ok (.getfield 37, 3) := by decide +kernel
theorem dX7_add_4 : decode cX7_add 4 = .ok (.istore 4, 2) := by decide +kernel
theorem dX7_add_6 : decode cX7_add 6 = .ok (.iload 4, 2) := by decide +kernel
theorem dX7_add_8 : decode cX7_add 8 = .ok (.sipush 10240, 3) := by decide +kernel
theorem dX7_add_11 : decode cX7_add 11 = .ok (.if_icmp .lt 6, 3) := by decide +kernel
theorem dX7_add_17 : decode cX7_add 17 = .ok (.aload_n 0, 1) := by decide +kernel
theorem dX7_add_18 : decode cX7_add 18 = .ok (.getfield 11, 3) := by decide +kernel
theorem dX7_add_21 : decode cX7_add 21 = .ok (.iload 4, 2) := by decide +kernel
theorem dX7_add_23 : decode cX7_add 23 = .ok (.iload_n 1, 1) := by decide +kernel
theorem dX7_add_24 : decode cX7_add 24 = .ok (.invokestatic 89, 3) := by decide +kernel
theorem dX7_add_27 : decode cX7_add 27 = .ok (.aload_n 0, 1) := by decide +kernel
theorem dX7_add_28 : decode cX7_add 28 = .ok (.getfield 15, 3) := by decide +kernel
theorem dX7_add_31 : decode cX7_add 31 = .ok (.iload 4, 2) := by decide +kernel
theorem dX7_add_33 : decode cX7_add 33 = .ok (.iload_n 2, 1) := by decide +kernel
theorem dX7_add_34 : decode cX7_add 34 = .ok (.invokestatic 89, 3) := by decide +kernel
theorem dX7_add_37 : decode cX7_add 37 = .ok (.aload_n 0, 1) := by decide +kernel
theorem dX7_add_38 : decode cX7_add 38 = .ok (.getfield 18, 3) := by decide +kernel
theorem dX7_add_41 : decode cX7_add 41 = .ok (.iload 4, 2) := by decide +kernel
theorem dX7_add_43 : decode cX7_add 43 = .ok (.iload_n 3, 1) := by decide +kernel
theorem dX7_add_44 : decode cX7_add 44 = .ok (.invokestatic 89, 3) := by decide +kernel
theorem dX7_add_47 : decode cX7_add 47 = .ok (.aload_n 0, 1) := by decide +kernel
theorem dX7_add_48 : decode cX7_add 48 = .ok (.getfield 21, 3) := by decide +kernel
theorem dX7_add_51 : decode cX7_add 51 = .ok (.iload 4, 2) := by decide +kernel
theorem dX7_add_53 : decode cX7_add 53 = .ok (.iconst (-1), 1) := by decide +kernel
theorem dX7_add_54 : decode cX7_add 54 = .ok (.invokestatic 89, 3) := by decide +kernel
theorem dX7_add_57 : decode cX7_add 57 = .ok (.aload_n 0, 1) := by decide +kernel
theorem dX7_add_58 : decode cX7_add 58 = .ok (.getfield 24, 3) := by decide +kernel
theorem dX7_add_61 : decode cX7_add 61 = .ok (.iload 4, 2) := by decide +kernel
theorem dX7_add_63 : decode cX7_add 63 = .ok (.iconst (-1), 1) := by decide +kernel
theorem dX7_add_64 : decode cX7_add 64 = .ok (.invokestatic 89, 3) := by decide +kernel
theorem dX7_add_67 : decode cX7_add 67 = .ok (.aload_n 0, 1) := by decide +kernel
theorem dX7_add_68 : decode cX7_add 68 = .ok (.dup, 1) := by decide +kernel
theorem dX7_add_69 : decode cX7_add 69 = .ok (.getfield 37, 3) := by decide +kernel
theorem dX7_add_72 : decode cX7_add 72 = .ok (.iconst 1, 1) := by decide +kernel
theorem dX7_add_73 : decode cX7_add 73 = .ok (.iadd, 1) := by decide +kernel
theorem dX7_add_74 : decode cX7_add 74 = .ok (.putfield 37, 3) := by decide +kernel
theorem dX7_add_77 : decode cX7_add 77 = .ok (.iload 4, 2) := by decide +kernel
theorem dX7_add_79 : decode cX7_add 79 = .ok (.ireturn, 1) := by decide +kernel
def zlX7_add : List Cond := [.fieldLink RX7 37 "LeanHouse$Parser" "marks" "I", .fieldLink RX7 11 "LeanHouse$Parser" "op" "[I", .code yX12_put cX12_put 3 none, .initialized RX12, .static yX12_put, .fieldLink RX7 15 "LeanHouse$Parser" "says" "[I", .fieldLink RX7 18 "LeanHouse$Parser" "places" "[I", .fieldLink RX7 21 "LeanHouse$Parser" "link" "[I", .fieldLink RX7 24 "LeanHouse$Parser" "home" "[I"]
def zsX7_add : List Cond := .code yX7_add cX7_add 5 (some .int) :: (zlX7_add ++ (wsX70))
set_option maxRecDepth 20000 in
theorem gzX7_add_X12_put_89 : GoodIn zsX7_add zsX12_put := (goodIn_r _ [3] (by decide +kernel) (by decide +kernel))
set_option maxHeartbeats 8000000 in
set_option maxRecDepth 100000 in
theorem c_X7_add (l : Launch) (dC : Nat → ClassId) (dI : Nat → Nat → Nat) (sz : Nat) (h0 : Nat) (w_lexer : Nat) (p_op : Nat) (p_says : Nat) (p_places : Nat) (p_link : Nat) (p_home : Nat) (p_waiting : Nat) (p_waitingAt : Nat) (p_waits : Int32) (p_open : Int32) (p_cons : Int32) (p_types : Int32) (d_op : ClassId) (f9op : Nat → Int32) (d_says : ClassId) (f9says : Nat → Int32) (d_places : ClassId) (f9places : Nat → Int32) (d_link : ClassId) (f9link : Nat → Int32) (d_home : ClassId) (f9home : Nat → Int32) (v_a : Int32) (v_b : Int32) (v_c : Int32) (tt : Nat) (ht : tt < 10240) : Met l yX7_add zsX7_add ({ frames := 2, cells := 0, slots := 0, locals := 34 } : Room) (va_Pc [.ref h0, .int v_a, .int v_b, .int v_c] (wB (dC, dI) vwCl nestM [(d_op, .int), (d_says, .int), (d_places, .int), (d_link, .int), (d_home, .int)] [(h0, .inr (7, [.ref p_op, .ref p_says, .ref p_places, .ref p_link, .ref p_home, .int (nI tt), .ref w_lexer, .ref p_waiting, .ref p_waitingAt, .int p_waits, .int p_open, .int p_cons, .int p_types])), (p_op, .inl (d_op, 10240, .inl f9op)), (p_says, .inl (d_says, 10240, .inl f9says)), (p_places, .inl (d_places, 10240, .inl f9places)), (p_link, .inl (d_link, 10240, .inl f9link)), (p_home, .inl (d_home, 10240, .inl f9home))] sz)) (va_Qi (fun (r : Int32) (u : (Nat → Int32) × (Nat → Int32) × (Nat → Int32) × (Nat → Int32) × (Nat → Int32)) => True) (fun (u : (Nat → Int32) × (Nat → Int32) × (Nat → Int32) × (Nat → Int32) × (Nat → Int32)) (t : State) => wE (dC, dI) vwCl [(d_op, .int), (d_says, .int), (d_places, .int), (d_link, .int), (d_home, .int)] [(h0, .inr (7, [.ref p_op, .ref p_says, .ref p_places, .ref p_link, .ref p_home, .int (nI (tt + 1)), .ref w_lexer, .ref p_waiting, .ref p_waitingAt, .int p_waits, .int p_open, .int p_cons, .int p_types])), (p_op, .inl (d_op, 10240, .inl u.1)), (p_says, .inl (d_says, 10240, .inl u.2.1)), (p_places, .inl (d_places, 10240, .inl u.2.2.1)), (p_link, .inl (d_link, 10240, .inl u.2.2.2.1)), (p_home, .inl (d_home, 10240, .inl u.2.2.2.2))] (va_A [(h0, .inr (7, [.ref p_op, .ref p_says, .ref p_places, .ref p_link, .ref p_home, .int (nI tt), .ref w_lexer, .ref p_waiting, .ref p_waitingAt, .int p_waits, .int p_open, .int p_cons, .int p_types])), (p_op, .inl (d_op, 10240, .inl f9op)), (p_says, .inl (d_says, 10240, .inl f9says)), (p_places, .inl (d_places, 10240, .inl f9places)), (p_link, .inl (d_link, 10240, .inl f9link)), (p_home, .inl (d_home, 10240, .inl f9home))] sz) t) (va_A [(h0, .inr (7, [.ref p_op, .ref p_says, .ref p_places, .ref p_link, .ref p_home, .int (nI tt), .ref w_lexer, .ref p_waiting, .ref p_waitingAt, .int p_waits, .int p_open, .int p_cons, .int p_types])), (p_op, .inl (d_op, 10240, .inl f9op)), (p_says, .inl (d_says, 10240, .inl f9says)), (p_places, .inl (d_places, 10240, .inl f9places)), (p_link, .inl (d_link, 10240, .inl f9link)), (p_home, .inl (d_home, 10240, .inl f9home))] sz)) 0 0 (va_A [(h0, .inr (7, [.ref p_op, .ref p_says, .ref p_places, .ref p_link, .ref p_home, .int (nI tt), .ref w_lexer, .ref p_waiting, .ref p_waitingAt, .int p_waits, .int p_open, .int p_cons, .int p_types])), (p_op, .inl (d_op, 10240, .inl f9op)), (p_says, .inl (d_says, 10240, .inl f9says)), (p_places, .inl (d_places, 10240, .inl f9places)), (p_link, .inl (d_link, 10240, .inl f9link)), (p_home, .inl (d_home, 10240, .inl f9home))] sz) := by
  refine Met.ofW (cc := cX7_add) (maxL := 5) (ret := (some .int)) (by decide) rfl ?_
  intro p e s m args below meth c s₁ B hml hv
  obtain ⟨rfl, hsz, hP, hK, hD0, hN⟩ := hv
  have hx := B.exec
  have hb := B.bytes
  have hr := B.returns
  have hts := atoms_spec (ws := zsX7_add) B.pre
  have hown : s.vm.findClass RX7 = some m.cls := findClass_of_methodNamed B.named
  have hlocks := B.notSynchronized
  subst hsz
  have hD := hD0.self (sz := s.heap.size)
  generalize hAe : va_A [(h0, .inr (7, [.ref p_op, .ref p_says, .ref p_places, .ref p_link, .ref p_home, .int (nI tt), .ref w_lexer, .ref p_waiting, .ref p_waitingAt, .int p_waits, .int p_open, .int p_cons, .int p_types])), (p_op, .inl (d_op, 10240, .inl f9op)), (p_says, .inl (d_says, 10240, .inl f9says)), (p_places, .inl (d_places, 10240, .inl f9places)), (p_link, .inl (d_link, 10240, .inl f9link)), (p_home, .inl (d_home, 10240, .inl f9home))] s.heap.size = A at hD ⊢
  have hA : ∀ q : Nat, s.heap.size ≤ q → A q := fun q h => by rw [← hAe]; exact Or.inr h
  have hS : va_S A s.heap s.heap [] := va_S.rf
  have hP : va_P (dC, dI) vwCl [(h0, .inr (7, [.ref p_op, .ref p_says, .ref p_places, .ref p_link, .ref p_home, .int (nI tt), .ref w_lexer, .ref p_waiting, .ref p_waitingAt, .int p_waits, .int p_open, .int p_cons, .int p_types])), (p_op, .inl (d_op, 10240, .inl f9op)), (p_says, .inl (d_says, 10240, .inl f9says)), (p_places, .inl (d_places, 10240, .inl f9places)), (p_link, .inl (d_link, 10240, .inl f9link)), (p_home, .inl (d_home, 10240, .inl f9home))] s.heap := hP
  have hl := lv_entry ([.ref h0, .int v_a, .int v_b, .int v_c]) (n := 5) (Nat.le_of_ble_eq_true rfl)
  rw [lg_entry_eq]
  generalize (lg_sl ([.ref h0, .int v_a, .int v_b, .int v_c]) ++ List.replicate (5 - (lg_sl ([.ref h0, .int v_a, .int v_b, .int v_c])).length) Slot.unset).toArray = ls at hl ⊢
  have hl : lv_has ls 5 [(0, .ref h0), (1, .int v_a), (2, .int v_b), (3, .int v_c)] := hl
  refine lv_aload_n hx hb dX7_add_0 rfl (lv_at hl 0 rfl) ?_
  refine va_get (D := (dC, dI)) (ci := 7) (v := .int (nI tt)) (C := RX7) (T := TX7) (N := 13) hx hb hts (fun _ h9 => List.mem_cons_of_mem _ (List.mem_append_right _ h9)) hown hK hP 0 rfl rfl 5 (by decide) (hts _ (List.mem_cons_of_mem _ (List.mem_append_left _ (List.mem_of_getElem? (i := 0) rfl)))) (fun _ h9 => h9) rfl dX7_add_1 ?_
  refine lv_istore (lv' := [(4, .int (nI tt)), (0, .ref h0), (1, .int v_a), (2, .int v_b), (3, .int v_c)]) hx hb dX7_add_4 hl (by decide) rfl ?_
  clear hl
  intro ls hl
  refine lv_iload hx hb dX7_add_6 (lv_at hl 0 rfl) ?_
  refine lv_sipush (v := 10240) hx hb dX7_add_8 (by decide) ?_
  refine lv_icmp_lt (tgt := 17) hx hb dX7_add_11 (by decide) (fun c_1 => ?_) (fun c_1 => absurd (nI_lt ht (by decide)) c_1)
  refine lv_aload_n hx hb dX7_add_17 rfl (lv_at hl 1 rfl) ?_
  refine va_get (D := (dC, dI)) (ci := 7) (v := .ref p_op) (C := RX7) (T := TX7) (N := 13) hx hb hts (fun _ h9 => List.mem_cons_of_mem _ (List.mem_append_right _ h9)) hown hK hP 0 rfl rfl 0 (by decide) (hts _ (List.mem_cons_of_mem _ (List.mem_append_left _ (List.mem_of_getElem? (i := 1) rfl)))) (fun _ h9 => h9) rfl dX7_add_18 ?_
  refine lv_iload hx hb dX7_add_21 (lv_at hl 0 rfl) ?_
  refine lv_iload_n hx hb dX7_add_23 rfl (lv_at hl 2 rfl) ?_
  refine aft_v (wr := [(h0, .inr (7, [.ref p_op, .ref p_says, .ref p_places, .ref p_link, .ref p_home, .int (nI tt), .ref w_lexer, .ref p_waiting, .ref p_waitingAt, .int p_waits, .int p_open, .int p_cons, .int p_types])), (p_says, .inl (d_says, 10240, .inl f9says)), (p_places, .inl (d_places, 10240, .inl f9places)), (p_link, .inl (d_link, 10240, .inl f9link)), (p_home, .inl (d_home, 10240, .inl f9home))]) (va_runSN (As := [.ref p_op, .int (nI tt), .int v_a]) (rest := []) ⟨hx, hb, hml, hown, hts⟩ (c_X12_put l dC dI s.heap.size p_op d_op 10240 f9op (nI tt) v_a (by first | assumption | decide | omega)) ⟨va_cnB 3 hts gzX7_add_X12_put_89 rfl rfl rfl (hN.at 18 rfl) (hts _ (List.mem_cons_of_mem _ (List.mem_append_left _ (List.mem_of_getElem? (i := 3) rfl)))) (by decide +kernel) ⟨Nat.le_of_ble_eq_true rfl, Nat.le_of_ble_eq_true rfl⟩, (hts _ (List.mem_cons_of_mem _ (List.mem_append_left _ (List.mem_of_getElem? (i := 4) rfl)))), trivial⟩ (wB.preS (hP.sub (ws' := [(p_op, .inl (d_op, 10240, .inl f9op))]) [1] rfl) (hK.sub (tys' := [(d_op, .int)]) [0] rfl) (hD.sub (ws' := [(p_op, .inl (d_op, 10240, .inl f9op))]) [1] (by decide) rfl) hN) rfl rfl hl.1 rfl (lv_room (Nat.le_of_ble_eq_true rfl)) dX7_add_24 ⟨Nat.le_of_ble_eq_true rfl, Nat.le_of_ble_eq_true rfl⟩) hP hD hS hA [1] [0, 2, 3, 4, 5] rfl rfl (by decide) (by decide) ?_
  clear hP hD hS
  intro u_2 H locs w_4 hK1 hP hD hS
  obtain ⟨g_5, rfl⟩ : ∃ z, z = u_2 := ⟨_, rfl⟩
  replace hP : va_P (dC, dI) vwCl [(h0, .inr (7, [.ref p_op, .ref p_says, .ref p_places, .ref p_link, .ref p_home, .int (nI tt), .ref w_lexer, .ref p_waiting, .ref p_waitingAt, .int p_waits, .int p_open, .int p_cons, .int p_types])), (p_says, .inl (d_says, 10240, .inl f9says)), (p_places, .inl (d_places, 10240, .inl f9places)), (p_link, .inl (d_link, 10240, .inl f9link)), (p_home, .inl (d_home, 10240, .inl f9home)), (p_op, .inl (d_op, 10240, .inl g_5))] H := hP
  replace hD : va_D A [(h0, .inr (7, [.ref p_op, .ref p_says, .ref p_places, .ref p_link, .ref p_home, .int (nI tt), .ref w_lexer, .ref p_waiting, .ref p_waitingAt, .int p_waits, .int p_open, .int p_cons, .int p_types])), (p_says, .inl (d_says, 10240, .inl f9says)), (p_places, .inl (d_places, 10240, .inl f9places)), (p_link, .inl (d_link, 10240, .inl f9link)), (p_home, .inl (d_home, 10240, .inl f9home)), (p_op, .inl (d_op, 10240, .inl g_5))] := hD
  clear hK1
  try dsimp only at w_4
  refine lv_aload_n hx hb dX7_add_27 rfl (lv_at hl 1 rfl) ?_
  refine va_get (D := (dC, dI)) (ci := 7) (v := .ref p_says) (C := RX7) (T := TX7) (N := 13) hx hb hts (fun _ h9 => List.mem_cons_of_mem _ (List.mem_append_right _ h9)) hown hK hP 0 rfl rfl 1 (by decide) (hts _ (List.mem_cons_of_mem _ (List.mem_append_left _ (List.mem_of_getElem? (i := 5) rfl)))) (fun _ h9 => h9) rfl dX7_add_28 ?_
  refine lv_iload hx hb dX7_add_31 (lv_at hl 0 rfl) ?_
  refine lv_iload_n hx hb dX7_add_33 rfl (lv_at hl 3 rfl) ?_
  refine aft_v (wr := [(h0, .inr (7, [.ref p_op, .ref p_says, .ref p_places, .ref p_link, .ref p_home, .int (nI tt), .ref w_lexer, .ref p_waiting, .ref p_waitingAt, .int p_waits, .int p_open, .int p_cons, .int p_types])), (p_places, .inl (d_places, 10240, .inl f9places)), (p_link, .inl (d_link, 10240, .inl f9link)), (p_home, .inl (d_home, 10240, .inl f9home)), (p_op, .inl (d_op, 10240, .inl g_5))]) (va_runSN (As := [.ref p_says, .int (nI tt), .int v_b]) (rest := []) ⟨hx, hb, hml, hown, hts⟩ (c_X12_put l dC dI H.size p_says d_says 10240 f9says (nI tt) v_b (by first | assumption | decide | omega)) ⟨va_cnB 3 hts gzX7_add_X12_put_89 rfl rfl rfl (hN.at 18 rfl) (hts _ (List.mem_cons_of_mem _ (List.mem_append_left _ (List.mem_of_getElem? (i := 3) rfl)))) (by decide +kernel) ⟨Nat.le_of_ble_eq_true rfl, Nat.le_of_ble_eq_true rfl⟩, (hts _ (List.mem_cons_of_mem _ (List.mem_append_left _ (List.mem_of_getElem? (i := 4) rfl)))), trivial⟩ (wB.preS (hP.sub (ws' := [(p_says, .inl (d_says, 10240, .inl f9says))]) [1] rfl) (hK.sub (tys' := [(d_says, .int)]) [1] rfl) (hD.sub (ws' := [(p_says, .inl (d_says, 10240, .inl f9says))]) [1] (by decide) rfl) hN) rfl rfl hl.1 rfl (lv_room (Nat.le_of_ble_eq_true rfl)) dX7_add_34 ⟨Nat.le_of_ble_eq_true rfl, Nat.le_of_ble_eq_true rfl⟩) hP hD hS hA [1] [0, 2, 3, 4, 5] rfl rfl (by decide) (by decide) ?_
  clear hP hD hS
  intro u_6 H locs w_8 hK1 hP hD hS
  obtain ⟨g_9, rfl⟩ : ∃ z, z = u_6 := ⟨_, rfl⟩
  replace hP : va_P (dC, dI) vwCl [(h0, .inr (7, [.ref p_op, .ref p_says, .ref p_places, .ref p_link, .ref p_home, .int (nI tt), .ref w_lexer, .ref p_waiting, .ref p_waitingAt, .int p_waits, .int p_open, .int p_cons, .int p_types])), (p_places, .inl (d_places, 10240, .inl f9places)), (p_link, .inl (d_link, 10240, .inl f9link)), (p_home, .inl (d_home, 10240, .inl f9home)), (p_op, .inl (d_op, 10240, .inl g_5)), (p_says, .inl (d_says, 10240, .inl g_9))] H := hP
  replace hD : va_D A [(h0, .inr (7, [.ref p_op, .ref p_says, .ref p_places, .ref p_link, .ref p_home, .int (nI tt), .ref w_lexer, .ref p_waiting, .ref p_waitingAt, .int p_waits, .int p_open, .int p_cons, .int p_types])), (p_places, .inl (d_places, 10240, .inl f9places)), (p_link, .inl (d_link, 10240, .inl f9link)), (p_home, .inl (d_home, 10240, .inl f9home)), (p_op, .inl (d_op, 10240, .inl g_5)), (p_says, .inl (d_says, 10240, .inl g_9))] := hD
  clear hK1
  try dsimp only at w_8
  refine lv_aload_n hx hb dX7_add_37 rfl (lv_at hl 1 rfl) ?_
  refine va_get (D := (dC, dI)) (ci := 7) (v := .ref p_places) (C := RX7) (T := TX7) (N := 13) hx hb hts (fun _ h9 => List.mem_cons_of_mem _ (List.mem_append_right _ h9)) hown hK hP 0 rfl rfl 2 (by decide) (hts _ (List.mem_cons_of_mem _ (List.mem_append_left _ (List.mem_of_getElem? (i := 6) rfl)))) (fun _ h9 => h9) rfl dX7_add_38 ?_
  refine lv_iload hx hb dX7_add_41 (lv_at hl 0 rfl) ?_
  refine lv_iload_n hx hb dX7_add_43 rfl (lv_at hl 4 rfl) ?_
  refine aft_v (wr := [(h0, .inr (7, [.ref p_op, .ref p_says, .ref p_places, .ref p_link, .ref p_home, .int (nI tt), .ref w_lexer, .ref p_waiting, .ref p_waitingAt, .int p_waits, .int p_open, .int p_cons, .int p_types])), (p_link, .inl (d_link, 10240, .inl f9link)), (p_home, .inl (d_home, 10240, .inl f9home)), (p_op, .inl (d_op, 10240, .inl g_5)), (p_says, .inl (d_says, 10240, .inl g_9))]) (va_runSN (As := [.ref p_places, .int (nI tt), .int v_c]) (rest := []) ⟨hx, hb, hml, hown, hts⟩ (c_X12_put l dC dI H.size p_places d_places 10240 f9places (nI tt) v_c (by first | assumption | decide | omega)) ⟨va_cnB 3 hts gzX7_add_X12_put_89 rfl rfl rfl (hN.at 18 rfl) (hts _ (List.mem_cons_of_mem _ (List.mem_append_left _ (List.mem_of_getElem? (i := 3) rfl)))) (by decide +kernel) ⟨Nat.le_of_ble_eq_true rfl, Nat.le_of_ble_eq_true rfl⟩, (hts _ (List.mem_cons_of_mem _ (List.mem_append_left _ (List.mem_of_getElem? (i := 4) rfl)))), trivial⟩ (wB.preS (hP.sub (ws' := [(p_places, .inl (d_places, 10240, .inl f9places))]) [1] rfl) (hK.sub (tys' := [(d_places, .int)]) [2] rfl) (hD.sub (ws' := [(p_places, .inl (d_places, 10240, .inl f9places))]) [1] (by decide) rfl) hN) rfl rfl hl.1 rfl (lv_room (Nat.le_of_ble_eq_true rfl)) dX7_add_44 ⟨Nat.le_of_ble_eq_true rfl, Nat.le_of_ble_eq_true rfl⟩) hP hD hS hA [1] [0, 2, 3, 4, 5] rfl rfl (by decide) (by decide) ?_
  clear hP hD hS
  intro u_10 H locs w_12 hK1 hP hD hS
  obtain ⟨g_13, rfl⟩ : ∃ z, z = u_10 := ⟨_, rfl⟩
  replace hP : va_P (dC, dI) vwCl [(h0, .inr (7, [.ref p_op, .ref p_says, .ref p_places, .ref p_link, .ref p_home, .int (nI tt), .ref w_lexer, .ref p_waiting, .ref p_waitingAt, .int p_waits, .int p_open, .int p_cons, .int p_types])), (p_link, .inl (d_link, 10240, .inl f9link)), (p_home, .inl (d_home, 10240, .inl f9home)), (p_op, .inl (d_op, 10240, .inl g_5)), (p_says, .inl (d_says, 10240, .inl g_9)), (p_places, .inl (d_places, 10240, .inl g_13))] H := hP
  replace hD : va_D A [(h0, .inr (7, [.ref p_op, .ref p_says, .ref p_places, .ref p_link, .ref p_home, .int (nI tt), .ref w_lexer, .ref p_waiting, .ref p_waitingAt, .int p_waits, .int p_open, .int p_cons, .int p_types])), (p_link, .inl (d_link, 10240, .inl f9link)), (p_home, .inl (d_home, 10240, .inl f9home)), (p_op, .inl (d_op, 10240, .inl g_5)), (p_says, .inl (d_says, 10240, .inl g_9)), (p_places, .inl (d_places, 10240, .inl g_13))] := hD
  clear hK1
  try dsimp only at w_12
  refine lv_aload_n hx hb dX7_add_47 rfl (lv_at hl 1 rfl) ?_
  refine va_get (D := (dC, dI)) (ci := 7) (v := .ref p_link) (C := RX7) (T := TX7) (N := 13) hx hb hts (fun _ h9 => List.mem_cons_of_mem _ (List.mem_append_right _ h9)) hown hK hP 0 rfl rfl 3 (by decide) (hts _ (List.mem_cons_of_mem _ (List.mem_append_left _ (List.mem_of_getElem? (i := 7) rfl)))) (fun _ h9 => h9) rfl dX7_add_48 ?_
  refine lv_iload hx hb dX7_add_51 (lv_at hl 0 rfl) ?_
  refine lv_iconst (v := (-1)) hx hb dX7_add_53 (by decide) ?_
  refine aft_v (wr := [(h0, .inr (7, [.ref p_op, .ref p_says, .ref p_places, .ref p_link, .ref p_home, .int (nI tt), .ref w_lexer, .ref p_waiting, .ref p_waitingAt, .int p_waits, .int p_open, .int p_cons, .int p_types])), (p_home, .inl (d_home, 10240, .inl f9home)), (p_op, .inl (d_op, 10240, .inl g_5)), (p_says, .inl (d_says, 10240, .inl g_9)), (p_places, .inl (d_places, 10240, .inl g_13))]) (va_runSN (As := [.ref p_link, .int (nI tt), .int (-1)]) (rest := []) ⟨hx, hb, hml, hown, hts⟩ (c_X12_put l dC dI H.size p_link d_link 10240 f9link (nI tt) (-1) (by first | assumption | decide | omega)) ⟨va_cnB 3 hts gzX7_add_X12_put_89 rfl rfl rfl (hN.at 18 rfl) (hts _ (List.mem_cons_of_mem _ (List.mem_append_left _ (List.mem_of_getElem? (i := 3) rfl)))) (by decide +kernel) ⟨Nat.le_of_ble_eq_true rfl, Nat.le_of_ble_eq_true rfl⟩, (hts _ (List.mem_cons_of_mem _ (List.mem_append_left _ (List.mem_of_getElem? (i := 4) rfl)))), trivial⟩ (wB.preS (hP.sub (ws' := [(p_link, .inl (d_link, 10240, .inl f9link))]) [1] rfl) (hK.sub (tys' := [(d_link, .int)]) [3] rfl) (hD.sub (ws' := [(p_link, .inl (d_link, 10240, .inl f9link))]) [1] (by decide) rfl) hN) rfl rfl hl.1 rfl (lv_room (Nat.le_of_ble_eq_true rfl)) dX7_add_54 ⟨Nat.le_of_ble_eq_true rfl, Nat.le_of_ble_eq_true rfl⟩) hP hD hS hA [1] [0, 2, 3, 4, 5] rfl rfl (by decide) (by decide) ?_
  clear hP hD hS
  intro u_14 H locs w_16 hK1 hP hD hS
  obtain ⟨g_17, rfl⟩ : ∃ z, z = u_14 := ⟨_, rfl⟩
  replace hP : va_P (dC, dI) vwCl [(h0, .inr (7, [.ref p_op, .ref p_says, .ref p_places, .ref p_link, .ref p_home, .int (nI tt), .ref w_lexer, .ref p_waiting, .ref p_waitingAt, .int p_waits, .int p_open, .int p_cons, .int p_types])), (p_home, .inl (d_home, 10240, .inl f9home)), (p_op, .inl (d_op, 10240, .inl g_5)), (p_says, .inl (d_says, 10240, .inl g_9)), (p_places, .inl (d_places, 10240, .inl g_13)), (p_link, .inl (d_link, 10240, .inl g_17))] H := hP
  replace hD : va_D A [(h0, .inr (7, [.ref p_op, .ref p_says, .ref p_places, .ref p_link, .ref p_home, .int (nI tt), .ref w_lexer, .ref p_waiting, .ref p_waitingAt, .int p_waits, .int p_open, .int p_cons, .int p_types])), (p_home, .inl (d_home, 10240, .inl f9home)), (p_op, .inl (d_op, 10240, .inl g_5)), (p_says, .inl (d_says, 10240, .inl g_9)), (p_places, .inl (d_places, 10240, .inl g_13)), (p_link, .inl (d_link, 10240, .inl g_17))] := hD
  clear hK1
  try dsimp only at w_16
  refine lv_aload_n hx hb dX7_add_57 rfl (lv_at hl 1 rfl) ?_
  refine va_get (D := (dC, dI)) (ci := 7) (v := .ref p_home) (C := RX7) (T := TX7) (N := 13) hx hb hts (fun _ h9 => List.mem_cons_of_mem _ (List.mem_append_right _ h9)) hown hK hP 0 rfl rfl 4 (by decide) (hts _ (List.mem_cons_of_mem _ (List.mem_append_left _ (List.mem_of_getElem? (i := 8) rfl)))) (fun _ h9 => h9) rfl dX7_add_58 ?_
  refine lv_iload hx hb dX7_add_61 (lv_at hl 0 rfl) ?_
  refine lv_iconst (v := (-1)) hx hb dX7_add_63 (by decide) ?_
  refine aft_v (wr := [(h0, .inr (7, [.ref p_op, .ref p_says, .ref p_places, .ref p_link, .ref p_home, .int (nI tt), .ref w_lexer, .ref p_waiting, .ref p_waitingAt, .int p_waits, .int p_open, .int p_cons, .int p_types])), (p_op, .inl (d_op, 10240, .inl g_5)), (p_says, .inl (d_says, 10240, .inl g_9)), (p_places, .inl (d_places, 10240, .inl g_13)), (p_link, .inl (d_link, 10240, .inl g_17))]) (va_runSN (As := [.ref p_home, .int (nI tt), .int (-1)]) (rest := []) ⟨hx, hb, hml, hown, hts⟩ (c_X12_put l dC dI H.size p_home d_home 10240 f9home (nI tt) (-1) (by first | assumption | decide | omega)) ⟨va_cnB 3 hts gzX7_add_X12_put_89 rfl rfl rfl (hN.at 18 rfl) (hts _ (List.mem_cons_of_mem _ (List.mem_append_left _ (List.mem_of_getElem? (i := 3) rfl)))) (by decide +kernel) ⟨Nat.le_of_ble_eq_true rfl, Nat.le_of_ble_eq_true rfl⟩, (hts _ (List.mem_cons_of_mem _ (List.mem_append_left _ (List.mem_of_getElem? (i := 4) rfl)))), trivial⟩ (wB.preS (hP.sub (ws' := [(p_home, .inl (d_home, 10240, .inl f9home))]) [1] rfl) (hK.sub (tys' := [(d_home, .int)]) [4] rfl) (hD.sub (ws' := [(p_home, .inl (d_home, 10240, .inl f9home))]) [1] (by decide) rfl) hN) rfl rfl hl.1 rfl (lv_room (Nat.le_of_ble_eq_true rfl)) dX7_add_64 ⟨Nat.le_of_ble_eq_true rfl, Nat.le_of_ble_eq_true rfl⟩) hP hD hS hA [1] [0, 2, 3, 4, 5] rfl rfl (by decide) (by decide) ?_
  clear hP hD hS
  intro u_18 H locs w_20 hK1 hP hD hS
  obtain ⟨g_21, rfl⟩ : ∃ z, z = u_18 := ⟨_, rfl⟩
  replace hP : va_P (dC, dI) vwCl [(h0, .inr (7, [.ref p_op, .ref p_says, .ref p_places, .ref p_link, .ref p_home, .int (nI tt), .ref w_lexer, .ref p_waiting, .ref p_waitingAt, .int p_waits, .int p_open, .int p_cons, .int p_types])), (p_op, .inl (d_op, 10240, .inl g_5)), (p_says, .inl (d_says, 10240, .inl g_9)), (p_places, .inl (d_places, 10240, .inl g_13)), (p_link, .inl (d_link, 10240, .inl g_17)), (p_home, .inl (d_home, 10240, .inl g_21))] H := hP
  replace hD : va_D A [(h0, .inr (7, [.ref p_op, .ref p_says, .ref p_places, .ref p_link, .ref p_home, .int (nI tt), .ref w_lexer, .ref p_waiting, .ref p_waitingAt, .int p_waits, .int p_open, .int p_cons, .int p_types])), (p_op, .inl (d_op, 10240, .inl g_5)), (p_says, .inl (d_says, 10240, .inl g_9)), (p_places, .inl (d_places, 10240, .inl g_13)), (p_link, .inl (d_link, 10240, .inl g_17)), (p_home, .inl (d_home, 10240, .inl g_21))] := hD
  clear hK1
  try dsimp only at w_20
  refine lv_aload_n hx hb dX7_add_67 rfl (lv_at hl 1 rfl) ?_
  refine lv_dup hx hb dX7_add_68 rfl ?_
  refine va_get (D := (dC, dI)) (ci := 7) (v := .int (nI tt)) (C := RX7) (T := TX7) (N := 13) hx hb hts (fun _ h9 => List.mem_cons_of_mem _ (List.mem_append_right _ h9)) hown hK hP 0 rfl rfl 5 (by decide) (hts _ (List.mem_cons_of_mem _ (List.mem_append_left _ (List.mem_of_getElem? (i := 0) rfl)))) (fun _ h9 => h9) rfl dX7_add_69 ?_
  refine lv_iconst (v := 1) hx hb dX7_add_72 (by decide) ?_
  refine lv_iadd hx hb dX7_add_73 ?_
  refine lv_topi (fun z_22 ez_22 => ?_)
  obtain rfl : z_22 = nI (tt + 1) := ez_22.trans (nI_1 tt)
  refine va_put (D := (dC, dI)) (ci := 7) (v := .int (nI (tt + 1))) (ty := .int) (C := RX7) (T := TX7) (N := 13) hx hb hts (fun _ h9 => List.mem_cons_of_mem _ (List.mem_append_right _ h9)) tyX7 tyX7_ok nmX7 hown hK hP hD hS 0 rfl rfl 5 (by decide) (hts _ (List.mem_cons_of_mem _ (List.mem_append_left _ (List.mem_of_getElem? (i := 0) rfl)))) (fun _ h9 => h9) rfl (by decide +kernel) rfl rfl (Nat.le_of_ble_eq_true rfl) dX7_add_74 ?_
  clear hP hD hS
  intro H locs hP hD hS
  replace hP : va_P (dC, dI) vwCl [(h0, .inr (7, [.ref p_op, .ref p_says, .ref p_places, .ref p_link, .ref p_home, .int (nI (tt + 1)), .ref w_lexer, .ref p_waiting, .ref p_waitingAt, .int p_waits, .int p_open, .int p_cons, .int p_types])), (p_op, .inl (d_op, 10240, .inl g_5)), (p_says, .inl (d_says, 10240, .inl g_9)), (p_places, .inl (d_places, 10240, .inl g_13)), (p_link, .inl (d_link, 10240, .inl g_17)), (p_home, .inl (d_home, 10240, .inl g_21))] H := hP
  replace hD : va_D A [(h0, .inr (7, [.ref p_op, .ref p_says, .ref p_places, .ref p_link, .ref p_home, .int (nI (tt + 1)), .ref w_lexer, .ref p_waiting, .ref p_waitingAt, .int p_waits, .int p_open, .int p_cons, .int p_types])), (p_op, .inl (d_op, 10240, .inl g_5)), (p_says, .inl (d_says, 10240, .inl g_9)), (p_places, .inl (d_places, 10240, .inl g_13)), (p_link, .inl (d_link, 10240, .inl g_17)), (p_home, .inl (d_home, 10240, .inl g_21))] := hD
  refine lv_iload hx hb dX7_add_77 (lv_at hl 0 rfl) ?_
  have hP9 := hP.sub (ws' := [(h0, .inr (7, [.ref p_op, .ref p_says, .ref p_places, .ref p_link, .ref p_home, .int (nI (tt + 1)), .ref w_lexer, .ref p_waiting, .ref p_waitingAt, .int p_waits, .int p_open, .int p_cons, .int p_types])), (p_op, .inl (d_op, 10240, .inl g_5)), (p_says, .inl (d_says, 10240, .inl g_9)), (p_places, .inl (d_places, 10240, .inl g_13)), (p_link, .inl (d_link, 10240, .inl g_17)), (p_home, .inl (d_home, 10240, .inl g_21))]) [0, 1, 2, 3, 4, 5] rfl
  have hD9 := hD.sub (ws' := [(h0, .inr (7, [.ref p_op, .ref p_says, .ref p_places, .ref p_link, .ref p_home, .int (nI (tt + 1)), .ref w_lexer, .ref p_waiting, .ref p_waitingAt, .int p_waits, .int p_open, .int p_cons, .int p_types])), (p_op, .inl (d_op, 10240, .inl g_5)), (p_says, .inl (d_says, 10240, .inl g_9)), (p_places, .inl (d_places, 10240, .inl g_13)), (p_link, .inl (d_link, 10240, .inl g_17)), (p_home, .inl (d_home, 10240, .inl g_21))]) [0, 1, 2, 3, 4, 5] (by decide) rfl
  have hK9 := hK.sub (tys' := [(d_op, .int), (d_says, .int), (d_places, .int), (d_link, .int), (d_home, .int)]) [0, 1, 2, 3, 4] rfl
  exact W.iret (v := (nI tt)) hx hb hr (fun t ht hW => ⟨⟨(nI tt), (g_5, g_9, g_13, g_17, g_21), rfl, trivial, wE.of ht hW hP9 hK9 hD9⟩, hS.F ht⟩) hS.2.2 dX7_add_79

theorem dX7_decs_0 : decode cX7_decs 0 = .ok (.iconst 0, 1) := by decide +kernel
theorem dX7_decs_1 : decode cX7_decs 1 = .ok (.istore_n 2, 1) := by decide +kernel
theorem dX7_decs_2 : decode cX7_decs 2 = .ok (.iload_n 2, 1) := by decide +kernel
theorem dX7_decs_3 : decode cX7_decs 3 = .ok (.sipush 2000, 3) := by decide +kernel
theorem dX7_decs_6 : decode cX7_decs 6 = .ok (.if_icmp .gt 69, 3) := by decide +kernel
theorem dX7_decs_9 : decode cX7_decs 9 = .ok (.aload_n 0, 1) := by decide +kernel
theorem dX7_decs_10 : decode cX7_decs 10 = .ok (.getfield 33, 3) := by decide +kernel
theorem dX7_decs_13 : decode cX7_decs 13 = .ok (.getfield 64, 3) := by decide +kernel
theorem dX7_decs_16 : decode cX7_decs 16 = .ok (.bipush 23, 2) := by decide +kernel
theorem dX7_decs_18 : decode cX7_decs 18 = .ok (.if_icmp .ne 11, 3) := by decide +kernel
theorem dX7_decs_29 : decode cX7_decs 29 = .ok (.aload_n 0, 1) := by decide +kernel
theorem dX7_decs_30 : decode cX7_decs 30 = .ok (.getfield 33, 3) := by decide +kernel
theorem dX7_decs_33 : decode cX7_decs 33 = .ok (.getfield 64, 3) := by decide +kernel
theorem dX7_decs_36 : decode cX7_decs 36 = .ok (.bipush 11, 2) := by decide +kernel
theorem dX7_decs_38 : decode cX7_decs 38 = .ok (.if_icmp .ne 11, 3) := by decide +kernel
theorem dX7_decs_49 : decode cX7_decs 49 = .ok (.return_, 1) := by decide +kernel
def zlX7_decs : List Cond := [.fieldLink RX7 33 "LeanHouse$Parser" "lexer" "LLeanHouse$Lexer;", .fieldLink RX7 64 "LeanHouse$Lexer" "kind" "I"]
def zsX7_decs : List Cond := .code yX7_decs cX7_decs 3 none :: (zlX7_decs ++ (wsX70 ++ (wsX40)))
set_option maxHeartbeats 8000000 in
set_option maxRecDepth 100000 in
theorem c_X7_decs (l : Launch) (dC : Nat → ClassId) (dI : Nat → Nat → Nat) (sz : Nat) (h0 : Nat) (w_lexer : Nat) (p_op : Nat) (p_says : Nat) (p_places : Nat) (p_link : Nat) (p_home : Nat) (p_waiting : Nat) (p_waitingAt : Nat) (p_marks : Int32) (p_waits : Int32) (p_open : Int32) (p_cons : Int32) (p_types : Int32) (x_text : Nat) (x_pool : Nat) (x_scratch : Nat) (x_nameAt : Nat) (x_nameSize : Nat) (x_heads : Nat) (x_nexts : Nat) (x_names : Int32) (x_poolSize : Int32) (x_knownSize : Int32) (x_textSize : Int32) (x_here : Int32) (x_tokens : Int32) (x_start : Int32) (x_meaning : Int32) (x_trouble : Int32) (x_spelled : Int32) (v_first : Int32) : Met l yX7_decs zsX7_decs ({ frames := 4, cells := 0, slots := 0, locals := 81 } : Room) (va_Pc [.ref h0, .int v_first] (wB (dC, dI) vwCl nestM [] [(h0, .inr (7, [.ref p_op, .ref p_says, .ref p_places, .ref p_link, .ref p_home, .int p_marks, .ref w_lexer, .ref p_waiting, .ref p_waitingAt, .int p_waits, .int p_open, .int p_cons, .int p_types])), (w_lexer, .inr (4, [.ref x_text, .ref x_pool, .ref x_scratch, .ref x_nameAt, .ref x_nameSize, .ref x_heads, .ref x_nexts, .int x_names, .int x_poolSize, .int x_knownSize, .int x_textSize, .int x_here, .int x_tokens, .int 54, .int x_start, .int x_meaning, .int x_trouble, .int x_spelled]))] sz)) (va_Qv (fun (u : Unit) => True) (fun (u : Unit) (t : State) => wE (dC, dI) vwCl [] [(h0, .inr (7, [.ref p_op, .ref p_says, .ref p_places, .ref p_link, .ref p_home, .int p_marks, .ref w_lexer, .ref p_waiting, .ref p_waitingAt, .int p_waits, .int p_open, .int p_cons, .int p_types])), (w_lexer, .inr (4, [.ref x_text, .ref x_pool, .ref x_scratch, .ref x_nameAt, .ref x_nameSize, .ref x_heads, .ref x_nexts, .int x_names, .int x_poolSize, .int x_knownSize, .int x_textSize, .int x_here, .int x_tokens, .int 54, .int x_start, .int x_meaning, .int x_trouble, .int x_spelled]))] (va_A [(h0, .inr (7, [.ref p_op, .ref p_says, .ref p_places, .ref p_link, .ref p_home, .int p_marks, .ref w_lexer, .ref p_waiting, .ref p_waitingAt, .int p_waits, .int p_open, .int p_cons, .int p_types])), (w_lexer, .inr (4, [.ref x_text, .ref x_pool, .ref x_scratch, .ref x_nameAt, .ref x_nameSize, .ref x_heads, .ref x_nexts, .int x_names, .int x_poolSize, .int x_knownSize, .int x_textSize, .int x_here, .int x_tokens, .int 54, .int x_start, .int x_meaning, .int x_trouble, .int x_spelled]))] sz) t) (va_A [(h0, .inr (7, [.ref p_op, .ref p_says, .ref p_places, .ref p_link, .ref p_home, .int p_marks, .ref w_lexer, .ref p_waiting, .ref p_waitingAt, .int p_waits, .int p_open, .int p_cons, .int p_types])), (w_lexer, .inr (4, [.ref x_text, .ref x_pool, .ref x_scratch, .ref x_nameAt, .ref x_nameSize, .ref x_heads, .ref x_nexts, .int x_names, .int x_poolSize, .int x_knownSize, .int x_textSize, .int x_here, .int x_tokens, .int 54, .int x_start, .int x_meaning, .int x_trouble, .int x_spelled]))] sz)) 0 0 (va_A [(h0, .inr (7, [.ref p_op, .ref p_says, .ref p_places, .ref p_link, .ref p_home, .int p_marks, .ref w_lexer, .ref p_waiting, .ref p_waitingAt, .int p_waits, .int p_open, .int p_cons, .int p_types])), (w_lexer, .inr (4, [.ref x_text, .ref x_pool, .ref x_scratch, .ref x_nameAt, .ref x_nameSize, .ref x_heads, .ref x_nexts, .int x_names, .int x_poolSize, .int x_knownSize, .int x_textSize, .int x_here, .int x_tokens, .int 54, .int x_start, .int x_meaning, .int x_trouble, .int x_spelled]))] sz) := by
  refine Met.ofW (cc := cX7_decs) (maxL := 3) (ret := none) (by decide) rfl ?_
  intro p e s m args below meth c s₁ B hml hv
  obtain ⟨rfl, hsz, hP, hK, hD0, hN⟩ := hv
  have hx := B.exec
  have hb := B.bytes
  have hr := B.returns
  have hts := atoms_spec (ws := zsX7_decs) B.pre
  have hown : s.vm.findClass RX7 = some m.cls := findClass_of_methodNamed B.named
  have hlocks := B.notSynchronized
  subst hsz
  have hD := hD0.self (sz := s.heap.size)
  generalize hAe : va_A [(h0, .inr (7, [.ref p_op, .ref p_says, .ref p_places, .ref p_link, .ref p_home, .int p_marks, .ref w_lexer, .ref p_waiting, .ref p_waitingAt, .int p_waits, .int p_open, .int p_cons, .int p_types])), (w_lexer, .inr (4, [.ref x_text, .ref x_pool, .ref x_scratch, .ref x_nameAt, .ref x_nameSize, .ref x_heads, .ref x_nexts, .int x_names, .int x_poolSize, .int x_knownSize, .int x_textSize, .int x_here, .int x_tokens, .int 54, .int x_start, .int x_meaning, .int x_trouble, .int x_spelled]))] s.heap.size = A at hD ⊢
  have hA : ∀ q : Nat, s.heap.size ≤ q → A q := fun q h => by rw [← hAe]; exact Or.inr h
  have hS : va_S A s.heap s.heap [] := va_S.rf
  have hP : va_P (dC, dI) vwCl [(h0, .inr (7, [.ref p_op, .ref p_says, .ref p_places, .ref p_link, .ref p_home, .int p_marks, .ref w_lexer, .ref p_waiting, .ref p_waitingAt, .int p_waits, .int p_open, .int p_cons, .int p_types])), (w_lexer, .inr (4, [.ref x_text, .ref x_pool, .ref x_scratch, .ref x_nameAt, .ref x_nameSize, .ref x_heads, .ref x_nexts, .int x_names, .int x_poolSize, .int x_knownSize, .int x_textSize, .int x_here, .int x_tokens, .int 54, .int x_start, .int x_meaning, .int x_trouble, .int x_spelled]))] s.heap := hP
  have hl := lv_entry ([.ref h0, .int v_first]) (n := 3) (Nat.le_of_ble_eq_true rfl)
  rw [lg_entry_eq]
  generalize (lg_sl ([.ref h0, .int v_first]) ++ List.replicate (3 - (lg_sl ([.ref h0, .int v_first])).length) Slot.unset).toArray = ls at hl ⊢
  have hl : lv_has ls 3 [(0, .ref h0), (1, .int v_first)] := hl
  refine lv_iconst (v := 0) hx hb dX7_decs_0 (by decide) ?_
  refine lv_istore_n (lv' := [(2, .int 0), (0, .ref h0), (1, .int v_first)]) hx hb dX7_decs_1 rfl hl (by decide) rfl ?_
  clear hl
  intro ls hl
  refine lv_iload_n hx hb dX7_decs_2 rfl (lv_at hl 0 rfl) ?_
  refine lv_sipush (v := 2000) hx hb dX7_decs_3 (by decide) ?_
  refine lv_icmp_gt (tgt := 75) hx hb dX7_decs_6 (by decide) (fun c_1 => absurd c_1 (by decide)) (fun c_1 => ?_)
  refine lv_aload_n hx hb dX7_decs_9 rfl (lv_at hl 1 rfl) ?_
  refine va_get (D := (dC, dI)) (ci := 7) (v := .ref w_lexer) (C := RX7) (T := TX7) (N := 13) hx hb hts (fun _ h9 => List.mem_cons_of_mem _ (List.mem_append_right _ (List.mem_append_left _ h9))) hown hK hP 0 rfl rfl 6 (by decide) (hts _ (List.mem_cons_of_mem _ (List.mem_append_left _ (List.mem_of_getElem? (i := 0) rfl)))) (fun _ h9 => h9) rfl dX7_decs_10 ?_
  refine va_get (D := (dC, dI)) (ci := 4) (v := .int 54) (C := RX4) (T := TX4) (N := 18) hx hb hts (fun _ h9 => List.mem_cons_of_mem _ (List.mem_append_right _ (List.mem_append_right _ h9))) hown hK hP 1 rfl rfl 13 (by decide) (hts _ (List.mem_cons_of_mem _ (List.mem_append_left _ (List.mem_of_getElem? (i := 1) rfl)))) (fun _ h9 => h9) rfl dX7_decs_13 ?_
  refine lv_bipush (v := 23) hx hb dX7_decs_16 (by decide) ?_
  refine lv_icmp_ne (tgt := 29) hx hb dX7_decs_18 (by decide) (fun c_2 => ?_) (fun c_2 => absurd c_2 (by decide))
  refine lv_aload_n hx hb dX7_decs_29 rfl (lv_at hl 1 rfl) ?_
  refine va_get (D := (dC, dI)) (ci := 7) (v := .ref w_lexer) (C := RX7) (T := TX7) (N := 13) hx hb hts (fun _ h9 => List.mem_cons_of_mem _ (List.mem_append_right _ (List.mem_append_left _ h9))) hown hK hP 0 rfl rfl 6 (by decide) (hts _ (List.mem_cons_of_mem _ (List.mem_append_left _ (List.mem_of_getElem? (i := 0) rfl)))) (fun _ h9 => h9) rfl dX7_decs_30 ?_
  refine va_get (D := (dC, dI)) (ci := 4) (v := .int 54) (C := RX4) (T := TX4) (N := 18) hx hb hts (fun _ h9 => List.mem_cons_of_mem _ (List.mem_append_right _ (List.mem_append_right _ h9))) hown hK hP 1 rfl rfl 13 (by decide) (hts _ (List.mem_cons_of_mem _ (List.mem_append_left _ (List.mem_of_getElem? (i := 1) rfl)))) (fun _ h9 => h9) rfl dX7_decs_33 ?_
  refine lv_bipush (v := 11) hx hb dX7_decs_36 (by decide) ?_
  refine lv_icmp_ne (tgt := 49) hx hb dX7_decs_38 (by decide) (fun c_3 => ?_) (fun c_3 => absurd c_3 (by decide))
  have hP9 := hP.sub (ws' := [(h0, .inr (7, [.ref p_op, .ref p_says, .ref p_places, .ref p_link, .ref p_home, .int p_marks, .ref w_lexer, .ref p_waiting, .ref p_waitingAt, .int p_waits, .int p_open, .int p_cons, .int p_types])), (w_lexer, .inr (4, [.ref x_text, .ref x_pool, .ref x_scratch, .ref x_nameAt, .ref x_nameSize, .ref x_heads, .ref x_nexts, .int x_names, .int x_poolSize, .int x_knownSize, .int x_textSize, .int x_here, .int x_tokens, .int 54, .int x_start, .int x_meaning, .int x_trouble, .int x_spelled]))]) [0, 1] rfl
  have hD9 := hD.sub (ws' := [(h0, .inr (7, [.ref p_op, .ref p_says, .ref p_places, .ref p_link, .ref p_home, .int p_marks, .ref w_lexer, .ref p_waiting, .ref p_waitingAt, .int p_waits, .int p_open, .int p_cons, .int p_types])), (w_lexer, .inr (4, [.ref x_text, .ref x_pool, .ref x_scratch, .ref x_nameAt, .ref x_nameSize, .ref x_heads, .ref x_nexts, .int x_names, .int x_poolSize, .int x_knownSize, .int x_textSize, .int x_here, .int x_tokens, .int 54, .int x_start, .int x_meaning, .int x_trouble, .int x_spelled]))]) [0, 1] (by decide) rfl
  have hK9 := hK.sub (tys' := []) [] rfl
  exact W.vret hx hb hr (fun t ht hW => ⟨⟨(), rfl, trivial, wE.of ht hW hP9 hK9 hD9⟩, hS.F ht⟩) hS.2.2 dX7_decs_49

theorem dX7_need_0 : decode cX7_need 0 = .ok (.aload_n 0, 1) := by decide +kernel
theorem dX7_need_1 : decode cX7_need 1 = .ok (.getfield 33, 3) := by decide +kernel
theorem dX7_need_4 : decode cX7_need 4 = .ok (.getfield 64, 3) := by decide +kernel
theorem dX7_need_7 : decode cX7_need 7 = .ok (.iload_n 1, 1) := by decide +kernel
theorem dX7_need_8 : decode cX7_need 8 = .ok (.if_icmp .ne 13, 3) := by decide +kernel
theorem dX7_need_21 : decode cX7_need 21 = .ok (.aload_n 0, 1) := by decide +kernel
theorem dX7_need_22 : decode cX7_need 22 = .ok (.iconst 2, 1) := by decide +kernel
theorem dX7_need_23 : decode cX7_need 23 = .ok (.invokevirtual 83, 3) := by decide +kernel
theorem dX7_need_26 : decode cX7_need 26 = .ok (.return_, 1) := by decide +kernel
def zlX7_need : List Cond := [.fieldLink RX7 33 "LeanHouse$Parser" "lexer" "LLeanHouse$Lexer;", .fieldLink RX7 64 "LeanHouse$Lexer" "kind" "I", .methodLink RX7 83 yX7_fail, .instanceMethod yX7_fail, .selects RX7 yX7_fail yX7_fail, .initialized RX7, .code yX7_fail cX7_fail 2 none, .fieldLink RX7 86 "LeanHouse$Lexer" "trouble" "I"]
def zsX7_need : List Cond := .code yX7_need cX7_need 2 none :: (zlX7_need ++ (wsX70 ++ (wsX40)))
set_option maxRecDepth 20000 in
theorem gzX7_need_X7_fail_V83 : GoodIn zsX7_need (wsV RX7 83 RX7 yX7_fail zsX7_fail) := (goodIn_app (goodIn_r _ [3, 4, 5, 6] (by decide +kernel) (by decide +kernel)) (goodIn_ca (goodIn_r _ [7, 1, 8, 2] (by decide +kernel) (by decide +kernel)) (goodIn_app (goodIn_sub (fun _ h9 => List.mem_cons_of_mem _ (List.mem_append_right _ (List.mem_append_left _ h9))) gwX7) (goodIn_sub (fun _ h9 => List.mem_cons_of_mem _ (List.mem_append_right _ (List.mem_append_right _ h9))) gwX4))))
set_option maxHeartbeats 8000000 in
set_option maxRecDepth 100000 in
theorem c_X7_need (l : Launch) (dC : Nat → ClassId) (dI : Nat → Nat → Nat) (sz : Nat) (h0 : Nat) (w_lexer : Nat) (p_op : Nat) (p_says : Nat) (p_places : Nat) (p_link : Nat) (p_home : Nat) (p_waiting : Nat) (p_waitingAt : Nat) (p_marks : Int32) (p_waits : Int32) (p_open : Int32) (p_cons : Int32) (p_types : Int32) (x_text : Nat) (x_pool : Nat) (x_scratch : Nat) (x_nameAt : Nat) (x_nameSize : Nat) (x_heads : Nat) (x_nexts : Nat) (x_names : Int32) (x_poolSize : Int32) (x_knownSize : Int32) (x_textSize : Int32) (x_here : Int32) (x_tokens : Int32) (x_start : Int32) (x_meaning : Int32) (x_spelled : Int32) : Met l yX7_need zsX7_need ({ frames := 4, cells := 0, slots := 0, locals := 81 } : Room) (va_Pc [.ref h0, .int 14] (wB (dC, dI) vwCl nestM [] [(h0, .inr (7, [.ref p_op, .ref p_says, .ref p_places, .ref p_link, .ref p_home, .int p_marks, .ref w_lexer, .ref p_waiting, .ref p_waitingAt, .int p_waits, .int p_open, .int p_cons, .int p_types])), (w_lexer, .inr (4, [.ref x_text, .ref x_pool, .ref x_scratch, .ref x_nameAt, .ref x_nameSize, .ref x_heads, .ref x_nexts, .int x_names, .int x_poolSize, .int x_knownSize, .int x_textSize, .int x_here, .int x_tokens, .int 54, .int x_start, .int x_meaning, .int 0, .int x_spelled]))] sz)) (va_Qv (fun (u : Unit) => True) (fun (u : Unit) (t : State) => wE (dC, dI) vwCl [] [(h0, .inr (7, [.ref p_op, .ref p_says, .ref p_places, .ref p_link, .ref p_home, .int p_marks, .ref w_lexer, .ref p_waiting, .ref p_waitingAt, .int p_waits, .int p_open, .int p_cons, .int p_types])), (w_lexer, .inr (4, [.ref x_text, .ref x_pool, .ref x_scratch, .ref x_nameAt, .ref x_nameSize, .ref x_heads, .ref x_nexts, .int x_names, .int x_poolSize, .int x_knownSize, .int x_textSize, .int x_here, .int x_tokens, .int 55, .int x_start, .int x_meaning, .int 2, .int x_spelled]))] (va_A [(h0, .inr (7, [.ref p_op, .ref p_says, .ref p_places, .ref p_link, .ref p_home, .int p_marks, .ref w_lexer, .ref p_waiting, .ref p_waitingAt, .int p_waits, .int p_open, .int p_cons, .int p_types])), (w_lexer, .inr (4, [.ref x_text, .ref x_pool, .ref x_scratch, .ref x_nameAt, .ref x_nameSize, .ref x_heads, .ref x_nexts, .int x_names, .int x_poolSize, .int x_knownSize, .int x_textSize, .int x_here, .int x_tokens, .int 54, .int x_start, .int x_meaning, .int 0, .int x_spelled]))] sz) t) (va_A [(h0, .inr (7, [.ref p_op, .ref p_says, .ref p_places, .ref p_link, .ref p_home, .int p_marks, .ref w_lexer, .ref p_waiting, .ref p_waitingAt, .int p_waits, .int p_open, .int p_cons, .int p_types])), (w_lexer, .inr (4, [.ref x_text, .ref x_pool, .ref x_scratch, .ref x_nameAt, .ref x_nameSize, .ref x_heads, .ref x_nexts, .int x_names, .int x_poolSize, .int x_knownSize, .int x_textSize, .int x_here, .int x_tokens, .int 54, .int x_start, .int x_meaning, .int 0, .int x_spelled]))] sz)) 0 0 (va_A [(h0, .inr (7, [.ref p_op, .ref p_says, .ref p_places, .ref p_link, .ref p_home, .int p_marks, .ref w_lexer, .ref p_waiting, .ref p_waitingAt, .int p_waits, .int p_open, .int p_cons, .int p_types])), (w_lexer, .inr (4, [.ref x_text, .ref x_pool, .ref x_scratch, .ref x_nameAt, .ref x_nameSize, .ref x_heads, .ref x_nexts, .int x_names, .int x_poolSize, .int x_knownSize, .int x_textSize, .int x_here, .int x_tokens, .int 54, .int x_start, .int x_meaning, .int 0, .int x_spelled]))] sz) := by
  refine Met.ofW (cc := cX7_need) (maxL := 2) (ret := none) (by decide) rfl ?_
  intro p e s m args below meth c s₁ B hml hv
  obtain ⟨rfl, hsz, hP, hK, hD0, hN⟩ := hv
  have hx := B.exec
  have hb := B.bytes
  have hr := B.returns
  have hts := atoms_spec (ws := zsX7_need) B.pre
  have hown : s.vm.findClass RX7 = some m.cls := findClass_of_methodNamed B.named
  have hlocks := B.notSynchronized
  subst hsz
  have hD := hD0.self (sz := s.heap.size)
  generalize hAe : va_A [(h0, .inr (7, [.ref p_op, .ref p_says, .ref p_places, .ref p_link, .ref p_home, .int p_marks, .ref w_lexer, .ref p_waiting, .ref p_waitingAt, .int p_waits, .int p_open, .int p_cons, .int p_types])), (w_lexer, .inr (4, [.ref x_text, .ref x_pool, .ref x_scratch, .ref x_nameAt, .ref x_nameSize, .ref x_heads, .ref x_nexts, .int x_names, .int x_poolSize, .int x_knownSize, .int x_textSize, .int x_here, .int x_tokens, .int 54, .int x_start, .int x_meaning, .int 0, .int x_spelled]))] s.heap.size = A at hD ⊢
  have hA : ∀ q : Nat, s.heap.size ≤ q → A q := fun q h => by rw [← hAe]; exact Or.inr h
  have hS : va_S A s.heap s.heap [] := va_S.rf
  have hP : va_P (dC, dI) vwCl [(h0, .inr (7, [.ref p_op, .ref p_says, .ref p_places, .ref p_link, .ref p_home, .int p_marks, .ref w_lexer, .ref p_waiting, .ref p_waitingAt, .int p_waits, .int p_open, .int p_cons, .int p_types])), (w_lexer, .inr (4, [.ref x_text, .ref x_pool, .ref x_scratch, .ref x_nameAt, .ref x_nameSize, .ref x_heads, .ref x_nexts, .int x_names, .int x_poolSize, .int x_knownSize, .int x_textSize, .int x_here, .int x_tokens, .int 54, .int x_start, .int x_meaning, .int 0, .int x_spelled]))] s.heap := hP
  have hl := lv_entry ([.ref h0, .int 14]) (n := 2) (Nat.le_of_ble_eq_true rfl)
  rw [lg_entry_eq]
  generalize (lg_sl ([.ref h0, .int 14]) ++ List.replicate (2 - (lg_sl ([.ref h0, .int 14])).length) Slot.unset).toArray = ls at hl ⊢
  have hl : lv_has ls 2 [(0, .ref h0), (1, .int 14)] := hl
  refine lv_aload_n hx hb dX7_need_0 rfl (lv_at hl 0 rfl) ?_
  refine va_get (D := (dC, dI)) (ci := 7) (v := .ref w_lexer) (C := RX7) (T := TX7) (N := 13) hx hb hts (fun _ h9 => List.mem_cons_of_mem _ (List.mem_append_right _ (List.mem_append_left _ h9))) hown hK hP 0 rfl rfl 6 (by decide) (hts _ (List.mem_cons_of_mem _ (List.mem_append_left _ (List.mem_of_getElem? (i := 0) rfl)))) (fun _ h9 => h9) rfl dX7_need_1 ?_
  refine va_get (D := (dC, dI)) (ci := 4) (v := .int 54) (C := RX4) (T := TX4) (N := 18) hx hb hts (fun _ h9 => List.mem_cons_of_mem _ (List.mem_append_right _ (List.mem_append_right _ h9))) hown hK hP 1 rfl rfl 13 (by decide) (hts _ (List.mem_cons_of_mem _ (List.mem_append_left _ (List.mem_of_getElem? (i := 1) rfl)))) (fun _ h9 => h9) rfl dX7_need_4 ?_
  refine lv_iload_n hx hb dX7_need_7 rfl (lv_at hl 1 rfl) ?_
  refine lv_icmp_ne (tgt := 21) hx hb dX7_need_8 (by decide) (fun c_1 => ?_) (fun c_1 => absurd c_1 (by decide))
  refine lv_aload_n hx hb dX7_need_21 rfl (lv_at hl 0 rfl) ?_
  refine lv_iconst (v := 2) hx hb dX7_need_22 (by decide) ?_
  refine aft_v (wr := []) (va_runV (As := [.int 2]) (rest := []) ⟨hx, hb, hml, hown, hts⟩ (c_X7_fail l dC dI s.heap.size h0 w_lexer p_op p_says p_places p_link p_home p_waiting p_waitingAt p_marks p_waits p_open p_cons p_types x_text x_pool x_scratch x_nameAt x_nameSize x_heads x_nexts x_names x_poolSize x_knownSize x_textSize x_here x_tokens 54 x_start x_meaning x_spelled 2) (cwV 1 hts gzX7_need_X7_fail_V83 rfl rfl rfl (by decide +kernel) ⟨Nat.le_of_ble_eq_true rfl, Nat.le_of_ble_eq_true rfl⟩) (wB.preV (hP.sub (ws' := [(h0, .inr (7, [.ref p_op, .ref p_says, .ref p_places, .ref p_link, .ref p_home, .int p_marks, .ref w_lexer, .ref p_waiting, .ref p_waitingAt, .int p_waits, .int p_open, .int p_cons, .int p_types])), (w_lexer, .inr (4, [.ref x_text, .ref x_pool, .ref x_scratch, .ref x_nameAt, .ref x_nameSize, .ref x_heads, .ref x_nexts, .int x_names, .int x_poolSize, .int x_knownSize, .int x_textSize, .int x_here, .int x_tokens, .int 54, .int x_start, .int x_meaning, .int 0, .int x_spelled]))]) [0, 1] rfl) (hK.sub (tys' := []) [] rfl) (hD.sub (ws' := [(h0, .inr (7, [.ref p_op, .ref p_says, .ref p_places, .ref p_link, .ref p_home, .int p_marks, .ref w_lexer, .ref p_waiting, .ref p_waitingAt, .int p_waits, .int p_open, .int p_cons, .int p_types])), (w_lexer, .inr (4, [.ref x_text, .ref x_pool, .ref x_scratch, .ref x_nameAt, .ref x_nameSize, .ref x_heads, .ref x_nexts, .int x_names, .int x_poolSize, .int x_knownSize, .int x_textSize, .int x_here, .int x_tokens, .int 54, .int x_start, .int x_meaning, .int 0, .int x_spelled]))]) [0, 1] (by decide) rfl) hN 7 0 rfl rfl) rfl rfl hl.1 rfl (lv_room (Nat.le_of_ble_eq_true rfl)) dX7_need_23 ⟨Nat.le_of_ble_eq_true rfl, Nat.le_of_ble_eq_true rfl⟩) hP hD hS hA [0, 1] [] rfl rfl (by decide) (by decide) ?_
  clear hP hD hS
  intro u_2 H locs w_4 hK1 hP hD hS
  replace hP : va_P (dC, dI) vwCl [(h0, .inr (7, [.ref p_op, .ref p_says, .ref p_places, .ref p_link, .ref p_home, .int p_marks, .ref w_lexer, .ref p_waiting, .ref p_waitingAt, .int p_waits, .int p_open, .int p_cons, .int p_types])), (w_lexer, .inr (4, [.ref x_text, .ref x_pool, .ref x_scratch, .ref x_nameAt, .ref x_nameSize, .ref x_heads, .ref x_nexts, .int x_names, .int x_poolSize, .int x_knownSize, .int x_textSize, .int x_here, .int x_tokens, .int 55, .int x_start, .int x_meaning, .int 2, .int x_spelled]))] H := hP
  replace hD : va_D A [(h0, .inr (7, [.ref p_op, .ref p_says, .ref p_places, .ref p_link, .ref p_home, .int p_marks, .ref w_lexer, .ref p_waiting, .ref p_waitingAt, .int p_waits, .int p_open, .int p_cons, .int p_types])), (w_lexer, .inr (4, [.ref x_text, .ref x_pool, .ref x_scratch, .ref x_nameAt, .ref x_nameSize, .ref x_heads, .ref x_nexts, .int x_names, .int x_poolSize, .int x_knownSize, .int x_textSize, .int x_here, .int x_tokens, .int 55, .int x_start, .int x_meaning, .int 2, .int x_spelled]))] := hD
  clear hK1
  try dsimp only at w_4
  have hP9 := hP.sub (ws' := [(h0, .inr (7, [.ref p_op, .ref p_says, .ref p_places, .ref p_link, .ref p_home, .int p_marks, .ref w_lexer, .ref p_waiting, .ref p_waitingAt, .int p_waits, .int p_open, .int p_cons, .int p_types])), (w_lexer, .inr (4, [.ref x_text, .ref x_pool, .ref x_scratch, .ref x_nameAt, .ref x_nameSize, .ref x_heads, .ref x_nexts, .int x_names, .int x_poolSize, .int x_knownSize, .int x_textSize, .int x_here, .int x_tokens, .int 55, .int x_start, .int x_meaning, .int 2, .int x_spelled]))]) [0, 1] rfl
  have hD9 := hD.sub (ws' := [(h0, .inr (7, [.ref p_op, .ref p_says, .ref p_places, .ref p_link, .ref p_home, .int p_marks, .ref w_lexer, .ref p_waiting, .ref p_waitingAt, .int p_waits, .int p_open, .int p_cons, .int p_types])), (w_lexer, .inr (4, [.ref x_text, .ref x_pool, .ref x_scratch, .ref x_nameAt, .ref x_nameSize, .ref x_heads, .ref x_nexts, .int x_names, .int x_poolSize, .int x_knownSize, .int x_textSize, .int x_here, .int x_tokens, .int 55, .int x_start, .int x_meaning, .int 2, .int x_spelled]))]) [0, 1] (by decide) rfl
  have hK9 := hK.sub (tys' := []) [] rfl
  exact W.vret hx hb hr (fun t ht hW => ⟨⟨(), rfl, trivial, wE.of ht hW hP9 hK9 hD9⟩, hS.F ht⟩) hS.2.2 dX7_need_26

theorem dX7_operand_0 : decode cX7_operand 0 = .ok (.iconst 0, 1) := by decide +kernel
theorem dX7_operand_1 : decode cX7_operand 1 = .ok (.istore_n 1, 1) := by decide +kernel
theorem dX7_operand_2 : decode cX7_operand 2 = .ok (.iload_n 1, 1) := by decide +kernel
theorem dX7_operand_3 : decode cX7_operand 3 = .ok (.sipush 2000, 3) := by decide +kernel
theorem dX7_operand_6 : decode cX7_operand 6 = .ok (.if_icmp .gt 121, 3) := by decide +kernel
theorem dX7_operand_9 : decode cX7_operand 9 = .ok (.aload_n 0, 1) := by decide +kernel
theorem dX7_operand_10 : decode cX7_operand 10 = .ok (.getfield 33, 3) := by decide +kernel
theorem dX7_operand_13 : decode cX7_operand 13 = .ok (.getfield 102, 3) := by decide +kernel
theorem dX7_operand_16 : decode cX7_operand 16 = .ok (.istore_n 2, 1) := by decide +kernel
theorem dX7_operand_17 : decode cX7_operand 17 = .ok (.aload_n 0, 1) := by decide +kernel
theorem dX7_operand_18 : decode cX7_operand 18 = .ok (.getfield 33, 3) := by decide +kernel
theorem dX7_operand_21 : decode cX7_operand 21 = .ok (.getfield 64, 3) := by decide +kernel
theorem dX7_operand_24 : decode cX7_operand 24 = .ok (.istore_n 3, 1) := by decide +kernel
theorem dX7_operand_25 : decode cX7_operand 25 = .ok (.iload_n 3, 1) := by decide +kernel
theorem dX7_operand_26 : decode cX7_operand 26 = .ok (.invokestatic 194, 3) := by decide +kernel
theorem dX7_operand_29 : decode cX7_operand 29 = .ok (.ifCond .ne 13, 3) := by decide +kernel
theorem dX7_operand_32 : decode cX7_operand 32 = .ok (.iload_n 1, 1) := by decide +kernel
theorem dX7_operand_33 : decode cX7_operand 33 = .ok (.ifCond .ne 8, 3) := by decide +kernel
theorem dX7_operand_36 : decode cX7_operand 36 = .ok (.aload_n 0, 1) := by decide +kernel
theorem dX7_operand_37 : decode cX7_operand 37 = .ok (.iconst 2, 1) := by decide +kernel
theorem dX7_operand_38 : decode cX7_operand 38 = .ok (.invokevirtual 83, 3) := by decide +kernel
theorem dX7_operand_41 : decode cX7_operand 41 = .ok (.return_, 1) := by decide +kernel
def zlX7_operand : List Cond := [.fieldLink RX7 33 "LeanHouse$Parser" "lexer" "LLeanHouse$Lexer;", .fieldLink RX7 102 "LeanHouse$Lexer" "start" "I", .fieldLink RX7 64 "LeanHouse$Lexer" "kind" "I", .methodLink RX7 194 yX7_beginsAtom, .static yX7_beginsAtom, .initialized RX7, .code yX7_beginsAtom cX7_beginsAtom 1 (some .boolean), .methodLink RX7 83 yX7_fail, .instanceMethod yX7_fail, .selects RX7 yX7_fail yX7_fail, .code yX7_fail cX7_fail 2 none, .fieldLink RX7 86 "LeanHouse$Lexer" "trouble" "I"]
def zsX7_operand : List Cond := .code yX7_operand cX7_operand 4 none :: (zlX7_operand ++ (wsX70 ++ (wsX40)))
set_option maxRecDepth 20000 in
theorem gzX7_operand_X7_beginsAtom_S194 : GoodIn zsX7_operand (wsS RX7 194 yX7_beginsAtom zsX7_beginsAtom) := (goodIn_app (goodIn_r _ [4, 5, 6] (by decide +kernel) (by decide +kernel)) (goodIn_r _ [7] (by decide +kernel) (by decide +kernel)))
set_option maxRecDepth 20000 in
theorem gzX7_operand_X7_fail_v2_V83 : GoodIn zsX7_operand (wsV RX7 83 RX7 yX7_fail zsX7_fail_v2) := (goodIn_app (goodIn_r _ [8, 9, 10, 6] (by decide +kernel) (by decide +kernel)) (goodIn_ca (goodIn_r _ [11, 1, 12, 3] (by decide +kernel) (by decide +kernel)) (goodIn_app (goodIn_sub (fun _ h9 => List.mem_cons_of_mem _ (List.mem_append_right _ (List.mem_append_left _ h9))) gwX7) (goodIn_sub (fun _ h9 => List.mem_cons_of_mem _ (List.mem_append_right _ (List.mem_append_right _ h9))) gwX4))))
set_option maxHeartbeats 8000000 in
set_option maxRecDepth 100000 in
theorem c_X7_operand (l : Launch) (dC : Nat → ClassId) (dI : Nat → Nat → Nat) (sz : Nat) (h0 : Nat) (w_lexer : Nat) (p_op : Nat) (p_says : Nat) (p_places : Nat) (p_link : Nat) (p_home : Nat) (p_waiting : Nat) (p_waitingAt : Nat) (p_marks : Int32) (p_waits : Int32) (p_open : Int32) (p_cons : Int32) (p_types : Int32) (x_text : Nat) (x_pool : Nat) (x_scratch : Nat) (x_nameAt : Nat) (x_nameSize : Nat) (x_heads : Nat) (x_nexts : Nat) (x_names : Int32) (x_poolSize : Int32) (x_knownSize : Int32) (x_textSize : Int32) (x_here : Int32) (x_tokens : Int32) (x_start : Int32) (x_meaning : Int32) (x_spelled : Int32) : Met l yX7_operand zsX7_operand ({ frames := 3, cells := 0, slots := 0, locals := 58 } : Room) (va_Pc [.ref h0] (wB (dC, dI) vwCl nestM [] [(h0, .inr (7, [.ref p_op, .ref p_says, .ref p_places, .ref p_link, .ref p_home, .int p_marks, .ref w_lexer, .ref p_waiting, .ref p_waitingAt, .int p_waits, .int p_open, .int p_cons, .int p_types])), (w_lexer, .inr (4, [.ref x_text, .ref x_pool, .ref x_scratch, .ref x_nameAt, .ref x_nameSize, .ref x_heads, .ref x_nexts, .int x_names, .int x_poolSize, .int x_knownSize, .int x_textSize, .int x_here, .int x_tokens, .int 55, .int x_start, .int x_meaning, .int 2, .int x_spelled]))] sz)) (va_Qv (fun (u : Unit) => True) (fun (u : Unit) (t : State) => wE (dC, dI) vwCl [] [(h0, .inr (7, [.ref p_op, .ref p_says, .ref p_places, .ref p_link, .ref p_home, .int p_marks, .ref w_lexer, .ref p_waiting, .ref p_waitingAt, .int p_waits, .int p_open, .int p_cons, .int p_types])), (w_lexer, .inr (4, [.ref x_text, .ref x_pool, .ref x_scratch, .ref x_nameAt, .ref x_nameSize, .ref x_heads, .ref x_nexts, .int x_names, .int x_poolSize, .int x_knownSize, .int x_textSize, .int x_here, .int x_tokens, .int 55, .int x_start, .int x_meaning, .int 2, .int x_spelled]))] (va_A [(h0, .inr (7, [.ref p_op, .ref p_says, .ref p_places, .ref p_link, .ref p_home, .int p_marks, .ref w_lexer, .ref p_waiting, .ref p_waitingAt, .int p_waits, .int p_open, .int p_cons, .int p_types])), (w_lexer, .inr (4, [.ref x_text, .ref x_pool, .ref x_scratch, .ref x_nameAt, .ref x_nameSize, .ref x_heads, .ref x_nexts, .int x_names, .int x_poolSize, .int x_knownSize, .int x_textSize, .int x_here, .int x_tokens, .int 55, .int x_start, .int x_meaning, .int 2, .int x_spelled]))] sz) t) (va_A [(h0, .inr (7, [.ref p_op, .ref p_says, .ref p_places, .ref p_link, .ref p_home, .int p_marks, .ref w_lexer, .ref p_waiting, .ref p_waitingAt, .int p_waits, .int p_open, .int p_cons, .int p_types])), (w_lexer, .inr (4, [.ref x_text, .ref x_pool, .ref x_scratch, .ref x_nameAt, .ref x_nameSize, .ref x_heads, .ref x_nexts, .int x_names, .int x_poolSize, .int x_knownSize, .int x_textSize, .int x_here, .int x_tokens, .int 55, .int x_start, .int x_meaning, .int 2, .int x_spelled]))] sz)) 0 0 (va_A [(h0, .inr (7, [.ref p_op, .ref p_says, .ref p_places, .ref p_link, .ref p_home, .int p_marks, .ref w_lexer, .ref p_waiting, .ref p_waitingAt, .int p_waits, .int p_open, .int p_cons, .int p_types])), (w_lexer, .inr (4, [.ref x_text, .ref x_pool, .ref x_scratch, .ref x_nameAt, .ref x_nameSize, .ref x_heads, .ref x_nexts, .int x_names, .int x_poolSize, .int x_knownSize, .int x_textSize, .int x_here, .int x_tokens, .int 55, .int x_start, .int x_meaning, .int 2, .int x_spelled]))] sz) := by
  refine Met.ofW (cc := cX7_operand) (maxL := 4) (ret := none) (by decide) rfl ?_
  intro p e s m args below meth c s₁ B hml hv
  obtain ⟨rfl, hsz, hP, hK, hD0, hN⟩ := hv
  have hx := B.exec
  have hb := B.bytes
  have hr := B.returns
  have hts := atoms_spec (ws := zsX7_operand) B.pre
  have hown : s.vm.findClass RX7 = some m.cls := findClass_of_methodNamed B.named
  have hlocks := B.notSynchronized
  subst hsz
  have hD := hD0.self (sz := s.heap.size)
  generalize hAe : va_A [(h0, .inr (7, [.ref p_op, .ref p_says, .ref p_places, .ref p_link, .ref p_home, .int p_marks, .ref w_lexer, .ref p_waiting, .ref p_waitingAt, .int p_waits, .int p_open, .int p_cons, .int p_types])), (w_lexer, .inr (4, [.ref x_text, .ref x_pool, .ref x_scratch, .ref x_nameAt, .ref x_nameSize, .ref x_heads, .ref x_nexts, .int x_names, .int x_poolSize, .int x_knownSize, .int x_textSize, .int x_here, .int x_tokens, .int 55, .int x_start, .int x_meaning, .int 2, .int x_spelled]))] s.heap.size = A at hD ⊢
  have hA : ∀ q : Nat, s.heap.size ≤ q → A q := fun q h => by rw [← hAe]; exact Or.inr h
  have hS : va_S A s.heap s.heap [] := va_S.rf
  have hP : va_P (dC, dI) vwCl [(h0, .inr (7, [.ref p_op, .ref p_says, .ref p_places, .ref p_link, .ref p_home, .int p_marks, .ref w_lexer, .ref p_waiting, .ref p_waitingAt, .int p_waits, .int p_open, .int p_cons, .int p_types])), (w_lexer, .inr (4, [.ref x_text, .ref x_pool, .ref x_scratch, .ref x_nameAt, .ref x_nameSize, .ref x_heads, .ref x_nexts, .int x_names, .int x_poolSize, .int x_knownSize, .int x_textSize, .int x_here, .int x_tokens, .int 55, .int x_start, .int x_meaning, .int 2, .int x_spelled]))] s.heap := hP
  have hl := lv_entry ([.ref h0]) (n := 4) (Nat.le_of_ble_eq_true rfl)
  rw [lg_entry_eq]
  generalize (lg_sl ([.ref h0]) ++ List.replicate (4 - (lg_sl ([.ref h0])).length) Slot.unset).toArray = ls at hl ⊢
  have hl : lv_has ls 4 [(0, .ref h0)] := hl
  refine lv_iconst (v := 0) hx hb dX7_operand_0 (by decide) ?_
  refine lv_istore_n (lv' := [(1, .int 0), (0, .ref h0)]) hx hb dX7_operand_1 rfl hl (by decide) rfl ?_
  clear hl
  intro ls hl
  refine lv_iload_n hx hb dX7_operand_2 rfl (lv_at hl 0 rfl) ?_
  refine lv_sipush (v := 2000) hx hb dX7_operand_3 (by decide) ?_
  refine lv_icmp_gt (tgt := 127) hx hb dX7_operand_6 (by decide) (fun c_1 => absurd c_1 (by decide)) (fun c_1 => ?_)
  refine lv_aload_n hx hb dX7_operand_9 rfl (lv_at hl 1 rfl) ?_
  refine va_get (D := (dC, dI)) (ci := 7) (v := .ref w_lexer) (C := RX7) (T := TX7) (N := 13) hx hb hts (fun _ h9 => List.mem_cons_of_mem _ (List.mem_append_right _ (List.mem_append_left _ h9))) hown hK hP 0 rfl rfl 6 (by decide) (hts _ (List.mem_cons_of_mem _ (List.mem_append_left _ (List.mem_of_getElem? (i := 0) rfl)))) (fun _ h9 => h9) rfl dX7_operand_10 ?_
  refine va_get (D := (dC, dI)) (ci := 4) (v := .int x_start) (C := RX4) (T := TX4) (N := 18) hx hb hts (fun _ h9 => List.mem_cons_of_mem _ (List.mem_append_right _ (List.mem_append_right _ h9))) hown hK hP 1 rfl rfl 14 (by decide) (hts _ (List.mem_cons_of_mem _ (List.mem_append_left _ (List.mem_of_getElem? (i := 1) rfl)))) (fun _ h9 => h9) rfl dX7_operand_13 ?_
  refine lv_istore_n (lv' := [(2, .int x_start), (1, .int 0), (0, .ref h0)]) hx hb dX7_operand_16 rfl hl (by decide) rfl ?_
  clear hl
  intro ls hl
  refine lv_aload_n hx hb dX7_operand_17 rfl (lv_at hl 2 rfl) ?_
  refine va_get (D := (dC, dI)) (ci := 7) (v := .ref w_lexer) (C := RX7) (T := TX7) (N := 13) hx hb hts (fun _ h9 => List.mem_cons_of_mem _ (List.mem_append_right _ (List.mem_append_left _ h9))) hown hK hP 0 rfl rfl 6 (by decide) (hts _ (List.mem_cons_of_mem _ (List.mem_append_left _ (List.mem_of_getElem? (i := 0) rfl)))) (fun _ h9 => h9) rfl dX7_operand_18 ?_
  refine va_get (D := (dC, dI)) (ci := 4) (v := .int 55) (C := RX4) (T := TX4) (N := 18) hx hb hts (fun _ h9 => List.mem_cons_of_mem _ (List.mem_append_right _ (List.mem_append_right _ h9))) hown hK hP 1 rfl rfl 13 (by decide) (hts _ (List.mem_cons_of_mem _ (List.mem_append_left _ (List.mem_of_getElem? (i := 2) rfl)))) (fun _ h9 => h9) rfl dX7_operand_21 ?_
  refine lv_istore_n (lv' := [(3, .int 55), (2, .int x_start), (1, .int 0), (0, .ref h0)]) hx hb dX7_operand_24 rfl hl (by decide) rfl ?_
  clear hl
  intro ls hl
  refine lv_iload_n hx hb dX7_operand_25 rfl (lv_at hl 0 rfl) ?_
  refine aft_i (wr := [(h0, .inr (7, [.ref p_op, .ref p_says, .ref p_places, .ref p_link, .ref p_home, .int p_marks, .ref w_lexer, .ref p_waiting, .ref p_waitingAt, .int p_waits, .int p_open, .int p_cons, .int p_types])), (w_lexer, .inr (4, [.ref x_text, .ref x_pool, .ref x_scratch, .ref x_nameAt, .ref x_nameSize, .ref x_heads, .ref x_nexts, .int x_names, .int x_poolSize, .int x_knownSize, .int x_textSize, .int x_here, .int x_tokens, .int 55, .int x_start, .int x_meaning, .int 2, .int x_spelled]))]) (va_runS (As := [.int 55]) (rest := []) ⟨hx, hb, hml, hown, hts⟩ (c_X7_beginsAtom l dC dI s.heap.size ) (cwS 1 hts gzX7_operand_X7_beginsAtom_S194 rfl rfl rfl (by decide +kernel) ⟨Nat.le_of_ble_eq_true rfl, Nat.le_of_ble_eq_true rfl⟩) (wB.preS (hP.sub (ws' := []) [] rfl) (hK.sub (tys' := []) [] rfl) (hD.sub (ws' := []) [] (by decide) rfl) hN) rfl rfl hl.1 rfl (lv_room (Nat.le_of_ble_eq_true rfl)) dX7_operand_26 ⟨Nat.le_of_ble_eq_true rfl, Nat.le_of_ble_eq_true rfl⟩) hP hD hS hA [] [0, 1] rfl rfl (by decide) (by decide) ?_
  clear hP hD hS
  intro r_3 u_2 H locs w_4 hK1 hP hD hS
  replace hP : va_P (dC, dI) vwCl [(h0, .inr (7, [.ref p_op, .ref p_says, .ref p_places, .ref p_link, .ref p_home, .int p_marks, .ref w_lexer, .ref p_waiting, .ref p_waitingAt, .int p_waits, .int p_open, .int p_cons, .int p_types])), (w_lexer, .inr (4, [.ref x_text, .ref x_pool, .ref x_scratch, .ref x_nameAt, .ref x_nameSize, .ref x_heads, .ref x_nexts, .int x_names, .int x_poolSize, .int x_knownSize, .int x_textSize, .int x_here, .int x_tokens, .int 55, .int x_start, .int x_meaning, .int 2, .int x_spelled]))] H := hP
  replace hD : va_D A [(h0, .inr (7, [.ref p_op, .ref p_says, .ref p_places, .ref p_link, .ref p_home, .int p_marks, .ref w_lexer, .ref p_waiting, .ref p_waitingAt, .int p_waits, .int p_open, .int p_cons, .int p_types])), (w_lexer, .inr (4, [.ref x_text, .ref x_pool, .ref x_scratch, .ref x_nameAt, .ref x_nameSize, .ref x_heads, .ref x_nexts, .int x_names, .int x_poolSize, .int x_knownSize, .int x_textSize, .int x_here, .int x_tokens, .int 55, .int x_start, .int x_meaning, .int 2, .int x_spelled]))] := hD
  clear hK1
  try dsimp only at w_4
  obtain rfl : r_3 = 0 := w_4
  refine lv_if_ne (tgt := 42) hx hb dX7_operand_29 (by decide) (fun c_5 => absurd (by decide) c_5) (fun c_5 => ?_)
  refine lv_iload_n hx hb dX7_operand_32 rfl (lv_at hl 2 rfl) ?_
  refine lv_if_ne (tgt := 41) hx hb dX7_operand_33 (by decide) (fun c_6 => absurd (by decide) c_6) (fun c_6 => ?_)
  refine lv_aload_n hx hb dX7_operand_36 rfl (lv_at hl 3 rfl) ?_
  refine lv_iconst (v := 2) hx hb dX7_operand_37 (by decide) ?_
  refine aft_v (wr := []) (va_runV (As := [.int 2]) (rest := []) ⟨hx, hb, hml, hown, hts⟩ (c_X7_fail2 l dC dI H.size h0 w_lexer p_op p_says p_places p_link p_home p_waiting p_waitingAt p_marks p_waits p_open p_cons p_types x_text x_pool x_scratch x_nameAt x_nameSize x_heads x_nexts x_names x_poolSize x_knownSize x_textSize x_here x_tokens 55 x_start x_meaning x_spelled 2) (cwV 1 hts gzX7_operand_X7_fail_v2_V83 rfl rfl rfl (by decide +kernel) ⟨Nat.le_of_ble_eq_true rfl, Nat.le_of_ble_eq_true rfl⟩) (wB.preV (hP.sub (ws' := [(h0, .inr (7, [.ref p_op, .ref p_says, .ref p_places, .ref p_link, .ref p_home, .int p_marks, .ref w_lexer, .ref p_waiting, .ref p_waitingAt, .int p_waits, .int p_open, .int p_cons, .int p_types])), (w_lexer, .inr (4, [.ref x_text, .ref x_pool, .ref x_scratch, .ref x_nameAt, .ref x_nameSize, .ref x_heads, .ref x_nexts, .int x_names, .int x_poolSize, .int x_knownSize, .int x_textSize, .int x_here, .int x_tokens, .int 55, .int x_start, .int x_meaning, .int 2, .int x_spelled]))]) [0, 1] rfl) (hK.sub (tys' := []) [] rfl) (hD.sub (ws' := [(h0, .inr (7, [.ref p_op, .ref p_says, .ref p_places, .ref p_link, .ref p_home, .int p_marks, .ref w_lexer, .ref p_waiting, .ref p_waitingAt, .int p_waits, .int p_open, .int p_cons, .int p_types])), (w_lexer, .inr (4, [.ref x_text, .ref x_pool, .ref x_scratch, .ref x_nameAt, .ref x_nameSize, .ref x_heads, .ref x_nexts, .int x_names, .int x_poolSize, .int x_knownSize, .int x_textSize, .int x_here, .int x_tokens, .int 55, .int x_start, .int x_meaning, .int 2, .int x_spelled]))]) [0, 1] (by decide) rfl) hN 7 0 rfl rfl) rfl rfl hl.1 rfl (lv_room (Nat.le_of_ble_eq_true rfl)) dX7_operand_38 ⟨Nat.le_of_ble_eq_true rfl, Nat.le_of_ble_eq_true rfl⟩) hP hD hS hA [0, 1] [] rfl rfl (by decide) (by decide) ?_
  clear hP hD hS
  intro u_7 H locs w_9 hK1 hP hD hS
  replace hP : va_P (dC, dI) vwCl [(h0, .inr (7, [.ref p_op, .ref p_says, .ref p_places, .ref p_link, .ref p_home, .int p_marks, .ref w_lexer, .ref p_waiting, .ref p_waitingAt, .int p_waits, .int p_open, .int p_cons, .int p_types])), (w_lexer, .inr (4, [.ref x_text, .ref x_pool, .ref x_scratch, .ref x_nameAt, .ref x_nameSize, .ref x_heads, .ref x_nexts, .int x_names, .int x_poolSize, .int x_knownSize, .int x_textSize, .int x_here, .int x_tokens, .int 55, .int x_start, .int x_meaning, .int 2, .int x_spelled]))] H := hP
  replace hD : va_D A [(h0, .inr (7, [.ref p_op, .ref p_says, .ref p_places, .ref p_link, .ref p_home, .int p_marks, .ref w_lexer, .ref p_waiting, .ref p_waitingAt, .int p_waits, .int p_open, .int p_cons, .int p_types])), (w_lexer, .inr (4, [.ref x_text, .ref x_pool, .ref x_scratch, .ref x_nameAt, .ref x_nameSize, .ref x_heads, .ref x_nexts, .int x_names, .int x_poolSize, .int x_knownSize, .int x_textSize, .int x_here, .int x_tokens, .int 55, .int x_start, .int x_meaning, .int 2, .int x_spelled]))] := hD
  clear hK1
  try dsimp only at w_9
  have hP9 := hP.sub (ws' := [(h0, .inr (7, [.ref p_op, .ref p_says, .ref p_places, .ref p_link, .ref p_home, .int p_marks, .ref w_lexer, .ref p_waiting, .ref p_waitingAt, .int p_waits, .int p_open, .int p_cons, .int p_types])), (w_lexer, .inr (4, [.ref x_text, .ref x_pool, .ref x_scratch, .ref x_nameAt, .ref x_nameSize, .ref x_heads, .ref x_nexts, .int x_names, .int x_poolSize, .int x_knownSize, .int x_textSize, .int x_here, .int x_tokens, .int 55, .int x_start, .int x_meaning, .int 2, .int x_spelled]))]) [0, 1] rfl
  have hD9 := hD.sub (ws' := [(h0, .inr (7, [.ref p_op, .ref p_says, .ref p_places, .ref p_link, .ref p_home, .int p_marks, .ref w_lexer, .ref p_waiting, .ref p_waitingAt, .int p_waits, .int p_open, .int p_cons, .int p_types])), (w_lexer, .inr (4, [.ref x_text, .ref x_pool, .ref x_scratch, .ref x_nameAt, .ref x_nameSize, .ref x_heads, .ref x_nexts, .int x_names, .int x_poolSize, .int x_knownSize, .int x_textSize, .int x_here, .int x_tokens, .int 55, .int x_start, .int x_meaning, .int 2, .int x_spelled]))]) [0, 1] (by decide) rfl
  have hK9 := hK.sub (tys' := []) [] rfl
  exact W.vret hx hb hr (fun t ht hW => ⟨⟨(), rfl, trivial, wE.of ht hW hP9 hK9 hD9⟩, hS.F ht⟩) hS.2.2 dX7_operand_41

theorem dX7_settle_0 : decode cX7_settle 0 = .ok (.iload_n 2, 1) := by decide +kernel
theorem dX7_settle_1 : decode cX7_settle 1 = .ok (.invokestatic 181, 3) := by decide +kernel
theorem dX7_settle_4 : decode cX7_settle 4 = .ok (.istore_n 3, 1) := by decide +kernel
theorem dX7_settle_5 : decode cX7_settle 5 = .ok (.iconst 0, 1) := by decide +kernel
theorem dX7_settle_6 : decode cX7_settle 6 = .ok (.istore 4, 2) := by decide +kernel
theorem dX7_settle_8 : decode cX7_settle 8 = .ok (.iload 4, 2) := by decide +kernel
theorem dX7_settle_10 : decode cX7_settle 10 = .ok (.sipush 1024, 3) := by decide +kernel
theorem dX7_settle_13 : decode cX7_settle 13 = .ok (.if_icmp .ge 135, 3) := by decide +kernel
theorem dX7_settle_16 : decode cX7_settle 16 = .ok (.aload_n 0, 1) := by decide +kernel
theorem dX7_settle_17 : decode cX7_settle 17 = .ok (.getfield 41, 3) := by decide +kernel
theorem dX7_settle_20 : decode cX7_settle 20 = .ok (.iload_n 1, 1) := by decide +kernel
theorem dX7_settle_21 : decode cX7_settle 21 = .ok (.if_icmp .le 127, 3) := by decide +kernel
theorem dX7_settle_148 : decode cX7_settle 148 = .ok (.return_, 1) := by decide +kernel
def zlX7_settle : List Cond := [.methodLink RX7 181 yX7_strength, .static yX7_strength, .initialized RX7, .code yX7_strength cX7_strength 1 (some .int), .fieldLink RX7 41 "LeanHouse$Parser" "waits" "I"]
def zsX7_settle : List Cond := .code yX7_settle cX7_settle 8 none :: (zlX7_settle ++ (wsX70))
set_option maxRecDepth 20000 in
theorem gzX7_settle_X7_strength_v2_S181 : GoodIn zsX7_settle (wsS RX7 181 yX7_strength zsX7_strength_v2) := (goodIn_app (goodIn_r _ [1, 2, 3] (by decide +kernel) (by decide +kernel)) (goodIn_r _ [4] (by decide +kernel) (by decide +kernel)))
set_option maxHeartbeats 8000000 in
set_option maxRecDepth 100000 in
theorem c_X7_settle (l : Launch) (dC : Nat → ClassId) (dI : Nat → Nat → Nat) (sz : Nat) (h0 : Nat) (w_lexer : Nat) (p_op : Nat) (p_says : Nat) (p_places : Nat) (p_link : Nat) (p_home : Nat) (p_waiting : Nat) (p_waitingAt : Nat) (p_marks : Int32) (p_open : Int32) (p_cons : Int32) (p_types : Int32) : Met l yX7_settle zsX7_settle ({ frames := 3, cells := 0, slots := 0, locals := 58 } : Room) (va_Pc [.ref h0, .int 0, .int (-1)] (wB (dC, dI) vwCl nestM [] [(h0, .inr (7, [.ref p_op, .ref p_says, .ref p_places, .ref p_link, .ref p_home, .int p_marks, .ref w_lexer, .ref p_waiting, .ref p_waitingAt, .int 0, .int p_open, .int p_cons, .int p_types]))] sz)) (va_Qv (fun (u : Unit) => True) (fun (u : Unit) (t : State) => wE (dC, dI) vwCl [] [(h0, .inr (7, [.ref p_op, .ref p_says, .ref p_places, .ref p_link, .ref p_home, .int p_marks, .ref w_lexer, .ref p_waiting, .ref p_waitingAt, .int 0, .int p_open, .int p_cons, .int p_types]))] (va_A [(h0, .inr (7, [.ref p_op, .ref p_says, .ref p_places, .ref p_link, .ref p_home, .int p_marks, .ref w_lexer, .ref p_waiting, .ref p_waitingAt, .int 0, .int p_open, .int p_cons, .int p_types]))] sz) t) (va_A [(h0, .inr (7, [.ref p_op, .ref p_says, .ref p_places, .ref p_link, .ref p_home, .int p_marks, .ref w_lexer, .ref p_waiting, .ref p_waitingAt, .int 0, .int p_open, .int p_cons, .int p_types]))] sz)) 0 0 (va_A [(h0, .inr (7, [.ref p_op, .ref p_says, .ref p_places, .ref p_link, .ref p_home, .int p_marks, .ref w_lexer, .ref p_waiting, .ref p_waitingAt, .int 0, .int p_open, .int p_cons, .int p_types]))] sz) := by
  refine Met.ofW (cc := cX7_settle) (maxL := 8) (ret := none) (by decide) rfl ?_
  intro p e s m args below meth c s₁ B hml hv
  obtain ⟨rfl, hsz, hP, hK, hD0, hN⟩ := hv
  have hx := B.exec
  have hb := B.bytes
  have hr := B.returns
  have hts := atoms_spec (ws := zsX7_settle) B.pre
  have hown : s.vm.findClass RX7 = some m.cls := findClass_of_methodNamed B.named
  have hlocks := B.notSynchronized
  subst hsz
  have hD := hD0.self (sz := s.heap.size)
  generalize hAe : va_A [(h0, .inr (7, [.ref p_op, .ref p_says, .ref p_places, .ref p_link, .ref p_home, .int p_marks, .ref w_lexer, .ref p_waiting, .ref p_waitingAt, .int 0, .int p_open, .int p_cons, .int p_types]))] s.heap.size = A at hD ⊢
  have hA : ∀ q : Nat, s.heap.size ≤ q → A q := fun q h => by rw [← hAe]; exact Or.inr h
  have hS : va_S A s.heap s.heap [] := va_S.rf
  have hP : va_P (dC, dI) vwCl [(h0, .inr (7, [.ref p_op, .ref p_says, .ref p_places, .ref p_link, .ref p_home, .int p_marks, .ref w_lexer, .ref p_waiting, .ref p_waitingAt, .int 0, .int p_open, .int p_cons, .int p_types]))] s.heap := hP
  have hl := lv_entry ([.ref h0, .int 0, .int (-1)]) (n := 8) (Nat.le_of_ble_eq_true rfl)
  rw [lg_entry_eq]
  generalize (lg_sl ([.ref h0, .int 0, .int (-1)]) ++ List.replicate (8 - (lg_sl ([.ref h0, .int 0, .int (-1)])).length) Slot.unset).toArray = ls at hl ⊢
  have hl : lv_has ls 8 [(0, .ref h0), (1, .int 0), (2, .int (-1))] := hl
  refine lv_iload_n hx hb dX7_settle_0 rfl (lv_at hl 2 rfl) ?_
  refine aft_i (wr := [(h0, .inr (7, [.ref p_op, .ref p_says, .ref p_places, .ref p_link, .ref p_home, .int p_marks, .ref w_lexer, .ref p_waiting, .ref p_waitingAt, .int 0, .int p_open, .int p_cons, .int p_types]))]) (va_runS (As := [.int (-1)]) (rest := []) ⟨hx, hb, hml, hown, hts⟩ (c_X7_strength_m1 l dC dI s.heap.size ) (cwS 1 hts gzX7_settle_X7_strength_v2_S181 rfl rfl rfl (by decide +kernel) ⟨Nat.le_of_ble_eq_true rfl, Nat.le_of_ble_eq_true rfl⟩) (wB.preS (hP.sub (ws' := []) [] rfl) (hK.sub (tys' := []) [] rfl) (hD.sub (ws' := []) [] (by decide) rfl) hN) rfl rfl hl.1 rfl (lv_room (Nat.le_of_ble_eq_true rfl)) dX7_settle_1 ⟨Nat.le_of_ble_eq_true rfl, Nat.le_of_ble_eq_true rfl⟩) hP hD hS hA [] [0] rfl rfl (by decide) (by decide) ?_
  clear hP hD hS
  intro r_2 u_1 H locs w_3 hK1 hP hD hS
  replace hP : va_P (dC, dI) vwCl [(h0, .inr (7, [.ref p_op, .ref p_says, .ref p_places, .ref p_link, .ref p_home, .int p_marks, .ref w_lexer, .ref p_waiting, .ref p_waitingAt, .int 0, .int p_open, .int p_cons, .int p_types]))] H := hP
  replace hD : va_D A [(h0, .inr (7, [.ref p_op, .ref p_says, .ref p_places, .ref p_link, .ref p_home, .int p_marks, .ref w_lexer, .ref p_waiting, .ref p_waitingAt, .int 0, .int p_open, .int p_cons, .int p_types]))] := hD
  clear hK1
  try dsimp only at w_3
  obtain rfl : r_2 = 0 := w_3
  refine lv_istore_n (lv' := [(3, .int 0), (0, .ref h0), (1, .int 0), (2, .int (-1))]) hx hb dX7_settle_4 rfl hl (by decide) rfl ?_
  clear hl
  intro ls hl
  refine lv_iconst (v := 0) hx hb dX7_settle_5 (by decide) ?_
  refine lv_istore (lv' := [(4, .int 0), (3, .int 0), (0, .ref h0), (1, .int 0), (2, .int (-1))]) hx hb dX7_settle_6 hl (by decide) rfl ?_
  clear hl
  intro ls hl
  refine lv_iload hx hb dX7_settle_8 (lv_at hl 0 rfl) ?_
  refine lv_sipush (v := 1024) hx hb dX7_settle_10 (by decide) ?_
  refine lv_icmp_ge (tgt := 148) hx hb dX7_settle_13 (by decide) (fun c_4 => absurd c_4 (by decide)) (fun c_4 => ?_)
  refine lv_aload_n hx hb dX7_settle_16 rfl (lv_at hl 2 rfl) ?_
  refine va_get (D := (dC, dI)) (ci := 7) (v := .int 0) (C := RX7) (T := TX7) (N := 13) hx hb hts (fun _ h9 => List.mem_cons_of_mem _ (List.mem_append_right _ h9)) hown hK hP 0 rfl rfl 9 (by decide) (hts _ (List.mem_cons_of_mem _ (List.mem_append_left _ (List.mem_of_getElem? (i := 4) rfl)))) (fun _ h9 => h9) rfl dX7_settle_17 ?_
  refine lv_iload_n hx hb dX7_settle_20 rfl (lv_at hl 3 rfl) ?_
  refine lv_icmp_le (tgt := 148) hx hb dX7_settle_21 (by decide) (fun c_5 => ?_) (fun c_5 => absurd (by decide) c_5)
  have hP9 := hP.sub (ws' := [(h0, .inr (7, [.ref p_op, .ref p_says, .ref p_places, .ref p_link, .ref p_home, .int p_marks, .ref w_lexer, .ref p_waiting, .ref p_waitingAt, .int 0, .int p_open, .int p_cons, .int p_types]))]) [0] rfl
  have hD9 := hD.sub (ws' := [(h0, .inr (7, [.ref p_op, .ref p_says, .ref p_places, .ref p_link, .ref p_home, .int p_marks, .ref w_lexer, .ref p_waiting, .ref p_waitingAt, .int 0, .int p_open, .int p_cons, .int p_types]))]) [0] (by decide) rfl
  have hK9 := hK.sub (tys' := []) [] rfl
  exact W.vret hx hb hr (fun t ht hW => ⟨⟨(), rfl, trivial, wE.of ht hW hP9 hK9 hD9⟩, hS.F ht⟩) hS.2.2 dX7_settle_148

theorem dX7_low_0 : decode cX7_low 0 = .ok (.aload_n 0, 1) := by decide +kernel
theorem dX7_low_1 : decode cX7_low 1 = .ok (.getfield 41, 3) := by decide +kernel
theorem dX7_low_4 : decode cX7_low 4 = .ok (.istore_n 1, 1) := by decide +kernel
theorem dX7_low_5 : decode cX7_low 5 = .ok (.bipush 8, 2) := by decide +kernel
theorem dX7_low_7 : decode cX7_low 7 = .ok (.istore_n 2, 1) := by decide +kernel
theorem dX7_low_8 : decode cX7_low 8 = .ok (.aload_n 0, 1) := by decide +kernel
theorem dX7_low_9 : decode cX7_low 9 = .ok (.invokevirtual 178, 3) := by decide +kernel
theorem dX7_low_12 : decode cX7_low 12 = .ok (.iconst 0, 1) := by decide +kernel
theorem dX7_low_13 : decode cX7_low 13 = .ok (.istore_n 3, 1) := by decide +kernel
theorem dX7_low_14 : decode cX7_low 14 = .ok (.iload_n 3, 1) := by decide +kernel
theorem dX7_low_15 : decode cX7_low 15 = .ok (.sipush 2000, 3) := by decide +kernel
theorem dX7_low_18 : decode cX7_low 18 = .ok (.if_icmp .gt 273, 3) := by decide +kernel
theorem dX7_low_21 : decode cX7_low 21 = .ok (.aload_n 0, 1) := by decide +kernel
theorem dX7_low_22 : decode cX7_low 22 = .ok (.getfield 33, 3) := by decide +kernel
theorem dX7_low_25 : decode cX7_low 25 = .ok (.getfield 64, 3) := by decide +kernel
theorem dX7_low_28 : decode cX7_low 28 = .ok (.invokestatic 181, 3) := by decide +kernel
theorem dX7_low_31 : decode cX7_low 31 = .ok (.ifCond .le 260, 3) := by decide +kernel
theorem dX7_low_291 : decode cX7_low 291 = .ok (.aload_n 0, 1) := by decide +kernel
theorem dX7_low_292 : decode cX7_low 292 = .ok (.iload_n 1, 1) := by decide +kernel
theorem dX7_low_293 : decode cX7_low 293 = .ok (.iconst (-1), 1) := by decide +kernel
theorem dX7_low_294 : decode cX7_low 294 = .ok (.invokevirtual 185, 3) := by decide +kernel
theorem dX7_low_297 : decode cX7_low 297 = .ok (.return_, 1) := by decide +kernel
def zlX7_low : List Cond := [.fieldLink RX7 41 "LeanHouse$Parser" "waits" "I", .methodLink RX7 178 yX7_operand, .instanceMethod yX7_operand, .selects RX7 yX7_operand yX7_operand, .initialized RX7, .code yX7_operand cX7_operand 4 none, .fieldLink RX7 33 "LeanHouse$Parser" "lexer" "LLeanHouse$Lexer;", .fieldLink RX7 102 "LeanHouse$Lexer" "start" "I", .fieldLink RX7 64 "LeanHouse$Lexer" "kind" "I", .methodLink RX7 194 yX7_beginsAtom, .static yX7_beginsAtom, .code yX7_beginsAtom cX7_beginsAtom 1 (some .boolean), .methodLink RX7 83 yX7_fail, .instanceMethod yX7_fail, .selects RX7 yX7_fail yX7_fail, .code yX7_fail cX7_fail 2 none, .fieldLink RX7 86 "LeanHouse$Lexer" "trouble" "I", .methodLink RX7 181 yX7_strength, .static yX7_strength, .code yX7_strength cX7_strength 1 (some .int), .methodLink RX7 185 yX7_settle, .instanceMethod yX7_settle, .selects RX7 yX7_settle yX7_settle, .code yX7_settle cX7_settle 8 none]
def zsX7_low : List Cond := .code yX7_low cX7_low 7 none :: (zlX7_low ++ (wsX70 ++ (wsX40)))
set_option maxRecDepth 20000 in
theorem gzX7_low_X7_operand_V178 : GoodIn zsX7_low (wsV RX7 178 RX7 yX7_operand zsX7_operand) := (goodIn_app (goodIn_r _ [2, 3, 4, 5] (by decide +kernel) (by decide +kernel)) (goodIn_ca (goodIn_r _ [6, 7, 8, 9, 10, 11, 5, 12, 13, 14, 15, 16, 17] (by decide +kernel) (by decide +kernel)) (goodIn_app (goodIn_sub (fun _ h9 => List.mem_cons_of_mem _ (List.mem_append_right _ (List.mem_append_left _ h9))) gwX7) (goodIn_sub (fun _ h9 => List.mem_cons_of_mem _ (List.mem_append_right _ (List.mem_append_right _ h9))) gwX4))))
set_option maxRecDepth 20000 in
theorem gzX7_low_X7_strength_S181 : GoodIn zsX7_low (wsS RX7 181 yX7_strength zsX7_strength) := (goodIn_app (goodIn_r _ [18, 19, 5] (by decide +kernel) (by decide +kernel)) (goodIn_r _ [20] (by decide +kernel) (by decide +kernel)))
set_option maxRecDepth 20000 in
theorem gzX7_low_X7_settle_V185 : GoodIn zsX7_low (wsV RX7 185 RX7 yX7_settle zsX7_settle) := (goodIn_app (goodIn_r _ [21, 22, 23, 5] (by decide +kernel) (by decide +kernel)) (goodIn_ca (goodIn_r _ [24, 18, 19, 5, 20, 1] (by decide +kernel) (by decide +kernel)) (goodIn_sub (fun _ h9 => List.mem_cons_of_mem _ (List.mem_append_right _ (List.mem_append_left _ h9))) gwX7)))
set_option maxHeartbeats 8000000 in
set_option maxRecDepth 100000 in
theorem c_X7_low (l : Launch) (dC : Nat → ClassId) (dI : Nat → Nat → Nat) (sz : Nat) (h0 : Nat) (w_lexer : Nat) (p_op : Nat) (p_says : Nat) (p_places : Nat) (p_link : Nat) (p_home : Nat) (p_waiting : Nat) (p_waitingAt : Nat) (p_marks : Int32) (p_open : Int32) (p_cons : Int32) (p_types : Int32) (x_text : Nat) (x_pool : Nat) (x_scratch : Nat) (x_nameAt : Nat) (x_nameSize : Nat) (x_heads : Nat) (x_nexts : Nat) (x_names : Int32) (x_poolSize : Int32) (x_knownSize : Int32) (x_textSize : Int32) (x_here : Int32) (x_tokens : Int32) (x_start : Int32) (x_meaning : Int32) (x_spelled : Int32) : Met l yX7_low zsX7_low ({ frames := 4, cells := 0, slots := 0, locals := 85 } : Room) (va_Pc [.ref h0] (wB (dC, dI) vwCl nestM [] [(h0, .inr (7, [.ref p_op, .ref p_says, .ref p_places, .ref p_link, .ref p_home, .int p_marks, .ref w_lexer, .ref p_waiting, .ref p_waitingAt, .int 0, .int p_open, .int p_cons, .int p_types])), (w_lexer, .inr (4, [.ref x_text, .ref x_pool, .ref x_scratch, .ref x_nameAt, .ref x_nameSize, .ref x_heads, .ref x_nexts, .int x_names, .int x_poolSize, .int x_knownSize, .int x_textSize, .int x_here, .int x_tokens, .int 55, .int x_start, .int x_meaning, .int 2, .int x_spelled]))] sz)) (va_Qv (fun (u : Unit) => True) (fun (u : Unit) (t : State) => wE (dC, dI) vwCl [] [(h0, .inr (7, [.ref p_op, .ref p_says, .ref p_places, .ref p_link, .ref p_home, .int p_marks, .ref w_lexer, .ref p_waiting, .ref p_waitingAt, .int 0, .int p_open, .int p_cons, .int p_types])), (w_lexer, .inr (4, [.ref x_text, .ref x_pool, .ref x_scratch, .ref x_nameAt, .ref x_nameSize, .ref x_heads, .ref x_nexts, .int x_names, .int x_poolSize, .int x_knownSize, .int x_textSize, .int x_here, .int x_tokens, .int 55, .int x_start, .int x_meaning, .int 2, .int x_spelled]))] (va_A [(h0, .inr (7, [.ref p_op, .ref p_says, .ref p_places, .ref p_link, .ref p_home, .int p_marks, .ref w_lexer, .ref p_waiting, .ref p_waitingAt, .int 0, .int p_open, .int p_cons, .int p_types])), (w_lexer, .inr (4, [.ref x_text, .ref x_pool, .ref x_scratch, .ref x_nameAt, .ref x_nameSize, .ref x_heads, .ref x_nexts, .int x_names, .int x_poolSize, .int x_knownSize, .int x_textSize, .int x_here, .int x_tokens, .int 55, .int x_start, .int x_meaning, .int 2, .int x_spelled]))] sz) t) (va_A [(h0, .inr (7, [.ref p_op, .ref p_says, .ref p_places, .ref p_link, .ref p_home, .int p_marks, .ref w_lexer, .ref p_waiting, .ref p_waitingAt, .int 0, .int p_open, .int p_cons, .int p_types])), (w_lexer, .inr (4, [.ref x_text, .ref x_pool, .ref x_scratch, .ref x_nameAt, .ref x_nameSize, .ref x_heads, .ref x_nexts, .int x_names, .int x_poolSize, .int x_knownSize, .int x_textSize, .int x_here, .int x_tokens, .int 55, .int x_start, .int x_meaning, .int 2, .int x_spelled]))] sz)) 0 0 (va_A [(h0, .inr (7, [.ref p_op, .ref p_says, .ref p_places, .ref p_link, .ref p_home, .int p_marks, .ref w_lexer, .ref p_waiting, .ref p_waitingAt, .int 0, .int p_open, .int p_cons, .int p_types])), (w_lexer, .inr (4, [.ref x_text, .ref x_pool, .ref x_scratch, .ref x_nameAt, .ref x_nameSize, .ref x_heads, .ref x_nexts, .int x_names, .int x_poolSize, .int x_knownSize, .int x_textSize, .int x_here, .int x_tokens, .int 55, .int x_start, .int x_meaning, .int 2, .int x_spelled]))] sz) := by
  refine Met.ofW (cc := cX7_low) (maxL := 7) (ret := none) (by decide) rfl ?_
  intro p e s m args below meth c s₁ B hml hv
  obtain ⟨rfl, hsz, hP, hK, hD0, hN⟩ := hv
  have hx := B.exec
  have hb := B.bytes
  have hr := B.returns
  have hts := atoms_spec (ws := zsX7_low) B.pre
  have hown : s.vm.findClass RX7 = some m.cls := findClass_of_methodNamed B.named
  have hlocks := B.notSynchronized
  subst hsz
  have hD := hD0.self (sz := s.heap.size)
  generalize hAe : va_A [(h0, .inr (7, [.ref p_op, .ref p_says, .ref p_places, .ref p_link, .ref p_home, .int p_marks, .ref w_lexer, .ref p_waiting, .ref p_waitingAt, .int 0, .int p_open, .int p_cons, .int p_types])), (w_lexer, .inr (4, [.ref x_text, .ref x_pool, .ref x_scratch, .ref x_nameAt, .ref x_nameSize, .ref x_heads, .ref x_nexts, .int x_names, .int x_poolSize, .int x_knownSize, .int x_textSize, .int x_here, .int x_tokens, .int 55, .int x_start, .int x_meaning, .int 2, .int x_spelled]))] s.heap.size = A at hD ⊢
  have hA : ∀ q : Nat, s.heap.size ≤ q → A q := fun q h => by rw [← hAe]; exact Or.inr h
  have hS : va_S A s.heap s.heap [] := va_S.rf
  have hP : va_P (dC, dI) vwCl [(h0, .inr (7, [.ref p_op, .ref p_says, .ref p_places, .ref p_link, .ref p_home, .int p_marks, .ref w_lexer, .ref p_waiting, .ref p_waitingAt, .int 0, .int p_open, .int p_cons, .int p_types])), (w_lexer, .inr (4, [.ref x_text, .ref x_pool, .ref x_scratch, .ref x_nameAt, .ref x_nameSize, .ref x_heads, .ref x_nexts, .int x_names, .int x_poolSize, .int x_knownSize, .int x_textSize, .int x_here, .int x_tokens, .int 55, .int x_start, .int x_meaning, .int 2, .int x_spelled]))] s.heap := hP
  have hl := lv_entry ([.ref h0]) (n := 7) (Nat.le_of_ble_eq_true rfl)
  rw [lg_entry_eq]
  generalize (lg_sl ([.ref h0]) ++ List.replicate (7 - (lg_sl ([.ref h0])).length) Slot.unset).toArray = ls at hl ⊢
  have hl : lv_has ls 7 [(0, .ref h0)] := hl
  refine lv_aload_n hx hb dX7_low_0 rfl (lv_at hl 0 rfl) ?_
  refine va_get (D := (dC, dI)) (ci := 7) (v := .int 0) (C := RX7) (T := TX7) (N := 13) hx hb hts (fun _ h9 => List.mem_cons_of_mem _ (List.mem_append_right _ (List.mem_append_left _ h9))) hown hK hP 0 rfl rfl 9 (by decide) (hts _ (List.mem_cons_of_mem _ (List.mem_append_left _ (List.mem_of_getElem? (i := 0) rfl)))) (fun _ h9 => h9) rfl dX7_low_1 ?_
  refine lv_istore_n (lv' := [(1, .int 0), (0, .ref h0)]) hx hb dX7_low_4 rfl hl (by decide) rfl ?_
  clear hl
  intro ls hl
  refine lv_bipush (v := 8) hx hb dX7_low_5 (by decide) ?_
  refine lv_istore_n (lv' := [(2, .int 8), (1, .int 0), (0, .ref h0)]) hx hb dX7_low_7 rfl hl (by decide) rfl ?_
  clear hl
  intro ls hl
  refine lv_aload_n hx hb dX7_low_8 rfl (lv_at hl 2 rfl) ?_
  refine aft_v (wr := []) (va_runV (As := []) (rest := []) ⟨hx, hb, hml, hown, hts⟩ (c_X7_operand l dC dI s.heap.size h0 w_lexer p_op p_says p_places p_link p_home p_waiting p_waitingAt p_marks 0 p_open p_cons p_types x_text x_pool x_scratch x_nameAt x_nameSize x_heads x_nexts x_names x_poolSize x_knownSize x_textSize x_here x_tokens x_start x_meaning x_spelled) (cwV 0 hts gzX7_low_X7_operand_V178 rfl rfl rfl (by decide +kernel) ⟨Nat.le_of_ble_eq_true rfl, Nat.le_of_ble_eq_true rfl⟩) (wB.preV (hP.sub (ws' := [(h0, .inr (7, [.ref p_op, .ref p_says, .ref p_places, .ref p_link, .ref p_home, .int p_marks, .ref w_lexer, .ref p_waiting, .ref p_waitingAt, .int 0, .int p_open, .int p_cons, .int p_types])), (w_lexer, .inr (4, [.ref x_text, .ref x_pool, .ref x_scratch, .ref x_nameAt, .ref x_nameSize, .ref x_heads, .ref x_nexts, .int x_names, .int x_poolSize, .int x_knownSize, .int x_textSize, .int x_here, .int x_tokens, .int 55, .int x_start, .int x_meaning, .int 2, .int x_spelled]))]) [0, 1] rfl) (hK.sub (tys' := []) [] rfl) (hD.sub (ws' := [(h0, .inr (7, [.ref p_op, .ref p_says, .ref p_places, .ref p_link, .ref p_home, .int p_marks, .ref w_lexer, .ref p_waiting, .ref p_waitingAt, .int 0, .int p_open, .int p_cons, .int p_types])), (w_lexer, .inr (4, [.ref x_text, .ref x_pool, .ref x_scratch, .ref x_nameAt, .ref x_nameSize, .ref x_heads, .ref x_nexts, .int x_names, .int x_poolSize, .int x_knownSize, .int x_textSize, .int x_here, .int x_tokens, .int 55, .int x_start, .int x_meaning, .int 2, .int x_spelled]))]) [0, 1] (by decide) rfl) hN 7 0 rfl rfl) rfl rfl hl.1 rfl (lv_room (Nat.le_of_ble_eq_true rfl)) dX7_low_9 ⟨Nat.le_of_ble_eq_true rfl, Nat.le_of_ble_eq_true rfl⟩) hP hD hS hA [0, 1] [] rfl rfl (by decide) (by decide) ?_
  clear hP hD hS
  intro u_1 H locs w_3 hK1 hP hD hS
  replace hP : va_P (dC, dI) vwCl [(h0, .inr (7, [.ref p_op, .ref p_says, .ref p_places, .ref p_link, .ref p_home, .int p_marks, .ref w_lexer, .ref p_waiting, .ref p_waitingAt, .int 0, .int p_open, .int p_cons, .int p_types])), (w_lexer, .inr (4, [.ref x_text, .ref x_pool, .ref x_scratch, .ref x_nameAt, .ref x_nameSize, .ref x_heads, .ref x_nexts, .int x_names, .int x_poolSize, .int x_knownSize, .int x_textSize, .int x_here, .int x_tokens, .int 55, .int x_start, .int x_meaning, .int 2, .int x_spelled]))] H := hP
  replace hD : va_D A [(h0, .inr (7, [.ref p_op, .ref p_says, .ref p_places, .ref p_link, .ref p_home, .int p_marks, .ref w_lexer, .ref p_waiting, .ref p_waitingAt, .int 0, .int p_open, .int p_cons, .int p_types])), (w_lexer, .inr (4, [.ref x_text, .ref x_pool, .ref x_scratch, .ref x_nameAt, .ref x_nameSize, .ref x_heads, .ref x_nexts, .int x_names, .int x_poolSize, .int x_knownSize, .int x_textSize, .int x_here, .int x_tokens, .int 55, .int x_start, .int x_meaning, .int 2, .int x_spelled]))] := hD
  clear hK1
  try dsimp only at w_3
  refine lv_iconst (v := 0) hx hb dX7_low_12 (by decide) ?_
  refine lv_istore_n (lv' := [(3, .int 0), (2, .int 8), (1, .int 0), (0, .ref h0)]) hx hb dX7_low_13 rfl hl (by decide) rfl ?_
  clear hl
  intro ls hl
  refine lv_iload_n hx hb dX7_low_14 rfl (lv_at hl 0 rfl) ?_
  refine lv_sipush (v := 2000) hx hb dX7_low_15 (by decide) ?_
  refine lv_icmp_gt (tgt := 291) hx hb dX7_low_18 (by decide) (fun c_4 => absurd c_4 (by decide)) (fun c_4 => ?_)
  refine lv_aload_n hx hb dX7_low_21 rfl (lv_at hl 3 rfl) ?_
  refine va_get (D := (dC, dI)) (ci := 7) (v := .ref w_lexer) (C := RX7) (T := TX7) (N := 13) hx hb hts (fun _ h9 => List.mem_cons_of_mem _ (List.mem_append_right _ (List.mem_append_left _ h9))) hown hK hP 0 rfl rfl 6 (by decide) (hts _ (List.mem_cons_of_mem _ (List.mem_append_left _ (List.mem_of_getElem? (i := 6) rfl)))) (fun _ h9 => h9) rfl dX7_low_22 ?_
  refine va_get (D := (dC, dI)) (ci := 4) (v := .int 55) (C := RX4) (T := TX4) (N := 18) hx hb hts (fun _ h9 => List.mem_cons_of_mem _ (List.mem_append_right _ (List.mem_append_right _ h9))) hown hK hP 1 rfl rfl 13 (by decide) (hts _ (List.mem_cons_of_mem _ (List.mem_append_left _ (List.mem_of_getElem? (i := 8) rfl)))) (fun _ h9 => h9) rfl dX7_low_25 ?_
  refine aft_i (wr := [(h0, .inr (7, [.ref p_op, .ref p_says, .ref p_places, .ref p_link, .ref p_home, .int p_marks, .ref w_lexer, .ref p_waiting, .ref p_waitingAt, .int 0, .int p_open, .int p_cons, .int p_types])), (w_lexer, .inr (4, [.ref x_text, .ref x_pool, .ref x_scratch, .ref x_nameAt, .ref x_nameSize, .ref x_heads, .ref x_nexts, .int x_names, .int x_poolSize, .int x_knownSize, .int x_textSize, .int x_here, .int x_tokens, .int 55, .int x_start, .int x_meaning, .int 2, .int x_spelled]))]) (va_runS (As := [.int 55]) (rest := []) ⟨hx, hb, hml, hown, hts⟩ (c_X7_strength_55 l dC dI H.size ) (cwS 1 hts gzX7_low_X7_strength_S181 rfl rfl rfl (by decide +kernel) ⟨Nat.le_of_ble_eq_true rfl, Nat.le_of_ble_eq_true rfl⟩) (wB.preS (hP.sub (ws' := []) [] rfl) (hK.sub (tys' := []) [] rfl) (hD.sub (ws' := []) [] (by decide) rfl) hN) rfl rfl hl.1 rfl (lv_room (Nat.le_of_ble_eq_true rfl)) dX7_low_28 ⟨Nat.le_of_ble_eq_true rfl, Nat.le_of_ble_eq_true rfl⟩) hP hD hS hA [] [0, 1] rfl rfl (by decide) (by decide) ?_
  clear hP hD hS
  intro r_6 u_5 H locs w_7 hK1 hP hD hS
  replace hP : va_P (dC, dI) vwCl [(h0, .inr (7, [.ref p_op, .ref p_says, .ref p_places, .ref p_link, .ref p_home, .int p_marks, .ref w_lexer, .ref p_waiting, .ref p_waitingAt, .int 0, .int p_open, .int p_cons, .int p_types])), (w_lexer, .inr (4, [.ref x_text, .ref x_pool, .ref x_scratch, .ref x_nameAt, .ref x_nameSize, .ref x_heads, .ref x_nexts, .int x_names, .int x_poolSize, .int x_knownSize, .int x_textSize, .int x_here, .int x_tokens, .int 55, .int x_start, .int x_meaning, .int 2, .int x_spelled]))] H := hP
  replace hD : va_D A [(h0, .inr (7, [.ref p_op, .ref p_says, .ref p_places, .ref p_link, .ref p_home, .int p_marks, .ref w_lexer, .ref p_waiting, .ref p_waitingAt, .int 0, .int p_open, .int p_cons, .int p_types])), (w_lexer, .inr (4, [.ref x_text, .ref x_pool, .ref x_scratch, .ref x_nameAt, .ref x_nameSize, .ref x_heads, .ref x_nexts, .int x_names, .int x_poolSize, .int x_knownSize, .int x_textSize, .int x_here, .int x_tokens, .int 55, .int x_start, .int x_meaning, .int 2, .int x_spelled]))] := hD
  clear hK1
  try dsimp only at w_7
  obtain rfl : r_6 = 0 := w_7
  refine lv_if_le (tgt := 291) hx hb dX7_low_31 (by decide) (fun c_8 => ?_) (fun c_8 => absurd (by decide) c_8)
  refine lv_aload_n hx hb dX7_low_291 rfl (lv_at hl 3 rfl) ?_
  refine lv_iload_n hx hb dX7_low_292 rfl (lv_at hl 2 rfl) ?_
  refine lv_iconst (v := (-1)) hx hb dX7_low_293 (by decide) ?_
  refine aft_v (wr := [(w_lexer, .inr (4, [.ref x_text, .ref x_pool, .ref x_scratch, .ref x_nameAt, .ref x_nameSize, .ref x_heads, .ref x_nexts, .int x_names, .int x_poolSize, .int x_knownSize, .int x_textSize, .int x_here, .int x_tokens, .int 55, .int x_start, .int x_meaning, .int 2, .int x_spelled]))]) (va_runV (As := [.int 0, .int (-1)]) (rest := []) ⟨hx, hb, hml, hown, hts⟩ (c_X7_settle l dC dI H.size h0 w_lexer p_op p_says p_places p_link p_home p_waiting p_waitingAt p_marks p_open p_cons p_types) (cwV 2 hts gzX7_low_X7_settle_V185 rfl rfl rfl (by decide +kernel) ⟨Nat.le_of_ble_eq_true rfl, Nat.le_of_ble_eq_true rfl⟩) (wB.preV (hP.sub (ws' := [(h0, .inr (7, [.ref p_op, .ref p_says, .ref p_places, .ref p_link, .ref p_home, .int p_marks, .ref w_lexer, .ref p_waiting, .ref p_waitingAt, .int 0, .int p_open, .int p_cons, .int p_types]))]) [0] rfl) (hK.sub (tys' := []) [] rfl) (hD.sub (ws' := [(h0, .inr (7, [.ref p_op, .ref p_says, .ref p_places, .ref p_link, .ref p_home, .int p_marks, .ref w_lexer, .ref p_waiting, .ref p_waitingAt, .int 0, .int p_open, .int p_cons, .int p_types]))]) [0] (by decide) rfl) hN 7 0 rfl rfl) rfl rfl hl.1 rfl (lv_room (Nat.le_of_ble_eq_true rfl)) dX7_low_294 ⟨Nat.le_of_ble_eq_true rfl, Nat.le_of_ble_eq_true rfl⟩) hP hD hS hA [0] [1] rfl rfl (by decide) (by decide) ?_
  clear hP hD hS
  intro u_9 H locs w_11 hK1 hP hD hS
  replace hP : va_P (dC, dI) vwCl [(w_lexer, .inr (4, [.ref x_text, .ref x_pool, .ref x_scratch, .ref x_nameAt, .ref x_nameSize, .ref x_heads, .ref x_nexts, .int x_names, .int x_poolSize, .int x_knownSize, .int x_textSize, .int x_here, .int x_tokens, .int 55, .int x_start, .int x_meaning, .int 2, .int x_spelled])), (h0, .inr (7, [.ref p_op, .ref p_says, .ref p_places, .ref p_link, .ref p_home, .int p_marks, .ref w_lexer, .ref p_waiting, .ref p_waitingAt, .int 0, .int p_open, .int p_cons, .int p_types]))] H := hP
  replace hD : va_D A [(w_lexer, .inr (4, [.ref x_text, .ref x_pool, .ref x_scratch, .ref x_nameAt, .ref x_nameSize, .ref x_heads, .ref x_nexts, .int x_names, .int x_poolSize, .int x_knownSize, .int x_textSize, .int x_here, .int x_tokens, .int 55, .int x_start, .int x_meaning, .int 2, .int x_spelled])), (h0, .inr (7, [.ref p_op, .ref p_says, .ref p_places, .ref p_link, .ref p_home, .int p_marks, .ref w_lexer, .ref p_waiting, .ref p_waitingAt, .int 0, .int p_open, .int p_cons, .int p_types]))] := hD
  clear hK1
  try dsimp only at w_11
  have hP9 := hP.sub (ws' := [(h0, .inr (7, [.ref p_op, .ref p_says, .ref p_places, .ref p_link, .ref p_home, .int p_marks, .ref w_lexer, .ref p_waiting, .ref p_waitingAt, .int 0, .int p_open, .int p_cons, .int p_types])), (w_lexer, .inr (4, [.ref x_text, .ref x_pool, .ref x_scratch, .ref x_nameAt, .ref x_nameSize, .ref x_heads, .ref x_nexts, .int x_names, .int x_poolSize, .int x_knownSize, .int x_textSize, .int x_here, .int x_tokens, .int 55, .int x_start, .int x_meaning, .int 2, .int x_spelled]))]) [1, 0] rfl
  have hD9 := hD.sub (ws' := [(h0, .inr (7, [.ref p_op, .ref p_says, .ref p_places, .ref p_link, .ref p_home, .int p_marks, .ref w_lexer, .ref p_waiting, .ref p_waitingAt, .int 0, .int p_open, .int p_cons, .int p_types])), (w_lexer, .inr (4, [.ref x_text, .ref x_pool, .ref x_scratch, .ref x_nameAt, .ref x_nameSize, .ref x_heads, .ref x_nexts, .int x_names, .int x_poolSize, .int x_knownSize, .int x_textSize, .int x_here, .int x_tokens, .int 55, .int x_start, .int x_meaning, .int 2, .int x_spelled]))]) [1, 0] (by decide) rfl
  have hK9 := hK.sub (tys' := []) [] rfl
  exact W.vret hx hb hr (fun t ht hW => ⟨⟨(), rfl, trivial, wE.of ht hW hP9 hK9 hD9⟩, hS.F ht⟩) hS.2.2 dX7_low_297

