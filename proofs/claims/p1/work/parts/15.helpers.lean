/-! The law's helpers: a call of the class, what it throws caught. -/
theorem dL_feed_0 : decode cL_feed 0 = .ok (.aload 6, 2) := by decide +kernel
theorem dL_feed_2 : decode cL_feed 2 = .ok (.iconst 0, 1) := by decide +kernel
theorem dL_feed_3 : decode cL_feed 3 = .ok (.aload_n 0, 1) := by decide +kernel
theorem dL_feed_4 : decode cL_feed 4 = .ok (.iload_n 1, 1) := by decide +kernel
theorem dL_feed_5 : decode cL_feed 5 = .ok (.iload_n 2, 1) := by decide +kernel
theorem dL_feed_6 : decode cL_feed 6 = .ok (.iload_n 3, 1) := by decide +kernel
theorem dL_feed_7 : decode cL_feed 7 = .ok (.iload 4, 2) := by decide +kernel
theorem dL_feed_9 : decode cL_feed 9 = .ok (.iload 5, 2) := by decide +kernel
theorem dL_feed_11 : decode cL_feed 11 = .ok (.invokevirtual 7, 3) := by decide +kernel
theorem dL_feed_14 : decode cL_feed 14 = .ok (.i2l, 1) := by decide +kernel
theorem dL_feed_15 : decode cL_feed 15 = .ok (.lastore, 1) := by decide +kernel
theorem dL_feed_16 : decode cL_feed 16 = .ok (.goto 7, 3) := by decide +kernel
theorem dL_feed_23 : decode cL_feed 23 = .ok (.iconst 0, 1) := by decide +kernel
theorem dL_feed_24 : decode cL_feed 24 = .ok (.ireturn, 1) := by decide +kernel
def zlL_feed : List Cond := [.methodLink RL 7 yX12_feed, .instanceMethod yX12_feed, .selects RX12 yX12_feed yX12_feed, .initialized RX12, .code yX12_feed cX12_feed 6 (some .int), .fieldLink RX12 110 "LeanHouse" "textSize" "I", .methodLink RX12 120 yX12_addBytes, .instanceMethod yX12_addBytes, .selects RX12 yX12_addBytes yX12_addBytes, .code yX12_addBytes cX12_addBytes 3 none, .fieldLink RX12 9 "LeanHouse" "text" "[B", .methodLink RX12 124 yX12_putByte, .static yX12_putByte, .code yX12_putByte cX12_putByte 3 none]
def zsL_feed : List Cond := .codeWith yL_feed cL_feed 8 (some .int) [(0, 16, 19, 13)] :: (zlL_feed ++ (wsX120))
set_option maxRecDepth 20000 in
theorem gzL_feed_X12_feed_V7 : GoodIn zsL_feed (wsV RL 7 RX12 yX12_feed zsX12_feed) := (goodIn_app (goodIn_r _ [1, 2, 3, 4] (by decide +kernel) (by decide +kernel)) (goodIn_ca (goodIn_r _ [5, 6, 7, 8, 9, 4, 10, 11, 12, 13, 14] (by decide +kernel) (by decide +kernel)) (goodIn_sub (fun _ h9 => List.mem_cons_of_mem _ (List.mem_append_right _ h9)) gwX12)))
set_option maxHeartbeats 8000000 in
set_option maxRecDepth 100000 in
theorem c_L_feed (l : Launch) (hst : l.stackTraces = false) (dC : Nat → ClassId) (dI : Nat → Nat → Nat) (sz : Nat) (h0 : Nat) (w_text : Nat) (w_memory : Nat) (w_counts : Nat) (w_lexer : Nat) (w_parser : Nat) (w_checker : Nat) (w_scope : Nat) (w_coder : Nat) (w_machine : Nat) (w_compiler : Nat) (w_processor : Nat) (w_writer : Nat) (c_text : ClassId) (f_text : Nat → Int32) (o0 : Nat) (c_out : ClassId) (f_out : Nat → Int64) (v_a : Int32) (v_b : Int32) (v_c : Int32) (v_d : Int32) (v_e : Int32) : vx_Met l yL_feed zsL_feed ({ frames := 4, cells := 0, slots := 0, locals := 81 } : Room) (va_Pc [.ref h0, .int v_a, .int v_b, .int v_c, .int v_d, .int v_e, .ref o0] (wBT (dC, dI) vwCl nestM strL [(c_text, .byte), (c_out, .long)] [(h0, .inr (12, [.ref w_text, .ref w_memory, .ref w_counts, .ref w_lexer, .ref w_parser, .ref w_checker, .ref w_scope, .ref w_coder, .ref w_machine, .ref w_compiler, .ref w_processor, .ref w_writer, .int 0, .int 0, .int 0, .int (-1), .int (-1), .int 0, .int 0, .int 0])), (w_text, .inl (c_text, 8192, .inl f_text)), (o0, .inl (c_out, 1, .inr (.inl f_out)))] sz)) (va_Qi (fun (r : Int32) (u : (Nat → Int64)) => r = 0 ∧ u 0 = 20) (fun (u : (Nat → Int64)) (t : State) => wE (dC, dI) vwCl [(c_out, .long)] [(o0, .inl (c_out, 1, .inr (.inl u)))] (va_A [(h0, .inr (12, [.ref w_text, .ref w_memory, .ref w_counts, .ref w_lexer, .ref w_parser, .ref w_checker, .ref w_scope, .ref w_coder, .ref w_machine, .ref w_compiler, .ref w_processor, .ref w_writer, .int 0, .int 0, .int 0, .int (-1), .int (-1), .int 0, .int 0, .int 0])), (w_text, .inl (c_text, 8192, .inl f_text)), (o0, .inl (c_out, 1, .inr (.inl f_out)))] sz) t) (va_A [(h0, .inr (12, [.ref w_text, .ref w_memory, .ref w_counts, .ref w_lexer, .ref w_parser, .ref w_checker, .ref w_scope, .ref w_coder, .ref w_machine, .ref w_compiler, .ref w_processor, .ref w_writer, .int 0, .int 0, .int 0, .int (-1), .int (-1), .int 0, .int 0, .int 0])), (w_text, .inl (c_text, 8192, .inl f_text)), (o0, .inl (c_out, 1, .inr (.inl f_out)))] sz)) (noX (va_A [(h0, .inr (12, [.ref w_text, .ref w_memory, .ref w_counts, .ref w_lexer, .ref w_parser, .ref w_checker, .ref w_scope, .ref w_coder, .ref w_machine, .ref w_compiler, .ref w_processor, .ref w_writer, .int 0, .int 0, .int 0, .int (-1), .int (-1), .int 0, .int 0, .int 0])), (w_text, .inl (c_text, 8192, .inl f_text)), (o0, .inl (c_out, 1, .inr (.inl f_out)))] sz)) 0 0 (va_A [(h0, .inr (12, [.ref w_text, .ref w_memory, .ref w_counts, .ref w_lexer, .ref w_parser, .ref w_checker, .ref w_scope, .ref w_coder, .ref w_machine, .ref w_compiler, .ref w_processor, .ref w_writer, .int 0, .int 0, .int 0, .int (-1), .int (-1), .int 0, .int 0, .int 0])), (w_text, .inl (c_text, 8192, .inl f_text)), (o0, .inl (c_out, 1, .inr (.inl f_out)))] sz) := by
  refine vx_ofWH (cc := cL_feed) (maxL := 8) (ret := (some .int)) (by decide) rfl ?_
  intro p e s m args below meth c s₁ B hml hv
  obtain ⟨rfl, ⟨hsz, hP, hK, hD0, hN⟩, hT⟩ := hv
  have hx := B.exec
  have hb := B.bytes
  have hr := B.returns
  have hts := atoms_spec (ws := zsL_feed) B.pre
  have hown : s.vm.findClass RL = some m.cls := findClass_of_methodNamed B.named
  have hlocks := B.notSynchronized
  have htab := vx_table (x := yL_feed) B (hts _ List.mem_cons_self)
  subst hsz
  have hD := hD0.self (sz := s.heap.size)
  generalize hAe : va_A [(h0, .inr (12, [.ref w_text, .ref w_memory, .ref w_counts, .ref w_lexer, .ref w_parser, .ref w_checker, .ref w_scope, .ref w_coder, .ref w_machine, .ref w_compiler, .ref w_processor, .ref w_writer, .int 0, .int 0, .int 0, .int (-1), .int (-1), .int 0, .int 0, .int 0])), (w_text, .inl (c_text, 8192, .inl f_text)), (o0, .inl (c_out, 1, .inr (.inl f_out)))] s.heap.size = A at hD hT ⊢
  have hA : ∀ q : Nat, s.heap.size ≤ q → A q := fun q h => by rw [← hAe]; exact Or.inr h
  have hS : va_S A s.heap s.heap [] := va_S.rf
  have hP : va_P (dC, dI) vwCl [(h0, .inr (12, [.ref w_text, .ref w_memory, .ref w_counts, .ref w_lexer, .ref w_parser, .ref w_checker, .ref w_scope, .ref w_coder, .ref w_machine, .ref w_compiler, .ref w_processor, .ref w_writer, .int 0, .int 0, .int 0, .int (-1), .int (-1), .int 0, .int 0, .int 0])), (w_text, .inl (c_text, 8192, .inl f_text)), (o0, .inl (c_out, 1, .inr (.inl f_out)))] s.heap := hP
  have hl := lv_entry ([.ref h0, .int v_a, .int v_b, .int v_c, .int v_d, .int v_e, .ref o0]) (n := 8) (Nat.le_of_ble_eq_true rfl)
  rw [lg_entry_eq]
  generalize (lg_sl ([.ref h0, .int v_a, .int v_b, .int v_c, .int v_d, .int v_e, .ref o0]) ++ List.replicate (8 - (lg_sl ([.ref h0, .int v_a, .int v_b, .int v_c, .int v_d, .int v_e, .ref o0])).length) Slot.unset).toArray = ls at hl ⊢
  have hl : lv_has ls 8 [(0, .ref h0), (1, .int v_a), (2, .int v_b), (3, .int v_c), (4, .int v_d), (5, .int v_e), (6, .ref o0)] := hl
  refine lv_aload hx hb dL_feed_0 (lv_at hl 6 rfl) ?_
  refine lv_iconst (v := 0) hx hb dL_feed_2 (by decide) ?_
  refine lv_aload_n hx hb dL_feed_3 rfl (lv_at hl 0 rfl) ?_
  refine lv_iload_n hx hb dL_feed_4 rfl (lv_at hl 1 rfl) ?_
  refine lv_iload_n hx hb dL_feed_5 rfl (lv_at hl 2 rfl) ?_
  refine lv_iload_n hx hb dL_feed_6 rfl (lv_at hl 3 rfl) ?_
  refine lv_iload hx hb dL_feed_7 (lv_at hl 4 rfl) ?_
  refine lv_iload hx hb dL_feed_9 (lv_at hl 5 rfl) ?_
  refine aft_i (wr := [(o0, .inl (c_out, 1, .inr (.inl f_out)))]) (va_runV (As := [.int v_a, .int v_b, .int v_c, .int v_d, .int v_e]) (rest := [.int 0, .ref o0]) ⟨hx, hb, hml, hown, hts⟩ (c_X12_feed l dC dI s.heap.size h0 w_text w_memory w_counts w_lexer w_parser w_checker w_scope w_coder w_machine w_compiler w_processor w_writer c_text f_text v_a v_b v_c v_d v_e) (cwV 5 hts gzL_feed_X12_feed_V7 rfl rfl rfl (by decide +kernel) ⟨Nat.le_of_ble_eq_true rfl, Nat.le_of_ble_eq_true rfl⟩) (wB.preV (hP.sub (ws' := [(h0, .inr (12, [.ref w_text, .ref w_memory, .ref w_counts, .ref w_lexer, .ref w_parser, .ref w_checker, .ref w_scope, .ref w_coder, .ref w_machine, .ref w_compiler, .ref w_processor, .ref w_writer, .int 0, .int 0, .int 0, .int (-1), .int (-1), .int 0, .int 0, .int 0])), (w_text, .inl (c_text, 8192, .inl f_text))]) [0, 1] rfl) (hK.sub (tys' := [(c_text, .byte)]) [0] rfl) (hD.sub (ws' := [(h0, .inr (12, [.ref w_text, .ref w_memory, .ref w_counts, .ref w_lexer, .ref w_parser, .ref w_checker, .ref w_scope, .ref w_coder, .ref w_machine, .ref w_compiler, .ref w_processor, .ref w_writer, .int 0, .int 0, .int 0, .int (-1), .int (-1), .int 0, .int 0, .int 0])), (w_text, .inl (c_text, 8192, .inl f_text))]) [0, 1] (by decide) rfl) hN 12 0 rfl rfl) rfl rfl hl.1 rfl (lv_room (Nat.le_of_ble_eq_true rfl)) dL_feed_11 ⟨Nat.le_of_ble_eq_true rfl, Nat.le_of_ble_eq_true rfl⟩) hP hD hS hA [0, 1] [2] rfl rfl (by decide) (by decide) ?_
  clear hP hD hS
  intro r_2 u_1 H locs w_3 hK1 hP hD hS
  obtain ⟨gtext_4, rfl⟩ : ∃ z, z = u_1 := ⟨_, rfl⟩
  replace hP : va_P (dC, dI) vwCl [(o0, .inl (c_out, 1, .inr (.inl f_out))), (h0, .inr (12, [.ref w_text, .ref w_memory, .ref w_counts, .ref w_lexer, .ref w_parser, .ref w_checker, .ref w_scope, .ref w_coder, .ref w_machine, .ref w_compiler, .ref w_processor, .ref w_writer, .int 20, .int 0, .int 0, .int (-1), .int (-1), .int 0, .int 0, .int 0])), (w_text, .inl (c_text, 8192, .inl gtext_4))] H := hP
  replace hD : va_D A [(o0, .inl (c_out, 1, .inr (.inl f_out))), (h0, .inr (12, [.ref w_text, .ref w_memory, .ref w_counts, .ref w_lexer, .ref w_parser, .ref w_checker, .ref w_scope, .ref w_coder, .ref w_machine, .ref w_compiler, .ref w_processor, .ref w_writer, .int 20, .int 0, .int 0, .int (-1), .int (-1), .int 0, .int 0, .int 0])), (w_text, .inl (c_text, 8192, .inl gtext_4))] := hD
  clear hK1
  try dsimp only at w_3
  obtain rfl : r_2 = 20 := w_3
  refine lv_i2l (v := 20) hx hb dL_feed_14 (by decide) ?_
  refine va_last (D := (dC, dI)) (i := 0) hx hb hK hP hD hS 0 1 rfl rfl (vp_in_nI (n := 0) (by decide) (by decide)) dL_feed_15 ?_
  clear hP hD hS
  intro H locs hP hD hS
  obtain ⟨f_5, ef_5⟩ : ∃ g : Nat → Int64, g = (vp_updL f_out (Int32.toNatClampNeg (0)) 20) := ⟨_, rfl⟩
  replace hP : va_P (dC, dI) vwCl [(o0, .inl (c_out, 1, .inr (.inl f_5))), (h0, .inr (12, [.ref w_text, .ref w_memory, .ref w_counts, .ref w_lexer, .ref w_parser, .ref w_checker, .ref w_scope, .ref w_coder, .ref w_machine, .ref w_compiler, .ref w_processor, .ref w_writer, .int 20, .int 0, .int 0, .int (-1), .int (-1), .int 0, .int 0, .int 0])), (w_text, .inl (c_text, 8192, .inl gtext_4))] H := by rw [ef_5]; exact hP
  replace hD : va_D A [(o0, .inl (c_out, 1, .inr (.inl f_5))), (h0, .inr (12, [.ref w_text, .ref w_memory, .ref w_counts, .ref w_lexer, .ref w_parser, .ref w_checker, .ref w_scope, .ref w_coder, .ref w_machine, .ref w_compiler, .ref w_processor, .ref w_writer, .int 20, .int 0, .int 0, .int (-1), .int (-1), .int 0, .int 0, .int 0])), (w_text, .inl (c_text, 8192, .inl gtext_4))] := by rw [ef_5]; exact hD
  refine lv_goto (tgt := 23) hx hb dL_feed_16 (by decide) ?_
  refine lv_iconst (v := 0) hx hb dL_feed_23 (by decide) ?_
  have hP9 := hP.sub (ws' := [(o0, .inl (c_out, 1, .inr (.inl f_5)))]) [0] rfl
  have hD9 := hD.sub (ws' := [(o0, .inl (c_out, 1, .inr (.inl f_5)))]) [0] (by decide) rfl
  have hK9 := hK.sub (tys' := [(c_out, .long)]) [1] rfl
  refine vx_ret ?_
  exact W.iret (v := 0) hx hb hr (fun t ht hW => ⟨⟨0, f_5, rfl, ⟨rfl, by rw [ef_5]; exact pk_uLs⟩, wE.of ht hW hP9 hK9 hD9⟩, hS.F ht⟩) hS.2.2 dL_feed_24

theorem dL_end_0 : decode cL_end 0 = .ok (.aload_n 2, 1) := by decide +kernel
theorem dL_end_1 : decode cL_end 1 = .ok (.iconst 0, 1) := by decide +kernel
theorem dL_end_2 : decode cL_end 2 = .ok (.aload_n 0, 1) := by decide +kernel
theorem dL_end_3 : decode cL_end 3 = .ok (.iload_n 1, 1) := by decide +kernel
theorem dL_end_4 : decode cL_end 4 = .ok (.invokevirtual 15, 3) := by decide +kernel
theorem dL_end_7 : decode cL_end 7 = .ok (.i2l, 1) := by decide +kernel
theorem dL_end_8 : decode cL_end 8 = .ok (.lastore, 1) := by decide +kernel
theorem dL_end_9 : decode cL_end 9 = .ok (.goto 6, 3) := by decide +kernel
theorem dL_end_15 : decode cL_end 15 = .ok (.iconst 0, 1) := by decide +kernel
theorem dL_end_16 : decode cL_end 16 = .ok (.ireturn, 1) := by decide +kernel
def zlL_end : List Cond := [.methodLink RL 15 yX12_end, .instanceMethod yX12_end, .selects RX12 yX12_end yX12_end, .initialized RX12, .code yX12_end cX12_end 2 (some .int), .fieldLink RX12 110 "LeanHouse" "textSize" "I"]
def zsL_end : List Cond := .codeWith yL_end cL_end 4 (some .int) [(0, 9, 12, 19)] :: (zlL_end ++ (wsX120))
set_option maxRecDepth 20000 in
theorem gzL_end_X12_end_V15 : GoodIn zsL_end (wsV RL 15 RX12 yX12_end zsX12_end) := (goodIn_app (goodIn_r _ [1, 2, 3, 4] (by decide +kernel) (by decide +kernel)) (goodIn_ca (goodIn_r _ [5, 6] (by decide +kernel) (by decide +kernel)) (goodIn_sub (fun _ h9 => List.mem_cons_of_mem _ (List.mem_append_right _ h9)) gwX12)))
set_option maxHeartbeats 8000000 in
set_option maxRecDepth 100000 in
theorem c_L_endA (l : Launch) (hst : l.stackTraces = false) (dC : Nat → ClassId) (dI : Nat → Nat → Nat) (sz : Nat) (h0 : Nat) (w_text : Nat) (w_memory : Nat) (w_counts : Nat) (w_lexer : Nat) (w_parser : Nat) (w_checker : Nat) (w_scope : Nat) (w_coder : Nat) (w_machine : Nat) (w_compiler : Nat) (w_processor : Nat) (w_writer : Nat) (o0 : Nat) (c_out : ClassId) (f_out : Nat → Int64) (v_n : Int32) (hn : v_n = 0) : vx_Met l yL_end zsL_end ({ frames := 2, cells := 0, slots := 0, locals := 33 } : Room) (va_Pc [.ref h0, .int v_n, .ref o0] (wBT (dC, dI) vwCl nestM strL [(c_out, .long)] [(h0, .inr (12, [.ref w_text, .ref w_memory, .ref w_counts, .ref w_lexer, .ref w_parser, .ref w_checker, .ref w_scope, .ref w_coder, .ref w_machine, .ref w_compiler, .ref w_processor, .ref w_writer, .int 0, .int 0, .int 0, .int (-1), .int (-1), .int 0, .int 0, .int 0])), (o0, .inl (c_out, 1, .inr (.inl f_out)))] sz)) (va_Qi (fun (r : Int32) (u : (Nat → Int64)) => r = 0 ∧ u 0 = 0) (fun (u : (Nat → Int64)) (t : State) => wE (dC, dI) vwCl [(c_out, .long)] [(o0, .inl (c_out, 1, .inr (.inl u)))] (va_A [(h0, .inr (12, [.ref w_text, .ref w_memory, .ref w_counts, .ref w_lexer, .ref w_parser, .ref w_checker, .ref w_scope, .ref w_coder, .ref w_machine, .ref w_compiler, .ref w_processor, .ref w_writer, .int 0, .int 0, .int 0, .int (-1), .int (-1), .int 0, .int 0, .int 0])), (o0, .inl (c_out, 1, .inr (.inl f_out)))] sz) t) (va_A [(h0, .inr (12, [.ref w_text, .ref w_memory, .ref w_counts, .ref w_lexer, .ref w_parser, .ref w_checker, .ref w_scope, .ref w_coder, .ref w_machine, .ref w_compiler, .ref w_processor, .ref w_writer, .int 0, .int 0, .int 0, .int (-1), .int (-1), .int 0, .int 0, .int 0])), (o0, .inl (c_out, 1, .inr (.inl f_out)))] sz)) (noX (va_A [(h0, .inr (12, [.ref w_text, .ref w_memory, .ref w_counts, .ref w_lexer, .ref w_parser, .ref w_checker, .ref w_scope, .ref w_coder, .ref w_machine, .ref w_compiler, .ref w_processor, .ref w_writer, .int 0, .int 0, .int 0, .int (-1), .int (-1), .int 0, .int 0, .int 0])), (o0, .inl (c_out, 1, .inr (.inl f_out)))] sz)) 0 0 (va_A [(h0, .inr (12, [.ref w_text, .ref w_memory, .ref w_counts, .ref w_lexer, .ref w_parser, .ref w_checker, .ref w_scope, .ref w_coder, .ref w_machine, .ref w_compiler, .ref w_processor, .ref w_writer, .int 0, .int 0, .int 0, .int (-1), .int (-1), .int 0, .int 0, .int 0])), (o0, .inl (c_out, 1, .inr (.inl f_out)))] sz) := by
  refine vx_ofWH (cc := cL_end) (maxL := 4) (ret := (some .int)) (by decide) rfl ?_
  intro p e s m args below meth c s₁ B hml hv
  obtain ⟨rfl, ⟨hsz, hP, hK, hD0, hN⟩, hT⟩ := hv
  have hx := B.exec
  have hb := B.bytes
  have hr := B.returns
  have hts := atoms_spec (ws := zsL_end) B.pre
  have hown : s.vm.findClass RL = some m.cls := findClass_of_methodNamed B.named
  have hlocks := B.notSynchronized
  have htab := vx_table (x := yL_end) B (hts _ List.mem_cons_self)
  subst hsz
  have hD := hD0.self (sz := s.heap.size)
  generalize hAe : va_A [(h0, .inr (12, [.ref w_text, .ref w_memory, .ref w_counts, .ref w_lexer, .ref w_parser, .ref w_checker, .ref w_scope, .ref w_coder, .ref w_machine, .ref w_compiler, .ref w_processor, .ref w_writer, .int 0, .int 0, .int 0, .int (-1), .int (-1), .int 0, .int 0, .int 0])), (o0, .inl (c_out, 1, .inr (.inl f_out)))] s.heap.size = A at hD hT ⊢
  have hA : ∀ q : Nat, s.heap.size ≤ q → A q := fun q h => by rw [← hAe]; exact Or.inr h
  have hS : va_S A s.heap s.heap [] := va_S.rf
  have hP : va_P (dC, dI) vwCl [(h0, .inr (12, [.ref w_text, .ref w_memory, .ref w_counts, .ref w_lexer, .ref w_parser, .ref w_checker, .ref w_scope, .ref w_coder, .ref w_machine, .ref w_compiler, .ref w_processor, .ref w_writer, .int 0, .int 0, .int 0, .int (-1), .int (-1), .int 0, .int 0, .int 0])), (o0, .inl (c_out, 1, .inr (.inl f_out)))] s.heap := hP
  have hl := lv_entry ([.ref h0, .int v_n, .ref o0]) (n := 4) (Nat.le_of_ble_eq_true rfl)
  rw [lg_entry_eq]
  generalize (lg_sl ([.ref h0, .int v_n, .ref o0]) ++ List.replicate (4 - (lg_sl ([.ref h0, .int v_n, .ref o0])).length) Slot.unset).toArray = ls at hl ⊢
  have hl : lv_has ls 4 [(0, .ref h0), (1, .int v_n), (2, .ref o0)] := hl
  refine lv_aload_n hx hb dL_end_0 rfl (lv_at hl 2 rfl) ?_
  refine lv_iconst (v := 0) hx hb dL_end_1 (by decide) ?_
  refine lv_aload_n hx hb dL_end_2 rfl (lv_at hl 0 rfl) ?_
  refine lv_iload_n hx hb dL_end_3 rfl (lv_at hl 1 rfl) ?_
  refine aft_i (wr := [(o0, .inl (c_out, 1, .inr (.inl f_out)))]) (va_runV (As := [.int v_n]) (rest := [.int 0, .ref o0]) ⟨hx, hb, hml, hown, hts⟩ (c_X12_endA l dC dI s.heap.size h0 w_text w_memory w_counts w_lexer w_parser w_checker w_scope w_coder w_machine w_compiler w_processor w_writer v_n hn) (cwV 1 hts gzL_end_X12_end_V15 rfl rfl rfl (by decide +kernel) ⟨Nat.le_of_ble_eq_true rfl, Nat.le_of_ble_eq_true rfl⟩) (wB.preV (hP.sub (ws' := [(h0, .inr (12, [.ref w_text, .ref w_memory, .ref w_counts, .ref w_lexer, .ref w_parser, .ref w_checker, .ref w_scope, .ref w_coder, .ref w_machine, .ref w_compiler, .ref w_processor, .ref w_writer, .int 0, .int 0, .int 0, .int (-1), .int (-1), .int 0, .int 0, .int 0]))]) [0] rfl) (hK.sub (tys' := []) [] rfl) (hD.sub (ws' := [(h0, .inr (12, [.ref w_text, .ref w_memory, .ref w_counts, .ref w_lexer, .ref w_parser, .ref w_checker, .ref w_scope, .ref w_coder, .ref w_machine, .ref w_compiler, .ref w_processor, .ref w_writer, .int 0, .int 0, .int 0, .int (-1), .int (-1), .int 0, .int 0, .int 0]))]) [0] (by decide) rfl) hN 12 0 rfl rfl) rfl rfl hl.1 rfl (lv_room (Nat.le_of_ble_eq_true rfl)) dL_end_4 ⟨Nat.le_of_ble_eq_true rfl, Nat.le_of_ble_eq_true rfl⟩) hP hD hS hA [0] [1] rfl rfl (by decide) (by decide) ?_
  clear hP hD hS
  intro r_2 u_1 H locs w_3 hK1 hP hD hS
  replace hP : va_P (dC, dI) vwCl [(o0, .inl (c_out, 1, .inr (.inl f_out))), (h0, .inr (12, [.ref w_text, .ref w_memory, .ref w_counts, .ref w_lexer, .ref w_parser, .ref w_checker, .ref w_scope, .ref w_coder, .ref w_machine, .ref w_compiler, .ref w_processor, .ref w_writer, .int 0, .int 0, .int 0, .int (-1), .int (-1), .int 0, .int 0, .int 0]))] H := hP
  replace hD : va_D A [(o0, .inl (c_out, 1, .inr (.inl f_out))), (h0, .inr (12, [.ref w_text, .ref w_memory, .ref w_counts, .ref w_lexer, .ref w_parser, .ref w_checker, .ref w_scope, .ref w_coder, .ref w_machine, .ref w_compiler, .ref w_processor, .ref w_writer, .int 0, .int 0, .int 0, .int (-1), .int (-1), .int 0, .int 0, .int 0]))] := hD
  clear hK1
  try dsimp only at w_3
  obtain rfl : r_2 = 0 := w_3
  refine lv_i2l (v := 0) hx hb dL_end_7 (by decide) ?_
  refine va_last (D := (dC, dI)) (i := 0) hx hb hK hP hD hS 0 0 rfl rfl (vp_in_nI (n := 0) (by decide) (by decide)) dL_end_8 ?_
  clear hP hD hS
  intro H locs hP hD hS
  obtain ⟨f_4, ef_4⟩ : ∃ g : Nat → Int64, g = (vp_updL f_out (Int32.toNatClampNeg (0)) 0) := ⟨_, rfl⟩
  replace hP : va_P (dC, dI) vwCl [(o0, .inl (c_out, 1, .inr (.inl f_4))), (h0, .inr (12, [.ref w_text, .ref w_memory, .ref w_counts, .ref w_lexer, .ref w_parser, .ref w_checker, .ref w_scope, .ref w_coder, .ref w_machine, .ref w_compiler, .ref w_processor, .ref w_writer, .int 0, .int 0, .int 0, .int (-1), .int (-1), .int 0, .int 0, .int 0]))] H := by rw [ef_4]; exact hP
  replace hD : va_D A [(o0, .inl (c_out, 1, .inr (.inl f_4))), (h0, .inr (12, [.ref w_text, .ref w_memory, .ref w_counts, .ref w_lexer, .ref w_parser, .ref w_checker, .ref w_scope, .ref w_coder, .ref w_machine, .ref w_compiler, .ref w_processor, .ref w_writer, .int 0, .int 0, .int 0, .int (-1), .int (-1), .int 0, .int 0, .int 0]))] := by rw [ef_4]; exact hD
  refine lv_goto (tgt := 15) hx hb dL_end_9 (by decide) ?_
  refine lv_iconst (v := 0) hx hb dL_end_15 (by decide) ?_
  have hP9 := hP.sub (ws' := [(o0, .inl (c_out, 1, .inr (.inl f_4)))]) [0] rfl
  have hD9 := hD.sub (ws' := [(o0, .inl (c_out, 1, .inr (.inl f_4)))]) [0] (by decide) rfl
  have hK9 := hK.sub (tys' := [(c_out, .long)]) [0] rfl
  refine vx_ret ?_
  exact W.iret (v := 0) hx hb hr (fun t ht hW => ⟨⟨0, f_4, rfl, ⟨rfl, by rw [ef_4]; exact pk_uLs⟩, wE.of ht hW hP9 hK9 hD9⟩, hS.F ht⟩) hS.2.2 dL_end_16

theorem dL_end_12 : decode cL_end 12 = .ok (.astore_n 3, 1) := by decide +kernel
theorem dL_end_13 : decode cL_end 13 = .ok (.iconst 1, 1) := by decide +kernel
theorem dL_end_14 : decode cL_end 14 = .ok (.ireturn, 1) := by decide +kernel
def zlL_end_v2 : List Cond := [.methodLink RL 15 yX12_end, .instanceMethod yX12_end, .selects RX12 yX12_end yX12_end, .initialized RX12, .code yX12_end cX12_end 2 (some .int), .classLink RX12 128 "java/lang/IllegalArgumentException", .initialized "java/lang/IllegalArgumentException", .fieldLink RX12 110 "LeanHouse" "textSize" "I", .classLink RL 19 "java/lang/IllegalArgumentException"]
def zsL_end_v2 : List Cond := .codeWith yL_end cL_end 4 (some .int) [(0, 9, 12, 19)] :: (zlL_end_v2 ++ (wtA ++ (wsX120)))
set_option maxRecDepth 20000 in
theorem gzL_end_v2_X12_end_v2_V15 : GoodIn zsL_end_v2 (wsV RL 15 RX12 yX12_end zsX12_end_v2) := (goodIn_app (goodIn_r _ [1, 2, 3, 4] (by decide +kernel) (by decide +kernel)) (goodIn_ca (goodIn_r _ [5, 6, 7, 8] (by decide +kernel) (by decide +kernel)) (goodIn_app (goodIn_sub (fun _ h9 => List.mem_cons_of_mem _ (List.mem_append_right _ (List.mem_append_left _ h9))) gwTA) (goodIn_sub (fun _ h9 => List.mem_cons_of_mem _ (List.mem_append_right _ (List.mem_append_right _ h9))) gwX12))))
set_option maxHeartbeats 8000000 in
set_option maxRecDepth 100000 in
theorem c_L_endB (l : Launch) (hst : l.stackTraces = false) (dC : Nat → ClassId) (dI : Nat → Nat → Nat) (sz : Nat) (h0 : Nat) (w_text : Nat) (w_memory : Nat) (w_counts : Nat) (w_lexer : Nat) (w_parser : Nat) (w_checker : Nat) (w_scope : Nat) (w_coder : Nat) (w_machine : Nat) (w_compiler : Nat) (w_processor : Nat) (w_writer : Nat) (o0 : Nat) (c_out : ClassId) (f_out : Nat → Int64) (v_n : Int32) (hn : ¬ v_n = 0) : vx_Met l yL_end zsL_end_v2 ({ frames := 9, cells := 1, slots := 6, locals := 161 } : Room) (va_Pc [.ref h0, .int v_n, .ref o0] (wBT (dC, dI) vwCl nestM strL [(c_out, .long)] [(h0, .inr (12, [.ref w_text, .ref w_memory, .ref w_counts, .ref w_lexer, .ref w_parser, .ref w_checker, .ref w_scope, .ref w_coder, .ref w_machine, .ref w_compiler, .ref w_processor, .ref w_writer, .int 0, .int 0, .int 0, .int (-1), .int (-1), .int 0, .int 0, .int 0])), (o0, .inl (c_out, 1, .inr (.inl f_out)))] sz)) (va_Qi (fun (r : Int32) (u : Unit) => r = 1) (fun (u : Unit) (t : State) => wE (dC, dI) vwCl [(c_out, .long)] [(o0, .inl (c_out, 1, .inr (.inl f_out)))] (va_A [(h0, .inr (12, [.ref w_text, .ref w_memory, .ref w_counts, .ref w_lexer, .ref w_parser, .ref w_checker, .ref w_scope, .ref w_coder, .ref w_machine, .ref w_compiler, .ref w_processor, .ref w_writer, .int 0, .int 0, .int 0, .int (-1), .int (-1), .int 0, .int 0, .int 0])), (o0, .inl (c_out, 1, .inr (.inl f_out)))] sz) t) (va_A [(h0, .inr (12, [.ref w_text, .ref w_memory, .ref w_counts, .ref w_lexer, .ref w_parser, .ref w_checker, .ref w_scope, .ref w_coder, .ref w_machine, .ref w_compiler, .ref w_processor, .ref w_writer, .int 0, .int 0, .int 0, .int (-1), .int (-1), .int 0, .int 0, .int 0])), (o0, .inl (c_out, 1, .inr (.inl f_out)))] sz)) (noX (va_A [(h0, .inr (12, [.ref w_text, .ref w_memory, .ref w_counts, .ref w_lexer, .ref w_parser, .ref w_checker, .ref w_scope, .ref w_coder, .ref w_machine, .ref w_compiler, .ref w_processor, .ref w_writer, .int 0, .int 0, .int 0, .int (-1), .int (-1), .int 0, .int 0, .int 0])), (o0, .inl (c_out, 1, .inr (.inl f_out)))] sz)) 1 6 (va_A [(h0, .inr (12, [.ref w_text, .ref w_memory, .ref w_counts, .ref w_lexer, .ref w_parser, .ref w_checker, .ref w_scope, .ref w_coder, .ref w_machine, .ref w_compiler, .ref w_processor, .ref w_writer, .int 0, .int 0, .int 0, .int (-1), .int (-1), .int 0, .int 0, .int 0])), (o0, .inl (c_out, 1, .inr (.inl f_out)))] sz) := by
  refine vx_ofWH (cc := cL_end) (maxL := 4) (ret := (some .int)) (by decide) rfl ?_
  intro p e s m args below meth c s₁ B hml hv
  obtain ⟨rfl, ⟨hsz, hP, hK, hD0, hN⟩, hT⟩ := hv
  have hx := B.exec
  have hb := B.bytes
  have hr := B.returns
  have hts := atoms_spec (ws := zsL_end_v2) B.pre
  have hown : s.vm.findClass RL = some m.cls := findClass_of_methodNamed B.named
  have hlocks := B.notSynchronized
  have htab := vx_table (x := yL_end) B (hts _ List.mem_cons_self)
  subst hsz
  have hD := hD0.self (sz := s.heap.size)
  generalize hAe : va_A [(h0, .inr (12, [.ref w_text, .ref w_memory, .ref w_counts, .ref w_lexer, .ref w_parser, .ref w_checker, .ref w_scope, .ref w_coder, .ref w_machine, .ref w_compiler, .ref w_processor, .ref w_writer, .int 0, .int 0, .int 0, .int (-1), .int (-1), .int 0, .int 0, .int 0])), (o0, .inl (c_out, 1, .inr (.inl f_out)))] s.heap.size = A at hD hT ⊢
  have hA : ∀ q : Nat, s.heap.size ≤ q → A q := fun q h => by rw [← hAe]; exact Or.inr h
  have hS : va_S A s.heap s.heap [] := va_S.rf
  have hP : va_P (dC, dI) vwCl [(h0, .inr (12, [.ref w_text, .ref w_memory, .ref w_counts, .ref w_lexer, .ref w_parser, .ref w_checker, .ref w_scope, .ref w_coder, .ref w_machine, .ref w_compiler, .ref w_processor, .ref w_writer, .int 0, .int 0, .int 0, .int (-1), .int (-1), .int 0, .int 0, .int 0])), (o0, .inl (c_out, 1, .inr (.inl f_out)))] s.heap := hP
  have hl := lv_entry ([.ref h0, .int v_n, .ref o0]) (n := 4) (Nat.le_of_ble_eq_true rfl)
  rw [lg_entry_eq]
  generalize (lg_sl ([.ref h0, .int v_n, .ref o0]) ++ List.replicate (4 - (lg_sl ([.ref h0, .int v_n, .ref o0])).length) Slot.unset).toArray = ls at hl ⊢
  have hl : lv_has ls 4 [(0, .ref h0), (1, .int v_n), (2, .ref o0)] := hl
  refine lv_aload_n hx hb dL_end_0 rfl (lv_at hl 2 rfl) ?_
  refine lv_iconst (v := 0) hx hb dL_end_1 (by decide) ?_
  refine lv_aload_n hx hb dL_end_2 rfl (lv_at hl 0 rfl) ?_
  refine lv_iload_n hx hb dL_end_3 rfl (lv_at hl 1 rfl) ?_
  refine aft_x (wr := [(o0, .inl (c_out, 1, .inr (.inl f_out)))]) (vx_runV (As := [.int v_n]) (rest := [.int 0, .ref o0]) ⟨hx, hb, hml, hown, hts⟩ (c_X12_endB l hst dC dI s.heap.size h0 w_text w_memory w_counts w_lexer w_parser w_checker w_scope w_coder w_machine w_compiler w_processor w_writer v_n hn) (cwV 1 hts gzL_end_v2_X12_end_v2_V15 rfl rfl rfl (by decide +kernel) ⟨Nat.le_of_ble_eq_true rfl, Nat.le_of_ble_eq_true rfl⟩) (wBT.preV (hP.sub (ws' := [(h0, .inr (12, [.ref w_text, .ref w_memory, .ref w_counts, .ref w_lexer, .ref w_parser, .ref w_checker, .ref w_scope, .ref w_coder, .ref w_machine, .ref w_compiler, .ref w_processor, .ref w_writer, .int 0, .int 0, .int 0, .int (-1), .int (-1), .int 0, .int 0, .int 0]))]) [0] rfl) (hK.sub (tys' := []) [] rfl) (hD.sub (ws' := [(h0, .inr (12, [.ref w_text, .ref w_memory, .ref w_counts, .ref w_lexer, .ref w_parser, .ref w_checker, .ref w_scope, .ref w_coder, .ref w_machine, .ref w_compiler, .ref w_processor, .ref w_writer, .int 0, .int 0, .int 0, .int (-1), .int (-1), .int 0, .int 0, .int 0]))]) [0] (by decide) rfl) hN hT hS (va_free (wc := [(h0, .inr (12, [.ref w_text, .ref w_memory, .ref w_counts, .ref w_lexer, .ref w_parser, .ref w_checker, .ref w_scope, .ref w_coder, .ref w_machine, .ref w_compiler, .ref w_processor, .ref w_writer, .int 0, .int 0, .int 0, .int (-1), .int (-1), .int 0, .int 0, .int 0]))]) hD hS hA [0] rfl) 12 0 rfl rfl) rfl rfl hl.1 rfl (lv_room (Nat.le_of_ble_eq_true rfl)) dL_end_4 ⟨Nat.le_of_ble_eq_true rfl, Nat.le_of_ble_eq_true rfl⟩) hP hD hS hA [0] [1] rfl rfl (by decide) (by decide) ?_
  clear hP hD hS
  intro ce q9 H locs hP hD hS hc1 hc2 hc3
  refine vx_catch (own := RL) (name := "java/lang/IllegalArgumentException") hown [] ⟨0, 9, 12, 19⟩ [] htab (fun z hz => nomatch hz) (by decide) (by decide) (hts _ (List.mem_cons_of_mem _ (List.mem_append_left _ (List.mem_of_getElem? (i := 8) rfl)))) (va_Nw.use rfl (hT.2.2.2.1 _ (by decide))) hc1 hc2 hc3 ?_
  refine lv_astore_n (lv' := [(3, .ref q9), (0, .ref h0), (1, .int v_n), (2, .ref o0)]) hx hb dL_end_12 rfl hl (by decide) rfl ?_
  clear hl
  intro ls hl
  refine lv_iconst (v := 1) hx hb dL_end_13 (by decide) ?_
  have hP9 := hP.sub (ws' := [(o0, .inl (c_out, 1, .inr (.inl f_out)))]) [0] rfl
  have hD9 := hD.sub (ws' := [(o0, .inl (c_out, 1, .inr (.inl f_out)))]) [0] (by decide) rfl
  have hK9 := hK.sub (tys' := [(c_out, .long)]) [0] rfl
  refine vx_ret ?_
  exact W.iret (v := 1) hx hb hr (fun t ht hW => ⟨⟨1, (), rfl, rfl, wE.of ht hW hP9 hK9 hD9⟩, hS.F ht⟩) hS.2.2 dL_end_14

theorem dL_fault_0 : decode cL_fault 0 = .ok (.aload_n 2, 1) := by decide +kernel
theorem dL_fault_1 : decode cL_fault 1 = .ok (.iconst 0, 1) := by decide +kernel
theorem dL_fault_2 : decode cL_fault 2 = .ok (.aload_n 0, 1) := by decide +kernel
theorem dL_fault_3 : decode cL_fault 3 = .ok (.iload_n 1, 1) := by decide +kernel
theorem dL_fault_4 : decode cL_fault 4 = .ok (.invokevirtual 21, 3) := by decide +kernel
theorem dL_fault_7 : decode cL_fault 7 = .ok (.i2l, 1) := by decide +kernel
theorem dL_fault_8 : decode cL_fault 8 = .ok (.lastore, 1) := by decide +kernel
theorem dL_fault_9 : decode cL_fault 9 = .ok (.goto 6, 3) := by decide +kernel
theorem dL_fault_15 : decode cL_fault 15 = .ok (.iconst 0, 1) := by decide +kernel
theorem dL_fault_16 : decode cL_fault 16 = .ok (.ireturn, 1) := by decide +kernel
def zlL_fault : List Cond := [.methodLink RL 21 yX12_fault, .instanceMethod yX12_fault, .selects RX12 yX12_fault yX12_fault, .initialized RX12, .code yX12_fault cX12_fault 2 (some .int), .fieldLink RX12 137 "LeanHouse" "foundFault" "I"]
def zsL_fault : List Cond := .codeWith yL_fault cL_fault 4 (some .int) [(0, 9, 12, 24)] :: (zlL_fault ++ (wsX120))
set_option maxRecDepth 20000 in
theorem gzL_fault_X12_fault_V21 : GoodIn zsL_fault (wsV RL 21 RX12 yX12_fault zsX12_fault) := (goodIn_app (goodIn_r _ [1, 2, 3, 4] (by decide +kernel) (by decide +kernel)) (goodIn_ca (goodIn_r _ [5, 6] (by decide +kernel) (by decide +kernel)) (goodIn_sub (fun _ h9 => List.mem_cons_of_mem _ (List.mem_append_right _ h9)) gwX12)))
set_option maxHeartbeats 8000000 in
set_option maxRecDepth 100000 in
theorem c_L_faultA (l : Launch) (hst : l.stackTraces = false) (dC : Nat → ClassId) (dI : Nat → Nat → Nat) (sz : Nat) (h0 : Nat) (w_text : Nat) (w_memory : Nat) (w_counts : Nat) (w_lexer : Nat) (w_parser : Nat) (w_checker : Nat) (w_scope : Nat) (w_coder : Nat) (w_machine : Nat) (w_compiler : Nat) (w_processor : Nat) (w_writer : Nat) (o0 : Nat) (c_out : ClassId) (f_out : Nat → Int64) (v_n : Int32) (hn : v_n = 0) : vx_Met l yL_fault zsL_fault ({ frames := 2, cells := 0, slots := 0, locals := 33 } : Room) (va_Pc [.ref h0, .int v_n, .ref o0] (wBT (dC, dI) vwCl nestM strL [(c_out, .long)] [(h0, .inr (12, [.ref w_text, .ref w_memory, .ref w_counts, .ref w_lexer, .ref w_parser, .ref w_checker, .ref w_scope, .ref w_coder, .ref w_machine, .ref w_compiler, .ref w_processor, .ref w_writer, .int 0, .int 0, .int 0, .int (-1), .int (-1), .int 0, .int 0, .int 0])), (o0, .inl (c_out, 1, .inr (.inl f_out)))] sz)) (va_Qi (fun (r : Int32) (u : (Nat → Int64)) => r = 0 ∧ u 0 = 0) (fun (u : (Nat → Int64)) (t : State) => wE (dC, dI) vwCl [(c_out, .long)] [(o0, .inl (c_out, 1, .inr (.inl u)))] (va_A [(h0, .inr (12, [.ref w_text, .ref w_memory, .ref w_counts, .ref w_lexer, .ref w_parser, .ref w_checker, .ref w_scope, .ref w_coder, .ref w_machine, .ref w_compiler, .ref w_processor, .ref w_writer, .int 0, .int 0, .int 0, .int (-1), .int (-1), .int 0, .int 0, .int 0])), (o0, .inl (c_out, 1, .inr (.inl f_out)))] sz) t) (va_A [(h0, .inr (12, [.ref w_text, .ref w_memory, .ref w_counts, .ref w_lexer, .ref w_parser, .ref w_checker, .ref w_scope, .ref w_coder, .ref w_machine, .ref w_compiler, .ref w_processor, .ref w_writer, .int 0, .int 0, .int 0, .int (-1), .int (-1), .int 0, .int 0, .int 0])), (o0, .inl (c_out, 1, .inr (.inl f_out)))] sz)) (noX (va_A [(h0, .inr (12, [.ref w_text, .ref w_memory, .ref w_counts, .ref w_lexer, .ref w_parser, .ref w_checker, .ref w_scope, .ref w_coder, .ref w_machine, .ref w_compiler, .ref w_processor, .ref w_writer, .int 0, .int 0, .int 0, .int (-1), .int (-1), .int 0, .int 0, .int 0])), (o0, .inl (c_out, 1, .inr (.inl f_out)))] sz)) 0 0 (va_A [(h0, .inr (12, [.ref w_text, .ref w_memory, .ref w_counts, .ref w_lexer, .ref w_parser, .ref w_checker, .ref w_scope, .ref w_coder, .ref w_machine, .ref w_compiler, .ref w_processor, .ref w_writer, .int 0, .int 0, .int 0, .int (-1), .int (-1), .int 0, .int 0, .int 0])), (o0, .inl (c_out, 1, .inr (.inl f_out)))] sz) := by
  refine vx_ofWH (cc := cL_fault) (maxL := 4) (ret := (some .int)) (by decide) rfl ?_
  intro p e s m args below meth c s₁ B hml hv
  obtain ⟨rfl, ⟨hsz, hP, hK, hD0, hN⟩, hT⟩ := hv
  have hx := B.exec
  have hb := B.bytes
  have hr := B.returns
  have hts := atoms_spec (ws := zsL_fault) B.pre
  have hown : s.vm.findClass RL = some m.cls := findClass_of_methodNamed B.named
  have hlocks := B.notSynchronized
  have htab := vx_table (x := yL_fault) B (hts _ List.mem_cons_self)
  subst hsz
  have hD := hD0.self (sz := s.heap.size)
  generalize hAe : va_A [(h0, .inr (12, [.ref w_text, .ref w_memory, .ref w_counts, .ref w_lexer, .ref w_parser, .ref w_checker, .ref w_scope, .ref w_coder, .ref w_machine, .ref w_compiler, .ref w_processor, .ref w_writer, .int 0, .int 0, .int 0, .int (-1), .int (-1), .int 0, .int 0, .int 0])), (o0, .inl (c_out, 1, .inr (.inl f_out)))] s.heap.size = A at hD hT ⊢
  have hA : ∀ q : Nat, s.heap.size ≤ q → A q := fun q h => by rw [← hAe]; exact Or.inr h
  have hS : va_S A s.heap s.heap [] := va_S.rf
  have hP : va_P (dC, dI) vwCl [(h0, .inr (12, [.ref w_text, .ref w_memory, .ref w_counts, .ref w_lexer, .ref w_parser, .ref w_checker, .ref w_scope, .ref w_coder, .ref w_machine, .ref w_compiler, .ref w_processor, .ref w_writer, .int 0, .int 0, .int 0, .int (-1), .int (-1), .int 0, .int 0, .int 0])), (o0, .inl (c_out, 1, .inr (.inl f_out)))] s.heap := hP
  have hl := lv_entry ([.ref h0, .int v_n, .ref o0]) (n := 4) (Nat.le_of_ble_eq_true rfl)
  rw [lg_entry_eq]
  generalize (lg_sl ([.ref h0, .int v_n, .ref o0]) ++ List.replicate (4 - (lg_sl ([.ref h0, .int v_n, .ref o0])).length) Slot.unset).toArray = ls at hl ⊢
  have hl : lv_has ls 4 [(0, .ref h0), (1, .int v_n), (2, .ref o0)] := hl
  refine lv_aload_n hx hb dL_fault_0 rfl (lv_at hl 2 rfl) ?_
  refine lv_iconst (v := 0) hx hb dL_fault_1 (by decide) ?_
  refine lv_aload_n hx hb dL_fault_2 rfl (lv_at hl 0 rfl) ?_
  refine lv_iload_n hx hb dL_fault_3 rfl (lv_at hl 1 rfl) ?_
  refine aft_i (wr := [(o0, .inl (c_out, 1, .inr (.inl f_out)))]) (va_runV (As := [.int v_n]) (rest := [.int 0, .ref o0]) ⟨hx, hb, hml, hown, hts⟩ (c_X12_faultA l dC dI s.heap.size h0 w_text w_memory w_counts w_lexer w_parser w_checker w_scope w_coder w_machine w_compiler w_processor w_writer v_n hn) (cwV 1 hts gzL_fault_X12_fault_V21 rfl rfl rfl (by decide +kernel) ⟨Nat.le_of_ble_eq_true rfl, Nat.le_of_ble_eq_true rfl⟩) (wB.preV (hP.sub (ws' := [(h0, .inr (12, [.ref w_text, .ref w_memory, .ref w_counts, .ref w_lexer, .ref w_parser, .ref w_checker, .ref w_scope, .ref w_coder, .ref w_machine, .ref w_compiler, .ref w_processor, .ref w_writer, .int 0, .int 0, .int 0, .int (-1), .int (-1), .int 0, .int 0, .int 0]))]) [0] rfl) (hK.sub (tys' := []) [] rfl) (hD.sub (ws' := [(h0, .inr (12, [.ref w_text, .ref w_memory, .ref w_counts, .ref w_lexer, .ref w_parser, .ref w_checker, .ref w_scope, .ref w_coder, .ref w_machine, .ref w_compiler, .ref w_processor, .ref w_writer, .int 0, .int 0, .int 0, .int (-1), .int (-1), .int 0, .int 0, .int 0]))]) [0] (by decide) rfl) hN 12 0 rfl rfl) rfl rfl hl.1 rfl (lv_room (Nat.le_of_ble_eq_true rfl)) dL_fault_4 ⟨Nat.le_of_ble_eq_true rfl, Nat.le_of_ble_eq_true rfl⟩) hP hD hS hA [0] [1] rfl rfl (by decide) (by decide) ?_
  clear hP hD hS
  intro r_2 u_1 H locs w_3 hK1 hP hD hS
  replace hP : va_P (dC, dI) vwCl [(o0, .inl (c_out, 1, .inr (.inl f_out))), (h0, .inr (12, [.ref w_text, .ref w_memory, .ref w_counts, .ref w_lexer, .ref w_parser, .ref w_checker, .ref w_scope, .ref w_coder, .ref w_machine, .ref w_compiler, .ref w_processor, .ref w_writer, .int 0, .int 0, .int 0, .int (-1), .int (-1), .int 0, .int 0, .int 0]))] H := hP
  replace hD : va_D A [(o0, .inl (c_out, 1, .inr (.inl f_out))), (h0, .inr (12, [.ref w_text, .ref w_memory, .ref w_counts, .ref w_lexer, .ref w_parser, .ref w_checker, .ref w_scope, .ref w_coder, .ref w_machine, .ref w_compiler, .ref w_processor, .ref w_writer, .int 0, .int 0, .int 0, .int (-1), .int (-1), .int 0, .int 0, .int 0]))] := hD
  clear hK1
  try dsimp only at w_3
  obtain rfl : r_2 = 0 := w_3
  refine lv_i2l (v := 0) hx hb dL_fault_7 (by decide) ?_
  refine va_last (D := (dC, dI)) (i := 0) hx hb hK hP hD hS 0 0 rfl rfl (vp_in_nI (n := 0) (by decide) (by decide)) dL_fault_8 ?_
  clear hP hD hS
  intro H locs hP hD hS
  obtain ⟨f_4, ef_4⟩ : ∃ g : Nat → Int64, g = (vp_updL f_out (Int32.toNatClampNeg (0)) 0) := ⟨_, rfl⟩
  replace hP : va_P (dC, dI) vwCl [(o0, .inl (c_out, 1, .inr (.inl f_4))), (h0, .inr (12, [.ref w_text, .ref w_memory, .ref w_counts, .ref w_lexer, .ref w_parser, .ref w_checker, .ref w_scope, .ref w_coder, .ref w_machine, .ref w_compiler, .ref w_processor, .ref w_writer, .int 0, .int 0, .int 0, .int (-1), .int (-1), .int 0, .int 0, .int 0]))] H := by rw [ef_4]; exact hP
  replace hD : va_D A [(o0, .inl (c_out, 1, .inr (.inl f_4))), (h0, .inr (12, [.ref w_text, .ref w_memory, .ref w_counts, .ref w_lexer, .ref w_parser, .ref w_checker, .ref w_scope, .ref w_coder, .ref w_machine, .ref w_compiler, .ref w_processor, .ref w_writer, .int 0, .int 0, .int 0, .int (-1), .int (-1), .int 0, .int 0, .int 0]))] := by rw [ef_4]; exact hD
  refine lv_goto (tgt := 15) hx hb dL_fault_9 (by decide) ?_
  refine lv_iconst (v := 0) hx hb dL_fault_15 (by decide) ?_
  have hP9 := hP.sub (ws' := [(o0, .inl (c_out, 1, .inr (.inl f_4)))]) [0] rfl
  have hD9 := hD.sub (ws' := [(o0, .inl (c_out, 1, .inr (.inl f_4)))]) [0] (by decide) rfl
  have hK9 := hK.sub (tys' := [(c_out, .long)]) [0] rfl
  refine vx_ret ?_
  exact W.iret (v := 0) hx hb hr (fun t ht hW => ⟨⟨0, f_4, rfl, ⟨rfl, by rw [ef_4]; exact pk_uLs⟩, wE.of ht hW hP9 hK9 hD9⟩, hS.F ht⟩) hS.2.2 dL_fault_16

def zlL_fault_v2 : List Cond := [.methodLink RL 21 yX12_fault, .instanceMethod yX12_fault, .selects RX12 yX12_fault yX12_fault, .initialized RX12, .code yX12_fault cX12_fault 2 (some .int), .fieldLink RX12 103 "LeanHouse" "foundPlace" "I"]
def zsL_fault_v2 : List Cond := .codeWith yL_fault cL_fault 4 (some .int) [(0, 9, 12, 24)] :: (zlL_fault_v2 ++ (wsX120))
set_option maxRecDepth 20000 in
theorem gzL_fault_v2_X12_fault_v2_V21 : GoodIn zsL_fault_v2 (wsV RL 21 RX12 yX12_fault zsX12_fault_v2) := (goodIn_app (goodIn_r _ [1, 2, 3, 4] (by decide +kernel) (by decide +kernel)) (goodIn_ca (goodIn_r _ [5, 6] (by decide +kernel) (by decide +kernel)) (goodIn_sub (fun _ h9 => List.mem_cons_of_mem _ (List.mem_append_right _ h9)) gwX12)))
set_option maxHeartbeats 8000000 in
set_option maxRecDepth 100000 in
theorem c_L_faultB (l : Launch) (hst : l.stackTraces = false) (dC : Nat → ClassId) (dI : Nat → Nat → Nat) (sz : Nat) (h0 : Nat) (w_text : Nat) (w_memory : Nat) (w_counts : Nat) (w_lexer : Nat) (w_parser : Nat) (w_checker : Nat) (w_scope : Nat) (w_coder : Nat) (w_machine : Nat) (w_compiler : Nat) (w_processor : Nat) (w_writer : Nat) (o0 : Nat) (c_out : ClassId) (f_out : Nat → Int64) (v_n : Int32) (hn : v_n = 1) : vx_Met l yL_fault zsL_fault_v2 ({ frames := 2, cells := 0, slots := 0, locals := 33 } : Room) (va_Pc [.ref h0, .int v_n, .ref o0] (wBT (dC, dI) vwCl nestM strL [(c_out, .long)] [(h0, .inr (12, [.ref w_text, .ref w_memory, .ref w_counts, .ref w_lexer, .ref w_parser, .ref w_checker, .ref w_scope, .ref w_coder, .ref w_machine, .ref w_compiler, .ref w_processor, .ref w_writer, .int 0, .int 0, .int 0, .int (-1), .int (-1), .int 0, .int 0, .int 0])), (o0, .inl (c_out, 1, .inr (.inl f_out)))] sz)) (va_Qi (fun (r : Int32) (u : (Nat → Int64)) => r = 0 ∧ u 0 = (-1)) (fun (u : (Nat → Int64)) (t : State) => wE (dC, dI) vwCl [(c_out, .long)] [(o0, .inl (c_out, 1, .inr (.inl u)))] (va_A [(h0, .inr (12, [.ref w_text, .ref w_memory, .ref w_counts, .ref w_lexer, .ref w_parser, .ref w_checker, .ref w_scope, .ref w_coder, .ref w_machine, .ref w_compiler, .ref w_processor, .ref w_writer, .int 0, .int 0, .int 0, .int (-1), .int (-1), .int 0, .int 0, .int 0])), (o0, .inl (c_out, 1, .inr (.inl f_out)))] sz) t) (va_A [(h0, .inr (12, [.ref w_text, .ref w_memory, .ref w_counts, .ref w_lexer, .ref w_parser, .ref w_checker, .ref w_scope, .ref w_coder, .ref w_machine, .ref w_compiler, .ref w_processor, .ref w_writer, .int 0, .int 0, .int 0, .int (-1), .int (-1), .int 0, .int 0, .int 0])), (o0, .inl (c_out, 1, .inr (.inl f_out)))] sz)) (noX (va_A [(h0, .inr (12, [.ref w_text, .ref w_memory, .ref w_counts, .ref w_lexer, .ref w_parser, .ref w_checker, .ref w_scope, .ref w_coder, .ref w_machine, .ref w_compiler, .ref w_processor, .ref w_writer, .int 0, .int 0, .int 0, .int (-1), .int (-1), .int 0, .int 0, .int 0])), (o0, .inl (c_out, 1, .inr (.inl f_out)))] sz)) 0 0 (va_A [(h0, .inr (12, [.ref w_text, .ref w_memory, .ref w_counts, .ref w_lexer, .ref w_parser, .ref w_checker, .ref w_scope, .ref w_coder, .ref w_machine, .ref w_compiler, .ref w_processor, .ref w_writer, .int 0, .int 0, .int 0, .int (-1), .int (-1), .int 0, .int 0, .int 0])), (o0, .inl (c_out, 1, .inr (.inl f_out)))] sz) := by
  refine vx_ofWH (cc := cL_fault) (maxL := 4) (ret := (some .int)) (by decide) rfl ?_
  intro p e s m args below meth c s₁ B hml hv
  obtain ⟨rfl, ⟨hsz, hP, hK, hD0, hN⟩, hT⟩ := hv
  have hx := B.exec
  have hb := B.bytes
  have hr := B.returns
  have hts := atoms_spec (ws := zsL_fault_v2) B.pre
  have hown : s.vm.findClass RL = some m.cls := findClass_of_methodNamed B.named
  have hlocks := B.notSynchronized
  have htab := vx_table (x := yL_fault) B (hts _ List.mem_cons_self)
  subst hsz
  have hD := hD0.self (sz := s.heap.size)
  generalize hAe : va_A [(h0, .inr (12, [.ref w_text, .ref w_memory, .ref w_counts, .ref w_lexer, .ref w_parser, .ref w_checker, .ref w_scope, .ref w_coder, .ref w_machine, .ref w_compiler, .ref w_processor, .ref w_writer, .int 0, .int 0, .int 0, .int (-1), .int (-1), .int 0, .int 0, .int 0])), (o0, .inl (c_out, 1, .inr (.inl f_out)))] s.heap.size = A at hD hT ⊢
  have hA : ∀ q : Nat, s.heap.size ≤ q → A q := fun q h => by rw [← hAe]; exact Or.inr h
  have hS : va_S A s.heap s.heap [] := va_S.rf
  have hP : va_P (dC, dI) vwCl [(h0, .inr (12, [.ref w_text, .ref w_memory, .ref w_counts, .ref w_lexer, .ref w_parser, .ref w_checker, .ref w_scope, .ref w_coder, .ref w_machine, .ref w_compiler, .ref w_processor, .ref w_writer, .int 0, .int 0, .int 0, .int (-1), .int (-1), .int 0, .int 0, .int 0])), (o0, .inl (c_out, 1, .inr (.inl f_out)))] s.heap := hP
  have hl := lv_entry ([.ref h0, .int v_n, .ref o0]) (n := 4) (Nat.le_of_ble_eq_true rfl)
  rw [lg_entry_eq]
  generalize (lg_sl ([.ref h0, .int v_n, .ref o0]) ++ List.replicate (4 - (lg_sl ([.ref h0, .int v_n, .ref o0])).length) Slot.unset).toArray = ls at hl ⊢
  have hl : lv_has ls 4 [(0, .ref h0), (1, .int v_n), (2, .ref o0)] := hl
  refine lv_aload_n hx hb dL_fault_0 rfl (lv_at hl 2 rfl) ?_
  refine lv_iconst (v := 0) hx hb dL_fault_1 (by decide) ?_
  refine lv_aload_n hx hb dL_fault_2 rfl (lv_at hl 0 rfl) ?_
  refine lv_iload_n hx hb dL_fault_3 rfl (lv_at hl 1 rfl) ?_
  refine aft_i (wr := [(o0, .inl (c_out, 1, .inr (.inl f_out)))]) (va_runV (As := [.int v_n]) (rest := [.int 0, .ref o0]) ⟨hx, hb, hml, hown, hts⟩ (c_X12_faultB l dC dI s.heap.size h0 w_text w_memory w_counts w_lexer w_parser w_checker w_scope w_coder w_machine w_compiler w_processor w_writer v_n hn) (cwV 1 hts gzL_fault_v2_X12_fault_v2_V21 rfl rfl rfl (by decide +kernel) ⟨Nat.le_of_ble_eq_true rfl, Nat.le_of_ble_eq_true rfl⟩) (wB.preV (hP.sub (ws' := [(h0, .inr (12, [.ref w_text, .ref w_memory, .ref w_counts, .ref w_lexer, .ref w_parser, .ref w_checker, .ref w_scope, .ref w_coder, .ref w_machine, .ref w_compiler, .ref w_processor, .ref w_writer, .int 0, .int 0, .int 0, .int (-1), .int (-1), .int 0, .int 0, .int 0]))]) [0] rfl) (hK.sub (tys' := []) [] rfl) (hD.sub (ws' := [(h0, .inr (12, [.ref w_text, .ref w_memory, .ref w_counts, .ref w_lexer, .ref w_parser, .ref w_checker, .ref w_scope, .ref w_coder, .ref w_machine, .ref w_compiler, .ref w_processor, .ref w_writer, .int 0, .int 0, .int 0, .int (-1), .int (-1), .int 0, .int 0, .int 0]))]) [0] (by decide) rfl) hN 12 0 rfl rfl) rfl rfl hl.1 rfl (lv_room (Nat.le_of_ble_eq_true rfl)) dL_fault_4 ⟨Nat.le_of_ble_eq_true rfl, Nat.le_of_ble_eq_true rfl⟩) hP hD hS hA [0] [1] rfl rfl (by decide) (by decide) ?_
  clear hP hD hS
  intro r_2 u_1 H locs w_3 hK1 hP hD hS
  replace hP : va_P (dC, dI) vwCl [(o0, .inl (c_out, 1, .inr (.inl f_out))), (h0, .inr (12, [.ref w_text, .ref w_memory, .ref w_counts, .ref w_lexer, .ref w_parser, .ref w_checker, .ref w_scope, .ref w_coder, .ref w_machine, .ref w_compiler, .ref w_processor, .ref w_writer, .int 0, .int 0, .int 0, .int (-1), .int (-1), .int 0, .int 0, .int 0]))] H := hP
  replace hD : va_D A [(o0, .inl (c_out, 1, .inr (.inl f_out))), (h0, .inr (12, [.ref w_text, .ref w_memory, .ref w_counts, .ref w_lexer, .ref w_parser, .ref w_checker, .ref w_scope, .ref w_coder, .ref w_machine, .ref w_compiler, .ref w_processor, .ref w_writer, .int 0, .int 0, .int 0, .int (-1), .int (-1), .int 0, .int 0, .int 0]))] := hD
  clear hK1
  try dsimp only at w_3
  obtain rfl : r_2 = -1 := w_3
  refine lv_i2l (v := (-1)) hx hb dL_fault_7 (by decide) ?_
  refine va_last (D := (dC, dI)) (i := 0) hx hb hK hP hD hS 0 0 rfl rfl (vp_in_nI (n := 0) (by decide) (by decide)) dL_fault_8 ?_
  clear hP hD hS
  intro H locs hP hD hS
  obtain ⟨f_4, ef_4⟩ : ∃ g : Nat → Int64, g = (vp_updL f_out (Int32.toNatClampNeg (0)) (-1)) := ⟨_, rfl⟩
  replace hP : va_P (dC, dI) vwCl [(o0, .inl (c_out, 1, .inr (.inl f_4))), (h0, .inr (12, [.ref w_text, .ref w_memory, .ref w_counts, .ref w_lexer, .ref w_parser, .ref w_checker, .ref w_scope, .ref w_coder, .ref w_machine, .ref w_compiler, .ref w_processor, .ref w_writer, .int 0, .int 0, .int 0, .int (-1), .int (-1), .int 0, .int 0, .int 0]))] H := by rw [ef_4]; exact hP
  replace hD : va_D A [(o0, .inl (c_out, 1, .inr (.inl f_4))), (h0, .inr (12, [.ref w_text, .ref w_memory, .ref w_counts, .ref w_lexer, .ref w_parser, .ref w_checker, .ref w_scope, .ref w_coder, .ref w_machine, .ref w_compiler, .ref w_processor, .ref w_writer, .int 0, .int 0, .int 0, .int (-1), .int (-1), .int 0, .int 0, .int 0]))] := by rw [ef_4]; exact hD
  refine lv_goto (tgt := 15) hx hb dL_fault_9 (by decide) ?_
  refine lv_iconst (v := 0) hx hb dL_fault_15 (by decide) ?_
  have hP9 := hP.sub (ws' := [(o0, .inl (c_out, 1, .inr (.inl f_4)))]) [0] rfl
  have hD9 := hD.sub (ws' := [(o0, .inl (c_out, 1, .inr (.inl f_4)))]) [0] (by decide) rfl
  have hK9 := hK.sub (tys' := [(c_out, .long)]) [0] rfl
  refine vx_ret ?_
  exact W.iret (v := 0) hx hb hr (fun t ht hW => ⟨⟨0, f_4, rfl, ⟨rfl, by rw [ef_4]; exact pk_uLs⟩, wE.of ht hW hP9 hK9 hD9⟩, hS.F ht⟩) hS.2.2 dL_fault_16

theorem dL_fault_12 : decode cL_fault 12 = .ok (.astore_n 3, 1) := by decide +kernel
theorem dL_fault_13 : decode cL_fault 13 = .ok (.iconst 1, 1) := by decide +kernel
theorem dL_fault_14 : decode cL_fault 14 = .ok (.ireturn, 1) := by decide +kernel
def zlL_fault_v3 : List Cond := [.methodLink RL 21 yX12_fault, .instanceMethod yX12_fault, .selects RX12 yX12_fault yX12_fault, .initialized RX12, .code yX12_fault cX12_fault 2 (some .int), .classLink RX12 166 "java/lang/IndexOutOfBoundsException", .initialized "java/lang/IndexOutOfBoundsException", .classLink RL 24 "java/lang/IndexOutOfBoundsException"]
def zsL_fault_v3 : List Cond := .codeWith yL_fault cL_fault 4 (some .int) [(0, 9, 12, 24)] :: (zlL_fault_v3 ++ (wtO))
set_option maxRecDepth 20000 in
theorem gzL_fault_v3_X12_fault_v3_V21 : GoodIn zsL_fault_v3 (wsV RL 21 RX12 yX12_fault zsX12_fault_v3) := (goodIn_app (goodIn_r _ [1, 2, 3, 4] (by decide +kernel) (by decide +kernel)) (goodIn_ca (goodIn_r _ [5, 6, 7] (by decide +kernel) (by decide +kernel)) (goodIn_sub (fun _ h9 => List.mem_cons_of_mem _ (List.mem_append_right _ h9)) gwTO)))
set_option maxHeartbeats 8000000 in
set_option maxRecDepth 100000 in
theorem c_L_faultC (l : Launch) (hst : l.stackTraces = false) (dC : Nat → ClassId) (dI : Nat → Nat → Nat) (sz : Nat) (h0 : Nat) (w_text : Nat) (w_memory : Nat) (w_counts : Nat) (w_lexer : Nat) (w_parser : Nat) (w_checker : Nat) (w_scope : Nat) (w_coder : Nat) (w_machine : Nat) (w_compiler : Nat) (w_processor : Nat) (w_writer : Nat) (o0 : Nat) (c_out : ClassId) (f_out : Nat → Int64) (v_n : Int32) (q0 : ¬ v_n = 0) (q1 : ¬ v_n = 1) : vx_Met l yL_fault zsL_fault_v3 ({ frames := 9, cells := 1, slots := 6, locals := 161 } : Room) (va_Pc [.ref h0, .int v_n, .ref o0] (wBT (dC, dI) vwCl nestM strL [(c_out, .long)] [(h0, .inr (12, [.ref w_text, .ref w_memory, .ref w_counts, .ref w_lexer, .ref w_parser, .ref w_checker, .ref w_scope, .ref w_coder, .ref w_machine, .ref w_compiler, .ref w_processor, .ref w_writer, .int 0, .int 0, .int 0, .int (-1), .int (-1), .int 0, .int 0, .int 0])), (o0, .inl (c_out, 1, .inr (.inl f_out)))] sz)) (va_Qi (fun (r : Int32) (u : Unit) => r = 1) (fun (u : Unit) (t : State) => wE (dC, dI) vwCl [(c_out, .long)] [(o0, .inl (c_out, 1, .inr (.inl f_out)))] (va_A [(h0, .inr (12, [.ref w_text, .ref w_memory, .ref w_counts, .ref w_lexer, .ref w_parser, .ref w_checker, .ref w_scope, .ref w_coder, .ref w_machine, .ref w_compiler, .ref w_processor, .ref w_writer, .int 0, .int 0, .int 0, .int (-1), .int (-1), .int 0, .int 0, .int 0])), (o0, .inl (c_out, 1, .inr (.inl f_out)))] sz) t) (va_A [(h0, .inr (12, [.ref w_text, .ref w_memory, .ref w_counts, .ref w_lexer, .ref w_parser, .ref w_checker, .ref w_scope, .ref w_coder, .ref w_machine, .ref w_compiler, .ref w_processor, .ref w_writer, .int 0, .int 0, .int 0, .int (-1), .int (-1), .int 0, .int 0, .int 0])), (o0, .inl (c_out, 1, .inr (.inl f_out)))] sz)) (noX (va_A [(h0, .inr (12, [.ref w_text, .ref w_memory, .ref w_counts, .ref w_lexer, .ref w_parser, .ref w_checker, .ref w_scope, .ref w_coder, .ref w_machine, .ref w_compiler, .ref w_processor, .ref w_writer, .int 0, .int 0, .int 0, .int (-1), .int (-1), .int 0, .int 0, .int 0])), (o0, .inl (c_out, 1, .inr (.inl f_out)))] sz)) 1 6 (va_A [(h0, .inr (12, [.ref w_text, .ref w_memory, .ref w_counts, .ref w_lexer, .ref w_parser, .ref w_checker, .ref w_scope, .ref w_coder, .ref w_machine, .ref w_compiler, .ref w_processor, .ref w_writer, .int 0, .int 0, .int 0, .int (-1), .int (-1), .int 0, .int 0, .int 0])), (o0, .inl (c_out, 1, .inr (.inl f_out)))] sz) := by
  refine vx_ofWH (cc := cL_fault) (maxL := 4) (ret := (some .int)) (by decide) rfl ?_
  intro p e s m args below meth c s₁ B hml hv
  obtain ⟨rfl, ⟨hsz, hP, hK, hD0, hN⟩, hT⟩ := hv
  have hx := B.exec
  have hb := B.bytes
  have hr := B.returns
  have hts := atoms_spec (ws := zsL_fault_v3) B.pre
  have hown : s.vm.findClass RL = some m.cls := findClass_of_methodNamed B.named
  have hlocks := B.notSynchronized
  have htab := vx_table (x := yL_fault) B (hts _ List.mem_cons_self)
  subst hsz
  have hD := hD0.self (sz := s.heap.size)
  generalize hAe : va_A [(h0, .inr (12, [.ref w_text, .ref w_memory, .ref w_counts, .ref w_lexer, .ref w_parser, .ref w_checker, .ref w_scope, .ref w_coder, .ref w_machine, .ref w_compiler, .ref w_processor, .ref w_writer, .int 0, .int 0, .int 0, .int (-1), .int (-1), .int 0, .int 0, .int 0])), (o0, .inl (c_out, 1, .inr (.inl f_out)))] s.heap.size = A at hD hT ⊢
  have hA : ∀ q : Nat, s.heap.size ≤ q → A q := fun q h => by rw [← hAe]; exact Or.inr h
  have hS : va_S A s.heap s.heap [] := va_S.rf
  have hP : va_P (dC, dI) vwCl [(h0, .inr (12, [.ref w_text, .ref w_memory, .ref w_counts, .ref w_lexer, .ref w_parser, .ref w_checker, .ref w_scope, .ref w_coder, .ref w_machine, .ref w_compiler, .ref w_processor, .ref w_writer, .int 0, .int 0, .int 0, .int (-1), .int (-1), .int 0, .int 0, .int 0])), (o0, .inl (c_out, 1, .inr (.inl f_out)))] s.heap := hP
  have hl := lv_entry ([.ref h0, .int v_n, .ref o0]) (n := 4) (Nat.le_of_ble_eq_true rfl)
  rw [lg_entry_eq]
  generalize (lg_sl ([.ref h0, .int v_n, .ref o0]) ++ List.replicate (4 - (lg_sl ([.ref h0, .int v_n, .ref o0])).length) Slot.unset).toArray = ls at hl ⊢
  have hl : lv_has ls 4 [(0, .ref h0), (1, .int v_n), (2, .ref o0)] := hl
  refine lv_aload_n hx hb dL_fault_0 rfl (lv_at hl 2 rfl) ?_
  refine lv_iconst (v := 0) hx hb dL_fault_1 (by decide) ?_
  refine lv_aload_n hx hb dL_fault_2 rfl (lv_at hl 0 rfl) ?_
  refine lv_iload_n hx hb dL_fault_3 rfl (lv_at hl 1 rfl) ?_
  refine aft_x (wr := [(o0, .inl (c_out, 1, .inr (.inl f_out)))]) (vx_runV (As := [.int v_n]) (rest := [.int 0, .ref o0]) ⟨hx, hb, hml, hown, hts⟩ (c_X12_faultC l hst dC dI s.heap.size h0 w_text w_memory w_counts w_lexer w_parser w_checker w_scope w_coder w_machine w_compiler w_processor w_writer v_n q0 q1) (cwV 1 hts gzL_fault_v3_X12_fault_v3_V21 rfl rfl rfl (by decide +kernel) ⟨Nat.le_of_ble_eq_true rfl, Nat.le_of_ble_eq_true rfl⟩) (wBT.preV (hP.sub (ws' := [(h0, .inr (12, [.ref w_text, .ref w_memory, .ref w_counts, .ref w_lexer, .ref w_parser, .ref w_checker, .ref w_scope, .ref w_coder, .ref w_machine, .ref w_compiler, .ref w_processor, .ref w_writer, .int 0, .int 0, .int 0, .int (-1), .int (-1), .int 0, .int 0, .int 0]))]) [0] rfl) (hK.sub (tys' := []) [] rfl) (hD.sub (ws' := [(h0, .inr (12, [.ref w_text, .ref w_memory, .ref w_counts, .ref w_lexer, .ref w_parser, .ref w_checker, .ref w_scope, .ref w_coder, .ref w_machine, .ref w_compiler, .ref w_processor, .ref w_writer, .int 0, .int 0, .int 0, .int (-1), .int (-1), .int 0, .int 0, .int 0]))]) [0] (by decide) rfl) hN hT hS (va_free (wc := [(h0, .inr (12, [.ref w_text, .ref w_memory, .ref w_counts, .ref w_lexer, .ref w_parser, .ref w_checker, .ref w_scope, .ref w_coder, .ref w_machine, .ref w_compiler, .ref w_processor, .ref w_writer, .int 0, .int 0, .int 0, .int (-1), .int (-1), .int 0, .int 0, .int 0]))]) hD hS hA [0] rfl) 12 0 rfl rfl) rfl rfl hl.1 rfl (lv_room (Nat.le_of_ble_eq_true rfl)) dL_fault_4 ⟨Nat.le_of_ble_eq_true rfl, Nat.le_of_ble_eq_true rfl⟩) hP hD hS hA [0] [1] rfl rfl (by decide) (by decide) ?_
  clear hP hD hS
  intro ce q9 H locs hP hD hS hc1 hc2 hc3
  refine vx_catch (own := RL) (name := "java/lang/IndexOutOfBoundsException") hown [] ⟨0, 9, 12, 24⟩ [] htab (fun z hz => nomatch hz) (by decide) (by decide) (hts _ (List.mem_cons_of_mem _ (List.mem_append_left _ (List.mem_of_getElem? (i := 7) rfl)))) (va_Nw.use rfl (hT.2.2.2.1 _ (by decide))) hc1 hc2 hc3 ?_
  refine lv_astore_n (lv' := [(3, .ref q9), (0, .ref h0), (1, .int v_n), (2, .ref o0)]) hx hb dL_fault_12 rfl hl (by decide) rfl ?_
  clear hl
  intro ls hl
  refine lv_iconst (v := 1) hx hb dL_fault_13 (by decide) ?_
  have hP9 := hP.sub (ws' := [(o0, .inl (c_out, 1, .inr (.inl f_out)))]) [0] rfl
  have hD9 := hD.sub (ws' := [(o0, .inl (c_out, 1, .inr (.inl f_out)))]) [0] (by decide) rfl
  have hK9 := hK.sub (tys' := [(c_out, .long)]) [0] rfl
  refine vx_ret ?_
  exact W.iret (v := 1) hx hb hr (fun t ht hW => ⟨⟨1, (), rfl, rfl, wE.of ht hW hP9 hK9 hD9⟩, hS.F ht⟩) hS.2.2 dL_fault_14

theorem dL_give_0 : decode cL_give 0 = .ok (.aload_n 2, 1) := by decide +kernel
theorem dL_give_1 : decode cL_give 1 = .ok (.iconst 0, 1) := by decide +kernel
theorem dL_give_2 : decode cL_give 2 = .ok (.aload_n 0, 1) := by decide +kernel
theorem dL_give_3 : decode cL_give 3 = .ok (.iload_n 1, 1) := by decide +kernel
theorem dL_give_4 : decode cL_give 4 = .ok (.invokevirtual 26, 3) := by decide +kernel
theorem dL_give_7 : decode cL_give 7 = .ok (.i2l, 1) := by decide +kernel
theorem dL_give_8 : decode cL_give 8 = .ok (.lastore, 1) := by decide +kernel
theorem dL_give_9 : decode cL_give 9 = .ok (.goto 6, 3) := by decide +kernel
theorem dL_give_15 : decode cL_give 15 = .ok (.iconst 0, 1) := by decide +kernel
theorem dL_give_16 : decode cL_give 16 = .ok (.ireturn, 1) := by decide +kernel
def zlL_give : List Cond := [.methodLink RL 26 yX12_give, .instanceMethod yX12_give, .selects RX12 yX12_give yX12_give, .initialized RX12, .code yX12_give cX12_give 2 (some .int), .fieldLink RX12 171 "LeanHouse" "inputSize" "I", .fieldLink RX12 14 "LeanHouse" "memory" "[I", .methodLink RX12 176 yX12_put, .static yX12_put, .code yX12_put cX12_put 3 none]
def zsL_give : List Cond := .codeWith yL_give cL_give 4 (some .int) [(0, 9, 12, 13)] :: (zlL_give ++ (wsX120))
set_option maxRecDepth 20000 in
theorem gzL_give_X12_give_V26 : GoodIn zsL_give (wsV RL 26 RX12 yX12_give zsX12_give) := (goodIn_app (goodIn_r _ [1, 2, 3, 4] (by decide +kernel) (by decide +kernel)) (goodIn_ca (goodIn_r _ [5, 6, 7, 8, 9, 4, 10] (by decide +kernel) (by decide +kernel)) (goodIn_sub (fun _ h9 => List.mem_cons_of_mem _ (List.mem_append_right _ h9)) gwX12)))
set_option maxHeartbeats 8000000 in
set_option maxRecDepth 100000 in
theorem c_L_give (l : Launch) (hst : l.stackTraces = false) (dC : Nat → ClassId) (dI : Nat → Nat → Nat) (sz : Nat) (h0 : Nat) (w_text : Nat) (w_memory : Nat) (w_counts : Nat) (w_lexer : Nat) (w_parser : Nat) (w_checker : Nat) (w_scope : Nat) (w_coder : Nat) (w_machine : Nat) (w_compiler : Nat) (w_processor : Nat) (w_writer : Nat) (c_memory : ClassId) (f_memory : Nat → Int32) (o0 : Nat) (c_out : ClassId) (f_out : Nat → Int64) (v_n : Int32) : vx_Met l yL_give zsL_give ({ frames := 3, cells := 0, slots := 0, locals := 55 } : Room) (va_Pc [.ref h0, .int v_n, .ref o0] (wBT (dC, dI) vwCl nestM strL [(c_memory, .int), (c_out, .long)] [(h0, .inr (12, [.ref w_text, .ref w_memory, .ref w_counts, .ref w_lexer, .ref w_parser, .ref w_checker, .ref w_scope, .ref w_coder, .ref w_machine, .ref w_compiler, .ref w_processor, .ref w_writer, .int 0, .int 0, .int 0, .int (-1), .int (-1), .int 0, .int 0, .int 0])), (w_memory, .inl (c_memory, 281984, .inl f_memory)), (o0, .inl (c_out, 1, .inr (.inl f_out)))] sz)) (va_Qi (fun (r : Int32) (u : (Nat → Int64)) => r = 0 ∧ u 0 = 1) (fun (u : (Nat → Int64)) (t : State) => wE (dC, dI) vwCl [(c_out, .long)] [(o0, .inl (c_out, 1, .inr (.inl u)))] (va_A [(h0, .inr (12, [.ref w_text, .ref w_memory, .ref w_counts, .ref w_lexer, .ref w_parser, .ref w_checker, .ref w_scope, .ref w_coder, .ref w_machine, .ref w_compiler, .ref w_processor, .ref w_writer, .int 0, .int 0, .int 0, .int (-1), .int (-1), .int 0, .int 0, .int 0])), (w_memory, .inl (c_memory, 281984, .inl f_memory)), (o0, .inl (c_out, 1, .inr (.inl f_out)))] sz) t) (va_A [(h0, .inr (12, [.ref w_text, .ref w_memory, .ref w_counts, .ref w_lexer, .ref w_parser, .ref w_checker, .ref w_scope, .ref w_coder, .ref w_machine, .ref w_compiler, .ref w_processor, .ref w_writer, .int 0, .int 0, .int 0, .int (-1), .int (-1), .int 0, .int 0, .int 0])), (w_memory, .inl (c_memory, 281984, .inl f_memory)), (o0, .inl (c_out, 1, .inr (.inl f_out)))] sz)) (noX (va_A [(h0, .inr (12, [.ref w_text, .ref w_memory, .ref w_counts, .ref w_lexer, .ref w_parser, .ref w_checker, .ref w_scope, .ref w_coder, .ref w_machine, .ref w_compiler, .ref w_processor, .ref w_writer, .int 0, .int 0, .int 0, .int (-1), .int (-1), .int 0, .int 0, .int 0])), (w_memory, .inl (c_memory, 281984, .inl f_memory)), (o0, .inl (c_out, 1, .inr (.inl f_out)))] sz)) 0 0 (va_A [(h0, .inr (12, [.ref w_text, .ref w_memory, .ref w_counts, .ref w_lexer, .ref w_parser, .ref w_checker, .ref w_scope, .ref w_coder, .ref w_machine, .ref w_compiler, .ref w_processor, .ref w_writer, .int 0, .int 0, .int 0, .int (-1), .int (-1), .int 0, .int 0, .int 0])), (w_memory, .inl (c_memory, 281984, .inl f_memory)), (o0, .inl (c_out, 1, .inr (.inl f_out)))] sz) := by
  refine vx_ofWH (cc := cL_give) (maxL := 4) (ret := (some .int)) (by decide) rfl ?_
  intro p e s m args below meth c s₁ B hml hv
  obtain ⟨rfl, ⟨hsz, hP, hK, hD0, hN⟩, hT⟩ := hv
  have hx := B.exec
  have hb := B.bytes
  have hr := B.returns
  have hts := atoms_spec (ws := zsL_give) B.pre
  have hown : s.vm.findClass RL = some m.cls := findClass_of_methodNamed B.named
  have hlocks := B.notSynchronized
  have htab := vx_table (x := yL_give) B (hts _ List.mem_cons_self)
  subst hsz
  have hD := hD0.self (sz := s.heap.size)
  generalize hAe : va_A [(h0, .inr (12, [.ref w_text, .ref w_memory, .ref w_counts, .ref w_lexer, .ref w_parser, .ref w_checker, .ref w_scope, .ref w_coder, .ref w_machine, .ref w_compiler, .ref w_processor, .ref w_writer, .int 0, .int 0, .int 0, .int (-1), .int (-1), .int 0, .int 0, .int 0])), (w_memory, .inl (c_memory, 281984, .inl f_memory)), (o0, .inl (c_out, 1, .inr (.inl f_out)))] s.heap.size = A at hD hT ⊢
  have hA : ∀ q : Nat, s.heap.size ≤ q → A q := fun q h => by rw [← hAe]; exact Or.inr h
  have hS : va_S A s.heap s.heap [] := va_S.rf
  have hP : va_P (dC, dI) vwCl [(h0, .inr (12, [.ref w_text, .ref w_memory, .ref w_counts, .ref w_lexer, .ref w_parser, .ref w_checker, .ref w_scope, .ref w_coder, .ref w_machine, .ref w_compiler, .ref w_processor, .ref w_writer, .int 0, .int 0, .int 0, .int (-1), .int (-1), .int 0, .int 0, .int 0])), (w_memory, .inl (c_memory, 281984, .inl f_memory)), (o0, .inl (c_out, 1, .inr (.inl f_out)))] s.heap := hP
  have hl := lv_entry ([.ref h0, .int v_n, .ref o0]) (n := 4) (Nat.le_of_ble_eq_true rfl)
  rw [lg_entry_eq]
  generalize (lg_sl ([.ref h0, .int v_n, .ref o0]) ++ List.replicate (4 - (lg_sl ([.ref h0, .int v_n, .ref o0])).length) Slot.unset).toArray = ls at hl ⊢
  have hl : lv_has ls 4 [(0, .ref h0), (1, .int v_n), (2, .ref o0)] := hl
  refine lv_aload_n hx hb dL_give_0 rfl (lv_at hl 2 rfl) ?_
  refine lv_iconst (v := 0) hx hb dL_give_1 (by decide) ?_
  refine lv_aload_n hx hb dL_give_2 rfl (lv_at hl 0 rfl) ?_
  refine lv_iload_n hx hb dL_give_3 rfl (lv_at hl 1 rfl) ?_
  refine aft_i (wr := [(o0, .inl (c_out, 1, .inr (.inl f_out)))]) (va_runV (As := [.int v_n]) (rest := [.int 0, .ref o0]) ⟨hx, hb, hml, hown, hts⟩ (c_X12_give l dC dI s.heap.size h0 w_text w_memory w_counts w_lexer w_parser w_checker w_scope w_coder w_machine w_compiler w_processor w_writer c_memory f_memory v_n) (cwV 1 hts gzL_give_X12_give_V26 rfl rfl rfl (by decide +kernel) ⟨Nat.le_of_ble_eq_true rfl, Nat.le_of_ble_eq_true rfl⟩) (wB.preV (hP.sub (ws' := [(h0, .inr (12, [.ref w_text, .ref w_memory, .ref w_counts, .ref w_lexer, .ref w_parser, .ref w_checker, .ref w_scope, .ref w_coder, .ref w_machine, .ref w_compiler, .ref w_processor, .ref w_writer, .int 0, .int 0, .int 0, .int (-1), .int (-1), .int 0, .int 0, .int 0])), (w_memory, .inl (c_memory, 281984, .inl f_memory))]) [0, 1] rfl) (hK.sub (tys' := [(c_memory, .int)]) [0] rfl) (hD.sub (ws' := [(h0, .inr (12, [.ref w_text, .ref w_memory, .ref w_counts, .ref w_lexer, .ref w_parser, .ref w_checker, .ref w_scope, .ref w_coder, .ref w_machine, .ref w_compiler, .ref w_processor, .ref w_writer, .int 0, .int 0, .int 0, .int (-1), .int (-1), .int 0, .int 0, .int 0])), (w_memory, .inl (c_memory, 281984, .inl f_memory))]) [0, 1] (by decide) rfl) hN 12 0 rfl rfl) rfl rfl hl.1 rfl (lv_room (Nat.le_of_ble_eq_true rfl)) dL_give_4 ⟨Nat.le_of_ble_eq_true rfl, Nat.le_of_ble_eq_true rfl⟩) hP hD hS hA [0, 1] [2] rfl rfl (by decide) (by decide) ?_
  clear hP hD hS
  intro r_2 u_1 H locs w_3 hK1 hP hD hS
  obtain ⟨gmemory_4, rfl⟩ : ∃ z, z = u_1 := ⟨_, rfl⟩
  replace hP : va_P (dC, dI) vwCl [(o0, .inl (c_out, 1, .inr (.inl f_out))), (h0, .inr (12, [.ref w_text, .ref w_memory, .ref w_counts, .ref w_lexer, .ref w_parser, .ref w_checker, .ref w_scope, .ref w_coder, .ref w_machine, .ref w_compiler, .ref w_processor, .ref w_writer, .int 0, .int 1, .int 0, .int (-1), .int (-1), .int 0, .int 0, .int 0])), (w_memory, .inl (c_memory, 281984, .inl gmemory_4))] H := hP
  replace hD : va_D A [(o0, .inl (c_out, 1, .inr (.inl f_out))), (h0, .inr (12, [.ref w_text, .ref w_memory, .ref w_counts, .ref w_lexer, .ref w_parser, .ref w_checker, .ref w_scope, .ref w_coder, .ref w_machine, .ref w_compiler, .ref w_processor, .ref w_writer, .int 0, .int 1, .int 0, .int (-1), .int (-1), .int 0, .int 0, .int 0])), (w_memory, .inl (c_memory, 281984, .inl gmemory_4))] := hD
  clear hK1
  try dsimp only at w_3
  obtain rfl : r_2 = 1 := w_3
  refine lv_i2l (v := 1) hx hb dL_give_7 (by decide) ?_
  refine va_last (D := (dC, dI)) (i := 0) hx hb hK hP hD hS 0 1 rfl rfl (vp_in_nI (n := 0) (by decide) (by decide)) dL_give_8 ?_
  clear hP hD hS
  intro H locs hP hD hS
  obtain ⟨f_5, ef_5⟩ : ∃ g : Nat → Int64, g = (vp_updL f_out (Int32.toNatClampNeg (0)) 1) := ⟨_, rfl⟩
  replace hP : va_P (dC, dI) vwCl [(o0, .inl (c_out, 1, .inr (.inl f_5))), (h0, .inr (12, [.ref w_text, .ref w_memory, .ref w_counts, .ref w_lexer, .ref w_parser, .ref w_checker, .ref w_scope, .ref w_coder, .ref w_machine, .ref w_compiler, .ref w_processor, .ref w_writer, .int 0, .int 1, .int 0, .int (-1), .int (-1), .int 0, .int 0, .int 0])), (w_memory, .inl (c_memory, 281984, .inl gmemory_4))] H := by rw [ef_5]; exact hP
  replace hD : va_D A [(o0, .inl (c_out, 1, .inr (.inl f_5))), (h0, .inr (12, [.ref w_text, .ref w_memory, .ref w_counts, .ref w_lexer, .ref w_parser, .ref w_checker, .ref w_scope, .ref w_coder, .ref w_machine, .ref w_compiler, .ref w_processor, .ref w_writer, .int 0, .int 1, .int 0, .int (-1), .int (-1), .int 0, .int 0, .int 0])), (w_memory, .inl (c_memory, 281984, .inl gmemory_4))] := by rw [ef_5]; exact hD
  refine lv_goto (tgt := 15) hx hb dL_give_9 (by decide) ?_
  refine lv_iconst (v := 0) hx hb dL_give_15 (by decide) ?_
  have hP9 := hP.sub (ws' := [(o0, .inl (c_out, 1, .inr (.inl f_5)))]) [0] rfl
  have hD9 := hD.sub (ws' := [(o0, .inl (c_out, 1, .inr (.inl f_5)))]) [0] (by decide) rfl
  have hK9 := hK.sub (tys' := [(c_out, .long)]) [1] rfl
  refine vx_ret ?_
  exact W.iret (v := 0) hx hb hr (fun t ht hW => ⟨⟨0, f_5, rfl, ⟨rfl, by rw [ef_5]; exact pk_uLs⟩, wE.of ht hW hP9 hK9 hD9⟩, hS.F ht⟩) hS.2.2 dL_give_16

theorem dL_run_0 : decode cL_run 0 = .ok (.aload 4, 2) := by decide +kernel
theorem dL_run_2 : decode cL_run 2 = .ok (.iconst 0, 1) := by decide +kernel
theorem dL_run_3 : decode cL_run 3 = .ok (.aload_n 0, 1) := by decide +kernel
theorem dL_run_4 : decode cL_run 4 = .ok (.iload_n 1, 1) := by decide +kernel
theorem dL_run_5 : decode cL_run 5 = .ok (.iload_n 2, 1) := by decide +kernel
theorem dL_run_6 : decode cL_run 6 = .ok (.iload_n 3, 1) := by decide +kernel
theorem dL_run_7 : decode cL_run 7 = .ok (.invokevirtual 29, 3) := by decide +kernel
theorem dL_run_15 : decode cL_run 15 = .ok (.astore 5, 2) := by decide +kernel
theorem dL_run_17 : decode cL_run 17 = .ok (.iconst 1, 1) := by decide +kernel
theorem dL_run_18 : decode cL_run 18 = .ok (.ireturn, 1) := by decide +kernel
def zlL_run : List Cond := [.methodLink RL 29 yX12_run, .instanceMethod yX12_run, .selects RX12 yX12_run yX12_run, .initialized RX12, .code yX12_run cX12_run 4 (some .int), .classLink RX12 128 "java/lang/IllegalArgumentException", .initialized "java/lang/IllegalArgumentException", .classLink RL 19 "java/lang/IllegalArgumentException"]
def zsL_run : List Cond := .codeWith yL_run cL_run 6 (some .int) [(0, 12, 15, 19), (0, 12, 19, 13)] :: (zlL_run ++ (wtA))
set_option maxRecDepth 20000 in
theorem gzL_run_X12_run_V29 : GoodIn zsL_run (wsV RL 29 RX12 yX12_run zsX12_run) := (goodIn_app (goodIn_r _ [1, 2, 3, 4] (by decide +kernel) (by decide +kernel)) (goodIn_ca (goodIn_r _ [5, 6, 7] (by decide +kernel) (by decide +kernel)) (goodIn_sub (fun _ h9 => List.mem_cons_of_mem _ (List.mem_append_right _ h9)) gwTA)))
set_option maxHeartbeats 8000000 in
set_option maxRecDepth 100000 in
theorem c_L_runA (l : Launch) (hst : l.stackTraces = false) (dC : Nat → ClassId) (dI : Nat → Nat → Nat) (sz : Nat) (h0 : Nat) (w_text : Nat) (w_memory : Nat) (w_counts : Nat) (w_lexer : Nat) (w_parser : Nat) (w_checker : Nat) (w_scope : Nat) (w_coder : Nat) (w_machine : Nat) (w_compiler : Nat) (w_processor : Nat) (w_writer : Nat) (o0 : Nat) (c_out : ClassId) (f_out : Nat → Int64) (v_h : Int32) (v_n : Int32) (v_p : Int32) (hbad : v_h < 0 ∨ 2 < v_h ∨ v_n < 1 ∨ 20000 < v_n ∨ v_p < 16 ∨ ¬ v_p ≤ 4096) : vx_Met l yL_run zsL_run ({ frames := 9, cells := 1, slots := 6, locals := 163 } : Room) (va_Pc [.ref h0, .int v_h, .int v_n, .int v_p, .ref o0] (wBT (dC, dI) vwCl nestM strL [(c_out, .long)] [(h0, .inr (12, [.ref w_text, .ref w_memory, .ref w_counts, .ref w_lexer, .ref w_parser, .ref w_checker, .ref w_scope, .ref w_coder, .ref w_machine, .ref w_compiler, .ref w_processor, .ref w_writer, .int 0, .int 0, .int 0, .int (-1), .int (-1), .int 0, .int 0, .int 0])), (o0, .inl (c_out, 1, .inr (.inl f_out)))] sz)) (va_Qi (fun (r : Int32) (u : Unit) => r = 1) (fun (u : Unit) (t : State) => wE (dC, dI) vwCl [(c_out, .long)] [(o0, .inl (c_out, 1, .inr (.inl f_out)))] (va_A [(h0, .inr (12, [.ref w_text, .ref w_memory, .ref w_counts, .ref w_lexer, .ref w_parser, .ref w_checker, .ref w_scope, .ref w_coder, .ref w_machine, .ref w_compiler, .ref w_processor, .ref w_writer, .int 0, .int 0, .int 0, .int (-1), .int (-1), .int 0, .int 0, .int 0])), (o0, .inl (c_out, 1, .inr (.inl f_out)))] sz) t) (va_A [(h0, .inr (12, [.ref w_text, .ref w_memory, .ref w_counts, .ref w_lexer, .ref w_parser, .ref w_checker, .ref w_scope, .ref w_coder, .ref w_machine, .ref w_compiler, .ref w_processor, .ref w_writer, .int 0, .int 0, .int 0, .int (-1), .int (-1), .int 0, .int 0, .int 0])), (o0, .inl (c_out, 1, .inr (.inl f_out)))] sz)) (noX (va_A [(h0, .inr (12, [.ref w_text, .ref w_memory, .ref w_counts, .ref w_lexer, .ref w_parser, .ref w_checker, .ref w_scope, .ref w_coder, .ref w_machine, .ref w_compiler, .ref w_processor, .ref w_writer, .int 0, .int 0, .int 0, .int (-1), .int (-1), .int 0, .int 0, .int 0])), (o0, .inl (c_out, 1, .inr (.inl f_out)))] sz)) 1 6 (va_A [(h0, .inr (12, [.ref w_text, .ref w_memory, .ref w_counts, .ref w_lexer, .ref w_parser, .ref w_checker, .ref w_scope, .ref w_coder, .ref w_machine, .ref w_compiler, .ref w_processor, .ref w_writer, .int 0, .int 0, .int 0, .int (-1), .int (-1), .int 0, .int 0, .int 0])), (o0, .inl (c_out, 1, .inr (.inl f_out)))] sz) := by
  refine vx_ofWH (cc := cL_run) (maxL := 6) (ret := (some .int)) (by decide) rfl ?_
  intro p e s m args below meth c s₁ B hml hv
  obtain ⟨rfl, ⟨hsz, hP, hK, hD0, hN⟩, hT⟩ := hv
  have hx := B.exec
  have hb := B.bytes
  have hr := B.returns
  have hts := atoms_spec (ws := zsL_run) B.pre
  have hown : s.vm.findClass RL = some m.cls := findClass_of_methodNamed B.named
  have hlocks := B.notSynchronized
  have htab := vx_table (x := yL_run) B (hts _ List.mem_cons_self)
  subst hsz
  have hD := hD0.self (sz := s.heap.size)
  generalize hAe : va_A [(h0, .inr (12, [.ref w_text, .ref w_memory, .ref w_counts, .ref w_lexer, .ref w_parser, .ref w_checker, .ref w_scope, .ref w_coder, .ref w_machine, .ref w_compiler, .ref w_processor, .ref w_writer, .int 0, .int 0, .int 0, .int (-1), .int (-1), .int 0, .int 0, .int 0])), (o0, .inl (c_out, 1, .inr (.inl f_out)))] s.heap.size = A at hD hT ⊢
  have hA : ∀ q : Nat, s.heap.size ≤ q → A q := fun q h => by rw [← hAe]; exact Or.inr h
  have hS : va_S A s.heap s.heap [] := va_S.rf
  have hP : va_P (dC, dI) vwCl [(h0, .inr (12, [.ref w_text, .ref w_memory, .ref w_counts, .ref w_lexer, .ref w_parser, .ref w_checker, .ref w_scope, .ref w_coder, .ref w_machine, .ref w_compiler, .ref w_processor, .ref w_writer, .int 0, .int 0, .int 0, .int (-1), .int (-1), .int 0, .int 0, .int 0])), (o0, .inl (c_out, 1, .inr (.inl f_out)))] s.heap := hP
  have hl := lv_entry ([.ref h0, .int v_h, .int v_n, .int v_p, .ref o0]) (n := 6) (Nat.le_of_ble_eq_true rfl)
  rw [lg_entry_eq]
  generalize (lg_sl ([.ref h0, .int v_h, .int v_n, .int v_p, .ref o0]) ++ List.replicate (6 - (lg_sl ([.ref h0, .int v_h, .int v_n, .int v_p, .ref o0])).length) Slot.unset).toArray = ls at hl ⊢
  have hl : lv_has ls 6 [(0, .ref h0), (1, .int v_h), (2, .int v_n), (3, .int v_p), (4, .ref o0)] := hl
  refine lv_aload hx hb dL_run_0 (lv_at hl 4 rfl) ?_
  refine lv_iconst (v := 0) hx hb dL_run_2 (by decide) ?_
  refine lv_aload_n hx hb dL_run_3 rfl (lv_at hl 0 rfl) ?_
  refine lv_iload_n hx hb dL_run_4 rfl (lv_at hl 1 rfl) ?_
  refine lv_iload_n hx hb dL_run_5 rfl (lv_at hl 2 rfl) ?_
  refine lv_iload_n hx hb dL_run_6 rfl (lv_at hl 3 rfl) ?_
  refine aft_x (wr := [(o0, .inl (c_out, 1, .inr (.inl f_out)))]) (vx_runV (As := [.int v_h, .int v_n, .int v_p]) (rest := [.int 0, .ref o0]) ⟨hx, hb, hml, hown, hts⟩ (c_X12_runA l hst dC dI s.heap.size h0 w_text w_memory w_counts w_lexer w_parser w_checker w_scope w_coder w_machine w_compiler w_processor w_writer v_h v_n v_p hbad) (cwV 3 hts gzL_run_X12_run_V29 rfl rfl rfl (by decide +kernel) ⟨Nat.le_of_ble_eq_true rfl, Nat.le_of_ble_eq_true rfl⟩) (wBT.preV (hP.sub (ws' := [(h0, .inr (12, [.ref w_text, .ref w_memory, .ref w_counts, .ref w_lexer, .ref w_parser, .ref w_checker, .ref w_scope, .ref w_coder, .ref w_machine, .ref w_compiler, .ref w_processor, .ref w_writer, .int 0, .int 0, .int 0, .int (-1), .int (-1), .int 0, .int 0, .int 0]))]) [0] rfl) (hK.sub (tys' := []) [] rfl) (hD.sub (ws' := [(h0, .inr (12, [.ref w_text, .ref w_memory, .ref w_counts, .ref w_lexer, .ref w_parser, .ref w_checker, .ref w_scope, .ref w_coder, .ref w_machine, .ref w_compiler, .ref w_processor, .ref w_writer, .int 0, .int 0, .int 0, .int (-1), .int (-1), .int 0, .int 0, .int 0]))]) [0] (by decide) rfl) hN hT hS (va_free (wc := [(h0, .inr (12, [.ref w_text, .ref w_memory, .ref w_counts, .ref w_lexer, .ref w_parser, .ref w_checker, .ref w_scope, .ref w_coder, .ref w_machine, .ref w_compiler, .ref w_processor, .ref w_writer, .int 0, .int 0, .int 0, .int (-1), .int (-1), .int 0, .int 0, .int 0]))]) hD hS hA [0] rfl) 12 0 rfl rfl) rfl rfl hl.1 rfl (lv_room (Nat.le_of_ble_eq_true rfl)) dL_run_7 ⟨Nat.le_of_ble_eq_true rfl, Nat.le_of_ble_eq_true rfl⟩) hP hD hS hA [0] [1] rfl rfl (by decide) (by decide) ?_
  clear hP hD hS
  intro ce q9 H locs hP hD hS hc1 hc2 hc3
  refine vx_catch (own := RL) (name := "java/lang/IllegalArgumentException") hown [] ⟨0, 12, 15, 19⟩ [⟨0, 12, 19, 13⟩] htab (fun z hz => nomatch hz) (by decide) (by decide) (hts _ (List.mem_cons_of_mem _ (List.mem_append_left _ (List.mem_of_getElem? (i := 7) rfl)))) (va_Nw.use rfl (hT.2.2.2.1 _ (by decide))) hc1 hc2 hc3 ?_
  refine lv_astore (lv' := [(5, .ref q9), (0, .ref h0), (1, .int v_h), (2, .int v_n), (3, .int v_p), (4, .ref o0)]) hx hb dL_run_15 hl (by decide) rfl ?_
  clear hl
  intro ls hl
  refine lv_iconst (v := 1) hx hb dL_run_17 (by decide) ?_
  have hP9 := hP.sub (ws' := [(o0, .inl (c_out, 1, .inr (.inl f_out)))]) [0] rfl
  have hD9 := hD.sub (ws' := [(o0, .inl (c_out, 1, .inr (.inl f_out)))]) [0] (by decide) rfl
  have hK9 := hK.sub (tys' := [(c_out, .long)]) [0] rfl
  refine vx_ret ?_
  exact W.iret (v := 1) hx hb hr (fun t ht hW => ⟨⟨1, (), rfl, rfl, wE.of ht hW hP9 hK9 hD9⟩, hS.F ht⟩) hS.2.2 dL_run_18

theorem dL_run_19 : decode cL_run 19 = .ok (.astore 5, 2) := by decide +kernel
theorem dL_run_21 : decode cL_run 21 = .ok (.iconst 2, 1) := by decide +kernel
theorem dL_run_22 : decode cL_run 22 = .ok (.ireturn, 1) := by decide +kernel
def zlL_run_v2 : List Cond := [.methodLink RL 29 yX12_run, .instanceMethod yX12_run, .selects RX12 yX12_run yX12_run, .initialized RX12, .code yX12_run cX12_run 4 (some .int), .fieldLink RX12 133 "LeanHouse" "isProgram" "Z", .classLink RX12 113 "java/lang/IllegalStateException", .initialized "java/lang/IllegalStateException", .classLink RL 19 "java/lang/IllegalArgumentException", .classLink RL 13 "java/lang/IllegalStateException"]
def zsL_run_v2 : List Cond := .codeWith yL_run cL_run 6 (some .int) [(0, 12, 15, 19), (0, 12, 19, 13)] :: (zlL_run_v2 ++ (wsX120 ++ (wtS)))
set_option maxRecDepth 20000 in
theorem gzL_run_v2_X12_run_v2_V29 : GoodIn zsL_run_v2 (wsV RL 29 RX12 yX12_run zsX12_run_v2) := (goodIn_app (goodIn_r _ [1, 2, 3, 4] (by decide +kernel) (by decide +kernel)) (goodIn_ca (goodIn_r _ [5, 6, 7, 8] (by decide +kernel) (by decide +kernel)) (goodIn_app (goodIn_sub (fun _ h9 => List.mem_cons_of_mem _ (List.mem_append_right _ (List.mem_append_left _ h9))) gwX12) (goodIn_sub (fun _ h9 => List.mem_cons_of_mem _ (List.mem_append_right _ (List.mem_append_right _ h9))) gwTS))))
set_option maxHeartbeats 8000000 in
set_option maxRecDepth 100000 in
theorem c_L_runB (l : Launch) (hst : l.stackTraces = false) (dC : Nat → ClassId) (dI : Nat → Nat → Nat) (sz : Nat) (h0 : Nat) (w_text : Nat) (w_memory : Nat) (w_counts : Nat) (w_lexer : Nat) (w_parser : Nat) (w_checker : Nat) (w_scope : Nat) (w_coder : Nat) (w_machine : Nat) (w_compiler : Nat) (w_processor : Nat) (w_writer : Nat) (o0 : Nat) (c_out : ClassId) (f_out : Nat → Int64) (v_h : Int32) (v_n : Int32) (v_p : Int32) (b1 : ¬ v_h < 0) (b2 : ¬ 2 < v_h) (b3 : ¬ v_n < 1) (b4 : ¬ 20000 < v_n) (b5 : ¬ v_p < 16) (b6 : v_p ≤ 4096) : vx_Met l yL_run zsL_run_v2 ({ frames := 9, cells := 1, slots := 6, locals := 163 } : Room) (va_Pc [.ref h0, .int v_h, .int v_n, .int v_p, .ref o0] (wBT (dC, dI) vwCl nestM strL [(c_out, .long)] [(h0, .inr (12, [.ref w_text, .ref w_memory, .ref w_counts, .ref w_lexer, .ref w_parser, .ref w_checker, .ref w_scope, .ref w_coder, .ref w_machine, .ref w_compiler, .ref w_processor, .ref w_writer, .int 0, .int 0, .int 0, .int (-1), .int (-1), .int 0, .int 0, .int 0])), (o0, .inl (c_out, 1, .inr (.inl f_out)))] sz)) (va_Qi (fun (r : Int32) (u : Unit) => r = 2) (fun (u : Unit) (t : State) => wE (dC, dI) vwCl [(c_out, .long)] [(o0, .inl (c_out, 1, .inr (.inl f_out)))] (va_A [(h0, .inr (12, [.ref w_text, .ref w_memory, .ref w_counts, .ref w_lexer, .ref w_parser, .ref w_checker, .ref w_scope, .ref w_coder, .ref w_machine, .ref w_compiler, .ref w_processor, .ref w_writer, .int 0, .int 0, .int 0, .int (-1), .int (-1), .int 0, .int 0, .int 0])), (o0, .inl (c_out, 1, .inr (.inl f_out)))] sz) t) (va_A [(h0, .inr (12, [.ref w_text, .ref w_memory, .ref w_counts, .ref w_lexer, .ref w_parser, .ref w_checker, .ref w_scope, .ref w_coder, .ref w_machine, .ref w_compiler, .ref w_processor, .ref w_writer, .int 0, .int 0, .int 0, .int (-1), .int (-1), .int 0, .int 0, .int 0])), (o0, .inl (c_out, 1, .inr (.inl f_out)))] sz)) (noX (va_A [(h0, .inr (12, [.ref w_text, .ref w_memory, .ref w_counts, .ref w_lexer, .ref w_parser, .ref w_checker, .ref w_scope, .ref w_coder, .ref w_machine, .ref w_compiler, .ref w_processor, .ref w_writer, .int 0, .int 0, .int 0, .int (-1), .int (-1), .int 0, .int 0, .int 0])), (o0, .inl (c_out, 1, .inr (.inl f_out)))] sz)) 1 6 (va_A [(h0, .inr (12, [.ref w_text, .ref w_memory, .ref w_counts, .ref w_lexer, .ref w_parser, .ref w_checker, .ref w_scope, .ref w_coder, .ref w_machine, .ref w_compiler, .ref w_processor, .ref w_writer, .int 0, .int 0, .int 0, .int (-1), .int (-1), .int 0, .int 0, .int 0])), (o0, .inl (c_out, 1, .inr (.inl f_out)))] sz) := by
  refine vx_ofWH (cc := cL_run) (maxL := 6) (ret := (some .int)) (by decide) rfl ?_
  intro p e s m args below meth c s₁ B hml hv
  obtain ⟨rfl, ⟨hsz, hP, hK, hD0, hN⟩, hT⟩ := hv
  have hx := B.exec
  have hb := B.bytes
  have hr := B.returns
  have hts := atoms_spec (ws := zsL_run_v2) B.pre
  have hown : s.vm.findClass RL = some m.cls := findClass_of_methodNamed B.named
  have hlocks := B.notSynchronized
  have htab := vx_table (x := yL_run) B (hts _ List.mem_cons_self)
  subst hsz
  have hD := hD0.self (sz := s.heap.size)
  generalize hAe : va_A [(h0, .inr (12, [.ref w_text, .ref w_memory, .ref w_counts, .ref w_lexer, .ref w_parser, .ref w_checker, .ref w_scope, .ref w_coder, .ref w_machine, .ref w_compiler, .ref w_processor, .ref w_writer, .int 0, .int 0, .int 0, .int (-1), .int (-1), .int 0, .int 0, .int 0])), (o0, .inl (c_out, 1, .inr (.inl f_out)))] s.heap.size = A at hD hT ⊢
  have hA : ∀ q : Nat, s.heap.size ≤ q → A q := fun q h => by rw [← hAe]; exact Or.inr h
  have hS : va_S A s.heap s.heap [] := va_S.rf
  have hP : va_P (dC, dI) vwCl [(h0, .inr (12, [.ref w_text, .ref w_memory, .ref w_counts, .ref w_lexer, .ref w_parser, .ref w_checker, .ref w_scope, .ref w_coder, .ref w_machine, .ref w_compiler, .ref w_processor, .ref w_writer, .int 0, .int 0, .int 0, .int (-1), .int (-1), .int 0, .int 0, .int 0])), (o0, .inl (c_out, 1, .inr (.inl f_out)))] s.heap := hP
  have hl := lv_entry ([.ref h0, .int v_h, .int v_n, .int v_p, .ref o0]) (n := 6) (Nat.le_of_ble_eq_true rfl)
  rw [lg_entry_eq]
  generalize (lg_sl ([.ref h0, .int v_h, .int v_n, .int v_p, .ref o0]) ++ List.replicate (6 - (lg_sl ([.ref h0, .int v_h, .int v_n, .int v_p, .ref o0])).length) Slot.unset).toArray = ls at hl ⊢
  have hl : lv_has ls 6 [(0, .ref h0), (1, .int v_h), (2, .int v_n), (3, .int v_p), (4, .ref o0)] := hl
  refine lv_aload hx hb dL_run_0 (lv_at hl 4 rfl) ?_
  refine lv_iconst (v := 0) hx hb dL_run_2 (by decide) ?_
  refine lv_aload_n hx hb dL_run_3 rfl (lv_at hl 0 rfl) ?_
  refine lv_iload_n hx hb dL_run_4 rfl (lv_at hl 1 rfl) ?_
  refine lv_iload_n hx hb dL_run_5 rfl (lv_at hl 2 rfl) ?_
  refine lv_iload_n hx hb dL_run_6 rfl (lv_at hl 3 rfl) ?_
  refine aft_x (wr := [(o0, .inl (c_out, 1, .inr (.inl f_out)))]) (vx_runV (As := [.int v_h, .int v_n, .int v_p]) (rest := [.int 0, .ref o0]) ⟨hx, hb, hml, hown, hts⟩ (c_X12_runB l hst dC dI s.heap.size h0 w_text w_memory w_counts w_lexer w_parser w_checker w_scope w_coder w_machine w_compiler w_processor w_writer v_h v_n v_p b1 b2 b3 b4 b5 b6) (cwV 3 hts gzL_run_v2_X12_run_v2_V29 rfl rfl rfl (by decide +kernel) ⟨Nat.le_of_ble_eq_true rfl, Nat.le_of_ble_eq_true rfl⟩) (wBT.preV (hP.sub (ws' := [(h0, .inr (12, [.ref w_text, .ref w_memory, .ref w_counts, .ref w_lexer, .ref w_parser, .ref w_checker, .ref w_scope, .ref w_coder, .ref w_machine, .ref w_compiler, .ref w_processor, .ref w_writer, .int 0, .int 0, .int 0, .int (-1), .int (-1), .int 0, .int 0, .int 0]))]) [0] rfl) (hK.sub (tys' := []) [] rfl) (hD.sub (ws' := [(h0, .inr (12, [.ref w_text, .ref w_memory, .ref w_counts, .ref w_lexer, .ref w_parser, .ref w_checker, .ref w_scope, .ref w_coder, .ref w_machine, .ref w_compiler, .ref w_processor, .ref w_writer, .int 0, .int 0, .int 0, .int (-1), .int (-1), .int 0, .int 0, .int 0]))]) [0] (by decide) rfl) hN hT hS (va_free (wc := [(h0, .inr (12, [.ref w_text, .ref w_memory, .ref w_counts, .ref w_lexer, .ref w_parser, .ref w_checker, .ref w_scope, .ref w_coder, .ref w_machine, .ref w_compiler, .ref w_processor, .ref w_writer, .int 0, .int 0, .int 0, .int (-1), .int (-1), .int 0, .int 0, .int 0]))]) hD hS hA [0] rfl) 12 0 rfl rfl) rfl rfl hl.1 rfl (lv_room (Nat.le_of_ble_eq_true rfl)) dL_run_7 ⟨Nat.le_of_ble_eq_true rfl, Nat.le_of_ble_eq_true rfl⟩) hP hD hS hA [0] [1] rfl rfl (by decide) (by decide) ?_
  clear hP hD hS
  intro ce q9 H locs hP hD hS hc1 hc2 hc3
  refine vx_catch (own := RL) (name := "java/lang/IllegalStateException") hown [⟨0, 12, 15, 19⟩] ⟨0, 12, 19, 13⟩ [] htab (fun z hz => by rw [List.mem_singleton.mp hz]; exact Or.inr ⟨by decide, "java/lang/IllegalArgumentException", (hts _ (List.mem_cons_of_mem _ (List.mem_append_left _ (List.mem_of_getElem? (i := 8) rfl)))), hT.2.2.2.2.1.1⟩) (by decide) (by decide) (hts _ (List.mem_cons_of_mem _ (List.mem_append_left _ (List.mem_of_getElem? (i := 9) rfl)))) (va_Nw.use rfl (hT.2.2.2.1 _ (by decide))) hc1 hc2 hc3 ?_
  refine lv_astore (lv' := [(5, .ref q9), (0, .ref h0), (1, .int v_h), (2, .int v_n), (3, .int v_p), (4, .ref o0)]) hx hb dL_run_19 hl (by decide) rfl ?_
  clear hl
  intro ls hl
  refine lv_iconst (v := 2) hx hb dL_run_21 (by decide) ?_
  have hP9 := hP.sub (ws' := [(o0, .inl (c_out, 1, .inr (.inl f_out)))]) [0] rfl
  have hD9 := hD.sub (ws' := [(o0, .inl (c_out, 1, .inr (.inl f_out)))]) [0] (by decide) rfl
  have hK9 := hK.sub (tys' := [(c_out, .long)]) [0] rfl
  refine vx_ret ?_
  exact W.iret (v := 2) hx hb hr (fun t ht hW => ⟨⟨2, (), rfl, rfl, wE.of ht hW hP9 hK9 hD9⟩, hS.F ht⟩) hS.2.2 dL_run_22

theorem dL_seen_0 : decode cL_seen 0 = .ok (.aload_n 2, 1) := by decide +kernel
theorem dL_seen_1 : decode cL_seen 1 = .ok (.iconst 0, 1) := by decide +kernel
theorem dL_seen_2 : decode cL_seen 2 = .ok (.aload_n 0, 1) := by decide +kernel
theorem dL_seen_3 : decode cL_seen 3 = .ok (.iload_n 1, 1) := by decide +kernel
theorem dL_seen_4 : decode cL_seen 4 = .ok (.invokevirtual 33, 3) := by decide +kernel
theorem dL_seen_12 : decode cL_seen 12 = .ok (.astore_n 3, 1) := by decide +kernel
theorem dL_seen_13 : decode cL_seen 13 = .ok (.iconst 1, 1) := by decide +kernel
theorem dL_seen_14 : decode cL_seen 14 = .ok (.ireturn, 1) := by decide +kernel
def zlL_seen : List Cond := [.methodLink RL 33 yX12_seen, .instanceMethod yX12_seen, .selects RX12 yX12_seen yX12_seen, .initialized RX12, .code yX12_seen cX12_seen 2 (some .int), .classLink RX12 166 "java/lang/IndexOutOfBoundsException", .initialized "java/lang/IndexOutOfBoundsException", .classLink RL 24 "java/lang/IndexOutOfBoundsException"]
def zsL_seen : List Cond := .codeWith yL_seen cL_seen 4 (some .int) [(0, 9, 12, 24), (0, 9, 15, 13)] :: (zlL_seen ++ (wtO))
set_option maxRecDepth 20000 in
theorem gzL_seen_X12_seen_V33 : GoodIn zsL_seen (wsV RL 33 RX12 yX12_seen zsX12_seen) := (goodIn_app (goodIn_r _ [1, 2, 3, 4] (by decide +kernel) (by decide +kernel)) (goodIn_ca (goodIn_r _ [5, 6, 7] (by decide +kernel) (by decide +kernel)) (goodIn_sub (fun _ h9 => List.mem_cons_of_mem _ (List.mem_append_right _ h9)) gwTO)))
set_option maxHeartbeats 8000000 in
set_option maxRecDepth 100000 in
theorem c_L_seenA (l : Launch) (hst : l.stackTraces = false) (dC : Nat → ClassId) (dI : Nat → Nat → Nat) (sz : Nat) (h0 : Nat) (w_text : Nat) (w_memory : Nat) (w_counts : Nat) (w_lexer : Nat) (w_parser : Nat) (w_checker : Nat) (w_scope : Nat) (w_coder : Nat) (w_machine : Nat) (w_compiler : Nat) (w_processor : Nat) (w_writer : Nat) (o0 : Nat) (c_out : ClassId) (f_out : Nat → Int64) (v_n : Int32) (hbad : v_n < 0 ∨ ¬ v_n ≤ 4) : vx_Met l yL_seen zsL_seen ({ frames := 9, cells := 1, slots := 6, locals := 161 } : Room) (va_Pc [.ref h0, .int v_n, .ref o0] (wBT (dC, dI) vwCl nestM strL [(c_out, .long)] [(h0, .inr (12, [.ref w_text, .ref w_memory, .ref w_counts, .ref w_lexer, .ref w_parser, .ref w_checker, .ref w_scope, .ref w_coder, .ref w_machine, .ref w_compiler, .ref w_processor, .ref w_writer, .int 0, .int 0, .int 0, .int (-1), .int (-1), .int 0, .int 0, .int 0])), (o0, .inl (c_out, 1, .inr (.inl f_out)))] sz)) (va_Qi (fun (r : Int32) (u : Unit) => r = 1) (fun (u : Unit) (t : State) => wE (dC, dI) vwCl [(c_out, .long)] [(o0, .inl (c_out, 1, .inr (.inl f_out)))] (va_A [(h0, .inr (12, [.ref w_text, .ref w_memory, .ref w_counts, .ref w_lexer, .ref w_parser, .ref w_checker, .ref w_scope, .ref w_coder, .ref w_machine, .ref w_compiler, .ref w_processor, .ref w_writer, .int 0, .int 0, .int 0, .int (-1), .int (-1), .int 0, .int 0, .int 0])), (o0, .inl (c_out, 1, .inr (.inl f_out)))] sz) t) (va_A [(h0, .inr (12, [.ref w_text, .ref w_memory, .ref w_counts, .ref w_lexer, .ref w_parser, .ref w_checker, .ref w_scope, .ref w_coder, .ref w_machine, .ref w_compiler, .ref w_processor, .ref w_writer, .int 0, .int 0, .int 0, .int (-1), .int (-1), .int 0, .int 0, .int 0])), (o0, .inl (c_out, 1, .inr (.inl f_out)))] sz)) (noX (va_A [(h0, .inr (12, [.ref w_text, .ref w_memory, .ref w_counts, .ref w_lexer, .ref w_parser, .ref w_checker, .ref w_scope, .ref w_coder, .ref w_machine, .ref w_compiler, .ref w_processor, .ref w_writer, .int 0, .int 0, .int 0, .int (-1), .int (-1), .int 0, .int 0, .int 0])), (o0, .inl (c_out, 1, .inr (.inl f_out)))] sz)) 1 6 (va_A [(h0, .inr (12, [.ref w_text, .ref w_memory, .ref w_counts, .ref w_lexer, .ref w_parser, .ref w_checker, .ref w_scope, .ref w_coder, .ref w_machine, .ref w_compiler, .ref w_processor, .ref w_writer, .int 0, .int 0, .int 0, .int (-1), .int (-1), .int 0, .int 0, .int 0])), (o0, .inl (c_out, 1, .inr (.inl f_out)))] sz) := by
  refine vx_ofWH (cc := cL_seen) (maxL := 4) (ret := (some .int)) (by decide) rfl ?_
  intro p e s m args below meth c s₁ B hml hv
  obtain ⟨rfl, ⟨hsz, hP, hK, hD0, hN⟩, hT⟩ := hv
  have hx := B.exec
  have hb := B.bytes
  have hr := B.returns
  have hts := atoms_spec (ws := zsL_seen) B.pre
  have hown : s.vm.findClass RL = some m.cls := findClass_of_methodNamed B.named
  have hlocks := B.notSynchronized
  have htab := vx_table (x := yL_seen) B (hts _ List.mem_cons_self)
  subst hsz
  have hD := hD0.self (sz := s.heap.size)
  generalize hAe : va_A [(h0, .inr (12, [.ref w_text, .ref w_memory, .ref w_counts, .ref w_lexer, .ref w_parser, .ref w_checker, .ref w_scope, .ref w_coder, .ref w_machine, .ref w_compiler, .ref w_processor, .ref w_writer, .int 0, .int 0, .int 0, .int (-1), .int (-1), .int 0, .int 0, .int 0])), (o0, .inl (c_out, 1, .inr (.inl f_out)))] s.heap.size = A at hD hT ⊢
  have hA : ∀ q : Nat, s.heap.size ≤ q → A q := fun q h => by rw [← hAe]; exact Or.inr h
  have hS : va_S A s.heap s.heap [] := va_S.rf
  have hP : va_P (dC, dI) vwCl [(h0, .inr (12, [.ref w_text, .ref w_memory, .ref w_counts, .ref w_lexer, .ref w_parser, .ref w_checker, .ref w_scope, .ref w_coder, .ref w_machine, .ref w_compiler, .ref w_processor, .ref w_writer, .int 0, .int 0, .int 0, .int (-1), .int (-1), .int 0, .int 0, .int 0])), (o0, .inl (c_out, 1, .inr (.inl f_out)))] s.heap := hP
  have hl := lv_entry ([.ref h0, .int v_n, .ref o0]) (n := 4) (Nat.le_of_ble_eq_true rfl)
  rw [lg_entry_eq]
  generalize (lg_sl ([.ref h0, .int v_n, .ref o0]) ++ List.replicate (4 - (lg_sl ([.ref h0, .int v_n, .ref o0])).length) Slot.unset).toArray = ls at hl ⊢
  have hl : lv_has ls 4 [(0, .ref h0), (1, .int v_n), (2, .ref o0)] := hl
  refine lv_aload_n hx hb dL_seen_0 rfl (lv_at hl 2 rfl) ?_
  refine lv_iconst (v := 0) hx hb dL_seen_1 (by decide) ?_
  refine lv_aload_n hx hb dL_seen_2 rfl (lv_at hl 0 rfl) ?_
  refine lv_iload_n hx hb dL_seen_3 rfl (lv_at hl 1 rfl) ?_
  refine aft_x (wr := [(o0, .inl (c_out, 1, .inr (.inl f_out)))]) (vx_runV (As := [.int v_n]) (rest := [.int 0, .ref o0]) ⟨hx, hb, hml, hown, hts⟩ (c_X12_seenA l hst dC dI s.heap.size h0 w_text w_memory w_counts w_lexer w_parser w_checker w_scope w_coder w_machine w_compiler w_processor w_writer v_n hbad) (cwV 1 hts gzL_seen_X12_seen_V33 rfl rfl rfl (by decide +kernel) ⟨Nat.le_of_ble_eq_true rfl, Nat.le_of_ble_eq_true rfl⟩) (wBT.preV (hP.sub (ws' := [(h0, .inr (12, [.ref w_text, .ref w_memory, .ref w_counts, .ref w_lexer, .ref w_parser, .ref w_checker, .ref w_scope, .ref w_coder, .ref w_machine, .ref w_compiler, .ref w_processor, .ref w_writer, .int 0, .int 0, .int 0, .int (-1), .int (-1), .int 0, .int 0, .int 0]))]) [0] rfl) (hK.sub (tys' := []) [] rfl) (hD.sub (ws' := [(h0, .inr (12, [.ref w_text, .ref w_memory, .ref w_counts, .ref w_lexer, .ref w_parser, .ref w_checker, .ref w_scope, .ref w_coder, .ref w_machine, .ref w_compiler, .ref w_processor, .ref w_writer, .int 0, .int 0, .int 0, .int (-1), .int (-1), .int 0, .int 0, .int 0]))]) [0] (by decide) rfl) hN hT hS (va_free (wc := [(h0, .inr (12, [.ref w_text, .ref w_memory, .ref w_counts, .ref w_lexer, .ref w_parser, .ref w_checker, .ref w_scope, .ref w_coder, .ref w_machine, .ref w_compiler, .ref w_processor, .ref w_writer, .int 0, .int 0, .int 0, .int (-1), .int (-1), .int 0, .int 0, .int 0]))]) hD hS hA [0] rfl) 12 0 rfl rfl) rfl rfl hl.1 rfl (lv_room (Nat.le_of_ble_eq_true rfl)) dL_seen_4 ⟨Nat.le_of_ble_eq_true rfl, Nat.le_of_ble_eq_true rfl⟩) hP hD hS hA [0] [1] rfl rfl (by decide) (by decide) ?_
  clear hP hD hS
  intro ce q9 H locs hP hD hS hc1 hc2 hc3
  refine vx_catch (own := RL) (name := "java/lang/IndexOutOfBoundsException") hown [] ⟨0, 9, 12, 24⟩ [⟨0, 9, 15, 13⟩] htab (fun z hz => nomatch hz) (by decide) (by decide) (hts _ (List.mem_cons_of_mem _ (List.mem_append_left _ (List.mem_of_getElem? (i := 7) rfl)))) (va_Nw.use rfl (hT.2.2.2.1 _ (by decide))) hc1 hc2 hc3 ?_
  refine lv_astore_n (lv' := [(3, .ref q9), (0, .ref h0), (1, .int v_n), (2, .ref o0)]) hx hb dL_seen_12 rfl hl (by decide) rfl ?_
  clear hl
  intro ls hl
  refine lv_iconst (v := 1) hx hb dL_seen_13 (by decide) ?_
  have hP9 := hP.sub (ws' := [(o0, .inl (c_out, 1, .inr (.inl f_out)))]) [0] rfl
  have hD9 := hD.sub (ws' := [(o0, .inl (c_out, 1, .inr (.inl f_out)))]) [0] (by decide) rfl
  have hK9 := hK.sub (tys' := [(c_out, .long)]) [0] rfl
  refine vx_ret ?_
  exact W.iret (v := 1) hx hb hr (fun t ht hW => ⟨⟨1, (), rfl, rfl, wE.of ht hW hP9 hK9 hD9⟩, hS.F ht⟩) hS.2.2 dL_seen_14

theorem dL_seen_15 : decode cL_seen 15 = .ok (.astore_n 3, 1) := by decide +kernel
theorem dL_seen_16 : decode cL_seen 16 = .ok (.iconst 2, 1) := by decide +kernel
theorem dL_seen_17 : decode cL_seen 17 = .ok (.ireturn, 1) := by decide +kernel
def zlL_seen_v2 : List Cond := [.methodLink RL 33 yX12_seen, .instanceMethod yX12_seen, .selects RX12 yX12_seen yX12_seen, .initialized RX12, .code yX12_seen cX12_seen 2 (some .int), .fieldLink RX12 107 "LeanHouse" "ending" "I", .classLink RX12 113 "java/lang/IllegalStateException", .initialized "java/lang/IllegalStateException", .classLink RL 24 "java/lang/IndexOutOfBoundsException", .classLink RL 13 "java/lang/IllegalStateException"]
def zsL_seen_v2 : List Cond := .codeWith yL_seen cL_seen 4 (some .int) [(0, 9, 12, 24), (0, 9, 15, 13)] :: (zlL_seen_v2 ++ (wsX120 ++ (wtS)))
set_option maxRecDepth 20000 in
theorem gzL_seen_v2_X12_seen_v2_V33 : GoodIn zsL_seen_v2 (wsV RL 33 RX12 yX12_seen zsX12_seen_v2) := (goodIn_app (goodIn_r _ [1, 2, 3, 4] (by decide +kernel) (by decide +kernel)) (goodIn_ca (goodIn_r _ [5, 6, 7, 8] (by decide +kernel) (by decide +kernel)) (goodIn_app (goodIn_sub (fun _ h9 => List.mem_cons_of_mem _ (List.mem_append_right _ (List.mem_append_left _ h9))) gwX12) (goodIn_sub (fun _ h9 => List.mem_cons_of_mem _ (List.mem_append_right _ (List.mem_append_right _ h9))) gwTS))))
set_option maxHeartbeats 8000000 in
set_option maxRecDepth 100000 in
theorem c_L_seenB (l : Launch) (hst : l.stackTraces = false) (dC : Nat → ClassId) (dI : Nat → Nat → Nat) (sz : Nat) (h0 : Nat) (w_text : Nat) (w_memory : Nat) (w_counts : Nat) (w_lexer : Nat) (w_parser : Nat) (w_checker : Nat) (w_scope : Nat) (w_coder : Nat) (w_machine : Nat) (w_compiler : Nat) (w_processor : Nat) (w_writer : Nat) (o0 : Nat) (c_out : ClassId) (f_out : Nat → Int64) (v_n : Int32) (b1 : ¬ v_n < 0) (b2 : v_n ≤ 4) : vx_Met l yL_seen zsL_seen_v2 ({ frames := 9, cells := 1, slots := 6, locals := 161 } : Room) (va_Pc [.ref h0, .int v_n, .ref o0] (wBT (dC, dI) vwCl nestM strL [(c_out, .long)] [(h0, .inr (12, [.ref w_text, .ref w_memory, .ref w_counts, .ref w_lexer, .ref w_parser, .ref w_checker, .ref w_scope, .ref w_coder, .ref w_machine, .ref w_compiler, .ref w_processor, .ref w_writer, .int 0, .int 0, .int 0, .int (-1), .int (-1), .int 0, .int 0, .int 0])), (o0, .inl (c_out, 1, .inr (.inl f_out)))] sz)) (va_Qi (fun (r : Int32) (u : Unit) => r = 2) (fun (u : Unit) (t : State) => wE (dC, dI) vwCl [(c_out, .long)] [(o0, .inl (c_out, 1, .inr (.inl f_out)))] (va_A [(h0, .inr (12, [.ref w_text, .ref w_memory, .ref w_counts, .ref w_lexer, .ref w_parser, .ref w_checker, .ref w_scope, .ref w_coder, .ref w_machine, .ref w_compiler, .ref w_processor, .ref w_writer, .int 0, .int 0, .int 0, .int (-1), .int (-1), .int 0, .int 0, .int 0])), (o0, .inl (c_out, 1, .inr (.inl f_out)))] sz) t) (va_A [(h0, .inr (12, [.ref w_text, .ref w_memory, .ref w_counts, .ref w_lexer, .ref w_parser, .ref w_checker, .ref w_scope, .ref w_coder, .ref w_machine, .ref w_compiler, .ref w_processor, .ref w_writer, .int 0, .int 0, .int 0, .int (-1), .int (-1), .int 0, .int 0, .int 0])), (o0, .inl (c_out, 1, .inr (.inl f_out)))] sz)) (noX (va_A [(h0, .inr (12, [.ref w_text, .ref w_memory, .ref w_counts, .ref w_lexer, .ref w_parser, .ref w_checker, .ref w_scope, .ref w_coder, .ref w_machine, .ref w_compiler, .ref w_processor, .ref w_writer, .int 0, .int 0, .int 0, .int (-1), .int (-1), .int 0, .int 0, .int 0])), (o0, .inl (c_out, 1, .inr (.inl f_out)))] sz)) 1 6 (va_A [(h0, .inr (12, [.ref w_text, .ref w_memory, .ref w_counts, .ref w_lexer, .ref w_parser, .ref w_checker, .ref w_scope, .ref w_coder, .ref w_machine, .ref w_compiler, .ref w_processor, .ref w_writer, .int 0, .int 0, .int 0, .int (-1), .int (-1), .int 0, .int 0, .int 0])), (o0, .inl (c_out, 1, .inr (.inl f_out)))] sz) := by
  refine vx_ofWH (cc := cL_seen) (maxL := 4) (ret := (some .int)) (by decide) rfl ?_
  intro p e s m args below meth c s₁ B hml hv
  obtain ⟨rfl, ⟨hsz, hP, hK, hD0, hN⟩, hT⟩ := hv
  have hx := B.exec
  have hb := B.bytes
  have hr := B.returns
  have hts := atoms_spec (ws := zsL_seen_v2) B.pre
  have hown : s.vm.findClass RL = some m.cls := findClass_of_methodNamed B.named
  have hlocks := B.notSynchronized
  have htab := vx_table (x := yL_seen) B (hts _ List.mem_cons_self)
  subst hsz
  have hD := hD0.self (sz := s.heap.size)
  generalize hAe : va_A [(h0, .inr (12, [.ref w_text, .ref w_memory, .ref w_counts, .ref w_lexer, .ref w_parser, .ref w_checker, .ref w_scope, .ref w_coder, .ref w_machine, .ref w_compiler, .ref w_processor, .ref w_writer, .int 0, .int 0, .int 0, .int (-1), .int (-1), .int 0, .int 0, .int 0])), (o0, .inl (c_out, 1, .inr (.inl f_out)))] s.heap.size = A at hD hT ⊢
  have hA : ∀ q : Nat, s.heap.size ≤ q → A q := fun q h => by rw [← hAe]; exact Or.inr h
  have hS : va_S A s.heap s.heap [] := va_S.rf
  have hP : va_P (dC, dI) vwCl [(h0, .inr (12, [.ref w_text, .ref w_memory, .ref w_counts, .ref w_lexer, .ref w_parser, .ref w_checker, .ref w_scope, .ref w_coder, .ref w_machine, .ref w_compiler, .ref w_processor, .ref w_writer, .int 0, .int 0, .int 0, .int (-1), .int (-1), .int 0, .int 0, .int 0])), (o0, .inl (c_out, 1, .inr (.inl f_out)))] s.heap := hP
  have hl := lv_entry ([.ref h0, .int v_n, .ref o0]) (n := 4) (Nat.le_of_ble_eq_true rfl)
  rw [lg_entry_eq]
  generalize (lg_sl ([.ref h0, .int v_n, .ref o0]) ++ List.replicate (4 - (lg_sl ([.ref h0, .int v_n, .ref o0])).length) Slot.unset).toArray = ls at hl ⊢
  have hl : lv_has ls 4 [(0, .ref h0), (1, .int v_n), (2, .ref o0)] := hl
  refine lv_aload_n hx hb dL_seen_0 rfl (lv_at hl 2 rfl) ?_
  refine lv_iconst (v := 0) hx hb dL_seen_1 (by decide) ?_
  refine lv_aload_n hx hb dL_seen_2 rfl (lv_at hl 0 rfl) ?_
  refine lv_iload_n hx hb dL_seen_3 rfl (lv_at hl 1 rfl) ?_
  refine aft_x (wr := [(o0, .inl (c_out, 1, .inr (.inl f_out)))]) (vx_runV (As := [.int v_n]) (rest := [.int 0, .ref o0]) ⟨hx, hb, hml, hown, hts⟩ (c_X12_seenB l hst dC dI s.heap.size h0 w_text w_memory w_counts w_lexer w_parser w_checker w_scope w_coder w_machine w_compiler w_processor w_writer v_n b1 b2) (cwV 1 hts gzL_seen_v2_X12_seen_v2_V33 rfl rfl rfl (by decide +kernel) ⟨Nat.le_of_ble_eq_true rfl, Nat.le_of_ble_eq_true rfl⟩) (wBT.preV (hP.sub (ws' := [(h0, .inr (12, [.ref w_text, .ref w_memory, .ref w_counts, .ref w_lexer, .ref w_parser, .ref w_checker, .ref w_scope, .ref w_coder, .ref w_machine, .ref w_compiler, .ref w_processor, .ref w_writer, .int 0, .int 0, .int 0, .int (-1), .int (-1), .int 0, .int 0, .int 0]))]) [0] rfl) (hK.sub (tys' := []) [] rfl) (hD.sub (ws' := [(h0, .inr (12, [.ref w_text, .ref w_memory, .ref w_counts, .ref w_lexer, .ref w_parser, .ref w_checker, .ref w_scope, .ref w_coder, .ref w_machine, .ref w_compiler, .ref w_processor, .ref w_writer, .int 0, .int 0, .int 0, .int (-1), .int (-1), .int 0, .int 0, .int 0]))]) [0] (by decide) rfl) hN hT hS (va_free (wc := [(h0, .inr (12, [.ref w_text, .ref w_memory, .ref w_counts, .ref w_lexer, .ref w_parser, .ref w_checker, .ref w_scope, .ref w_coder, .ref w_machine, .ref w_compiler, .ref w_processor, .ref w_writer, .int 0, .int 0, .int 0, .int (-1), .int (-1), .int 0, .int 0, .int 0]))]) hD hS hA [0] rfl) 12 0 rfl rfl) rfl rfl hl.1 rfl (lv_room (Nat.le_of_ble_eq_true rfl)) dL_seen_4 ⟨Nat.le_of_ble_eq_true rfl, Nat.le_of_ble_eq_true rfl⟩) hP hD hS hA [0] [1] rfl rfl (by decide) (by decide) ?_
  clear hP hD hS
  intro ce q9 H locs hP hD hS hc1 hc2 hc3
  refine vx_catch (own := RL) (name := "java/lang/IllegalStateException") hown [⟨0, 9, 12, 24⟩] ⟨0, 9, 15, 13⟩ [] htab (fun z hz => by rw [List.mem_singleton.mp hz]; exact Or.inr ⟨by decide, "java/lang/IndexOutOfBoundsException", (hts _ (List.mem_cons_of_mem _ (List.mem_append_left _ (List.mem_of_getElem? (i := 8) rfl)))), hT.2.2.2.2.1.2⟩) (by decide) (by decide) (hts _ (List.mem_cons_of_mem _ (List.mem_append_left _ (List.mem_of_getElem? (i := 9) rfl)))) (va_Nw.use rfl (hT.2.2.2.1 _ (by decide))) hc1 hc2 hc3 ?_
  refine lv_astore_n (lv' := [(3, .ref q9), (0, .ref h0), (1, .int v_n), (2, .ref o0)]) hx hb dL_seen_15 rfl hl (by decide) rfl ?_
  clear hl
  intro ls hl
  refine lv_iconst (v := 2) hx hb dL_seen_16 (by decide) ?_
  have hP9 := hP.sub (ws' := [(o0, .inl (c_out, 1, .inr (.inl f_out)))]) [0] rfl
  have hD9 := hD.sub (ws' := [(o0, .inl (c_out, 1, .inr (.inl f_out)))]) [0] (by decide) rfl
  have hK9 := hK.sub (tys' := [(c_out, .long)]) [0] rfl
  refine vx_ret ?_
  exact W.iret (v := 2) hx hb hr (fun t ht hW => ⟨⟨2, (), rfl, rfl, wE.of ht hW hP9 hK9 hD9⟩, hS.F ht⟩) hS.2.2 dL_seen_17

theorem dL_byteAt_0 : decode cL_byteAt 0 = .ok (.aload_n 2, 1) := by decide +kernel
theorem dL_byteAt_1 : decode cL_byteAt 1 = .ok (.iconst 0, 1) := by decide +kernel
theorem dL_byteAt_2 : decode cL_byteAt 2 = .ok (.aload_n 0, 1) := by decide +kernel
theorem dL_byteAt_3 : decode cL_byteAt 3 = .ok (.iload_n 1, 1) := by decide +kernel
theorem dL_byteAt_4 : decode cL_byteAt 4 = .ok (.invokevirtual 36, 3) := by decide +kernel
theorem dL_byteAt_12 : decode cL_byteAt 12 = .ok (.astore_n 3, 1) := by decide +kernel
theorem dL_byteAt_13 : decode cL_byteAt 13 = .ok (.iconst 1, 1) := by decide +kernel
theorem dL_byteAt_14 : decode cL_byteAt 14 = .ok (.ireturn, 1) := by decide +kernel
def zlL_byteAt : List Cond := [.methodLink RL 36 yX12_byteAt, .instanceMethod yX12_byteAt, .selects RX12 yX12_byteAt yX12_byteAt, .initialized RX12, .code yX12_byteAt cX12_byteAt 2 (some .int), .classLink RX12 166 "java/lang/IndexOutOfBoundsException", .initialized "java/lang/IndexOutOfBoundsException", .fieldLink RX12 206 "LeanHouse" "outputKept" "I", .classLink RL 24 "java/lang/IndexOutOfBoundsException"]
def zsL_byteAt : List Cond := .codeWith yL_byteAt cL_byteAt 4 (some .int) [(0, 9, 12, 24)] :: (zlL_byteAt ++ (wtO ++ (wsX120)))
set_option maxRecDepth 20000 in
theorem gzL_byteAt_X12_byteAt_V36 : GoodIn zsL_byteAt (wsV RL 36 RX12 yX12_byteAt zsX12_byteAt) := (goodIn_app (goodIn_r _ [1, 2, 3, 4] (by decide +kernel) (by decide +kernel)) (goodIn_ca (goodIn_r _ [5, 6, 7, 8] (by decide +kernel) (by decide +kernel)) (goodIn_app (goodIn_sub (fun _ h9 => List.mem_cons_of_mem _ (List.mem_append_right _ (List.mem_append_left _ h9))) gwTO) (goodIn_sub (fun _ h9 => List.mem_cons_of_mem _ (List.mem_append_right _ (List.mem_append_right _ h9))) gwX12))))
set_option maxHeartbeats 8000000 in
set_option maxRecDepth 100000 in
theorem c_L_byteAt (l : Launch) (hst : l.stackTraces = false) (dC : Nat → ClassId) (dI : Nat → Nat → Nat) (sz : Nat) (h0 : Nat) (w_text : Nat) (w_memory : Nat) (w_counts : Nat) (w_lexer : Nat) (w_parser : Nat) (w_checker : Nat) (w_scope : Nat) (w_coder : Nat) (w_machine : Nat) (w_compiler : Nat) (w_processor : Nat) (w_writer : Nat) (o0 : Nat) (c_out : ClassId) (f_out : Nat → Int64) (v_n : Int32) : vx_Met l yL_byteAt zsL_byteAt ({ frames := 9, cells := 1, slots := 6, locals := 161 } : Room) (va_Pc [.ref h0, .int v_n, .ref o0] (wBT (dC, dI) vwCl nestM strL [(c_out, .long)] [(h0, .inr (12, [.ref w_text, .ref w_memory, .ref w_counts, .ref w_lexer, .ref w_parser, .ref w_checker, .ref w_scope, .ref w_coder, .ref w_machine, .ref w_compiler, .ref w_processor, .ref w_writer, .int 0, .int 0, .int 0, .int (-1), .int (-1), .int 0, .int 0, .int 0])), (o0, .inl (c_out, 1, .inr (.inl f_out)))] sz)) (va_Qi (fun (r : Int32) (u : Unit) => r = 1) (fun (u : Unit) (t : State) => wE (dC, dI) vwCl [(c_out, .long)] [(o0, .inl (c_out, 1, .inr (.inl f_out)))] (va_A [(h0, .inr (12, [.ref w_text, .ref w_memory, .ref w_counts, .ref w_lexer, .ref w_parser, .ref w_checker, .ref w_scope, .ref w_coder, .ref w_machine, .ref w_compiler, .ref w_processor, .ref w_writer, .int 0, .int 0, .int 0, .int (-1), .int (-1), .int 0, .int 0, .int 0])), (o0, .inl (c_out, 1, .inr (.inl f_out)))] sz) t) (va_A [(h0, .inr (12, [.ref w_text, .ref w_memory, .ref w_counts, .ref w_lexer, .ref w_parser, .ref w_checker, .ref w_scope, .ref w_coder, .ref w_machine, .ref w_compiler, .ref w_processor, .ref w_writer, .int 0, .int 0, .int 0, .int (-1), .int (-1), .int 0, .int 0, .int 0])), (o0, .inl (c_out, 1, .inr (.inl f_out)))] sz)) (noX (va_A [(h0, .inr (12, [.ref w_text, .ref w_memory, .ref w_counts, .ref w_lexer, .ref w_parser, .ref w_checker, .ref w_scope, .ref w_coder, .ref w_machine, .ref w_compiler, .ref w_processor, .ref w_writer, .int 0, .int 0, .int 0, .int (-1), .int (-1), .int 0, .int 0, .int 0])), (o0, .inl (c_out, 1, .inr (.inl f_out)))] sz)) 1 6 (va_A [(h0, .inr (12, [.ref w_text, .ref w_memory, .ref w_counts, .ref w_lexer, .ref w_parser, .ref w_checker, .ref w_scope, .ref w_coder, .ref w_machine, .ref w_compiler, .ref w_processor, .ref w_writer, .int 0, .int 0, .int 0, .int (-1), .int (-1), .int 0, .int 0, .int 0])), (o0, .inl (c_out, 1, .inr (.inl f_out)))] sz) := by
  refine vx_ofWH (cc := cL_byteAt) (maxL := 4) (ret := (some .int)) (by decide) rfl ?_
  intro p e s m args below meth c s₁ B hml hv
  obtain ⟨rfl, ⟨hsz, hP, hK, hD0, hN⟩, hT⟩ := hv
  have hx := B.exec
  have hb := B.bytes
  have hr := B.returns
  have hts := atoms_spec (ws := zsL_byteAt) B.pre
  have hown : s.vm.findClass RL = some m.cls := findClass_of_methodNamed B.named
  have hlocks := B.notSynchronized
  have htab := vx_table (x := yL_byteAt) B (hts _ List.mem_cons_self)
  subst hsz
  have hD := hD0.self (sz := s.heap.size)
  generalize hAe : va_A [(h0, .inr (12, [.ref w_text, .ref w_memory, .ref w_counts, .ref w_lexer, .ref w_parser, .ref w_checker, .ref w_scope, .ref w_coder, .ref w_machine, .ref w_compiler, .ref w_processor, .ref w_writer, .int 0, .int 0, .int 0, .int (-1), .int (-1), .int 0, .int 0, .int 0])), (o0, .inl (c_out, 1, .inr (.inl f_out)))] s.heap.size = A at hD hT ⊢
  have hA : ∀ q : Nat, s.heap.size ≤ q → A q := fun q h => by rw [← hAe]; exact Or.inr h
  have hS : va_S A s.heap s.heap [] := va_S.rf
  have hP : va_P (dC, dI) vwCl [(h0, .inr (12, [.ref w_text, .ref w_memory, .ref w_counts, .ref w_lexer, .ref w_parser, .ref w_checker, .ref w_scope, .ref w_coder, .ref w_machine, .ref w_compiler, .ref w_processor, .ref w_writer, .int 0, .int 0, .int 0, .int (-1), .int (-1), .int 0, .int 0, .int 0])), (o0, .inl (c_out, 1, .inr (.inl f_out)))] s.heap := hP
  have hl := lv_entry ([.ref h0, .int v_n, .ref o0]) (n := 4) (Nat.le_of_ble_eq_true rfl)
  rw [lg_entry_eq]
  generalize (lg_sl ([.ref h0, .int v_n, .ref o0]) ++ List.replicate (4 - (lg_sl ([.ref h0, .int v_n, .ref o0])).length) Slot.unset).toArray = ls at hl ⊢
  have hl : lv_has ls 4 [(0, .ref h0), (1, .int v_n), (2, .ref o0)] := hl
  refine lv_aload_n hx hb dL_byteAt_0 rfl (lv_at hl 2 rfl) ?_
  refine lv_iconst (v := 0) hx hb dL_byteAt_1 (by decide) ?_
  refine lv_aload_n hx hb dL_byteAt_2 rfl (lv_at hl 0 rfl) ?_
  refine lv_iload_n hx hb dL_byteAt_3 rfl (lv_at hl 1 rfl) ?_
  refine aft_x (wr := [(o0, .inl (c_out, 1, .inr (.inl f_out)))]) (vx_runV (As := [.int v_n]) (rest := [.int 0, .ref o0]) ⟨hx, hb, hml, hown, hts⟩ (c_X12_byteAt l hst dC dI s.heap.size h0 w_text w_memory w_counts w_lexer w_parser w_checker w_scope w_coder w_machine w_compiler w_processor w_writer v_n) (cwV 1 hts gzL_byteAt_X12_byteAt_V36 rfl rfl rfl (by decide +kernel) ⟨Nat.le_of_ble_eq_true rfl, Nat.le_of_ble_eq_true rfl⟩) (wBT.preV (hP.sub (ws' := [(h0, .inr (12, [.ref w_text, .ref w_memory, .ref w_counts, .ref w_lexer, .ref w_parser, .ref w_checker, .ref w_scope, .ref w_coder, .ref w_machine, .ref w_compiler, .ref w_processor, .ref w_writer, .int 0, .int 0, .int 0, .int (-1), .int (-1), .int 0, .int 0, .int 0]))]) [0] rfl) (hK.sub (tys' := []) [] rfl) (hD.sub (ws' := [(h0, .inr (12, [.ref w_text, .ref w_memory, .ref w_counts, .ref w_lexer, .ref w_parser, .ref w_checker, .ref w_scope, .ref w_coder, .ref w_machine, .ref w_compiler, .ref w_processor, .ref w_writer, .int 0, .int 0, .int 0, .int (-1), .int (-1), .int 0, .int 0, .int 0]))]) [0] (by decide) rfl) hN hT hS (va_free (wc := [(h0, .inr (12, [.ref w_text, .ref w_memory, .ref w_counts, .ref w_lexer, .ref w_parser, .ref w_checker, .ref w_scope, .ref w_coder, .ref w_machine, .ref w_compiler, .ref w_processor, .ref w_writer, .int 0, .int 0, .int 0, .int (-1), .int (-1), .int 0, .int 0, .int 0]))]) hD hS hA [0] rfl) 12 0 rfl rfl) rfl rfl hl.1 rfl (lv_room (Nat.le_of_ble_eq_true rfl)) dL_byteAt_4 ⟨Nat.le_of_ble_eq_true rfl, Nat.le_of_ble_eq_true rfl⟩) hP hD hS hA [0] [1] rfl rfl (by decide) (by decide) ?_
  clear hP hD hS
  intro ce q9 H locs hP hD hS hc1 hc2 hc3
  refine vx_catch (own := RL) (name := "java/lang/IndexOutOfBoundsException") hown [] ⟨0, 9, 12, 24⟩ [] htab (fun z hz => nomatch hz) (by decide) (by decide) (hts _ (List.mem_cons_of_mem _ (List.mem_append_left _ (List.mem_of_getElem? (i := 8) rfl)))) (va_Nw.use rfl (hT.2.2.2.1 _ (by decide))) hc1 hc2 hc3 ?_
  refine lv_astore_n (lv' := [(3, .ref q9), (0, .ref h0), (1, .int v_n), (2, .ref o0)]) hx hb dL_byteAt_12 rfl hl (by decide) rfl ?_
  clear hl
  intro ls hl
  refine lv_iconst (v := 1) hx hb dL_byteAt_13 (by decide) ?_
  have hP9 := hP.sub (ws' := [(o0, .inl (c_out, 1, .inr (.inl f_out)))]) [0] rfl
  have hD9 := hD.sub (ws' := [(o0, .inl (c_out, 1, .inr (.inl f_out)))]) [0] (by decide) rfl
  have hK9 := hK.sub (tys' := [(c_out, .long)]) [0] rfl
  refine vx_ret ?_
  exact W.iret (v := 1) hx hb hr (fun t ht hW => ⟨⟨1, (), rfl, rfl, wE.of ht hW hP9 hK9 hD9⟩, hS.F ht⟩) hS.2.2 dL_byteAt_14

theorem dL_tell_0 : decode cL_tell 0 = .ok (.aload_n 2, 1) := by decide +kernel
theorem dL_tell_1 : decode cL_tell 1 = .ok (.iconst 0, 1) := by decide +kernel
theorem dL_tell_2 : decode cL_tell 2 = .ok (.aload_n 0, 1) := by decide +kernel
theorem dL_tell_3 : decode cL_tell 3 = .ok (.iload_n 1, 1) := by decide +kernel
theorem dL_tell_4 : decode cL_tell 4 = .ok (.invokevirtual 39, 3) := by decide +kernel
theorem dL_tell_12 : decode cL_tell 12 = .ok (.astore_n 3, 1) := by decide +kernel
theorem dL_tell_13 : decode cL_tell 13 = .ok (.iconst 1, 1) := by decide +kernel
theorem dL_tell_14 : decode cL_tell 14 = .ok (.ireturn, 1) := by decide +kernel
def zlL_tell : List Cond := [.methodLink RL 39 yX12_tell, .instanceMethod yX12_tell, .selects RX12 yX12_tell yX12_tell, .initialized RX12, .code yX12_tell cX12_tell 2 (some .int), .classLink RX12 166 "java/lang/IndexOutOfBoundsException", .initialized "java/lang/IndexOutOfBoundsException", .classLink RL 24 "java/lang/IndexOutOfBoundsException"]
def zsL_tell : List Cond := .codeWith yL_tell cL_tell 4 (some .int) [(0, 9, 12, 24), (0, 9, 15, 13)] :: (zlL_tell ++ (wtO))
set_option maxRecDepth 20000 in
theorem gzL_tell_X12_tell_V39 : GoodIn zsL_tell (wsV RL 39 RX12 yX12_tell zsX12_tell) := (goodIn_app (goodIn_r _ [1, 2, 3, 4] (by decide +kernel) (by decide +kernel)) (goodIn_ca (goodIn_r _ [5, 6, 7] (by decide +kernel) (by decide +kernel)) (goodIn_sub (fun _ h9 => List.mem_cons_of_mem _ (List.mem_append_right _ h9)) gwTO)))
set_option maxHeartbeats 8000000 in
set_option maxRecDepth 100000 in
theorem c_L_tellA (l : Launch) (hst : l.stackTraces = false) (dC : Nat → ClassId) (dI : Nat → Nat → Nat) (sz : Nat) (h0 : Nat) (w_text : Nat) (w_memory : Nat) (w_counts : Nat) (w_lexer : Nat) (w_parser : Nat) (w_checker : Nat) (w_scope : Nat) (w_coder : Nat) (w_machine : Nat) (w_compiler : Nat) (w_processor : Nat) (w_writer : Nat) (o0 : Nat) (c_out : ClassId) (f_out : Nat → Int64) (v_n : Int32) (q0 : ¬ v_n = 0) (q1 : ¬ v_n = 1) : vx_Met l yL_tell zsL_tell ({ frames := 9, cells := 1, slots := 6, locals := 161 } : Room) (va_Pc [.ref h0, .int v_n, .ref o0] (wBT (dC, dI) vwCl nestM strL [(c_out, .long)] [(h0, .inr (12, [.ref w_text, .ref w_memory, .ref w_counts, .ref w_lexer, .ref w_parser, .ref w_checker, .ref w_scope, .ref w_coder, .ref w_machine, .ref w_compiler, .ref w_processor, .ref w_writer, .int 0, .int 0, .int 0, .int (-1), .int (-1), .int 0, .int 0, .int 0])), (o0, .inl (c_out, 1, .inr (.inl f_out)))] sz)) (va_Qi (fun (r : Int32) (u : Unit) => r = 1) (fun (u : Unit) (t : State) => wE (dC, dI) vwCl [(c_out, .long)] [(o0, .inl (c_out, 1, .inr (.inl f_out)))] (va_A [(h0, .inr (12, [.ref w_text, .ref w_memory, .ref w_counts, .ref w_lexer, .ref w_parser, .ref w_checker, .ref w_scope, .ref w_coder, .ref w_machine, .ref w_compiler, .ref w_processor, .ref w_writer, .int 0, .int 0, .int 0, .int (-1), .int (-1), .int 0, .int 0, .int 0])), (o0, .inl (c_out, 1, .inr (.inl f_out)))] sz) t) (va_A [(h0, .inr (12, [.ref w_text, .ref w_memory, .ref w_counts, .ref w_lexer, .ref w_parser, .ref w_checker, .ref w_scope, .ref w_coder, .ref w_machine, .ref w_compiler, .ref w_processor, .ref w_writer, .int 0, .int 0, .int 0, .int (-1), .int (-1), .int 0, .int 0, .int 0])), (o0, .inl (c_out, 1, .inr (.inl f_out)))] sz)) (noX (va_A [(h0, .inr (12, [.ref w_text, .ref w_memory, .ref w_counts, .ref w_lexer, .ref w_parser, .ref w_checker, .ref w_scope, .ref w_coder, .ref w_machine, .ref w_compiler, .ref w_processor, .ref w_writer, .int 0, .int 0, .int 0, .int (-1), .int (-1), .int 0, .int 0, .int 0])), (o0, .inl (c_out, 1, .inr (.inl f_out)))] sz)) 1 6 (va_A [(h0, .inr (12, [.ref w_text, .ref w_memory, .ref w_counts, .ref w_lexer, .ref w_parser, .ref w_checker, .ref w_scope, .ref w_coder, .ref w_machine, .ref w_compiler, .ref w_processor, .ref w_writer, .int 0, .int 0, .int 0, .int (-1), .int (-1), .int 0, .int 0, .int 0])), (o0, .inl (c_out, 1, .inr (.inl f_out)))] sz) := by
  refine vx_ofWH (cc := cL_tell) (maxL := 4) (ret := (some .int)) (by decide) rfl ?_
  intro p e s m args below meth c s₁ B hml hv
  obtain ⟨rfl, ⟨hsz, hP, hK, hD0, hN⟩, hT⟩ := hv
  have hx := B.exec
  have hb := B.bytes
  have hr := B.returns
  have hts := atoms_spec (ws := zsL_tell) B.pre
  have hown : s.vm.findClass RL = some m.cls := findClass_of_methodNamed B.named
  have hlocks := B.notSynchronized
  have htab := vx_table (x := yL_tell) B (hts _ List.mem_cons_self)
  subst hsz
  have hD := hD0.self (sz := s.heap.size)
  generalize hAe : va_A [(h0, .inr (12, [.ref w_text, .ref w_memory, .ref w_counts, .ref w_lexer, .ref w_parser, .ref w_checker, .ref w_scope, .ref w_coder, .ref w_machine, .ref w_compiler, .ref w_processor, .ref w_writer, .int 0, .int 0, .int 0, .int (-1), .int (-1), .int 0, .int 0, .int 0])), (o0, .inl (c_out, 1, .inr (.inl f_out)))] s.heap.size = A at hD hT ⊢
  have hA : ∀ q : Nat, s.heap.size ≤ q → A q := fun q h => by rw [← hAe]; exact Or.inr h
  have hS : va_S A s.heap s.heap [] := va_S.rf
  have hP : va_P (dC, dI) vwCl [(h0, .inr (12, [.ref w_text, .ref w_memory, .ref w_counts, .ref w_lexer, .ref w_parser, .ref w_checker, .ref w_scope, .ref w_coder, .ref w_machine, .ref w_compiler, .ref w_processor, .ref w_writer, .int 0, .int 0, .int 0, .int (-1), .int (-1), .int 0, .int 0, .int 0])), (o0, .inl (c_out, 1, .inr (.inl f_out)))] s.heap := hP
  have hl := lv_entry ([.ref h0, .int v_n, .ref o0]) (n := 4) (Nat.le_of_ble_eq_true rfl)
  rw [lg_entry_eq]
  generalize (lg_sl ([.ref h0, .int v_n, .ref o0]) ++ List.replicate (4 - (lg_sl ([.ref h0, .int v_n, .ref o0])).length) Slot.unset).toArray = ls at hl ⊢
  have hl : lv_has ls 4 [(0, .ref h0), (1, .int v_n), (2, .ref o0)] := hl
  refine lv_aload_n hx hb dL_tell_0 rfl (lv_at hl 2 rfl) ?_
  refine lv_iconst (v := 0) hx hb dL_tell_1 (by decide) ?_
  refine lv_aload_n hx hb dL_tell_2 rfl (lv_at hl 0 rfl) ?_
  refine lv_iload_n hx hb dL_tell_3 rfl (lv_at hl 1 rfl) ?_
  refine aft_x (wr := [(o0, .inl (c_out, 1, .inr (.inl f_out)))]) (vx_runV (As := [.int v_n]) (rest := [.int 0, .ref o0]) ⟨hx, hb, hml, hown, hts⟩ (c_X12_tellA l hst dC dI s.heap.size h0 w_text w_memory w_counts w_lexer w_parser w_checker w_scope w_coder w_machine w_compiler w_processor w_writer v_n q0 q1) (cwV 1 hts gzL_tell_X12_tell_V39 rfl rfl rfl (by decide +kernel) ⟨Nat.le_of_ble_eq_true rfl, Nat.le_of_ble_eq_true rfl⟩) (wBT.preV (hP.sub (ws' := [(h0, .inr (12, [.ref w_text, .ref w_memory, .ref w_counts, .ref w_lexer, .ref w_parser, .ref w_checker, .ref w_scope, .ref w_coder, .ref w_machine, .ref w_compiler, .ref w_processor, .ref w_writer, .int 0, .int 0, .int 0, .int (-1), .int (-1), .int 0, .int 0, .int 0]))]) [0] rfl) (hK.sub (tys' := []) [] rfl) (hD.sub (ws' := [(h0, .inr (12, [.ref w_text, .ref w_memory, .ref w_counts, .ref w_lexer, .ref w_parser, .ref w_checker, .ref w_scope, .ref w_coder, .ref w_machine, .ref w_compiler, .ref w_processor, .ref w_writer, .int 0, .int 0, .int 0, .int (-1), .int (-1), .int 0, .int 0, .int 0]))]) [0] (by decide) rfl) hN hT hS (va_free (wc := [(h0, .inr (12, [.ref w_text, .ref w_memory, .ref w_counts, .ref w_lexer, .ref w_parser, .ref w_checker, .ref w_scope, .ref w_coder, .ref w_machine, .ref w_compiler, .ref w_processor, .ref w_writer, .int 0, .int 0, .int 0, .int (-1), .int (-1), .int 0, .int 0, .int 0]))]) hD hS hA [0] rfl) 12 0 rfl rfl) rfl rfl hl.1 rfl (lv_room (Nat.le_of_ble_eq_true rfl)) dL_tell_4 ⟨Nat.le_of_ble_eq_true rfl, Nat.le_of_ble_eq_true rfl⟩) hP hD hS hA [0] [1] rfl rfl (by decide) (by decide) ?_
  clear hP hD hS
  intro ce q9 H locs hP hD hS hc1 hc2 hc3
  refine vx_catch (own := RL) (name := "java/lang/IndexOutOfBoundsException") hown [] ⟨0, 9, 12, 24⟩ [⟨0, 9, 15, 13⟩] htab (fun z hz => nomatch hz) (by decide) (by decide) (hts _ (List.mem_cons_of_mem _ (List.mem_append_left _ (List.mem_of_getElem? (i := 7) rfl)))) (va_Nw.use rfl (hT.2.2.2.1 _ (by decide))) hc1 hc2 hc3 ?_
  refine lv_astore_n (lv' := [(3, .ref q9), (0, .ref h0), (1, .int v_n), (2, .ref o0)]) hx hb dL_tell_12 rfl hl (by decide) rfl ?_
  clear hl
  intro ls hl
  refine lv_iconst (v := 1) hx hb dL_tell_13 (by decide) ?_
  have hP9 := hP.sub (ws' := [(o0, .inl (c_out, 1, .inr (.inl f_out)))]) [0] rfl
  have hD9 := hD.sub (ws' := [(o0, .inl (c_out, 1, .inr (.inl f_out)))]) [0] (by decide) rfl
  have hK9 := hK.sub (tys' := [(c_out, .long)]) [0] rfl
  refine vx_ret ?_
  exact W.iret (v := 1) hx hb hr (fun t ht hW => ⟨⟨1, (), rfl, rfl, wE.of ht hW hP9 hK9 hD9⟩, hS.F ht⟩) hS.2.2 dL_tell_14

theorem dL_tell_15 : decode cL_tell 15 = .ok (.astore_n 3, 1) := by decide +kernel
theorem dL_tell_16 : decode cL_tell 16 = .ok (.iconst 2, 1) := by decide +kernel
theorem dL_tell_17 : decode cL_tell 17 = .ok (.ireturn, 1) := by decide +kernel
def zlL_tell_v2 : List Cond := [.methodLink RL 39 yX12_tell, .instanceMethod yX12_tell, .selects RX12 yX12_tell yX12_tell, .initialized RX12, .code yX12_tell cX12_tell 2 (some .int), .fieldLink RX12 133 "LeanHouse" "isProgram" "Z", .classLink RX12 113 "java/lang/IllegalStateException", .initialized "java/lang/IllegalStateException", .classLink RL 24 "java/lang/IndexOutOfBoundsException", .classLink RL 13 "java/lang/IllegalStateException"]
def zsL_tell_v2 : List Cond := .codeWith yL_tell cL_tell 4 (some .int) [(0, 9, 12, 24), (0, 9, 15, 13)] :: (zlL_tell_v2 ++ (wsX120 ++ (wtS)))
set_option maxRecDepth 20000 in
theorem gzL_tell_v2_X12_tell_v2_V39 : GoodIn zsL_tell_v2 (wsV RL 39 RX12 yX12_tell zsX12_tell_v2) := (goodIn_app (goodIn_r _ [1, 2, 3, 4] (by decide +kernel) (by decide +kernel)) (goodIn_ca (goodIn_r _ [5, 6, 7, 8] (by decide +kernel) (by decide +kernel)) (goodIn_app (goodIn_sub (fun _ h9 => List.mem_cons_of_mem _ (List.mem_append_right _ (List.mem_append_left _ h9))) gwX12) (goodIn_sub (fun _ h9 => List.mem_cons_of_mem _ (List.mem_append_right _ (List.mem_append_right _ h9))) gwTS))))
set_option maxHeartbeats 8000000 in
set_option maxRecDepth 100000 in
theorem c_L_tellB (l : Launch) (hst : l.stackTraces = false) (dC : Nat → ClassId) (dI : Nat → Nat → Nat) (sz : Nat) (h0 : Nat) (w_text : Nat) (w_memory : Nat) (w_counts : Nat) (w_lexer : Nat) (w_parser : Nat) (w_checker : Nat) (w_scope : Nat) (w_coder : Nat) (w_machine : Nat) (w_compiler : Nat) (w_processor : Nat) (w_writer : Nat) (o0 : Nat) (c_out : ClassId) (f_out : Nat → Int64) (v_n : Int32) (hbad : v_n = 0 ∨ v_n = 1) : vx_Met l yL_tell zsL_tell_v2 ({ frames := 9, cells := 1, slots := 6, locals := 161 } : Room) (va_Pc [.ref h0, .int v_n, .ref o0] (wBT (dC, dI) vwCl nestM strL [(c_out, .long)] [(h0, .inr (12, [.ref w_text, .ref w_memory, .ref w_counts, .ref w_lexer, .ref w_parser, .ref w_checker, .ref w_scope, .ref w_coder, .ref w_machine, .ref w_compiler, .ref w_processor, .ref w_writer, .int 0, .int 0, .int 0, .int (-1), .int (-1), .int 0, .int 0, .int 0])), (o0, .inl (c_out, 1, .inr (.inl f_out)))] sz)) (va_Qi (fun (r : Int32) (u : Unit) => r = 2) (fun (u : Unit) (t : State) => wE (dC, dI) vwCl [(c_out, .long)] [(o0, .inl (c_out, 1, .inr (.inl f_out)))] (va_A [(h0, .inr (12, [.ref w_text, .ref w_memory, .ref w_counts, .ref w_lexer, .ref w_parser, .ref w_checker, .ref w_scope, .ref w_coder, .ref w_machine, .ref w_compiler, .ref w_processor, .ref w_writer, .int 0, .int 0, .int 0, .int (-1), .int (-1), .int 0, .int 0, .int 0])), (o0, .inl (c_out, 1, .inr (.inl f_out)))] sz) t) (va_A [(h0, .inr (12, [.ref w_text, .ref w_memory, .ref w_counts, .ref w_lexer, .ref w_parser, .ref w_checker, .ref w_scope, .ref w_coder, .ref w_machine, .ref w_compiler, .ref w_processor, .ref w_writer, .int 0, .int 0, .int 0, .int (-1), .int (-1), .int 0, .int 0, .int 0])), (o0, .inl (c_out, 1, .inr (.inl f_out)))] sz)) (noX (va_A [(h0, .inr (12, [.ref w_text, .ref w_memory, .ref w_counts, .ref w_lexer, .ref w_parser, .ref w_checker, .ref w_scope, .ref w_coder, .ref w_machine, .ref w_compiler, .ref w_processor, .ref w_writer, .int 0, .int 0, .int 0, .int (-1), .int (-1), .int 0, .int 0, .int 0])), (o0, .inl (c_out, 1, .inr (.inl f_out)))] sz)) 1 6 (va_A [(h0, .inr (12, [.ref w_text, .ref w_memory, .ref w_counts, .ref w_lexer, .ref w_parser, .ref w_checker, .ref w_scope, .ref w_coder, .ref w_machine, .ref w_compiler, .ref w_processor, .ref w_writer, .int 0, .int 0, .int 0, .int (-1), .int (-1), .int 0, .int 0, .int 0])), (o0, .inl (c_out, 1, .inr (.inl f_out)))] sz) := by
  refine vx_ofWH (cc := cL_tell) (maxL := 4) (ret := (some .int)) (by decide) rfl ?_
  intro p e s m args below meth c s₁ B hml hv
  obtain ⟨rfl, ⟨hsz, hP, hK, hD0, hN⟩, hT⟩ := hv
  have hx := B.exec
  have hb := B.bytes
  have hr := B.returns
  have hts := atoms_spec (ws := zsL_tell_v2) B.pre
  have hown : s.vm.findClass RL = some m.cls := findClass_of_methodNamed B.named
  have hlocks := B.notSynchronized
  have htab := vx_table (x := yL_tell) B (hts _ List.mem_cons_self)
  subst hsz
  have hD := hD0.self (sz := s.heap.size)
  generalize hAe : va_A [(h0, .inr (12, [.ref w_text, .ref w_memory, .ref w_counts, .ref w_lexer, .ref w_parser, .ref w_checker, .ref w_scope, .ref w_coder, .ref w_machine, .ref w_compiler, .ref w_processor, .ref w_writer, .int 0, .int 0, .int 0, .int (-1), .int (-1), .int 0, .int 0, .int 0])), (o0, .inl (c_out, 1, .inr (.inl f_out)))] s.heap.size = A at hD hT ⊢
  have hA : ∀ q : Nat, s.heap.size ≤ q → A q := fun q h => by rw [← hAe]; exact Or.inr h
  have hS : va_S A s.heap s.heap [] := va_S.rf
  have hP : va_P (dC, dI) vwCl [(h0, .inr (12, [.ref w_text, .ref w_memory, .ref w_counts, .ref w_lexer, .ref w_parser, .ref w_checker, .ref w_scope, .ref w_coder, .ref w_machine, .ref w_compiler, .ref w_processor, .ref w_writer, .int 0, .int 0, .int 0, .int (-1), .int (-1), .int 0, .int 0, .int 0])), (o0, .inl (c_out, 1, .inr (.inl f_out)))] s.heap := hP
  have hl := lv_entry ([.ref h0, .int v_n, .ref o0]) (n := 4) (Nat.le_of_ble_eq_true rfl)
  rw [lg_entry_eq]
  generalize (lg_sl ([.ref h0, .int v_n, .ref o0]) ++ List.replicate (4 - (lg_sl ([.ref h0, .int v_n, .ref o0])).length) Slot.unset).toArray = ls at hl ⊢
  have hl : lv_has ls 4 [(0, .ref h0), (1, .int v_n), (2, .ref o0)] := hl
  refine lv_aload_n hx hb dL_tell_0 rfl (lv_at hl 2 rfl) ?_
  refine lv_iconst (v := 0) hx hb dL_tell_1 (by decide) ?_
  refine lv_aload_n hx hb dL_tell_2 rfl (lv_at hl 0 rfl) ?_
  refine lv_iload_n hx hb dL_tell_3 rfl (lv_at hl 1 rfl) ?_
  refine aft_x (wr := [(o0, .inl (c_out, 1, .inr (.inl f_out)))]) (vx_runV (As := [.int v_n]) (rest := [.int 0, .ref o0]) ⟨hx, hb, hml, hown, hts⟩ (c_X12_tellB l hst dC dI s.heap.size h0 w_text w_memory w_counts w_lexer w_parser w_checker w_scope w_coder w_machine w_compiler w_processor w_writer v_n hbad) (cwV 1 hts gzL_tell_v2_X12_tell_v2_V39 rfl rfl rfl (by decide +kernel) ⟨Nat.le_of_ble_eq_true rfl, Nat.le_of_ble_eq_true rfl⟩) (wBT.preV (hP.sub (ws' := [(h0, .inr (12, [.ref w_text, .ref w_memory, .ref w_counts, .ref w_lexer, .ref w_parser, .ref w_checker, .ref w_scope, .ref w_coder, .ref w_machine, .ref w_compiler, .ref w_processor, .ref w_writer, .int 0, .int 0, .int 0, .int (-1), .int (-1), .int 0, .int 0, .int 0]))]) [0] rfl) (hK.sub (tys' := []) [] rfl) (hD.sub (ws' := [(h0, .inr (12, [.ref w_text, .ref w_memory, .ref w_counts, .ref w_lexer, .ref w_parser, .ref w_checker, .ref w_scope, .ref w_coder, .ref w_machine, .ref w_compiler, .ref w_processor, .ref w_writer, .int 0, .int 0, .int 0, .int (-1), .int (-1), .int 0, .int 0, .int 0]))]) [0] (by decide) rfl) hN hT hS (va_free (wc := [(h0, .inr (12, [.ref w_text, .ref w_memory, .ref w_counts, .ref w_lexer, .ref w_parser, .ref w_checker, .ref w_scope, .ref w_coder, .ref w_machine, .ref w_compiler, .ref w_processor, .ref w_writer, .int 0, .int 0, .int 0, .int (-1), .int (-1), .int 0, .int 0, .int 0]))]) hD hS hA [0] rfl) 12 0 rfl rfl) rfl rfl hl.1 rfl (lv_room (Nat.le_of_ble_eq_true rfl)) dL_tell_4 ⟨Nat.le_of_ble_eq_true rfl, Nat.le_of_ble_eq_true rfl⟩) hP hD hS hA [0] [1] rfl rfl (by decide) (by decide) ?_
  clear hP hD hS
  intro ce q9 H locs hP hD hS hc1 hc2 hc3
  refine vx_catch (own := RL) (name := "java/lang/IllegalStateException") hown [⟨0, 9, 12, 24⟩] ⟨0, 9, 15, 13⟩ [] htab (fun z hz => by rw [List.mem_singleton.mp hz]; exact Or.inr ⟨by decide, "java/lang/IndexOutOfBoundsException", (hts _ (List.mem_cons_of_mem _ (List.mem_append_left _ (List.mem_of_getElem? (i := 8) rfl)))), hT.2.2.2.2.1.2⟩) (by decide) (by decide) (hts _ (List.mem_cons_of_mem _ (List.mem_append_left _ (List.mem_of_getElem? (i := 9) rfl)))) (va_Nw.use rfl (hT.2.2.2.1 _ (by decide))) hc1 hc2 hc3 ?_
  refine lv_astore_n (lv' := [(3, .ref q9), (0, .ref h0), (1, .int v_n), (2, .ref o0)]) hx hb dL_tell_15 rfl hl (by decide) rfl ?_
  clear hl
  intro ls hl
  refine lv_iconst (v := 2) hx hb dL_tell_16 (by decide) ?_
  have hP9 := hP.sub (ws' := [(o0, .inl (c_out, 1, .inr (.inl f_out)))]) [0] rfl
  have hD9 := hD.sub (ws' := [(o0, .inl (c_out, 1, .inr (.inl f_out)))]) [0] (by decide) rfl
  have hK9 := hK.sub (tys' := [(c_out, .long)]) [0] rfl
  refine vx_ret ?_
  exact W.iret (v := 2) hx hb hr (fun t ht hW => ⟨⟨2, (), rfl, rfl, wE.of ht hW hP9 hK9 hD9⟩, hS.F ht⟩) hS.2.2 dL_tell_17

theorem dL_resultAt_0 : decode cL_resultAt 0 = .ok (.aload_n 2, 1) := by decide +kernel
theorem dL_resultAt_1 : decode cL_resultAt 1 = .ok (.iconst 0, 1) := by decide +kernel
theorem dL_resultAt_2 : decode cL_resultAt 2 = .ok (.aload_n 0, 1) := by decide +kernel
theorem dL_resultAt_3 : decode cL_resultAt 3 = .ok (.iload_n 1, 1) := by decide +kernel
theorem dL_resultAt_4 : decode cL_resultAt 4 = .ok (.invokevirtual 42, 3) := by decide +kernel
theorem dL_resultAt_12 : decode cL_resultAt 12 = .ok (.astore_n 3, 1) := by decide +kernel
theorem dL_resultAt_13 : decode cL_resultAt 13 = .ok (.iconst 1, 1) := by decide +kernel
theorem dL_resultAt_14 : decode cL_resultAt 14 = .ok (.ireturn, 1) := by decide +kernel
def zlL_resultAt : List Cond := [.methodLink RL 42 yX12_resultAt, .instanceMethod yX12_resultAt, .selects RX12 yX12_resultAt yX12_resultAt, .initialized RX12, .code yX12_resultAt cX12_resultAt 2 (some .int), .classLink RX12 166 "java/lang/IndexOutOfBoundsException", .initialized "java/lang/IndexOutOfBoundsException", .fieldLink RX12 99 "LeanHouse" "writer" "LLeanHouse$Writer;", .fieldLink RX12 229 "LeanHouse$Writer" "size" "I", .classLink RL 24 "java/lang/IndexOutOfBoundsException"]
def zsL_resultAt : List Cond := .codeWith yL_resultAt cL_resultAt 4 (some .int) [(0, 9, 12, 24)] :: (zlL_resultAt ++ (wtO ++ (wsX120 ++ (wsX110))))
set_option maxRecDepth 20000 in
theorem gzL_resultAt_X12_resultAt_V42 : GoodIn zsL_resultAt (wsV RL 42 RX12 yX12_resultAt zsX12_resultAt) := (goodIn_app (goodIn_r _ [1, 2, 3, 4] (by decide +kernel) (by decide +kernel)) (goodIn_ca (goodIn_r _ [5, 6, 7, 8, 9] (by decide +kernel) (by decide +kernel)) (goodIn_app (goodIn_sub (fun _ h9 => List.mem_cons_of_mem _ (List.mem_append_right _ (List.mem_append_left _ h9))) gwTO) (goodIn_app (goodIn_sub (fun _ h9 => List.mem_cons_of_mem _ (List.mem_append_right _ (List.mem_append_right _ (List.mem_append_left _ h9)))) gwX12) (goodIn_sub (fun _ h9 => List.mem_cons_of_mem _ (List.mem_append_right _ (List.mem_append_right _ (List.mem_append_right _ h9)))) gwX11)))))
set_option maxHeartbeats 8000000 in
set_option maxRecDepth 100000 in
theorem c_L_resultAt (l : Launch) (hst : l.stackTraces = false) (dC : Nat → ClassId) (dI : Nat → Nat → Nat) (sz : Nat) (h0 : Nat) (w_text : Nat) (w_memory : Nat) (w_counts : Nat) (w_lexer : Nat) (w_parser : Nat) (w_checker : Nat) (w_scope : Nat) (w_coder : Nat) (w_machine : Nat) (w_compiler : Nat) (w_processor : Nat) (w_writer : Nat) (y_types : Nat) (y_scope : Nat) (y_lexer : Nat) (y_memory : Nat) (y_bytes : Nat) (y_variables : Nat) (o0 : Nat) (c_out : ClassId) (f_out : Nat → Int64) (v_n : Int32) : vx_Met l yL_resultAt zsL_resultAt ({ frames := 9, cells := 1, slots := 6, locals := 161 } : Room) (va_Pc [.ref h0, .int v_n, .ref o0] (wBT (dC, dI) vwCl nestM strL [(c_out, .long)] [(h0, .inr (12, [.ref w_text, .ref w_memory, .ref w_counts, .ref w_lexer, .ref w_parser, .ref w_checker, .ref w_scope, .ref w_coder, .ref w_machine, .ref w_compiler, .ref w_processor, .ref w_writer, .int 0, .int 0, .int 0, .int (-1), .int (-1), .int 0, .int 0, .int 0])), (w_writer, .inr (11, [.ref y_types, .ref y_scope, .ref y_lexer, .ref y_memory, .ref y_bytes, .ref y_variables, .int 0, .int 0, .int 0, .int 0, .int 0])), (o0, .inl (c_out, 1, .inr (.inl f_out)))] sz)) (va_Qi (fun (r : Int32) (u : Unit) => r = 1) (fun (u : Unit) (t : State) => wE (dC, dI) vwCl [(c_out, .long)] [(o0, .inl (c_out, 1, .inr (.inl f_out)))] (va_A [(h0, .inr (12, [.ref w_text, .ref w_memory, .ref w_counts, .ref w_lexer, .ref w_parser, .ref w_checker, .ref w_scope, .ref w_coder, .ref w_machine, .ref w_compiler, .ref w_processor, .ref w_writer, .int 0, .int 0, .int 0, .int (-1), .int (-1), .int 0, .int 0, .int 0])), (w_writer, .inr (11, [.ref y_types, .ref y_scope, .ref y_lexer, .ref y_memory, .ref y_bytes, .ref y_variables, .int 0, .int 0, .int 0, .int 0, .int 0])), (o0, .inl (c_out, 1, .inr (.inl f_out)))] sz) t) (va_A [(h0, .inr (12, [.ref w_text, .ref w_memory, .ref w_counts, .ref w_lexer, .ref w_parser, .ref w_checker, .ref w_scope, .ref w_coder, .ref w_machine, .ref w_compiler, .ref w_processor, .ref w_writer, .int 0, .int 0, .int 0, .int (-1), .int (-1), .int 0, .int 0, .int 0])), (w_writer, .inr (11, [.ref y_types, .ref y_scope, .ref y_lexer, .ref y_memory, .ref y_bytes, .ref y_variables, .int 0, .int 0, .int 0, .int 0, .int 0])), (o0, .inl (c_out, 1, .inr (.inl f_out)))] sz)) (noX (va_A [(h0, .inr (12, [.ref w_text, .ref w_memory, .ref w_counts, .ref w_lexer, .ref w_parser, .ref w_checker, .ref w_scope, .ref w_coder, .ref w_machine, .ref w_compiler, .ref w_processor, .ref w_writer, .int 0, .int 0, .int 0, .int (-1), .int (-1), .int 0, .int 0, .int 0])), (w_writer, .inr (11, [.ref y_types, .ref y_scope, .ref y_lexer, .ref y_memory, .ref y_bytes, .ref y_variables, .int 0, .int 0, .int 0, .int 0, .int 0])), (o0, .inl (c_out, 1, .inr (.inl f_out)))] sz)) 1 6 (va_A [(h0, .inr (12, [.ref w_text, .ref w_memory, .ref w_counts, .ref w_lexer, .ref w_parser, .ref w_checker, .ref w_scope, .ref w_coder, .ref w_machine, .ref w_compiler, .ref w_processor, .ref w_writer, .int 0, .int 0, .int 0, .int (-1), .int (-1), .int 0, .int 0, .int 0])), (w_writer, .inr (11, [.ref y_types, .ref y_scope, .ref y_lexer, .ref y_memory, .ref y_bytes, .ref y_variables, .int 0, .int 0, .int 0, .int 0, .int 0])), (o0, .inl (c_out, 1, .inr (.inl f_out)))] sz) := by
  refine vx_ofWH (cc := cL_resultAt) (maxL := 4) (ret := (some .int)) (by decide) rfl ?_
  intro p e s m args below meth c s₁ B hml hv
  obtain ⟨rfl, ⟨hsz, hP, hK, hD0, hN⟩, hT⟩ := hv
  have hx := B.exec
  have hb := B.bytes
  have hr := B.returns
  have hts := atoms_spec (ws := zsL_resultAt) B.pre
  have hown : s.vm.findClass RL = some m.cls := findClass_of_methodNamed B.named
  have hlocks := B.notSynchronized
  have htab := vx_table (x := yL_resultAt) B (hts _ List.mem_cons_self)
  subst hsz
  have hD := hD0.self (sz := s.heap.size)
  generalize hAe : va_A [(h0, .inr (12, [.ref w_text, .ref w_memory, .ref w_counts, .ref w_lexer, .ref w_parser, .ref w_checker, .ref w_scope, .ref w_coder, .ref w_machine, .ref w_compiler, .ref w_processor, .ref w_writer, .int 0, .int 0, .int 0, .int (-1), .int (-1), .int 0, .int 0, .int 0])), (w_writer, .inr (11, [.ref y_types, .ref y_scope, .ref y_lexer, .ref y_memory, .ref y_bytes, .ref y_variables, .int 0, .int 0, .int 0, .int 0, .int 0])), (o0, .inl (c_out, 1, .inr (.inl f_out)))] s.heap.size = A at hD hT ⊢
  have hA : ∀ q : Nat, s.heap.size ≤ q → A q := fun q h => by rw [← hAe]; exact Or.inr h
  have hS : va_S A s.heap s.heap [] := va_S.rf
  have hP : va_P (dC, dI) vwCl [(h0, .inr (12, [.ref w_text, .ref w_memory, .ref w_counts, .ref w_lexer, .ref w_parser, .ref w_checker, .ref w_scope, .ref w_coder, .ref w_machine, .ref w_compiler, .ref w_processor, .ref w_writer, .int 0, .int 0, .int 0, .int (-1), .int (-1), .int 0, .int 0, .int 0])), (w_writer, .inr (11, [.ref y_types, .ref y_scope, .ref y_lexer, .ref y_memory, .ref y_bytes, .ref y_variables, .int 0, .int 0, .int 0, .int 0, .int 0])), (o0, .inl (c_out, 1, .inr (.inl f_out)))] s.heap := hP
  have hl := lv_entry ([.ref h0, .int v_n, .ref o0]) (n := 4) (Nat.le_of_ble_eq_true rfl)
  rw [lg_entry_eq]
  generalize (lg_sl ([.ref h0, .int v_n, .ref o0]) ++ List.replicate (4 - (lg_sl ([.ref h0, .int v_n, .ref o0])).length) Slot.unset).toArray = ls at hl ⊢
  have hl : lv_has ls 4 [(0, .ref h0), (1, .int v_n), (2, .ref o0)] := hl
  refine lv_aload_n hx hb dL_resultAt_0 rfl (lv_at hl 2 rfl) ?_
  refine lv_iconst (v := 0) hx hb dL_resultAt_1 (by decide) ?_
  refine lv_aload_n hx hb dL_resultAt_2 rfl (lv_at hl 0 rfl) ?_
  refine lv_iload_n hx hb dL_resultAt_3 rfl (lv_at hl 1 rfl) ?_
  refine aft_x (wr := [(o0, .inl (c_out, 1, .inr (.inl f_out)))]) (vx_runV (As := [.int v_n]) (rest := [.int 0, .ref o0]) ⟨hx, hb, hml, hown, hts⟩ (c_X12_resultAt l hst dC dI s.heap.size h0 w_text w_memory w_counts w_lexer w_parser w_checker w_scope w_coder w_machine w_compiler w_processor w_writer y_types y_scope y_lexer y_memory y_bytes y_variables v_n) (cwV 1 hts gzL_resultAt_X12_resultAt_V42 rfl rfl rfl (by decide +kernel) ⟨Nat.le_of_ble_eq_true rfl, Nat.le_of_ble_eq_true rfl⟩) (wBT.preV (hP.sub (ws' := [(h0, .inr (12, [.ref w_text, .ref w_memory, .ref w_counts, .ref w_lexer, .ref w_parser, .ref w_checker, .ref w_scope, .ref w_coder, .ref w_machine, .ref w_compiler, .ref w_processor, .ref w_writer, .int 0, .int 0, .int 0, .int (-1), .int (-1), .int 0, .int 0, .int 0])), (w_writer, .inr (11, [.ref y_types, .ref y_scope, .ref y_lexer, .ref y_memory, .ref y_bytes, .ref y_variables, .int 0, .int 0, .int 0, .int 0, .int 0]))]) [0, 1] rfl) (hK.sub (tys' := []) [] rfl) (hD.sub (ws' := [(h0, .inr (12, [.ref w_text, .ref w_memory, .ref w_counts, .ref w_lexer, .ref w_parser, .ref w_checker, .ref w_scope, .ref w_coder, .ref w_machine, .ref w_compiler, .ref w_processor, .ref w_writer, .int 0, .int 0, .int 0, .int (-1), .int (-1), .int 0, .int 0, .int 0])), (w_writer, .inr (11, [.ref y_types, .ref y_scope, .ref y_lexer, .ref y_memory, .ref y_bytes, .ref y_variables, .int 0, .int 0, .int 0, .int 0, .int 0]))]) [0, 1] (by decide) rfl) hN hT hS (va_free (wc := [(h0, .inr (12, [.ref w_text, .ref w_memory, .ref w_counts, .ref w_lexer, .ref w_parser, .ref w_checker, .ref w_scope, .ref w_coder, .ref w_machine, .ref w_compiler, .ref w_processor, .ref w_writer, .int 0, .int 0, .int 0, .int (-1), .int (-1), .int 0, .int 0, .int 0])), (w_writer, .inr (11, [.ref y_types, .ref y_scope, .ref y_lexer, .ref y_memory, .ref y_bytes, .ref y_variables, .int 0, .int 0, .int 0, .int 0, .int 0]))]) hD hS hA [0, 1] rfl) 12 0 rfl rfl) rfl rfl hl.1 rfl (lv_room (Nat.le_of_ble_eq_true rfl)) dL_resultAt_4 ⟨Nat.le_of_ble_eq_true rfl, Nat.le_of_ble_eq_true rfl⟩) hP hD hS hA [0, 1] [2] rfl rfl (by decide) (by decide) ?_
  clear hP hD hS
  intro ce q9 H locs hP hD hS hc1 hc2 hc3
  refine vx_catch (own := RL) (name := "java/lang/IndexOutOfBoundsException") hown [] ⟨0, 9, 12, 24⟩ [] htab (fun z hz => nomatch hz) (by decide) (by decide) (hts _ (List.mem_cons_of_mem _ (List.mem_append_left _ (List.mem_of_getElem? (i := 9) rfl)))) (va_Nw.use rfl (hT.2.2.2.1 _ (by decide))) hc1 hc2 hc3 ?_
  refine lv_astore_n (lv' := [(3, .ref q9), (0, .ref h0), (1, .int v_n), (2, .ref o0)]) hx hb dL_resultAt_12 rfl hl (by decide) rfl ?_
  clear hl
  intro ls hl
  refine lv_iconst (v := 1) hx hb dL_resultAt_13 (by decide) ?_
  have hP9 := hP.sub (ws' := [(o0, .inl (c_out, 1, .inr (.inl f_out)))]) [0] rfl
  have hD9 := hD.sub (ws' := [(o0, .inl (c_out, 1, .inr (.inl f_out)))]) [0] (by decide) rfl
  have hK9 := hK.sub (tys' := [(c_out, .long)]) [0] rfl
  refine vx_ret ?_
  exact W.iret (v := 1) hx hb hr (fun t ht hW => ⟨⟨1, (), rfl, rfl, wE.of ht hW hP9 hK9 hD9⟩, hS.F ht⟩) hS.2.2 dL_resultAt_14

theorem dL_count_0 : decode cL_count 0 = .ok (.aload_n 2, 1) := by decide +kernel
theorem dL_count_1 : decode cL_count 1 = .ok (.iconst 0, 1) := by decide +kernel
theorem dL_count_2 : decode cL_count 2 = .ok (.aload_n 0, 1) := by decide +kernel
theorem dL_count_3 : decode cL_count 3 = .ok (.iload_n 1, 1) := by decide +kernel
theorem dL_count_4 : decode cL_count 4 = .ok (.invokevirtual 45, 3) := by decide +kernel
theorem dL_count_12 : decode cL_count 12 = .ok (.astore_n 3, 1) := by decide +kernel
theorem dL_count_13 : decode cL_count 13 = .ok (.iconst 1, 1) := by decide +kernel
theorem dL_count_14 : decode cL_count 14 = .ok (.ireturn, 1) := by decide +kernel
def zlL_count : List Cond := [.methodLink RL 45 yX12_count, .instanceMethod yX12_count, .selects RX12 yX12_count yX12_count, .initialized RX12, .code yX12_count cX12_count 2 (some .int), .classLink RX12 166 "java/lang/IndexOutOfBoundsException", .initialized "java/lang/IndexOutOfBoundsException", .classLink RL 24 "java/lang/IndexOutOfBoundsException"]
def zsL_count : List Cond := .codeWith yL_count cL_count 4 (some .int) [(0, 9, 12, 24)] :: (zlL_count ++ (wtO))
set_option maxRecDepth 20000 in
theorem gzL_count_X12_count_V45 : GoodIn zsL_count (wsV RL 45 RX12 yX12_count zsX12_count) := (goodIn_app (goodIn_r _ [1, 2, 3, 4] (by decide +kernel) (by decide +kernel)) (goodIn_ca (goodIn_r _ [5, 6, 7] (by decide +kernel) (by decide +kernel)) (goodIn_sub (fun _ h9 => List.mem_cons_of_mem _ (List.mem_append_right _ h9)) gwTO)))
set_option maxHeartbeats 8000000 in
set_option maxRecDepth 100000 in
theorem c_L_countA (l : Launch) (hst : l.stackTraces = false) (dC : Nat → ClassId) (dI : Nat → Nat → Nat) (sz : Nat) (h0 : Nat) (w_text : Nat) (w_memory : Nat) (w_counts : Nat) (w_lexer : Nat) (w_parser : Nat) (w_checker : Nat) (w_scope : Nat) (w_coder : Nat) (w_machine : Nat) (w_compiler : Nat) (w_processor : Nat) (w_writer : Nat) (o0 : Nat) (c_out : ClassId) (f_out : Nat → Int64) (v_n : Int32) (hbad : v_n < 0 ∨ ¬ v_n ≤ 2) : vx_Met l yL_count zsL_count ({ frames := 9, cells := 1, slots := 6, locals := 161 } : Room) (va_Pc [.ref h0, .int v_n, .ref o0] (wBT (dC, dI) vwCl nestM strL [(c_out, .long)] [(h0, .inr (12, [.ref w_text, .ref w_memory, .ref w_counts, .ref w_lexer, .ref w_parser, .ref w_checker, .ref w_scope, .ref w_coder, .ref w_machine, .ref w_compiler, .ref w_processor, .ref w_writer, .int 0, .int 0, .int 0, .int (-1), .int (-1), .int 0, .int 0, .int 0])), (o0, .inl (c_out, 1, .inr (.inl f_out)))] sz)) (va_Qi (fun (r : Int32) (u : Unit) => r = 1) (fun (u : Unit) (t : State) => wE (dC, dI) vwCl [(c_out, .long)] [(o0, .inl (c_out, 1, .inr (.inl f_out)))] (va_A [(h0, .inr (12, [.ref w_text, .ref w_memory, .ref w_counts, .ref w_lexer, .ref w_parser, .ref w_checker, .ref w_scope, .ref w_coder, .ref w_machine, .ref w_compiler, .ref w_processor, .ref w_writer, .int 0, .int 0, .int 0, .int (-1), .int (-1), .int 0, .int 0, .int 0])), (o0, .inl (c_out, 1, .inr (.inl f_out)))] sz) t) (va_A [(h0, .inr (12, [.ref w_text, .ref w_memory, .ref w_counts, .ref w_lexer, .ref w_parser, .ref w_checker, .ref w_scope, .ref w_coder, .ref w_machine, .ref w_compiler, .ref w_processor, .ref w_writer, .int 0, .int 0, .int 0, .int (-1), .int (-1), .int 0, .int 0, .int 0])), (o0, .inl (c_out, 1, .inr (.inl f_out)))] sz)) (noX (va_A [(h0, .inr (12, [.ref w_text, .ref w_memory, .ref w_counts, .ref w_lexer, .ref w_parser, .ref w_checker, .ref w_scope, .ref w_coder, .ref w_machine, .ref w_compiler, .ref w_processor, .ref w_writer, .int 0, .int 0, .int 0, .int (-1), .int (-1), .int 0, .int 0, .int 0])), (o0, .inl (c_out, 1, .inr (.inl f_out)))] sz)) 1 6 (va_A [(h0, .inr (12, [.ref w_text, .ref w_memory, .ref w_counts, .ref w_lexer, .ref w_parser, .ref w_checker, .ref w_scope, .ref w_coder, .ref w_machine, .ref w_compiler, .ref w_processor, .ref w_writer, .int 0, .int 0, .int 0, .int (-1), .int (-1), .int 0, .int 0, .int 0])), (o0, .inl (c_out, 1, .inr (.inl f_out)))] sz) := by
  refine vx_ofWH (cc := cL_count) (maxL := 4) (ret := (some .int)) (by decide) rfl ?_
  intro p e s m args below meth c s₁ B hml hv
  obtain ⟨rfl, ⟨hsz, hP, hK, hD0, hN⟩, hT⟩ := hv
  have hx := B.exec
  have hb := B.bytes
  have hr := B.returns
  have hts := atoms_spec (ws := zsL_count) B.pre
  have hown : s.vm.findClass RL = some m.cls := findClass_of_methodNamed B.named
  have hlocks := B.notSynchronized
  have htab := vx_table (x := yL_count) B (hts _ List.mem_cons_self)
  subst hsz
  have hD := hD0.self (sz := s.heap.size)
  generalize hAe : va_A [(h0, .inr (12, [.ref w_text, .ref w_memory, .ref w_counts, .ref w_lexer, .ref w_parser, .ref w_checker, .ref w_scope, .ref w_coder, .ref w_machine, .ref w_compiler, .ref w_processor, .ref w_writer, .int 0, .int 0, .int 0, .int (-1), .int (-1), .int 0, .int 0, .int 0])), (o0, .inl (c_out, 1, .inr (.inl f_out)))] s.heap.size = A at hD hT ⊢
  have hA : ∀ q : Nat, s.heap.size ≤ q → A q := fun q h => by rw [← hAe]; exact Or.inr h
  have hS : va_S A s.heap s.heap [] := va_S.rf
  have hP : va_P (dC, dI) vwCl [(h0, .inr (12, [.ref w_text, .ref w_memory, .ref w_counts, .ref w_lexer, .ref w_parser, .ref w_checker, .ref w_scope, .ref w_coder, .ref w_machine, .ref w_compiler, .ref w_processor, .ref w_writer, .int 0, .int 0, .int 0, .int (-1), .int (-1), .int 0, .int 0, .int 0])), (o0, .inl (c_out, 1, .inr (.inl f_out)))] s.heap := hP
  have hl := lv_entry ([.ref h0, .int v_n, .ref o0]) (n := 4) (Nat.le_of_ble_eq_true rfl)
  rw [lg_entry_eq]
  generalize (lg_sl ([.ref h0, .int v_n, .ref o0]) ++ List.replicate (4 - (lg_sl ([.ref h0, .int v_n, .ref o0])).length) Slot.unset).toArray = ls at hl ⊢
  have hl : lv_has ls 4 [(0, .ref h0), (1, .int v_n), (2, .ref o0)] := hl
  refine lv_aload_n hx hb dL_count_0 rfl (lv_at hl 2 rfl) ?_
  refine lv_iconst (v := 0) hx hb dL_count_1 (by decide) ?_
  refine lv_aload_n hx hb dL_count_2 rfl (lv_at hl 0 rfl) ?_
  refine lv_iload_n hx hb dL_count_3 rfl (lv_at hl 1 rfl) ?_
  refine aft_x (wr := [(o0, .inl (c_out, 1, .inr (.inl f_out)))]) (vx_runV (As := [.int v_n]) (rest := [.int 0, .ref o0]) ⟨hx, hb, hml, hown, hts⟩ (c_X12_countA l hst dC dI s.heap.size h0 w_text w_memory w_counts w_lexer w_parser w_checker w_scope w_coder w_machine w_compiler w_processor w_writer v_n hbad) (cwV 1 hts gzL_count_X12_count_V45 rfl rfl rfl (by decide +kernel) ⟨Nat.le_of_ble_eq_true rfl, Nat.le_of_ble_eq_true rfl⟩) (wBT.preV (hP.sub (ws' := [(h0, .inr (12, [.ref w_text, .ref w_memory, .ref w_counts, .ref w_lexer, .ref w_parser, .ref w_checker, .ref w_scope, .ref w_coder, .ref w_machine, .ref w_compiler, .ref w_processor, .ref w_writer, .int 0, .int 0, .int 0, .int (-1), .int (-1), .int 0, .int 0, .int 0]))]) [0] rfl) (hK.sub (tys' := []) [] rfl) (hD.sub (ws' := [(h0, .inr (12, [.ref w_text, .ref w_memory, .ref w_counts, .ref w_lexer, .ref w_parser, .ref w_checker, .ref w_scope, .ref w_coder, .ref w_machine, .ref w_compiler, .ref w_processor, .ref w_writer, .int 0, .int 0, .int 0, .int (-1), .int (-1), .int 0, .int 0, .int 0]))]) [0] (by decide) rfl) hN hT hS (va_free (wc := [(h0, .inr (12, [.ref w_text, .ref w_memory, .ref w_counts, .ref w_lexer, .ref w_parser, .ref w_checker, .ref w_scope, .ref w_coder, .ref w_machine, .ref w_compiler, .ref w_processor, .ref w_writer, .int 0, .int 0, .int 0, .int (-1), .int (-1), .int 0, .int 0, .int 0]))]) hD hS hA [0] rfl) 12 0 rfl rfl) rfl rfl hl.1 rfl (lv_room (Nat.le_of_ble_eq_true rfl)) dL_count_4 ⟨Nat.le_of_ble_eq_true rfl, Nat.le_of_ble_eq_true rfl⟩) hP hD hS hA [0] [1] rfl rfl (by decide) (by decide) ?_
  clear hP hD hS
  intro ce q9 H locs hP hD hS hc1 hc2 hc3
  refine vx_catch (own := RL) (name := "java/lang/IndexOutOfBoundsException") hown [] ⟨0, 9, 12, 24⟩ [] htab (fun z hz => nomatch hz) (by decide) (by decide) (hts _ (List.mem_cons_of_mem _ (List.mem_append_left _ (List.mem_of_getElem? (i := 7) rfl)))) (va_Nw.use rfl (hT.2.2.2.1 _ (by decide))) hc1 hc2 hc3 ?_
  refine lv_astore_n (lv' := [(3, .ref q9), (0, .ref h0), (1, .int v_n), (2, .ref o0)]) hx hb dL_count_12 rfl hl (by decide) rfl ?_
  clear hl
  intro ls hl
  refine lv_iconst (v := 1) hx hb dL_count_13 (by decide) ?_
  have hP9 := hP.sub (ws' := [(o0, .inl (c_out, 1, .inr (.inl f_out)))]) [0] rfl
  have hD9 := hD.sub (ws' := [(o0, .inl (c_out, 1, .inr (.inl f_out)))]) [0] (by decide) rfl
  have hK9 := hK.sub (tys' := [(c_out, .long)]) [0] rfl
  refine vx_ret ?_
  exact W.iret (v := 1) hx hb hr (fun t ht hW => ⟨⟨1, (), rfl, rfl, wE.of ht hW hP9 hK9 hD9⟩, hS.F ht⟩) hS.2.2 dL_count_14

theorem dL_count_7 : decode cL_count 7 = .ok (.i2l, 1) := by decide +kernel
theorem dL_count_8 : decode cL_count 8 = .ok (.lastore, 1) := by decide +kernel
theorem dL_count_9 : decode cL_count 9 = .ok (.goto 6, 3) := by decide +kernel
theorem dL_count_15 : decode cL_count 15 = .ok (.iconst 0, 1) := by decide +kernel
theorem dL_count_16 : decode cL_count 16 = .ok (.ireturn, 1) := by decide +kernel
def zlL_count_v2 : List Cond := [.methodLink RL 45 yX12_count, .instanceMethod yX12_count, .selects RX12 yX12_count yX12_count, .initialized RX12, .code yX12_count cX12_count 2 (some .int), .fieldLink RX12 133 "LeanHouse" "isProgram" "Z", .fieldLink RX12 171 "LeanHouse" "inputSize" "I", .fieldLink RX12 110 "LeanHouse" "textSize" "I"]
def zsL_count_v2 : List Cond := .codeWith yL_count cL_count 4 (some .int) [(0, 9, 12, 24)] :: (zlL_count_v2 ++ (wsX120))
set_option maxRecDepth 20000 in
theorem gzL_count_v2_X12_count_v2_V45 : GoodIn zsL_count_v2 (wsV RL 45 RX12 yX12_count zsX12_count_v2) := (goodIn_app (goodIn_r _ [1, 2, 3, 4] (by decide +kernel) (by decide +kernel)) (goodIn_ca (goodIn_r _ [5, 6, 7, 8] (by decide +kernel) (by decide +kernel)) (goodIn_sub (fun _ h9 => List.mem_cons_of_mem _ (List.mem_append_right _ h9)) gwX12)))
set_option maxHeartbeats 8000000 in
set_option maxRecDepth 100000 in
theorem c_L_countB (l : Launch) (hst : l.stackTraces = false) (dC : Nat → ClassId) (dI : Nat → Nat → Nat) (sz : Nat) (h0 : Nat) (w_text : Nat) (w_memory : Nat) (w_counts : Nat) (w_lexer : Nat) (w_parser : Nat) (w_checker : Nat) (w_scope : Nat) (w_coder : Nat) (w_machine : Nat) (w_compiler : Nat) (w_processor : Nat) (w_writer : Nat) (o0 : Nat) (c_out : ClassId) (f_out : Nat → Int64) (v_n : Int32) (b1 : ¬ v_n < 0) (b2 : v_n ≤ 2) : vx_Met l yL_count zsL_count_v2 ({ frames := 2, cells := 0, slots := 0, locals := 33 } : Room) (va_Pc [.ref h0, .int v_n, .ref o0] (wBT (dC, dI) vwCl nestM strL [(c_out, .long)] [(h0, .inr (12, [.ref w_text, .ref w_memory, .ref w_counts, .ref w_lexer, .ref w_parser, .ref w_checker, .ref w_scope, .ref w_coder, .ref w_machine, .ref w_compiler, .ref w_processor, .ref w_writer, .int 0, .int 0, .int 0, .int (-1), .int (-1), .int 0, .int 0, .int 0])), (o0, .inl (c_out, 1, .inr (.inl f_out)))] sz)) (va_Qi (fun (r : Int32) (u : (Nat → Int64)) => r = 0 ∧ u 0 = 0) (fun (u : (Nat → Int64)) (t : State) => wE (dC, dI) vwCl [(c_out, .long)] [(o0, .inl (c_out, 1, .inr (.inl u)))] (va_A [(h0, .inr (12, [.ref w_text, .ref w_memory, .ref w_counts, .ref w_lexer, .ref w_parser, .ref w_checker, .ref w_scope, .ref w_coder, .ref w_machine, .ref w_compiler, .ref w_processor, .ref w_writer, .int 0, .int 0, .int 0, .int (-1), .int (-1), .int 0, .int 0, .int 0])), (o0, .inl (c_out, 1, .inr (.inl f_out)))] sz) t) (va_A [(h0, .inr (12, [.ref w_text, .ref w_memory, .ref w_counts, .ref w_lexer, .ref w_parser, .ref w_checker, .ref w_scope, .ref w_coder, .ref w_machine, .ref w_compiler, .ref w_processor, .ref w_writer, .int 0, .int 0, .int 0, .int (-1), .int (-1), .int 0, .int 0, .int 0])), (o0, .inl (c_out, 1, .inr (.inl f_out)))] sz)) (noX (va_A [(h0, .inr (12, [.ref w_text, .ref w_memory, .ref w_counts, .ref w_lexer, .ref w_parser, .ref w_checker, .ref w_scope, .ref w_coder, .ref w_machine, .ref w_compiler, .ref w_processor, .ref w_writer, .int 0, .int 0, .int 0, .int (-1), .int (-1), .int 0, .int 0, .int 0])), (o0, .inl (c_out, 1, .inr (.inl f_out)))] sz)) 0 0 (va_A [(h0, .inr (12, [.ref w_text, .ref w_memory, .ref w_counts, .ref w_lexer, .ref w_parser, .ref w_checker, .ref w_scope, .ref w_coder, .ref w_machine, .ref w_compiler, .ref w_processor, .ref w_writer, .int 0, .int 0, .int 0, .int (-1), .int (-1), .int 0, .int 0, .int 0])), (o0, .inl (c_out, 1, .inr (.inl f_out)))] sz) := by
  refine vx_ofWH (cc := cL_count) (maxL := 4) (ret := (some .int)) (by decide) rfl ?_
  intro p e s m args below meth c s₁ B hml hv
  obtain ⟨rfl, ⟨hsz, hP, hK, hD0, hN⟩, hT⟩ := hv
  have hx := B.exec
  have hb := B.bytes
  have hr := B.returns
  have hts := atoms_spec (ws := zsL_count_v2) B.pre
  have hown : s.vm.findClass RL = some m.cls := findClass_of_methodNamed B.named
  have hlocks := B.notSynchronized
  have htab := vx_table (x := yL_count) B (hts _ List.mem_cons_self)
  subst hsz
  have hD := hD0.self (sz := s.heap.size)
  generalize hAe : va_A [(h0, .inr (12, [.ref w_text, .ref w_memory, .ref w_counts, .ref w_lexer, .ref w_parser, .ref w_checker, .ref w_scope, .ref w_coder, .ref w_machine, .ref w_compiler, .ref w_processor, .ref w_writer, .int 0, .int 0, .int 0, .int (-1), .int (-1), .int 0, .int 0, .int 0])), (o0, .inl (c_out, 1, .inr (.inl f_out)))] s.heap.size = A at hD hT ⊢
  have hA : ∀ q : Nat, s.heap.size ≤ q → A q := fun q h => by rw [← hAe]; exact Or.inr h
  have hS : va_S A s.heap s.heap [] := va_S.rf
  have hP : va_P (dC, dI) vwCl [(h0, .inr (12, [.ref w_text, .ref w_memory, .ref w_counts, .ref w_lexer, .ref w_parser, .ref w_checker, .ref w_scope, .ref w_coder, .ref w_machine, .ref w_compiler, .ref w_processor, .ref w_writer, .int 0, .int 0, .int 0, .int (-1), .int (-1), .int 0, .int 0, .int 0])), (o0, .inl (c_out, 1, .inr (.inl f_out)))] s.heap := hP
  have hl := lv_entry ([.ref h0, .int v_n, .ref o0]) (n := 4) (Nat.le_of_ble_eq_true rfl)
  rw [lg_entry_eq]
  generalize (lg_sl ([.ref h0, .int v_n, .ref o0]) ++ List.replicate (4 - (lg_sl ([.ref h0, .int v_n, .ref o0])).length) Slot.unset).toArray = ls at hl ⊢
  have hl : lv_has ls 4 [(0, .ref h0), (1, .int v_n), (2, .ref o0)] := hl
  refine lv_aload_n hx hb dL_count_0 rfl (lv_at hl 2 rfl) ?_
  refine lv_iconst (v := 0) hx hb dL_count_1 (by decide) ?_
  refine lv_aload_n hx hb dL_count_2 rfl (lv_at hl 0 rfl) ?_
  refine lv_iload_n hx hb dL_count_3 rfl (lv_at hl 1 rfl) ?_
  refine aft_i (wr := [(o0, .inl (c_out, 1, .inr (.inl f_out)))]) (va_runV (As := [.int v_n]) (rest := [.int 0, .ref o0]) ⟨hx, hb, hml, hown, hts⟩ (c_X12_countB l dC dI s.heap.size h0 w_text w_memory w_counts w_lexer w_parser w_checker w_scope w_coder w_machine w_compiler w_processor w_writer v_n b1 b2) (cwV 1 hts gzL_count_v2_X12_count_v2_V45 rfl rfl rfl (by decide +kernel) ⟨Nat.le_of_ble_eq_true rfl, Nat.le_of_ble_eq_true rfl⟩) (wB.preV (hP.sub (ws' := [(h0, .inr (12, [.ref w_text, .ref w_memory, .ref w_counts, .ref w_lexer, .ref w_parser, .ref w_checker, .ref w_scope, .ref w_coder, .ref w_machine, .ref w_compiler, .ref w_processor, .ref w_writer, .int 0, .int 0, .int 0, .int (-1), .int (-1), .int 0, .int 0, .int 0]))]) [0] rfl) (hK.sub (tys' := []) [] rfl) (hD.sub (ws' := [(h0, .inr (12, [.ref w_text, .ref w_memory, .ref w_counts, .ref w_lexer, .ref w_parser, .ref w_checker, .ref w_scope, .ref w_coder, .ref w_machine, .ref w_compiler, .ref w_processor, .ref w_writer, .int 0, .int 0, .int 0, .int (-1), .int (-1), .int 0, .int 0, .int 0]))]) [0] (by decide) rfl) hN 12 0 rfl rfl) rfl rfl hl.1 rfl (lv_room (Nat.le_of_ble_eq_true rfl)) dL_count_4 ⟨Nat.le_of_ble_eq_true rfl, Nat.le_of_ble_eq_true rfl⟩) hP hD hS hA [0] [1] rfl rfl (by decide) (by decide) ?_
  clear hP hD hS
  intro r_2 u_1 H locs w_3 hK1 hP hD hS
  replace hP : va_P (dC, dI) vwCl [(o0, .inl (c_out, 1, .inr (.inl f_out))), (h0, .inr (12, [.ref w_text, .ref w_memory, .ref w_counts, .ref w_lexer, .ref w_parser, .ref w_checker, .ref w_scope, .ref w_coder, .ref w_machine, .ref w_compiler, .ref w_processor, .ref w_writer, .int 0, .int 0, .int 0, .int (-1), .int (-1), .int 0, .int 0, .int 0]))] H := hP
  replace hD : va_D A [(o0, .inl (c_out, 1, .inr (.inl f_out))), (h0, .inr (12, [.ref w_text, .ref w_memory, .ref w_counts, .ref w_lexer, .ref w_parser, .ref w_checker, .ref w_scope, .ref w_coder, .ref w_machine, .ref w_compiler, .ref w_processor, .ref w_writer, .int 0, .int 0, .int 0, .int (-1), .int (-1), .int 0, .int 0, .int 0]))] := hD
  clear hK1
  try dsimp only at w_3
  obtain rfl : r_2 = 0 := w_3
  refine lv_i2l (v := 0) hx hb dL_count_7 (by decide) ?_
  refine va_last (D := (dC, dI)) (i := 0) hx hb hK hP hD hS 0 0 rfl rfl (vp_in_nI (n := 0) (by decide) (by decide)) dL_count_8 ?_
  clear hP hD hS
  intro H locs hP hD hS
  obtain ⟨f_4, ef_4⟩ : ∃ g : Nat → Int64, g = (vp_updL f_out (Int32.toNatClampNeg (0)) 0) := ⟨_, rfl⟩
  replace hP : va_P (dC, dI) vwCl [(o0, .inl (c_out, 1, .inr (.inl f_4))), (h0, .inr (12, [.ref w_text, .ref w_memory, .ref w_counts, .ref w_lexer, .ref w_parser, .ref w_checker, .ref w_scope, .ref w_coder, .ref w_machine, .ref w_compiler, .ref w_processor, .ref w_writer, .int 0, .int 0, .int 0, .int (-1), .int (-1), .int 0, .int 0, .int 0]))] H := by rw [ef_4]; exact hP
  replace hD : va_D A [(o0, .inl (c_out, 1, .inr (.inl f_4))), (h0, .inr (12, [.ref w_text, .ref w_memory, .ref w_counts, .ref w_lexer, .ref w_parser, .ref w_checker, .ref w_scope, .ref w_coder, .ref w_machine, .ref w_compiler, .ref w_processor, .ref w_writer, .int 0, .int 0, .int 0, .int (-1), .int (-1), .int 0, .int 0, .int 0]))] := by rw [ef_4]; exact hD
  refine lv_goto (tgt := 15) hx hb dL_count_9 (by decide) ?_
  refine lv_iconst (v := 0) hx hb dL_count_15 (by decide) ?_
  have hP9 := hP.sub (ws' := [(o0, .inl (c_out, 1, .inr (.inl f_4)))]) [0] rfl
  have hD9 := hD.sub (ws' := [(o0, .inl (c_out, 1, .inr (.inl f_4)))]) [0] (by decide) rfl
  have hK9 := hK.sub (tys' := [(c_out, .long)]) [0] rfl
  refine vx_ret ?_
  exact W.iret (v := 0) hx hb hr (fun t ht hW => ⟨⟨0, f_4, rfl, ⟨rfl, by rw [ef_4]; exact pk_uLs⟩, wE.of ht hW hP9 hK9 hD9⟩, hS.F ht⟩) hS.2.2 dL_count_16

