theorem dX4_forget_0 : decode cX4_forget 0 = .ok (.iconst 0, 1) := by decide +kernel
theorem dX4_forget_1 : decode cX4_forget 1 = .ok (.istore_n 1, 1) := by decide +kernel
theorem dX4_forget_2 : decode cX4_forget 2 = .ok (.iload_n 1, 1) := by decide +kernel
theorem dX4_forget_3 : decode cX4_forget 3 = .ok (.sipush 512, 3) := by decide +kernel
theorem dX4_forget_6 : decode cX4_forget 6 = .ok (.if_icmp .ge 57, 3) := by decide +kernel
theorem dX4_forget_9 : decode cX4_forget 9 = .ok (.aload_n 0, 1) := by decide +kernel
theorem dX4_forget_10 : decode cX4_forget 10 = .ok (.getfield 25, 3) := by decide +kernel
theorem dX4_forget_13 : decode cX4_forget 13 = .ok (.iload_n 1, 1) := by decide +kernel
theorem dX4_forget_14 : decode cX4_forget 14 = .ok (.invokestatic 89, 3) := by decide +kernel
theorem dX4_forget_17 : decode cX4_forget 17 = .ok (.istore_n 2, 1) := by decide +kernel
theorem dX4_forget_18 : decode cX4_forget 18 = .ok (.iconst 0, 1) := by decide +kernel
theorem dX4_forget_19 : decode cX4_forget 19 = .ok (.istore_n 3, 1) := by decide +kernel
theorem dX4_forget_20 : decode cX4_forget 20 = .ok (.iload_n 3, 1) := by decide +kernel
theorem dX4_forget_21 : decode cX4_forget 21 = .ok (.sipush 2176, 3) := by decide +kernel
theorem dX4_forget_24 : decode cX4_forget 24 = .ok (.if_icmp .ge 24, 3) := by decide +kernel
theorem dX4_forget_27 : decode cX4_forget 27 = .ok (.iload_n 2, 1) := by decide +kernel
theorem dX4_forget_28 : decode cX4_forget 28 = .ok (.bipush 51, 2) := by decide +kernel
theorem dX4_forget_30 : decode cX4_forget 30 = .ok (.if_icmp .lt 18, 3) := by decide +kernel
theorem dX4_forget_33 : decode cX4_forget 33 = .ok (.aload_n 0, 1) := by decide +kernel
theorem dX4_forget_34 : decode cX4_forget 34 = .ok (.getfield 28, 3) := by decide +kernel
theorem dX4_forget_37 : decode cX4_forget 37 = .ok (.iload_n 2, 1) := by decide +kernel
theorem dX4_forget_38 : decode cX4_forget 38 = .ok (.invokestatic 89, 3) := by decide +kernel
theorem dX4_forget_41 : decode cX4_forget 41 = .ok (.istore_n 2, 1) := by decide +kernel
theorem dX4_forget_42 : decode cX4_forget 42 = .ok (.iinc 3 1, 3) := by decide +kernel
theorem dX4_forget_45 : decode cX4_forget 45 = .ok (.goto (-25), 3) := by decide +kernel
theorem dX4_forget_48 : decode cX4_forget 48 = .ok (.aload_n 0, 1) := by decide +kernel
theorem dX4_forget_49 : decode cX4_forget 49 = .ok (.getfield 25, 3) := by decide +kernel
theorem dX4_forget_52 : decode cX4_forget 52 = .ok (.iload_n 1, 1) := by decide +kernel
theorem dX4_forget_53 : decode cX4_forget 53 = .ok (.iload_n 2, 1) := by decide +kernel
theorem dX4_forget_54 : decode cX4_forget 54 = .ok (.invokestatic 34, 3) := by decide +kernel
theorem dX4_forget_57 : decode cX4_forget 57 = .ok (.iinc 1 1, 3) := by decide +kernel
theorem dX4_forget_60 : decode cX4_forget 60 = .ok (.goto (-58), 3) := by decide +kernel
theorem dX4_forget_63 : decode cX4_forget 63 = .ok (.aload_n 0, 1) := by decide +kernel
theorem dX4_forget_64 : decode cX4_forget 64 = .ok (.bipush 51, 2) := by decide +kernel
theorem dX4_forget_66 : decode cX4_forget 66 = .ok (.putfield 86, 3) := by decide +kernel
theorem dX4_forget_69 : decode cX4_forget 69 = .ok (.aload_n 0, 1) := by decide +kernel
theorem dX4_forget_70 : decode cX4_forget 70 = .ok (.aload_n 0, 1) := by decide +kernel
theorem dX4_forget_71 : decode cX4_forget 71 = .ok (.getfield 62, 3) := by decide +kernel
theorem dX4_forget_74 : decode cX4_forget 74 = .ok (.putfield 58, 3) := by decide +kernel
theorem dX4_forget_77 : decode cX4_forget 77 = .ok (.return_, 1) := by decide +kernel
def zlX4_forget : List Cond := [.fieldLink RX4 86 "LeanHouse$Lexer" "names" "I", .fieldLink RX4 62 "LeanHouse$Lexer" "knownSize" "I", .fieldLink RX4 58 "LeanHouse$Lexer" "poolSize" "I", .fieldLink RX4 25 "LeanHouse$Lexer" "heads" "[I", .code yX12_at cX12_at 2 (some .int), .initialized RX12, .static yX12_at, .code yX12_put cX12_put 3 none, .static yX12_put, .fieldLink RX4 28 "LeanHouse$Lexer" "nexts" "[I"]
def zsX4_forget : List Cond := .code yX4_forget cX4_forget 4 none :: (zlX4_forget ++ (wsX40))
set_option maxRecDepth 20000 in
theorem gzX4_forget_X12_at_89 : GoodIn zsX4_forget zsX12_at := (goodIn_r _ [5] (by decide +kernel) (by decide +kernel))
set_option maxRecDepth 20000 in
theorem gzX4_forget_X12_put_34 : GoodIn zsX4_forget zsX12_put := (goodIn_r _ [8] (by decide +kernel) (by decide +kernel))
set_option maxHeartbeats 8000000 in
set_option maxRecDepth 100000 in
theorem c_X4_forget (l : Launch) (dC : Nat → ClassId) (dI : Nat → Nat → Nat) (sz : Nat) (h0 : Nat) (x_text : Nat) (x_pool : Nat) (x_scratch : Nat) (x_nameAt : Nat) (x_nameSize : Nat) (x_heads : Nat) (x_nexts : Nat) (x_names : Int32) (x_poolSize : Int32) (x_knownSize : Int32) (x_textSize : Int32) (x_here : Int32) (x_tokens : Int32) (x_kind : Int32) (x_start : Int32) (x_meaning : Int32) (x_trouble : Int32) (x_spelled : Int32) (c_heads : ClassId) (f_heads : Nat → Int32) (c_nexts : ClassId) (f_nexts : Nat → Int32) : Met l yX4_forget zsX4_forget ({ frames := 2, cells := 0, slots := 0, locals := 34 } : Room) (va_Pc [.ref h0] (wB (dC, dI) vwCl nestM [(c_heads, .int), (c_nexts, .int)] [(h0, .inr (4, [.ref x_text, .ref x_pool, .ref x_scratch, .ref x_nameAt, .ref x_nameSize, .ref x_heads, .ref x_nexts, .int x_names, .int x_poolSize, .int x_knownSize, .int x_textSize, .int x_here, .int x_tokens, .int x_kind, .int x_start, .int x_meaning, .int x_trouble, .int x_spelled])), (x_heads, .inl (c_heads, 512, .inl f_heads)), (x_nexts, .inl (c_nexts, 2176, .inl f_nexts))] sz)) (va_Qv (fun (u : (Nat → Int32)) => True) (fun (u : (Nat → Int32)) (t : State) => wE (dC, dI) vwCl [(c_heads, .int), (c_nexts, .int)] [(h0, .inr (4, [.ref x_text, .ref x_pool, .ref x_scratch, .ref x_nameAt, .ref x_nameSize, .ref x_heads, .ref x_nexts, .int 51, .int x_knownSize, .int x_knownSize, .int x_textSize, .int x_here, .int x_tokens, .int x_kind, .int x_start, .int x_meaning, .int x_trouble, .int x_spelled])), (x_heads, .inl (c_heads, 512, .inl u)), (x_nexts, .inl (c_nexts, 2176, .inl f_nexts))] (va_A [(h0, .inr (4, [.ref x_text, .ref x_pool, .ref x_scratch, .ref x_nameAt, .ref x_nameSize, .ref x_heads, .ref x_nexts, .int x_names, .int x_poolSize, .int x_knownSize, .int x_textSize, .int x_here, .int x_tokens, .int x_kind, .int x_start, .int x_meaning, .int x_trouble, .int x_spelled])), (x_heads, .inl (c_heads, 512, .inl f_heads)), (x_nexts, .inl (c_nexts, 2176, .inl f_nexts))] sz) t) (va_A [(h0, .inr (4, [.ref x_text, .ref x_pool, .ref x_scratch, .ref x_nameAt, .ref x_nameSize, .ref x_heads, .ref x_nexts, .int x_names, .int x_poolSize, .int x_knownSize, .int x_textSize, .int x_here, .int x_tokens, .int x_kind, .int x_start, .int x_meaning, .int x_trouble, .int x_spelled])), (x_heads, .inl (c_heads, 512, .inl f_heads)), (x_nexts, .inl (c_nexts, 2176, .inl f_nexts))] sz)) 0 0 (va_A [(h0, .inr (4, [.ref x_text, .ref x_pool, .ref x_scratch, .ref x_nameAt, .ref x_nameSize, .ref x_heads, .ref x_nexts, .int x_names, .int x_poolSize, .int x_knownSize, .int x_textSize, .int x_here, .int x_tokens, .int x_kind, .int x_start, .int x_meaning, .int x_trouble, .int x_spelled])), (x_heads, .inl (c_heads, 512, .inl f_heads)), (x_nexts, .inl (c_nexts, 2176, .inl f_nexts))] sz) := by
  refine Met.ofW (cc := cX4_forget) (maxL := 4) (ret := none) (by decide) rfl ?_
  intro p e s m args below meth c s₁ B hml hv
  obtain ⟨rfl, hsz, hP, hK, hD0, hN⟩ := hv
  have hx := B.exec
  have hb := B.bytes
  have hr := B.returns
  have hts := atoms_spec (ws := zsX4_forget) B.pre
  have hown : s.vm.findClass RX4 = some m.cls := findClass_of_methodNamed B.named
  have hlocks := B.notSynchronized
  subst hsz
  have hD := hD0.self (sz := s.heap.size)
  generalize hAe : va_A [(h0, .inr (4, [.ref x_text, .ref x_pool, .ref x_scratch, .ref x_nameAt, .ref x_nameSize, .ref x_heads, .ref x_nexts, .int x_names, .int x_poolSize, .int x_knownSize, .int x_textSize, .int x_here, .int x_tokens, .int x_kind, .int x_start, .int x_meaning, .int x_trouble, .int x_spelled])), (x_heads, .inl (c_heads, 512, .inl f_heads)), (x_nexts, .inl (c_nexts, 2176, .inl f_nexts))] s.heap.size = A at hD ⊢
  have hA : ∀ q : Nat, s.heap.size ≤ q → A q := fun q h => by rw [← hAe]; exact Or.inr h
  have hS : va_S A s.heap s.heap [] := va_S.rf
  have hP : va_P (dC, dI) vwCl [(h0, .inr (4, [.ref x_text, .ref x_pool, .ref x_scratch, .ref x_nameAt, .ref x_nameSize, .ref x_heads, .ref x_nexts, .int x_names, .int x_poolSize, .int x_knownSize, .int x_textSize, .int x_here, .int x_tokens, .int x_kind, .int x_start, .int x_meaning, .int x_trouble, .int x_spelled])), (x_heads, .inl (c_heads, 512, .inl f_heads)), (x_nexts, .inl (c_nexts, 2176, .inl f_nexts))] s.heap := hP
  have hl := lv_entry ([.ref h0]) (n := 4) (Nat.le_of_ble_eq_true rfl)
  rw [lg_entry_eq]
  generalize (lg_sl ([.ref h0]) ++ List.replicate (4 - (lg_sl ([.ref h0])).length) Slot.unset).toArray = ls at hl ⊢
  have hl : lv_has ls 4 [(0, .ref h0)] := hl
  refine lv_iconst (v := 0) hx hb dX4_forget_0 (by decide) ?_
  refine lv_istore_n (lv' := [(1, .int 0), (0, .ref h0)]) hx hb dX4_forget_1 rfl hl (by decide) rfl ?_
  clear hl
  intro ls hl
  have lp2 : ∀ (n : Nat) (k : Nat) (g0 : Nat → Int32) (H : Heap) (locs : List Loc) (ls : Array Slot), (k ≤ 512) → (512 + 1 ≤ k + n) → va_P (dC, dI) vwCl [(h0, .inr (4, [.ref x_text, .ref x_pool, .ref x_scratch, .ref x_nameAt, .ref x_nameSize, .ref x_heads, .ref x_nexts, .int x_names, .int x_poolSize, .int x_knownSize, .int x_textSize, .int x_here, .int x_tokens, .int x_kind, .int x_start, .int x_meaning, .int x_trouble, .int x_spelled])), (x_heads, .inl (c_heads, 512, .inl g0)), (x_nexts, .inl (c_nexts, 2176, .inl f_nexts))] H → va_D A [(h0, .inr (4, [.ref x_text, .ref x_pool, .ref x_scratch, .ref x_nameAt, .ref x_nameSize, .ref x_heads, .ref x_nexts, .int x_names, .int x_poolSize, .int x_knownSize, .int x_textSize, .int x_here, .int x_tokens, .int x_kind, .int x_start, .int x_meaning, .int x_trouble, .int x_spelled])), (x_heads, .inl (c_heads, 512, .inl g0)), (x_nexts, .inl (c_nexts, 2176, .inl f_nexts))] → va_S A s.heap H locs → lv_has ls 4 [(1, .int (nI k)), (0, .ref h0)] → W p l e ({ frames := 2, cells := 0, slots := 0, locals := 34 } : Room) s m ([.ref h0] : List Value).toArray below meth c H locs 0 0 (MQ below (va_Qv (fun (u : (Nat → Int32)) => True) (fun (u : (Nat → Int32)) (t : State) => wE (dC, dI) vwCl [(c_heads, .int), (c_nexts, .int)] [(h0, .inr (4, [.ref x_text, .ref x_pool, .ref x_scratch, .ref x_nameAt, .ref x_nameSize, .ref x_heads, .ref x_nexts, .int 51, .int x_knownSize, .int x_knownSize, .int x_textSize, .int x_here, .int x_tokens, .int x_kind, .int x_start, .int x_meaning, .int x_trouble, .int x_spelled])), (x_heads, .inl (c_heads, 512, .inl u)), (x_nexts, .inl (c_nexts, 2176, .inl f_nexts))] A t) A) ([.ref h0] : List Value).toArray s 0 0 A) (F0 m 2 ls []) := by
    intro n2
    induction n2 with
    | zero =>
      intro k g0 H locs ls le_k mm_k hP hD hS hl
      omega
    | succ n2 ih2 =>
      intro k g0 H locs ls le_k mm_k hP hD hS hl
      refine lv_iload_n hx hb dX4_forget_2 rfl (lv_at hl 0 rfl) ?_
      refine lv_sipush (v := 512) hx hb dX4_forget_3 (by decide) ?_
      refine lv_icmp_ge (tgt := 63) hx hb dX4_forget_6 (by decide) (fun c_1 => ?_) (fun c_1 => ?_)
      · refine lv_aload_n hx hb dX4_forget_63 rfl (lv_at hl 1 rfl) ?_
        refine lv_bipush (v := 51) hx hb dX4_forget_64 (by decide) ?_
        refine va_put (D := (dC, dI)) (ci := 4) (v := .int 51) (ty := .int) (C := RX4) (T := TX4) (N := 18) hx hb hts (fun _ h9 => List.mem_cons_of_mem _ (List.mem_append_right _ h9)) tyX4 tyX4_ok nmX4 hown hK hP hD hS 0 rfl rfl 7 (by decide) (hts _ (List.mem_cons_of_mem _ (List.mem_append_left _ (List.mem_of_getElem? (i := 0) rfl)))) (fun _ h9 => h9) rfl (by decide +kernel) rfl rfl (Nat.le_of_ble_eq_true rfl) dX4_forget_66 ?_
        clear hP hD hS
        intro H locs hP hD hS
        replace hP : va_P (dC, dI) vwCl [(h0, .inr (4, [.ref x_text, .ref x_pool, .ref x_scratch, .ref x_nameAt, .ref x_nameSize, .ref x_heads, .ref x_nexts, .int 51, .int x_poolSize, .int x_knownSize, .int x_textSize, .int x_here, .int x_tokens, .int x_kind, .int x_start, .int x_meaning, .int x_trouble, .int x_spelled])), (x_heads, .inl (c_heads, 512, .inl g0)), (x_nexts, .inl (c_nexts, 2176, .inl f_nexts))] H := hP
        replace hD : va_D A [(h0, .inr (4, [.ref x_text, .ref x_pool, .ref x_scratch, .ref x_nameAt, .ref x_nameSize, .ref x_heads, .ref x_nexts, .int 51, .int x_poolSize, .int x_knownSize, .int x_textSize, .int x_here, .int x_tokens, .int x_kind, .int x_start, .int x_meaning, .int x_trouble, .int x_spelled])), (x_heads, .inl (c_heads, 512, .inl g0)), (x_nexts, .inl (c_nexts, 2176, .inl f_nexts))] := hD
        refine lv_aload_n hx hb dX4_forget_69 rfl (lv_at hl 1 rfl) ?_
        refine lv_aload_n hx hb dX4_forget_70 rfl (lv_at hl 1 rfl) ?_
        refine va_get (D := (dC, dI)) (ci := 4) (v := .int x_knownSize) (C := RX4) (T := TX4) (N := 18) hx hb hts (fun _ h9 => List.mem_cons_of_mem _ (List.mem_append_right _ h9)) hown hK hP 0 rfl rfl 9 (by decide) (hts _ (List.mem_cons_of_mem _ (List.mem_append_left _ (List.mem_of_getElem? (i := 1) rfl)))) (fun _ h9 => h9) rfl dX4_forget_71 ?_
        refine va_put (D := (dC, dI)) (ci := 4) (v := .int x_knownSize) (ty := .int) (C := RX4) (T := TX4) (N := 18) hx hb hts (fun _ h9 => List.mem_cons_of_mem _ (List.mem_append_right _ h9)) tyX4 tyX4_ok nmX4 hown hK hP hD hS 0 rfl rfl 8 (by decide) (hts _ (List.mem_cons_of_mem _ (List.mem_append_left _ (List.mem_of_getElem? (i := 2) rfl)))) (fun _ h9 => h9) rfl (by decide +kernel) rfl rfl (Nat.le_of_ble_eq_true rfl) dX4_forget_74 ?_
        clear hP hD hS
        intro H locs hP hD hS
        replace hP : va_P (dC, dI) vwCl [(h0, .inr (4, [.ref x_text, .ref x_pool, .ref x_scratch, .ref x_nameAt, .ref x_nameSize, .ref x_heads, .ref x_nexts, .int 51, .int x_knownSize, .int x_knownSize, .int x_textSize, .int x_here, .int x_tokens, .int x_kind, .int x_start, .int x_meaning, .int x_trouble, .int x_spelled])), (x_heads, .inl (c_heads, 512, .inl g0)), (x_nexts, .inl (c_nexts, 2176, .inl f_nexts))] H := hP
        replace hD : va_D A [(h0, .inr (4, [.ref x_text, .ref x_pool, .ref x_scratch, .ref x_nameAt, .ref x_nameSize, .ref x_heads, .ref x_nexts, .int 51, .int x_knownSize, .int x_knownSize, .int x_textSize, .int x_here, .int x_tokens, .int x_kind, .int x_start, .int x_meaning, .int x_trouble, .int x_spelled])), (x_heads, .inl (c_heads, 512, .inl g0)), (x_nexts, .inl (c_nexts, 2176, .inl f_nexts))] := hD
        have hP9 := hP.sub (ws' := [(h0, .inr (4, [.ref x_text, .ref x_pool, .ref x_scratch, .ref x_nameAt, .ref x_nameSize, .ref x_heads, .ref x_nexts, .int 51, .int x_knownSize, .int x_knownSize, .int x_textSize, .int x_here, .int x_tokens, .int x_kind, .int x_start, .int x_meaning, .int x_trouble, .int x_spelled])), (x_heads, .inl (c_heads, 512, .inl g0)), (x_nexts, .inl (c_nexts, 2176, .inl f_nexts))]) [0, 1, 2] rfl
        have hD9 := hD.sub (ws' := [(h0, .inr (4, [.ref x_text, .ref x_pool, .ref x_scratch, .ref x_nameAt, .ref x_nameSize, .ref x_heads, .ref x_nexts, .int 51, .int x_knownSize, .int x_knownSize, .int x_textSize, .int x_here, .int x_tokens, .int x_kind, .int x_start, .int x_meaning, .int x_trouble, .int x_spelled])), (x_heads, .inl (c_heads, 512, .inl g0)), (x_nexts, .inl (c_nexts, 2176, .inl f_nexts))]) [0, 1, 2] (by decide) rfl
        have hK9 := hK.sub (tys' := [(c_heads, .int), (c_nexts, .int)]) [0, 1] rfl
        exact W.vret hx hb hr (fun t ht hW => ⟨⟨g0, rfl, trivial, wE.of ht hW hP9 hK9 hD9⟩, hS.F ht⟩) hS.2.2 dX4_forget_77
      · have lt_k : k < 512 := Nat.lt_of_not_le (fun q => c_1 (nI_le (a := 512) q (by omega)))
        refine lv_aload_n hx hb dX4_forget_9 rfl (lv_at hl 1 rfl) ?_
        refine va_get (D := (dC, dI)) (ci := 4) (v := .ref x_heads) (C := RX4) (T := TX4) (N := 18) hx hb hts (fun _ h9 => List.mem_cons_of_mem _ (List.mem_append_right _ h9)) hown hK hP 0 rfl rfl 5 (by decide) (hts _ (List.mem_cons_of_mem _ (List.mem_append_left _ (List.mem_of_getElem? (i := 3) rfl)))) (fun _ h9 => h9) rfl dX4_forget_10 ?_
        refine lv_iload_n hx hb dX4_forget_13 rfl (lv_at hl 0 rfl) ?_
        refine aft_i (wr := [(h0, .inr (4, [.ref x_text, .ref x_pool, .ref x_scratch, .ref x_nameAt, .ref x_nameSize, .ref x_heads, .ref x_nexts, .int x_names, .int x_poolSize, .int x_knownSize, .int x_textSize, .int x_here, .int x_tokens, .int x_kind, .int x_start, .int x_meaning, .int x_trouble, .int x_spelled])), (x_nexts, .inl (c_nexts, 2176, .inl f_nexts))]) (va_runSN (As := [.ref x_heads, .int (nI k)]) (rest := []) ⟨hx, hb, hml, hown, hts⟩ (c_X12_at l dC dI H.size x_heads c_heads 512 g0 (nI k) (by first | assumption | decide | omega)) ⟨va_cnB 2 hts gzX4_forget_X12_at_89 rfl rfl rfl (hN.at 11 rfl) (hts _ (List.mem_cons_of_mem _ (List.mem_append_left _ (List.mem_of_getElem? (i := 5) rfl)))) (by decide +kernel) ⟨Nat.le_of_ble_eq_true rfl, Nat.le_of_ble_eq_true rfl⟩, (hts _ (List.mem_cons_of_mem _ (List.mem_append_left _ (List.mem_of_getElem? (i := 6) rfl)))), trivial⟩ (wB.preS (hP.sub (ws' := [(x_heads, .inl (c_heads, 512, .inl g0))]) [1] rfl) (hK.sub (tys' := [(c_heads, .int)]) [0] rfl) (hD.sub (ws' := [(x_heads, .inl (c_heads, 512, .inl g0))]) [1] (by decide) rfl) hN) rfl rfl hl.1 rfl (lv_room (Nat.le_of_ble_eq_true rfl)) dX4_forget_14 ⟨Nat.le_of_ble_eq_true rfl, Nat.le_of_ble_eq_true rfl⟩) hP hD hS hA [1] [0, 2] rfl rfl (by decide) (by decide) ?_
        clear hP hD hS
        intro r_3 u_2 H locs w_4 hK1 hP hD hS
        replace hP : va_P (dC, dI) vwCl [(h0, .inr (4, [.ref x_text, .ref x_pool, .ref x_scratch, .ref x_nameAt, .ref x_nameSize, .ref x_heads, .ref x_nexts, .int x_names, .int x_poolSize, .int x_knownSize, .int x_textSize, .int x_here, .int x_tokens, .int x_kind, .int x_start, .int x_meaning, .int x_trouble, .int x_spelled])), (x_nexts, .inl (c_nexts, 2176, .inl f_nexts)), (x_heads, .inl (c_heads, 512, .inl g0))] H := hP
        replace hD : va_D A [(h0, .inr (4, [.ref x_text, .ref x_pool, .ref x_scratch, .ref x_nameAt, .ref x_nameSize, .ref x_heads, .ref x_nexts, .int x_names, .int x_poolSize, .int x_knownSize, .int x_textSize, .int x_here, .int x_tokens, .int x_kind, .int x_start, .int x_meaning, .int x_trouble, .int x_spelled])), (x_nexts, .inl (c_nexts, 2176, .inl f_nexts)), (x_heads, .inl (c_heads, 512, .inl g0))] := hD
        clear hK1
        try dsimp only at w_4
        refine lv_istore_n (lv' := [(2, .int r_3), (1, .int (nI k)), (0, .ref h0)]) hx hb dX4_forget_17 rfl hl (by decide) rfl ?_
        clear hl
        intro ls hl
        refine lv_iconst (v := 0) hx hb dX4_forget_18 (by decide) ?_
        refine lv_istore_n (lv' := [(3, .int 0), (2, .int r_3), (1, .int (nI k)), (0, .ref h0)]) hx hb dX4_forget_19 rfl hl (by decide) rfl ?_
        clear hl
        intro ls hl
        have lp20 : ∀ (n : Nat) (i : Nat) (z2 : Int32) (H : Heap) (locs : List Loc) (ls : Array Slot), (i ≤ 2176) → (2176 + 1 ≤ i + n) → va_P (dC, dI) vwCl [(h0, .inr (4, [.ref x_text, .ref x_pool, .ref x_scratch, .ref x_nameAt, .ref x_nameSize, .ref x_heads, .ref x_nexts, .int x_names, .int x_poolSize, .int x_knownSize, .int x_textSize, .int x_here, .int x_tokens, .int x_kind, .int x_start, .int x_meaning, .int x_trouble, .int x_spelled])), (x_nexts, .inl (c_nexts, 2176, .inl f_nexts)), (x_heads, .inl (c_heads, 512, .inl g0))] H → va_D A [(h0, .inr (4, [.ref x_text, .ref x_pool, .ref x_scratch, .ref x_nameAt, .ref x_nameSize, .ref x_heads, .ref x_nexts, .int x_names, .int x_poolSize, .int x_knownSize, .int x_textSize, .int x_here, .int x_tokens, .int x_kind, .int x_start, .int x_meaning, .int x_trouble, .int x_spelled])), (x_nexts, .inl (c_nexts, 2176, .inl f_nexts)), (x_heads, .inl (c_heads, 512, .inl g0))] → va_S A s.heap H locs → lv_has ls 4 [(3, .int (nI i)), (2, .int z2), (1, .int (nI k)), (0, .ref h0)] → W p l e ({ frames := 2, cells := 0, slots := 0, locals := 34 } : Room) s m ([.ref h0] : List Value).toArray below meth c H locs 0 0 (MQ below (va_Qv (fun (u : (Nat → Int32)) => True) (fun (u : (Nat → Int32)) (t : State) => wE (dC, dI) vwCl [(c_heads, .int), (c_nexts, .int)] [(h0, .inr (4, [.ref x_text, .ref x_pool, .ref x_scratch, .ref x_nameAt, .ref x_nameSize, .ref x_heads, .ref x_nexts, .int 51, .int x_knownSize, .int x_knownSize, .int x_textSize, .int x_here, .int x_tokens, .int x_kind, .int x_start, .int x_meaning, .int x_trouble, .int x_spelled])), (x_heads, .inl (c_heads, 512, .inl u)), (x_nexts, .inl (c_nexts, 2176, .inl f_nexts))] A t) A) ([.ref h0] : List Value).toArray s 0 0 A) (F0 m 20 ls []) := by
          intro n20
          induction n20 with
          | zero =>
            intro i z2 H locs ls le_i mm_i hP hD hS hl
            omega
          | succ n20 ih20 =>
            intro i z2 H locs ls le_i mm_i hP hD hS hl
            refine lv_iload_n hx hb dX4_forget_20 rfl (lv_at hl 0 rfl) ?_
            refine lv_sipush (v := 2176) hx hb dX4_forget_21 (by decide) ?_
            refine lv_icmp_ge (tgt := 48) hx hb dX4_forget_24 (by decide) (fun c_5 => ?_) (fun c_5 => ?_)
            · refine lv_aload_n hx hb dX4_forget_48 rfl (lv_at hl 3 rfl) ?_
              refine va_get (D := (dC, dI)) (ci := 4) (v := .ref x_heads) (C := RX4) (T := TX4) (N := 18) hx hb hts (fun _ h9 => List.mem_cons_of_mem _ (List.mem_append_right _ h9)) hown hK hP 0 rfl rfl 5 (by decide) (hts _ (List.mem_cons_of_mem _ (List.mem_append_left _ (List.mem_of_getElem? (i := 3) rfl)))) (fun _ h9 => h9) rfl dX4_forget_49 ?_
              refine lv_iload_n hx hb dX4_forget_52 rfl (lv_at hl 2 rfl) ?_
              refine lv_iload_n hx hb dX4_forget_53 rfl (lv_at hl 1 rfl) ?_
              refine aft_v (wr := [(h0, .inr (4, [.ref x_text, .ref x_pool, .ref x_scratch, .ref x_nameAt, .ref x_nameSize, .ref x_heads, .ref x_nexts, .int x_names, .int x_poolSize, .int x_knownSize, .int x_textSize, .int x_here, .int x_tokens, .int x_kind, .int x_start, .int x_meaning, .int x_trouble, .int x_spelled])), (x_nexts, .inl (c_nexts, 2176, .inl f_nexts))]) (va_runSN (As := [.ref x_heads, .int (nI k), .int z2]) (rest := []) ⟨hx, hb, hml, hown, hts⟩ (c_X12_put l dC dI H.size x_heads c_heads 512 g0 (nI k) z2 (by first | assumption | decide | omega)) ⟨va_cnB 3 hts gzX4_forget_X12_put_34 rfl rfl rfl (hN.at 9 rfl) (hts _ (List.mem_cons_of_mem _ (List.mem_append_left _ (List.mem_of_getElem? (i := 5) rfl)))) (by decide +kernel) ⟨Nat.le_of_ble_eq_true rfl, Nat.le_of_ble_eq_true rfl⟩, (hts _ (List.mem_cons_of_mem _ (List.mem_append_left _ (List.mem_of_getElem? (i := 8) rfl)))), trivial⟩ (wB.preS (hP.sub (ws' := [(x_heads, .inl (c_heads, 512, .inl g0))]) [2] rfl) (hK.sub (tys' := [(c_heads, .int)]) [0] rfl) (hD.sub (ws' := [(x_heads, .inl (c_heads, 512, .inl g0))]) [2] (by decide) rfl) hN) rfl rfl hl.1 rfl (lv_room (Nat.le_of_ble_eq_true rfl)) dX4_forget_54 ⟨Nat.le_of_ble_eq_true rfl, Nat.le_of_ble_eq_true rfl⟩) hP hD hS hA [2] [0, 1] rfl rfl (by decide) (by decide) ?_
              clear hP hD hS
              intro u_6 H locs w_8 hK1 hP hD hS
              obtain ⟨g_9, rfl⟩ : ∃ z, z = u_6 := ⟨_, rfl⟩
              replace hP : va_P (dC, dI) vwCl [(h0, .inr (4, [.ref x_text, .ref x_pool, .ref x_scratch, .ref x_nameAt, .ref x_nameSize, .ref x_heads, .ref x_nexts, .int x_names, .int x_poolSize, .int x_knownSize, .int x_textSize, .int x_here, .int x_tokens, .int x_kind, .int x_start, .int x_meaning, .int x_trouble, .int x_spelled])), (x_nexts, .inl (c_nexts, 2176, .inl f_nexts)), (x_heads, .inl (c_heads, 512, .inl g_9))] H := hP
              replace hD : va_D A [(h0, .inr (4, [.ref x_text, .ref x_pool, .ref x_scratch, .ref x_nameAt, .ref x_nameSize, .ref x_heads, .ref x_nexts, .int x_names, .int x_poolSize, .int x_knownSize, .int x_textSize, .int x_here, .int x_tokens, .int x_kind, .int x_start, .int x_meaning, .int x_trouble, .int x_spelled])), (x_nexts, .inl (c_nexts, 2176, .inl f_nexts)), (x_heads, .inl (c_heads, 512, .inl g_9))] := hD
              clear hK1
              try dsimp only at w_8
              refine lv_iinc (v := nI (k + 1)) (lv' := [(1, .int (nI (k + 1))), (3, .int (nI i)), (2, .int z2), (0, .ref h0)]) hx hb dX4_forget_57 hl (k := 2) rfl (nI_1 _) (by decide) rfl ?_
              clear hl
              intro ls hl
              refine lv_goto (tgt := 2) hx hb dX4_forget_60 (by decide) ?_
              exact ih2 (k + 1) g_9 _ _ _ (by omega) (by omega) (hP.sub [0, 2, 1] rfl) (hD.sub [0, 2, 1] (by decide) rfl) hS (lv_sub hl [0, 3] rfl)
            · have lt_i : i < 2176 := Nat.lt_of_not_le (fun q => c_5 (nI_le (a := 2176) q (by omega)))
              refine lv_iload_n hx hb dX4_forget_27 rfl (lv_at hl 1 rfl) ?_
              refine lv_bipush (v := 51) hx hb dX4_forget_28 (by decide) ?_
              refine lv_icmp_lt (tgt := 48) hx hb dX4_forget_30 (by decide) (fun c_10 => ?_) (fun c_10 => ?_)
              · refine lv_aload_n hx hb dX4_forget_48 rfl (lv_at hl 3 rfl) ?_
                refine va_get (D := (dC, dI)) (ci := 4) (v := .ref x_heads) (C := RX4) (T := TX4) (N := 18) hx hb hts (fun _ h9 => List.mem_cons_of_mem _ (List.mem_append_right _ h9)) hown hK hP 0 rfl rfl 5 (by decide) (hts _ (List.mem_cons_of_mem _ (List.mem_append_left _ (List.mem_of_getElem? (i := 3) rfl)))) (fun _ h9 => h9) rfl dX4_forget_49 ?_
                refine lv_iload_n hx hb dX4_forget_52 rfl (lv_at hl 2 rfl) ?_
                refine lv_iload_n hx hb dX4_forget_53 rfl (lv_at hl 1 rfl) ?_
                refine aft_v (wr := [(h0, .inr (4, [.ref x_text, .ref x_pool, .ref x_scratch, .ref x_nameAt, .ref x_nameSize, .ref x_heads, .ref x_nexts, .int x_names, .int x_poolSize, .int x_knownSize, .int x_textSize, .int x_here, .int x_tokens, .int x_kind, .int x_start, .int x_meaning, .int x_trouble, .int x_spelled])), (x_nexts, .inl (c_nexts, 2176, .inl f_nexts))]) (va_runSN (As := [.ref x_heads, .int (nI k), .int z2]) (rest := []) ⟨hx, hb, hml, hown, hts⟩ (c_X12_put l dC dI H.size x_heads c_heads 512 g0 (nI k) z2 (by first | assumption | decide | omega)) ⟨va_cnB 3 hts gzX4_forget_X12_put_34 rfl rfl rfl (hN.at 9 rfl) (hts _ (List.mem_cons_of_mem _ (List.mem_append_left _ (List.mem_of_getElem? (i := 5) rfl)))) (by decide +kernel) ⟨Nat.le_of_ble_eq_true rfl, Nat.le_of_ble_eq_true rfl⟩, (hts _ (List.mem_cons_of_mem _ (List.mem_append_left _ (List.mem_of_getElem? (i := 8) rfl)))), trivial⟩ (wB.preS (hP.sub (ws' := [(x_heads, .inl (c_heads, 512, .inl g0))]) [2] rfl) (hK.sub (tys' := [(c_heads, .int)]) [0] rfl) (hD.sub (ws' := [(x_heads, .inl (c_heads, 512, .inl g0))]) [2] (by decide) rfl) hN) rfl rfl hl.1 rfl (lv_room (Nat.le_of_ble_eq_true rfl)) dX4_forget_54 ⟨Nat.le_of_ble_eq_true rfl, Nat.le_of_ble_eq_true rfl⟩) hP hD hS hA [2] [0, 1] rfl rfl (by decide) (by decide) ?_
                clear hP hD hS
                intro u_11 H locs w_13 hK1 hP hD hS
                obtain ⟨g_14, rfl⟩ : ∃ z, z = u_11 := ⟨_, rfl⟩
                replace hP : va_P (dC, dI) vwCl [(h0, .inr (4, [.ref x_text, .ref x_pool, .ref x_scratch, .ref x_nameAt, .ref x_nameSize, .ref x_heads, .ref x_nexts, .int x_names, .int x_poolSize, .int x_knownSize, .int x_textSize, .int x_here, .int x_tokens, .int x_kind, .int x_start, .int x_meaning, .int x_trouble, .int x_spelled])), (x_nexts, .inl (c_nexts, 2176, .inl f_nexts)), (x_heads, .inl (c_heads, 512, .inl g_14))] H := hP
                replace hD : va_D A [(h0, .inr (4, [.ref x_text, .ref x_pool, .ref x_scratch, .ref x_nameAt, .ref x_nameSize, .ref x_heads, .ref x_nexts, .int x_names, .int x_poolSize, .int x_knownSize, .int x_textSize, .int x_here, .int x_tokens, .int x_kind, .int x_start, .int x_meaning, .int x_trouble, .int x_spelled])), (x_nexts, .inl (c_nexts, 2176, .inl f_nexts)), (x_heads, .inl (c_heads, 512, .inl g_14))] := hD
                clear hK1
                try dsimp only at w_13
                refine lv_iinc (v := nI (k + 1)) (lv' := [(1, .int (nI (k + 1))), (3, .int (nI i)), (2, .int z2), (0, .ref h0)]) hx hb dX4_forget_57 hl (k := 2) rfl (nI_1 _) (by decide) rfl ?_
                clear hl
                intro ls hl
                refine lv_goto (tgt := 2) hx hb dX4_forget_60 (by decide) ?_
                exact ih2 (k + 1) g_14 _ _ _ (by omega) (by omega) (hP.sub [0, 2, 1] rfl) (hD.sub [0, 2, 1] (by decide) rfl) hS (lv_sub hl [0, 3] rfl)
              · refine lv_aload_n hx hb dX4_forget_33 rfl (lv_at hl 3 rfl) ?_
                refine va_get (D := (dC, dI)) (ci := 4) (v := .ref x_nexts) (C := RX4) (T := TX4) (N := 18) hx hb hts (fun _ h9 => List.mem_cons_of_mem _ (List.mem_append_right _ h9)) hown hK hP 0 rfl rfl 6 (by decide) (hts _ (List.mem_cons_of_mem _ (List.mem_append_left _ (List.mem_of_getElem? (i := 9) rfl)))) (fun _ h9 => h9) rfl dX4_forget_34 ?_
                refine lv_iload_n hx hb dX4_forget_37 rfl (lv_at hl 1 rfl) ?_
                refine aft_i (wr := [(h0, .inr (4, [.ref x_text, .ref x_pool, .ref x_scratch, .ref x_nameAt, .ref x_nameSize, .ref x_heads, .ref x_nexts, .int x_names, .int x_poolSize, .int x_knownSize, .int x_textSize, .int x_here, .int x_tokens, .int x_kind, .int x_start, .int x_meaning, .int x_trouble, .int x_spelled])), (x_heads, .inl (c_heads, 512, .inl g0))]) (va_runSN (As := [.ref x_nexts, .int z2]) (rest := []) ⟨hx, hb, hml, hown, hts⟩ (c_X12_at l dC dI H.size x_nexts c_nexts 2176 f_nexts z2 (by first | assumption | decide | omega)) ⟨va_cnB 2 hts gzX4_forget_X12_at_89 rfl rfl rfl (hN.at 11 rfl) (hts _ (List.mem_cons_of_mem _ (List.mem_append_left _ (List.mem_of_getElem? (i := 5) rfl)))) (by decide +kernel) ⟨Nat.le_of_ble_eq_true rfl, Nat.le_of_ble_eq_true rfl⟩, (hts _ (List.mem_cons_of_mem _ (List.mem_append_left _ (List.mem_of_getElem? (i := 6) rfl)))), trivial⟩ (wB.preS (hP.sub (ws' := [(x_nexts, .inl (c_nexts, 2176, .inl f_nexts))]) [1] rfl) (hK.sub (tys' := [(c_nexts, .int)]) [1] rfl) (hD.sub (ws' := [(x_nexts, .inl (c_nexts, 2176, .inl f_nexts))]) [1] (by decide) rfl) hN) rfl rfl hl.1 rfl (lv_room (Nat.le_of_ble_eq_true rfl)) dX4_forget_38 ⟨Nat.le_of_ble_eq_true rfl, Nat.le_of_ble_eq_true rfl⟩) hP hD hS hA [1] [0, 2] rfl rfl (by decide) (by decide) ?_
                clear hP hD hS
                intro r_16 u_15 H locs w_17 hK1 hP hD hS
                replace hP : va_P (dC, dI) vwCl [(h0, .inr (4, [.ref x_text, .ref x_pool, .ref x_scratch, .ref x_nameAt, .ref x_nameSize, .ref x_heads, .ref x_nexts, .int x_names, .int x_poolSize, .int x_knownSize, .int x_textSize, .int x_here, .int x_tokens, .int x_kind, .int x_start, .int x_meaning, .int x_trouble, .int x_spelled])), (x_heads, .inl (c_heads, 512, .inl g0)), (x_nexts, .inl (c_nexts, 2176, .inl f_nexts))] H := hP
                replace hD : va_D A [(h0, .inr (4, [.ref x_text, .ref x_pool, .ref x_scratch, .ref x_nameAt, .ref x_nameSize, .ref x_heads, .ref x_nexts, .int x_names, .int x_poolSize, .int x_knownSize, .int x_textSize, .int x_here, .int x_tokens, .int x_kind, .int x_start, .int x_meaning, .int x_trouble, .int x_spelled])), (x_heads, .inl (c_heads, 512, .inl g0)), (x_nexts, .inl (c_nexts, 2176, .inl f_nexts))] := hD
                clear hK1
                try dsimp only at w_17
                refine lv_istore_n (lv' := [(2, .int r_16), (3, .int (nI i)), (1, .int (nI k)), (0, .ref h0)]) hx hb dX4_forget_41 rfl hl (by decide) rfl ?_
                clear hl
                intro ls hl
                refine lv_iinc (v := nI (i + 1)) (lv' := [(3, .int (nI (i + 1))), (2, .int r_16), (1, .int (nI k)), (0, .ref h0)]) hx hb dX4_forget_42 hl (k := 1) rfl (nI_1 _) (by decide) rfl ?_
                clear hl
                intro ls hl
                refine lv_goto (tgt := 20) hx hb dX4_forget_45 (by decide) ?_
                exact ih20 (i + 1) r_16 _ _ _ (by omega) (by omega) (hP.sub [0, 2, 1] rfl) (hD.sub [0, 2, 1] (by decide) rfl) hS (lv_sub hl [0, 1, 2, 3] rfl)
        exact lp20 (2176 + 1) 0 r_3 _ _ _ (by omega) (by omega) (hP.sub [0, 1, 2] rfl) (hD.sub [0, 1, 2] (by decide) rfl) hS (lv_sub hl [0, 1, 2, 3] rfl)
  exact lp2 (512 + 1) 0 f_heads _ _ _ (by omega) (by omega) (hP.sub [0, 1, 2] rfl) (hD.sub [0, 1, 2] (by decide) rfl) hS (lv_sub hl [0, 1] rfl)

theorem dX4_open_0 : decode cX4_open 0 = .ok (.aload_n 0, 1) := by decide +kernel
theorem dX4_open_1 : decode cX4_open 1 = .ok (.iload_n 1, 1) := by decide +kernel
theorem dX4_open_2 : decode cX4_open 2 = .ok (.putfield 65, 3) := by decide +kernel
theorem dX4_open_5 : decode cX4_open 5 = .ok (.aload_n 0, 1) := by decide +kernel
theorem dX4_open_6 : decode cX4_open 6 = .ok (.iconst 0, 1) := by decide +kernel
theorem dX4_open_7 : decode cX4_open 7 = .ok (.putfield 68, 3) := by decide +kernel
theorem dX4_open_10 : decode cX4_open 10 = .ok (.aload_n 0, 1) := by decide +kernel
theorem dX4_open_11 : decode cX4_open 11 = .ok (.iconst 0, 1) := by decide +kernel
theorem dX4_open_12 : decode cX4_open 12 = .ok (.putfield 71, 3) := by decide +kernel
theorem dX4_open_15 : decode cX4_open 15 = .ok (.aload_n 0, 1) := by decide +kernel
theorem dX4_open_16 : decode cX4_open 16 = .ok (.iconst 0, 1) := by decide +kernel
theorem dX4_open_17 : decode cX4_open 17 = .ok (.putfield 74, 3) := by decide +kernel
theorem dX4_open_20 : decode cX4_open 20 = .ok (.aload_n 0, 1) := by decide +kernel
theorem dX4_open_21 : decode cX4_open 21 = .ok (.bipush 55, 2) := by decide +kernel
theorem dX4_open_23 : decode cX4_open 23 = .ok (.putfield 77, 3) := by decide +kernel
theorem dX4_open_26 : decode cX4_open 26 = .ok (.aload_n 0, 1) := by decide +kernel
theorem dX4_open_27 : decode cX4_open 27 = .ok (.iconst 0, 1) := by decide +kernel
theorem dX4_open_28 : decode cX4_open 28 = .ok (.putfield 80, 3) := by decide +kernel
theorem dX4_open_31 : decode cX4_open 31 = .ok (.aload_n 0, 1) := by decide +kernel
theorem dX4_open_32 : decode cX4_open 32 = .ok (.invokevirtual 83, 3) := by decide +kernel
theorem dX4_open_35 : decode cX4_open 35 = .ok (.return_, 1) := by decide +kernel
def zlX4_open : List Cond := [.fieldLink RX4 65 "LeanHouse$Lexer" "textSize" "I", .fieldLink RX4 68 "LeanHouse$Lexer" "here" "I", .fieldLink RX4 71 "LeanHouse$Lexer" "tokens" "I", .fieldLink RX4 74 "LeanHouse$Lexer" "trouble" "I", .fieldLink RX4 77 "LeanHouse$Lexer" "kind" "I", .fieldLink RX4 80 "LeanHouse$Lexer" "start" "I", .methodLink RX4 83 yX4_forget, .instanceMethod yX4_forget, .selects RX4 yX4_forget yX4_forget, .initialized RX4, .code yX4_forget cX4_forget 4 none, .fieldLink RX4 86 "LeanHouse$Lexer" "names" "I", .fieldLink RX4 62 "LeanHouse$Lexer" "knownSize" "I", .fieldLink RX4 58 "LeanHouse$Lexer" "poolSize" "I", .fieldLink RX4 25 "LeanHouse$Lexer" "heads" "[I", .code yX12_at cX12_at 2 (some .int), .initialized RX12, .static yX12_at, .code yX12_put cX12_put 3 none, .static yX12_put, .fieldLink RX4 28 "LeanHouse$Lexer" "nexts" "[I"]
def zsX4_open : List Cond := .code yX4_open cX4_open 2 none :: (zlX4_open ++ (wsX40))
set_option maxRecDepth 20000 in
theorem gzX4_open_X4_forget_V83 : GoodIn zsX4_open (wsV RX4 83 RX4 yX4_forget zsX4_forget) := (goodIn_app (goodIn_r _ [7, 8, 9, 10] (by decide +kernel) (by decide +kernel)) (goodIn_ca (goodIn_r _ [11, 12, 13, 14, 15, 16, 17, 18, 19, 20, 21] (by decide +kernel) (by decide +kernel)) (goodIn_sub (fun _ h9 => List.mem_cons_of_mem _ (List.mem_append_right _ h9)) gwX4)))
set_option maxHeartbeats 8000000 in
set_option maxRecDepth 100000 in
theorem c_X4_open (l : Launch) (dC : Nat → ClassId) (dI : Nat → Nat → Nat) (sz : Nat) (h0 : Nat) (x_text : Nat) (x_pool : Nat) (x_scratch : Nat) (x_nameAt : Nat) (x_nameSize : Nat) (x_heads : Nat) (x_nexts : Nat) (x_names : Int32) (x_poolSize : Int32) (x_knownSize : Int32) (x_textSize : Int32) (x_here : Int32) (x_tokens : Int32) (x_kind : Int32) (x_start : Int32) (x_meaning : Int32) (x_trouble : Int32) (x_spelled : Int32) (c_heads : ClassId) (f_heads : Nat → Int32) (c_nexts : ClassId) (f_nexts : Nat → Int32) (v_size : Int32) : Met l yX4_open zsX4_open ({ frames := 3, cells := 0, slots := 0, locals := 57 } : Room) (va_Pc [.ref h0, .int v_size] (wB (dC, dI) vwCl nestM [(c_heads, .int), (c_nexts, .int)] [(h0, .inr (4, [.ref x_text, .ref x_pool, .ref x_scratch, .ref x_nameAt, .ref x_nameSize, .ref x_heads, .ref x_nexts, .int x_names, .int x_poolSize, .int x_knownSize, .int x_textSize, .int x_here, .int x_tokens, .int x_kind, .int x_start, .int x_meaning, .int x_trouble, .int x_spelled])), (x_heads, .inl (c_heads, 512, .inl f_heads)), (x_nexts, .inl (c_nexts, 2176, .inl f_nexts))] sz)) (va_Qv (fun (u : (Nat → Int32)) => True) (fun (u : (Nat → Int32)) (t : State) => wE (dC, dI) vwCl [(c_heads, .int), (c_nexts, .int)] [(h0, .inr (4, [.ref x_text, .ref x_pool, .ref x_scratch, .ref x_nameAt, .ref x_nameSize, .ref x_heads, .ref x_nexts, .int 51, .int x_knownSize, .int x_knownSize, .int v_size, .int 0, .int 0, .int 55, .int 0, .int x_meaning, .int 0, .int x_spelled])), (x_heads, .inl (c_heads, 512, .inl u)), (x_nexts, .inl (c_nexts, 2176, .inl f_nexts))] (va_A [(h0, .inr (4, [.ref x_text, .ref x_pool, .ref x_scratch, .ref x_nameAt, .ref x_nameSize, .ref x_heads, .ref x_nexts, .int x_names, .int x_poolSize, .int x_knownSize, .int x_textSize, .int x_here, .int x_tokens, .int x_kind, .int x_start, .int x_meaning, .int x_trouble, .int x_spelled])), (x_heads, .inl (c_heads, 512, .inl f_heads)), (x_nexts, .inl (c_nexts, 2176, .inl f_nexts))] sz) t) (va_A [(h0, .inr (4, [.ref x_text, .ref x_pool, .ref x_scratch, .ref x_nameAt, .ref x_nameSize, .ref x_heads, .ref x_nexts, .int x_names, .int x_poolSize, .int x_knownSize, .int x_textSize, .int x_here, .int x_tokens, .int x_kind, .int x_start, .int x_meaning, .int x_trouble, .int x_spelled])), (x_heads, .inl (c_heads, 512, .inl f_heads)), (x_nexts, .inl (c_nexts, 2176, .inl f_nexts))] sz)) 0 0 (va_A [(h0, .inr (4, [.ref x_text, .ref x_pool, .ref x_scratch, .ref x_nameAt, .ref x_nameSize, .ref x_heads, .ref x_nexts, .int x_names, .int x_poolSize, .int x_knownSize, .int x_textSize, .int x_here, .int x_tokens, .int x_kind, .int x_start, .int x_meaning, .int x_trouble, .int x_spelled])), (x_heads, .inl (c_heads, 512, .inl f_heads)), (x_nexts, .inl (c_nexts, 2176, .inl f_nexts))] sz) := by
  refine Met.ofW (cc := cX4_open) (maxL := 2) (ret := none) (by decide) rfl ?_
  intro p e s m args below meth c s₁ B hml hv
  obtain ⟨rfl, hsz, hP, hK, hD0, hN⟩ := hv
  have hx := B.exec
  have hb := B.bytes
  have hr := B.returns
  have hts := atoms_spec (ws := zsX4_open) B.pre
  have hown : s.vm.findClass RX4 = some m.cls := findClass_of_methodNamed B.named
  have hlocks := B.notSynchronized
  subst hsz
  have hD := hD0.self (sz := s.heap.size)
  generalize hAe : va_A [(h0, .inr (4, [.ref x_text, .ref x_pool, .ref x_scratch, .ref x_nameAt, .ref x_nameSize, .ref x_heads, .ref x_nexts, .int x_names, .int x_poolSize, .int x_knownSize, .int x_textSize, .int x_here, .int x_tokens, .int x_kind, .int x_start, .int x_meaning, .int x_trouble, .int x_spelled])), (x_heads, .inl (c_heads, 512, .inl f_heads)), (x_nexts, .inl (c_nexts, 2176, .inl f_nexts))] s.heap.size = A at hD ⊢
  have hA : ∀ q : Nat, s.heap.size ≤ q → A q := fun q h => by rw [← hAe]; exact Or.inr h
  have hS : va_S A s.heap s.heap [] := va_S.rf
  have hP : va_P (dC, dI) vwCl [(h0, .inr (4, [.ref x_text, .ref x_pool, .ref x_scratch, .ref x_nameAt, .ref x_nameSize, .ref x_heads, .ref x_nexts, .int x_names, .int x_poolSize, .int x_knownSize, .int x_textSize, .int x_here, .int x_tokens, .int x_kind, .int x_start, .int x_meaning, .int x_trouble, .int x_spelled])), (x_heads, .inl (c_heads, 512, .inl f_heads)), (x_nexts, .inl (c_nexts, 2176, .inl f_nexts))] s.heap := hP
  have hl := lv_entry ([.ref h0, .int v_size]) (n := 2) (Nat.le_of_ble_eq_true rfl)
  rw [lg_entry_eq]
  generalize (lg_sl ([.ref h0, .int v_size]) ++ List.replicate (2 - (lg_sl ([.ref h0, .int v_size])).length) Slot.unset).toArray = ls at hl ⊢
  have hl : lv_has ls 2 [(0, .ref h0), (1, .int v_size)] := hl
  refine lv_aload_n hx hb dX4_open_0 rfl (lv_at hl 0 rfl) ?_
  refine lv_iload_n hx hb dX4_open_1 rfl (lv_at hl 1 rfl) ?_
  refine va_put (D := (dC, dI)) (ci := 4) (v := .int v_size) (ty := .int) (C := RX4) (T := TX4) (N := 18) hx hb hts (fun _ h9 => List.mem_cons_of_mem _ (List.mem_append_right _ h9)) tyX4 tyX4_ok nmX4 hown hK hP hD hS 0 rfl rfl 10 (by decide) (hts _ (List.mem_cons_of_mem _ (List.mem_append_left _ (List.mem_of_getElem? (i := 0) rfl)))) (fun _ h9 => h9) rfl (by decide +kernel) rfl rfl (Nat.le_of_ble_eq_true rfl) dX4_open_2 ?_
  clear hP hD hS
  intro H locs hP hD hS
  replace hP : va_P (dC, dI) vwCl [(h0, .inr (4, [.ref x_text, .ref x_pool, .ref x_scratch, .ref x_nameAt, .ref x_nameSize, .ref x_heads, .ref x_nexts, .int x_names, .int x_poolSize, .int x_knownSize, .int v_size, .int x_here, .int x_tokens, .int x_kind, .int x_start, .int x_meaning, .int x_trouble, .int x_spelled])), (x_heads, .inl (c_heads, 512, .inl f_heads)), (x_nexts, .inl (c_nexts, 2176, .inl f_nexts))] H := hP
  replace hD : va_D A [(h0, .inr (4, [.ref x_text, .ref x_pool, .ref x_scratch, .ref x_nameAt, .ref x_nameSize, .ref x_heads, .ref x_nexts, .int x_names, .int x_poolSize, .int x_knownSize, .int v_size, .int x_here, .int x_tokens, .int x_kind, .int x_start, .int x_meaning, .int x_trouble, .int x_spelled])), (x_heads, .inl (c_heads, 512, .inl f_heads)), (x_nexts, .inl (c_nexts, 2176, .inl f_nexts))] := hD
  refine lv_aload_n hx hb dX4_open_5 rfl (lv_at hl 0 rfl) ?_
  refine lv_iconst (v := 0) hx hb dX4_open_6 (by decide) ?_
  refine va_put (D := (dC, dI)) (ci := 4) (v := .int 0) (ty := .int) (C := RX4) (T := TX4) (N := 18) hx hb hts (fun _ h9 => List.mem_cons_of_mem _ (List.mem_append_right _ h9)) tyX4 tyX4_ok nmX4 hown hK hP hD hS 0 rfl rfl 11 (by decide) (hts _ (List.mem_cons_of_mem _ (List.mem_append_left _ (List.mem_of_getElem? (i := 1) rfl)))) (fun _ h9 => h9) rfl (by decide +kernel) rfl rfl (Nat.le_of_ble_eq_true rfl) dX4_open_7 ?_
  clear hP hD hS
  intro H locs hP hD hS
  replace hP : va_P (dC, dI) vwCl [(h0, .inr (4, [.ref x_text, .ref x_pool, .ref x_scratch, .ref x_nameAt, .ref x_nameSize, .ref x_heads, .ref x_nexts, .int x_names, .int x_poolSize, .int x_knownSize, .int v_size, .int 0, .int x_tokens, .int x_kind, .int x_start, .int x_meaning, .int x_trouble, .int x_spelled])), (x_heads, .inl (c_heads, 512, .inl f_heads)), (x_nexts, .inl (c_nexts, 2176, .inl f_nexts))] H := hP
  replace hD : va_D A [(h0, .inr (4, [.ref x_text, .ref x_pool, .ref x_scratch, .ref x_nameAt, .ref x_nameSize, .ref x_heads, .ref x_nexts, .int x_names, .int x_poolSize, .int x_knownSize, .int v_size, .int 0, .int x_tokens, .int x_kind, .int x_start, .int x_meaning, .int x_trouble, .int x_spelled])), (x_heads, .inl (c_heads, 512, .inl f_heads)), (x_nexts, .inl (c_nexts, 2176, .inl f_nexts))] := hD
  refine lv_aload_n hx hb dX4_open_10 rfl (lv_at hl 0 rfl) ?_
  refine lv_iconst (v := 0) hx hb dX4_open_11 (by decide) ?_
  refine va_put (D := (dC, dI)) (ci := 4) (v := .int 0) (ty := .int) (C := RX4) (T := TX4) (N := 18) hx hb hts (fun _ h9 => List.mem_cons_of_mem _ (List.mem_append_right _ h9)) tyX4 tyX4_ok nmX4 hown hK hP hD hS 0 rfl rfl 12 (by decide) (hts _ (List.mem_cons_of_mem _ (List.mem_append_left _ (List.mem_of_getElem? (i := 2) rfl)))) (fun _ h9 => h9) rfl (by decide +kernel) rfl rfl (Nat.le_of_ble_eq_true rfl) dX4_open_12 ?_
  clear hP hD hS
  intro H locs hP hD hS
  replace hP : va_P (dC, dI) vwCl [(h0, .inr (4, [.ref x_text, .ref x_pool, .ref x_scratch, .ref x_nameAt, .ref x_nameSize, .ref x_heads, .ref x_nexts, .int x_names, .int x_poolSize, .int x_knownSize, .int v_size, .int 0, .int 0, .int x_kind, .int x_start, .int x_meaning, .int x_trouble, .int x_spelled])), (x_heads, .inl (c_heads, 512, .inl f_heads)), (x_nexts, .inl (c_nexts, 2176, .inl f_nexts))] H := hP
  replace hD : va_D A [(h0, .inr (4, [.ref x_text, .ref x_pool, .ref x_scratch, .ref x_nameAt, .ref x_nameSize, .ref x_heads, .ref x_nexts, .int x_names, .int x_poolSize, .int x_knownSize, .int v_size, .int 0, .int 0, .int x_kind, .int x_start, .int x_meaning, .int x_trouble, .int x_spelled])), (x_heads, .inl (c_heads, 512, .inl f_heads)), (x_nexts, .inl (c_nexts, 2176, .inl f_nexts))] := hD
  refine lv_aload_n hx hb dX4_open_15 rfl (lv_at hl 0 rfl) ?_
  refine lv_iconst (v := 0) hx hb dX4_open_16 (by decide) ?_
  refine va_put (D := (dC, dI)) (ci := 4) (v := .int 0) (ty := .int) (C := RX4) (T := TX4) (N := 18) hx hb hts (fun _ h9 => List.mem_cons_of_mem _ (List.mem_append_right _ h9)) tyX4 tyX4_ok nmX4 hown hK hP hD hS 0 rfl rfl 16 (by decide) (hts _ (List.mem_cons_of_mem _ (List.mem_append_left _ (List.mem_of_getElem? (i := 3) rfl)))) (fun _ h9 => h9) rfl (by decide +kernel) rfl rfl (Nat.le_of_ble_eq_true rfl) dX4_open_17 ?_
  clear hP hD hS
  intro H locs hP hD hS
  replace hP : va_P (dC, dI) vwCl [(h0, .inr (4, [.ref x_text, .ref x_pool, .ref x_scratch, .ref x_nameAt, .ref x_nameSize, .ref x_heads, .ref x_nexts, .int x_names, .int x_poolSize, .int x_knownSize, .int v_size, .int 0, .int 0, .int x_kind, .int x_start, .int x_meaning, .int 0, .int x_spelled])), (x_heads, .inl (c_heads, 512, .inl f_heads)), (x_nexts, .inl (c_nexts, 2176, .inl f_nexts))] H := hP
  replace hD : va_D A [(h0, .inr (4, [.ref x_text, .ref x_pool, .ref x_scratch, .ref x_nameAt, .ref x_nameSize, .ref x_heads, .ref x_nexts, .int x_names, .int x_poolSize, .int x_knownSize, .int v_size, .int 0, .int 0, .int x_kind, .int x_start, .int x_meaning, .int 0, .int x_spelled])), (x_heads, .inl (c_heads, 512, .inl f_heads)), (x_nexts, .inl (c_nexts, 2176, .inl f_nexts))] := hD
  refine lv_aload_n hx hb dX4_open_20 rfl (lv_at hl 0 rfl) ?_
  refine lv_bipush (v := 55) hx hb dX4_open_21 (by decide) ?_
  refine va_put (D := (dC, dI)) (ci := 4) (v := .int 55) (ty := .int) (C := RX4) (T := TX4) (N := 18) hx hb hts (fun _ h9 => List.mem_cons_of_mem _ (List.mem_append_right _ h9)) tyX4 tyX4_ok nmX4 hown hK hP hD hS 0 rfl rfl 13 (by decide) (hts _ (List.mem_cons_of_mem _ (List.mem_append_left _ (List.mem_of_getElem? (i := 4) rfl)))) (fun _ h9 => h9) rfl (by decide +kernel) rfl rfl (Nat.le_of_ble_eq_true rfl) dX4_open_23 ?_
  clear hP hD hS
  intro H locs hP hD hS
  replace hP : va_P (dC, dI) vwCl [(h0, .inr (4, [.ref x_text, .ref x_pool, .ref x_scratch, .ref x_nameAt, .ref x_nameSize, .ref x_heads, .ref x_nexts, .int x_names, .int x_poolSize, .int x_knownSize, .int v_size, .int 0, .int 0, .int 55, .int x_start, .int x_meaning, .int 0, .int x_spelled])), (x_heads, .inl (c_heads, 512, .inl f_heads)), (x_nexts, .inl (c_nexts, 2176, .inl f_nexts))] H := hP
  replace hD : va_D A [(h0, .inr (4, [.ref x_text, .ref x_pool, .ref x_scratch, .ref x_nameAt, .ref x_nameSize, .ref x_heads, .ref x_nexts, .int x_names, .int x_poolSize, .int x_knownSize, .int v_size, .int 0, .int 0, .int 55, .int x_start, .int x_meaning, .int 0, .int x_spelled])), (x_heads, .inl (c_heads, 512, .inl f_heads)), (x_nexts, .inl (c_nexts, 2176, .inl f_nexts))] := hD
  refine lv_aload_n hx hb dX4_open_26 rfl (lv_at hl 0 rfl) ?_
  refine lv_iconst (v := 0) hx hb dX4_open_27 (by decide) ?_
  refine va_put (D := (dC, dI)) (ci := 4) (v := .int 0) (ty := .int) (C := RX4) (T := TX4) (N := 18) hx hb hts (fun _ h9 => List.mem_cons_of_mem _ (List.mem_append_right _ h9)) tyX4 tyX4_ok nmX4 hown hK hP hD hS 0 rfl rfl 14 (by decide) (hts _ (List.mem_cons_of_mem _ (List.mem_append_left _ (List.mem_of_getElem? (i := 5) rfl)))) (fun _ h9 => h9) rfl (by decide +kernel) rfl rfl (Nat.le_of_ble_eq_true rfl) dX4_open_28 ?_
  clear hP hD hS
  intro H locs hP hD hS
  replace hP : va_P (dC, dI) vwCl [(h0, .inr (4, [.ref x_text, .ref x_pool, .ref x_scratch, .ref x_nameAt, .ref x_nameSize, .ref x_heads, .ref x_nexts, .int x_names, .int x_poolSize, .int x_knownSize, .int v_size, .int 0, .int 0, .int 55, .int 0, .int x_meaning, .int 0, .int x_spelled])), (x_heads, .inl (c_heads, 512, .inl f_heads)), (x_nexts, .inl (c_nexts, 2176, .inl f_nexts))] H := hP
  replace hD : va_D A [(h0, .inr (4, [.ref x_text, .ref x_pool, .ref x_scratch, .ref x_nameAt, .ref x_nameSize, .ref x_heads, .ref x_nexts, .int x_names, .int x_poolSize, .int x_knownSize, .int v_size, .int 0, .int 0, .int 55, .int 0, .int x_meaning, .int 0, .int x_spelled])), (x_heads, .inl (c_heads, 512, .inl f_heads)), (x_nexts, .inl (c_nexts, 2176, .inl f_nexts))] := hD
  refine lv_aload_n hx hb dX4_open_31 rfl (lv_at hl 0 rfl) ?_
  refine aft_v (wr := []) (va_runV (As := []) (rest := []) ⟨hx, hb, hml, hown, hts⟩ (c_X4_forget l dC dI H.size h0 x_text x_pool x_scratch x_nameAt x_nameSize x_heads x_nexts x_names x_poolSize x_knownSize v_size 0 0 55 0 x_meaning 0 x_spelled c_heads f_heads c_nexts f_nexts) (cwV 0 hts gzX4_open_X4_forget_V83 rfl rfl rfl (by decide +kernel) ⟨Nat.le_of_ble_eq_true rfl, Nat.le_of_ble_eq_true rfl⟩) (wB.preV (hP.sub (ws' := [(h0, .inr (4, [.ref x_text, .ref x_pool, .ref x_scratch, .ref x_nameAt, .ref x_nameSize, .ref x_heads, .ref x_nexts, .int x_names, .int x_poolSize, .int x_knownSize, .int v_size, .int 0, .int 0, .int 55, .int 0, .int x_meaning, .int 0, .int x_spelled])), (x_heads, .inl (c_heads, 512, .inl f_heads)), (x_nexts, .inl (c_nexts, 2176, .inl f_nexts))]) [0, 1, 2] rfl) (hK.sub (tys' := [(c_heads, .int), (c_nexts, .int)]) [0, 1] rfl) (hD.sub (ws' := [(h0, .inr (4, [.ref x_text, .ref x_pool, .ref x_scratch, .ref x_nameAt, .ref x_nameSize, .ref x_heads, .ref x_nexts, .int x_names, .int x_poolSize, .int x_knownSize, .int v_size, .int 0, .int 0, .int 55, .int 0, .int x_meaning, .int 0, .int x_spelled])), (x_heads, .inl (c_heads, 512, .inl f_heads)), (x_nexts, .inl (c_nexts, 2176, .inl f_nexts))]) [0, 1, 2] (by decide) rfl) hN 4 0 rfl rfl) rfl rfl hl.1 rfl (lv_room (Nat.le_of_ble_eq_true rfl)) dX4_open_32 ⟨Nat.le_of_ble_eq_true rfl, Nat.le_of_ble_eq_true rfl⟩) hP hD hS hA [0, 1, 2] [] rfl rfl (by decide) (by decide) ?_
  clear hP hD hS
  intro u_1 H locs w_3 hK1 hP hD hS
  obtain ⟨gheads_4, rfl⟩ : ∃ z, z = u_1 := ⟨_, rfl⟩
  replace hP : va_P (dC, dI) vwCl [(h0, .inr (4, [.ref x_text, .ref x_pool, .ref x_scratch, .ref x_nameAt, .ref x_nameSize, .ref x_heads, .ref x_nexts, .int 51, .int x_knownSize, .int x_knownSize, .int v_size, .int 0, .int 0, .int 55, .int 0, .int x_meaning, .int 0, .int x_spelled])), (x_heads, .inl (c_heads, 512, .inl gheads_4)), (x_nexts, .inl (c_nexts, 2176, .inl f_nexts))] H := hP
  replace hD : va_D A [(h0, .inr (4, [.ref x_text, .ref x_pool, .ref x_scratch, .ref x_nameAt, .ref x_nameSize, .ref x_heads, .ref x_nexts, .int 51, .int x_knownSize, .int x_knownSize, .int v_size, .int 0, .int 0, .int 55, .int 0, .int x_meaning, .int 0, .int x_spelled])), (x_heads, .inl (c_heads, 512, .inl gheads_4)), (x_nexts, .inl (c_nexts, 2176, .inl f_nexts))] := hD
  clear hK1
  try dsimp only at w_3
  have hP9 := hP.sub (ws' := [(h0, .inr (4, [.ref x_text, .ref x_pool, .ref x_scratch, .ref x_nameAt, .ref x_nameSize, .ref x_heads, .ref x_nexts, .int 51, .int x_knownSize, .int x_knownSize, .int v_size, .int 0, .int 0, .int 55, .int 0, .int x_meaning, .int 0, .int x_spelled])), (x_heads, .inl (c_heads, 512, .inl gheads_4)), (x_nexts, .inl (c_nexts, 2176, .inl f_nexts))]) [0, 1, 2] rfl
  have hD9 := hD.sub (ws' := [(h0, .inr (4, [.ref x_text, .ref x_pool, .ref x_scratch, .ref x_nameAt, .ref x_nameSize, .ref x_heads, .ref x_nexts, .int 51, .int x_knownSize, .int x_knownSize, .int v_size, .int 0, .int 0, .int 55, .int 0, .int x_meaning, .int 0, .int x_spelled])), (x_heads, .inl (c_heads, 512, .inl gheads_4)), (x_nexts, .inl (c_nexts, 2176, .inl f_nexts))]) [0, 1, 2] (by decide) rfl
  have hK9 := hK.sub (tys' := [(c_heads, .int), (c_nexts, .int)]) [0, 1] rfl
  exact W.vret hx hb hr (fun t ht hW => ⟨⟨gheads_4, rfl, trivial, wE.of ht hW hP9 hK9 hD9⟩, hS.F ht⟩) hS.2.2 dX4_open_35

theorem dX4_peek_0 : decode cX4_peek 0 = .ok (.iload_n 1, 1) := by decide +kernel
theorem dX4_peek_1 : decode cX4_peek 1 = .ok (.ifCond .lt 33, 3) := by decide +kernel
theorem dX4_peek_4 : decode cX4_peek 4 = .ok (.iload_n 1, 1) := by decide +kernel
theorem dX4_peek_5 : decode cX4_peek 5 = .ok (.aload_n 0, 1) := by decide +kernel
theorem dX4_peek_6 : decode cX4_peek 6 = .ok (.getfield 65, 3) := by decide +kernel
theorem dX4_peek_9 : decode cX4_peek 9 = .ok (.if_icmp .ge 25, 3) := by decide +kernel
theorem dX4_peek_34 : decode cX4_peek 34 = .ok (.iconst (-1), 1) := by decide +kernel
theorem dX4_peek_35 : decode cX4_peek 35 = .ok (.ireturn, 1) := by decide +kernel
def zlX4_peek : List Cond := [.fieldLink RX4 65 "LeanHouse$Lexer" "textSize" "I"]
def zsX4_peek : List Cond := .code yX4_peek cX4_peek 2 (some .int) :: (zlX4_peek ++ (wsX40))
set_option maxHeartbeats 8000000 in
set_option maxRecDepth 100000 in
theorem c_X4_peek (l : Launch) (dC : Nat → ClassId) (dI : Nat → Nat → Nat) (sz : Nat) (h0 : Nat) (x_text : Nat) (x_pool : Nat) (x_scratch : Nat) (x_nameAt : Nat) (x_nameSize : Nat) (x_heads : Nat) (x_nexts : Nat) (x_names : Int32) (x_poolSize : Int32) (x_knownSize : Int32) (x_here : Int32) (x_tokens : Int32) (x_kind : Int32) (x_start : Int32) (x_meaning : Int32) (x_trouble : Int32) (x_spelled : Int32) (v_k : Int32) : Met l yX4_peek zsX4_peek ({ frames := 1, cells := 0, slots := 0, locals := 12 } : Room) (va_Pc [.ref h0, .int v_k] (wB (dC, dI) vwCl nestM [] [(h0, .inr (4, [.ref x_text, .ref x_pool, .ref x_scratch, .ref x_nameAt, .ref x_nameSize, .ref x_heads, .ref x_nexts, .int x_names, .int x_poolSize, .int x_knownSize, .int 0, .int x_here, .int x_tokens, .int x_kind, .int x_start, .int x_meaning, .int x_trouble, .int x_spelled]))] sz)) (va_Qi (fun (r : Int32) (u : Unit) => r = -1) (fun (u : Unit) (t : State) => wE (dC, dI) vwCl [] [(h0, .inr (4, [.ref x_text, .ref x_pool, .ref x_scratch, .ref x_nameAt, .ref x_nameSize, .ref x_heads, .ref x_nexts, .int x_names, .int x_poolSize, .int x_knownSize, .int 0, .int x_here, .int x_tokens, .int x_kind, .int x_start, .int x_meaning, .int x_trouble, .int x_spelled]))] (va_A [(h0, .inr (4, [.ref x_text, .ref x_pool, .ref x_scratch, .ref x_nameAt, .ref x_nameSize, .ref x_heads, .ref x_nexts, .int x_names, .int x_poolSize, .int x_knownSize, .int 0, .int x_here, .int x_tokens, .int x_kind, .int x_start, .int x_meaning, .int x_trouble, .int x_spelled]))] sz) t) (va_A [(h0, .inr (4, [.ref x_text, .ref x_pool, .ref x_scratch, .ref x_nameAt, .ref x_nameSize, .ref x_heads, .ref x_nexts, .int x_names, .int x_poolSize, .int x_knownSize, .int 0, .int x_here, .int x_tokens, .int x_kind, .int x_start, .int x_meaning, .int x_trouble, .int x_spelled]))] sz)) 0 0 (va_A [(h0, .inr (4, [.ref x_text, .ref x_pool, .ref x_scratch, .ref x_nameAt, .ref x_nameSize, .ref x_heads, .ref x_nexts, .int x_names, .int x_poolSize, .int x_knownSize, .int 0, .int x_here, .int x_tokens, .int x_kind, .int x_start, .int x_meaning, .int x_trouble, .int x_spelled]))] sz) := by
  refine Met.ofW (cc := cX4_peek) (maxL := 2) (ret := (some .int)) (by decide) rfl ?_
  intro p e s m args below meth c s₁ B hml hv
  obtain ⟨rfl, hsz, hP, hK, hD0, hN⟩ := hv
  have hx := B.exec
  have hb := B.bytes
  have hr := B.returns
  have hts := atoms_spec (ws := zsX4_peek) B.pre
  have hown : s.vm.findClass RX4 = some m.cls := findClass_of_methodNamed B.named
  have hlocks := B.notSynchronized
  subst hsz
  have hD := hD0.self (sz := s.heap.size)
  generalize hAe : va_A [(h0, .inr (4, [.ref x_text, .ref x_pool, .ref x_scratch, .ref x_nameAt, .ref x_nameSize, .ref x_heads, .ref x_nexts, .int x_names, .int x_poolSize, .int x_knownSize, .int 0, .int x_here, .int x_tokens, .int x_kind, .int x_start, .int x_meaning, .int x_trouble, .int x_spelled]))] s.heap.size = A at hD ⊢
  have hA : ∀ q : Nat, s.heap.size ≤ q → A q := fun q h => by rw [← hAe]; exact Or.inr h
  have hS : va_S A s.heap s.heap [] := va_S.rf
  have hP : va_P (dC, dI) vwCl [(h0, .inr (4, [.ref x_text, .ref x_pool, .ref x_scratch, .ref x_nameAt, .ref x_nameSize, .ref x_heads, .ref x_nexts, .int x_names, .int x_poolSize, .int x_knownSize, .int 0, .int x_here, .int x_tokens, .int x_kind, .int x_start, .int x_meaning, .int x_trouble, .int x_spelled]))] s.heap := hP
  have hl := lv_entry ([.ref h0, .int v_k]) (n := 2) (Nat.le_of_ble_eq_true rfl)
  rw [lg_entry_eq]
  generalize (lg_sl ([.ref h0, .int v_k]) ++ List.replicate (2 - (lg_sl ([.ref h0, .int v_k])).length) Slot.unset).toArray = ls at hl ⊢
  have hl : lv_has ls 2 [(0, .ref h0), (1, .int v_k)] := hl
  refine lv_iload_n hx hb dX4_peek_0 rfl (lv_at hl 1 rfl) ?_
  refine lv_if_lt (tgt := 34) hx hb dX4_peek_1 (by decide) (fun c_1 => ?_) (fun c_1 => ?_)
  · refine lv_iconst (v := (-1)) hx hb dX4_peek_34 (by decide) ?_
    have hP9 := hP.sub (ws' := [(h0, .inr (4, [.ref x_text, .ref x_pool, .ref x_scratch, .ref x_nameAt, .ref x_nameSize, .ref x_heads, .ref x_nexts, .int x_names, .int x_poolSize, .int x_knownSize, .int 0, .int x_here, .int x_tokens, .int x_kind, .int x_start, .int x_meaning, .int x_trouble, .int x_spelled]))]) [0] rfl
    have hD9 := hD.sub (ws' := [(h0, .inr (4, [.ref x_text, .ref x_pool, .ref x_scratch, .ref x_nameAt, .ref x_nameSize, .ref x_heads, .ref x_nexts, .int x_names, .int x_poolSize, .int x_knownSize, .int 0, .int x_here, .int x_tokens, .int x_kind, .int x_start, .int x_meaning, .int x_trouble, .int x_spelled]))]) [0] (by decide) rfl
    have hK9 := hK.sub (tys' := []) [] rfl
    exact W.iret (v := (-1)) hx hb hr (fun t ht hW => ⟨⟨(-1), (), rfl, rfl, wE.of ht hW hP9 hK9 hD9⟩, hS.F ht⟩) hS.2.2 dX4_peek_35
  · refine lv_iload_n hx hb dX4_peek_4 rfl (lv_at hl 1 rfl) ?_
    refine lv_aload_n hx hb dX4_peek_5 rfl (lv_at hl 0 rfl) ?_
    refine va_get (D := (dC, dI)) (ci := 4) (v := .int 0) (C := RX4) (T := TX4) (N := 18) hx hb hts (fun _ h9 => List.mem_cons_of_mem _ (List.mem_append_right _ h9)) hown hK hP 0 rfl rfl 10 (by decide) (hts _ (List.mem_cons_of_mem _ (List.mem_append_left _ (List.mem_of_getElem? (i := 0) rfl)))) (fun _ h9 => h9) rfl dX4_peek_6 ?_
    refine lv_icmp_ge (tgt := 34) hx hb dX4_peek_9 (by decide) (fun c_2 => ?_) (fun c_2 => absurd (Int32.not_lt.mp c_1) c_2)
    refine lv_iconst (v := (-1)) hx hb dX4_peek_34 (by decide) ?_
    have hP9 := hP.sub (ws' := [(h0, .inr (4, [.ref x_text, .ref x_pool, .ref x_scratch, .ref x_nameAt, .ref x_nameSize, .ref x_heads, .ref x_nexts, .int x_names, .int x_poolSize, .int x_knownSize, .int 0, .int x_here, .int x_tokens, .int x_kind, .int x_start, .int x_meaning, .int x_trouble, .int x_spelled]))]) [0] rfl
    have hD9 := hD.sub (ws' := [(h0, .inr (4, [.ref x_text, .ref x_pool, .ref x_scratch, .ref x_nameAt, .ref x_nameSize, .ref x_heads, .ref x_nexts, .int x_names, .int x_poolSize, .int x_knownSize, .int 0, .int x_here, .int x_tokens, .int x_kind, .int x_start, .int x_meaning, .int x_trouble, .int x_spelled]))]) [0] (by decide) rfl
    have hK9 := hK.sub (tys' := []) [] rfl
    exact W.iret (v := (-1)) hx hb hr (fun t ht hW => ⟨⟨(-1), (), rfl, rfl, wE.of ht hW hP9 hK9 hD9⟩, hS.F ht⟩) hS.2.2 dX4_peek_35

theorem dX4_skipBlanks_0 : decode cX4_skipBlanks 0 = .ok (.iconst 0, 1) := by decide +kernel
theorem dX4_skipBlanks_1 : decode cX4_skipBlanks 1 = .ok (.istore_n 1, 1) := by decide +kernel
theorem dX4_skipBlanks_2 : decode cX4_skipBlanks 2 = .ok (.iconst 0, 1) := by decide +kernel
theorem dX4_skipBlanks_3 : decode cX4_skipBlanks 3 = .ok (.istore_n 2, 1) := by decide +kernel
theorem dX4_skipBlanks_4 : decode cX4_skipBlanks 4 = .ok (.iload_n 2, 1) := by decide +kernel
theorem dX4_skipBlanks_5 : decode cX4_skipBlanks 5 = .ok (.sipush 8192, 3) := by decide +kernel
theorem dX4_skipBlanks_8 : decode cX4_skipBlanks 8 = .ok (.if_icmp .gt 153, 3) := by decide +kernel
theorem dX4_skipBlanks_11 : decode cX4_skipBlanks 11 = .ok (.aload_n 0, 1) := by decide +kernel
theorem dX4_skipBlanks_12 : decode cX4_skipBlanks 12 = .ok (.aload_n 0, 1) := by decide +kernel
theorem dX4_skipBlanks_13 : decode cX4_skipBlanks 13 = .ok (.getfield 68, 3) := by decide +kernel
theorem dX4_skipBlanks_16 : decode cX4_skipBlanks 16 = .ok (.invokevirtual 100, 3) := by decide +kernel
theorem dX4_skipBlanks_19 : decode cX4_skipBlanks 19 = .ok (.istore_n 3, 1) := by decide +kernel
theorem dX4_skipBlanks_20 : decode cX4_skipBlanks 20 = .ok (.aload_n 0, 1) := by decide +kernel
theorem dX4_skipBlanks_21 : decode cX4_skipBlanks 21 = .ok (.aload_n 0, 1) := by decide +kernel
theorem dX4_skipBlanks_22 : decode cX4_skipBlanks 22 = .ok (.getfield 68, 3) := by decide +kernel
theorem dX4_skipBlanks_25 : decode cX4_skipBlanks 25 = .ok (.iconst 1, 1) := by decide +kernel
theorem dX4_skipBlanks_26 : decode cX4_skipBlanks 26 = .ok (.iadd, 1) := by decide +kernel
theorem dX4_skipBlanks_27 : decode cX4_skipBlanks 27 = .ok (.invokevirtual 100, 3) := by decide +kernel
theorem dX4_skipBlanks_30 : decode cX4_skipBlanks 30 = .ok (.istore 4, 2) := by decide +kernel
theorem dX4_skipBlanks_32 : decode cX4_skipBlanks 32 = .ok (.iload_n 3, 1) := by decide +kernel
theorem dX4_skipBlanks_33 : decode cX4_skipBlanks 33 = .ok (.bipush 40, 2) := by decide +kernel
theorem dX4_skipBlanks_35 : decode cX4_skipBlanks 35 = .ok (.if_icmp .ne 38, 3) := by decide +kernel
theorem dX4_skipBlanks_73 : decode cX4_skipBlanks 73 = .ok (.iload_n 1, 1) := by decide +kernel
theorem dX4_skipBlanks_74 : decode cX4_skipBlanks 74 = .ok (.ifCond .le 32, 3) := by decide +kernel
theorem dX4_skipBlanks_106 : decode cX4_skipBlanks 106 = .ok (.iload_n 3, 1) := by decide +kernel
theorem dX4_skipBlanks_107 : decode cX4_skipBlanks 107 = .ok (.bipush 9, 2) := by decide +kernel
theorem dX4_skipBlanks_109 : decode cX4_skipBlanks 109 = .ok (.if_icmp .eq 23, 3) := by decide +kernel
theorem dX4_skipBlanks_112 : decode cX4_skipBlanks 112 = .ok (.iload_n 3, 1) := by decide +kernel
theorem dX4_skipBlanks_113 : decode cX4_skipBlanks 113 = .ok (.bipush 10, 2) := by decide +kernel
theorem dX4_skipBlanks_115 : decode cX4_skipBlanks 115 = .ok (.if_icmp .eq 17, 3) := by decide +kernel
theorem dX4_skipBlanks_118 : decode cX4_skipBlanks 118 = .ok (.iload_n 3, 1) := by decide +kernel
theorem dX4_skipBlanks_119 : decode cX4_skipBlanks 119 = .ok (.bipush 32, 2) := by decide +kernel
theorem dX4_skipBlanks_121 : decode cX4_skipBlanks 121 = .ok (.if_icmp .eq 11, 3) := by decide +kernel
theorem dX4_skipBlanks_124 : decode cX4_skipBlanks 124 = .ok (.iload_n 1, 1) := by decide +kernel
theorem dX4_skipBlanks_125 : decode cX4_skipBlanks 125 = .ok (.ifCond .le 20, 3) := by decide +kernel
theorem dX4_skipBlanks_145 : decode cX4_skipBlanks 145 = .ok (.iload_n 1, 1) := by decide +kernel
theorem dX4_skipBlanks_146 : decode cX4_skipBlanks 146 = .ok (.ifCond .le 8, 3) := by decide +kernel
theorem dX4_skipBlanks_154 : decode cX4_skipBlanks 154 = .ok (.return_, 1) := by decide +kernel
def zlX4_skipBlanks : List Cond := [.fieldLink RX4 68 "LeanHouse$Lexer" "here" "I", .methodLink RX4 100 yX4_peek, .instanceMethod yX4_peek, .selects RX4 yX4_peek yX4_peek, .initialized RX4, .code yX4_peek cX4_peek 2 (some .int), .fieldLink RX4 65 "LeanHouse$Lexer" "textSize" "I"]
def zsX4_skipBlanks : List Cond := .code yX4_skipBlanks cX4_skipBlanks 5 none :: (zlX4_skipBlanks ++ (wsX40))
set_option maxRecDepth 20000 in
theorem gzX4_skipBlanks_X4_peek_V100 : GoodIn zsX4_skipBlanks (wsV RX4 100 RX4 yX4_peek zsX4_peek) := (goodIn_app (goodIn_r _ [2, 3, 4, 5] (by decide +kernel) (by decide +kernel)) (goodIn_ca (goodIn_r _ [6, 7] (by decide +kernel) (by decide +kernel)) (goodIn_sub (fun _ h9 => List.mem_cons_of_mem _ (List.mem_append_right _ h9)) gwX4)))
set_option maxHeartbeats 8000000 in
set_option maxRecDepth 100000 in
theorem c_X4_skipBlanks (l : Launch) (dC : Nat → ClassId) (dI : Nat → Nat → Nat) (sz : Nat) (h0 : Nat) (x_text : Nat) (x_pool : Nat) (x_scratch : Nat) (x_nameAt : Nat) (x_nameSize : Nat) (x_heads : Nat) (x_nexts : Nat) (x_names : Int32) (x_poolSize : Int32) (x_knownSize : Int32) (x_tokens : Int32) (x_kind : Int32) (x_start : Int32) (x_meaning : Int32) (x_spelled : Int32) : Met l yX4_skipBlanks zsX4_skipBlanks ({ frames := 2, cells := 0, slots := 0, locals := 33 } : Room) (va_Pc [.ref h0] (wB (dC, dI) vwCl nestM [] [(h0, .inr (4, [.ref x_text, .ref x_pool, .ref x_scratch, .ref x_nameAt, .ref x_nameSize, .ref x_heads, .ref x_nexts, .int x_names, .int x_poolSize, .int x_knownSize, .int 0, .int 0, .int x_tokens, .int x_kind, .int x_start, .int x_meaning, .int 0, .int x_spelled]))] sz)) (va_Qv (fun (u : Unit) => True) (fun (u : Unit) (t : State) => wE (dC, dI) vwCl [] [(h0, .inr (4, [.ref x_text, .ref x_pool, .ref x_scratch, .ref x_nameAt, .ref x_nameSize, .ref x_heads, .ref x_nexts, .int x_names, .int x_poolSize, .int x_knownSize, .int 0, .int 0, .int x_tokens, .int x_kind, .int x_start, .int x_meaning, .int 0, .int x_spelled]))] (va_A [(h0, .inr (4, [.ref x_text, .ref x_pool, .ref x_scratch, .ref x_nameAt, .ref x_nameSize, .ref x_heads, .ref x_nexts, .int x_names, .int x_poolSize, .int x_knownSize, .int 0, .int 0, .int x_tokens, .int x_kind, .int x_start, .int x_meaning, .int 0, .int x_spelled]))] sz) t) (va_A [(h0, .inr (4, [.ref x_text, .ref x_pool, .ref x_scratch, .ref x_nameAt, .ref x_nameSize, .ref x_heads, .ref x_nexts, .int x_names, .int x_poolSize, .int x_knownSize, .int 0, .int 0, .int x_tokens, .int x_kind, .int x_start, .int x_meaning, .int 0, .int x_spelled]))] sz)) 0 0 (va_A [(h0, .inr (4, [.ref x_text, .ref x_pool, .ref x_scratch, .ref x_nameAt, .ref x_nameSize, .ref x_heads, .ref x_nexts, .int x_names, .int x_poolSize, .int x_knownSize, .int 0, .int 0, .int x_tokens, .int x_kind, .int x_start, .int x_meaning, .int 0, .int x_spelled]))] sz) := by
  refine Met.ofW (cc := cX4_skipBlanks) (maxL := 5) (ret := none) (by decide) rfl ?_
  intro p e s m args below meth c s₁ B hml hv
  obtain ⟨rfl, hsz, hP, hK, hD0, hN⟩ := hv
  have hx := B.exec
  have hb := B.bytes
  have hr := B.returns
  have hts := atoms_spec (ws := zsX4_skipBlanks) B.pre
  have hown : s.vm.findClass RX4 = some m.cls := findClass_of_methodNamed B.named
  have hlocks := B.notSynchronized
  subst hsz
  have hD := hD0.self (sz := s.heap.size)
  generalize hAe : va_A [(h0, .inr (4, [.ref x_text, .ref x_pool, .ref x_scratch, .ref x_nameAt, .ref x_nameSize, .ref x_heads, .ref x_nexts, .int x_names, .int x_poolSize, .int x_knownSize, .int 0, .int 0, .int x_tokens, .int x_kind, .int x_start, .int x_meaning, .int 0, .int x_spelled]))] s.heap.size = A at hD ⊢
  have hA : ∀ q : Nat, s.heap.size ≤ q → A q := fun q h => by rw [← hAe]; exact Or.inr h
  have hS : va_S A s.heap s.heap [] := va_S.rf
  have hP : va_P (dC, dI) vwCl [(h0, .inr (4, [.ref x_text, .ref x_pool, .ref x_scratch, .ref x_nameAt, .ref x_nameSize, .ref x_heads, .ref x_nexts, .int x_names, .int x_poolSize, .int x_knownSize, .int 0, .int 0, .int x_tokens, .int x_kind, .int x_start, .int x_meaning, .int 0, .int x_spelled]))] s.heap := hP
  have hl := lv_entry ([.ref h0]) (n := 5) (Nat.le_of_ble_eq_true rfl)
  rw [lg_entry_eq]
  generalize (lg_sl ([.ref h0]) ++ List.replicate (5 - (lg_sl ([.ref h0])).length) Slot.unset).toArray = ls at hl ⊢
  have hl : lv_has ls 5 [(0, .ref h0)] := hl
  refine lv_iconst (v := 0) hx hb dX4_skipBlanks_0 (by decide) ?_
  refine lv_istore_n (lv' := [(1, .int 0), (0, .ref h0)]) hx hb dX4_skipBlanks_1 rfl hl (by decide) rfl ?_
  clear hl
  intro ls hl
  refine lv_iconst (v := 0) hx hb dX4_skipBlanks_2 (by decide) ?_
  refine lv_istore_n (lv' := [(2, .int 0), (1, .int 0), (0, .ref h0)]) hx hb dX4_skipBlanks_3 rfl hl (by decide) rfl ?_
  clear hl
  intro ls hl
  refine lv_iload_n hx hb dX4_skipBlanks_4 rfl (lv_at hl 0 rfl) ?_
  refine lv_sipush (v := 8192) hx hb dX4_skipBlanks_5 (by decide) ?_
  refine lv_icmp_gt (tgt := 161) hx hb dX4_skipBlanks_8 (by decide) (fun c_1 => absurd c_1 (by decide)) (fun c_1 => ?_)
  refine lv_aload_n hx hb dX4_skipBlanks_11 rfl (lv_at hl 2 rfl) ?_
  refine lv_aload_n hx hb dX4_skipBlanks_12 rfl (lv_at hl 2 rfl) ?_
  refine va_get (D := (dC, dI)) (ci := 4) (v := .int 0) (C := RX4) (T := TX4) (N := 18) hx hb hts (fun _ h9 => List.mem_cons_of_mem _ (List.mem_append_right _ h9)) hown hK hP 0 rfl rfl 11 (by decide) (hts _ (List.mem_cons_of_mem _ (List.mem_append_left _ (List.mem_of_getElem? (i := 0) rfl)))) (fun _ h9 => h9) rfl dX4_skipBlanks_13 ?_
  refine aft_i (wr := []) (va_runV (As := [.int 0]) (rest := []) ⟨hx, hb, hml, hown, hts⟩ (c_X4_peek l dC dI s.heap.size h0 x_text x_pool x_scratch x_nameAt x_nameSize x_heads x_nexts x_names x_poolSize x_knownSize 0 x_tokens x_kind x_start x_meaning 0 x_spelled 0) (cwV 1 hts gzX4_skipBlanks_X4_peek_V100 rfl rfl rfl (by decide +kernel) ⟨Nat.le_of_ble_eq_true rfl, Nat.le_of_ble_eq_true rfl⟩) (wB.preV (hP.sub (ws' := [(h0, .inr (4, [.ref x_text, .ref x_pool, .ref x_scratch, .ref x_nameAt, .ref x_nameSize, .ref x_heads, .ref x_nexts, .int x_names, .int x_poolSize, .int x_knownSize, .int 0, .int 0, .int x_tokens, .int x_kind, .int x_start, .int x_meaning, .int 0, .int x_spelled]))]) [0] rfl) (hK.sub (tys' := []) [] rfl) (hD.sub (ws' := [(h0, .inr (4, [.ref x_text, .ref x_pool, .ref x_scratch, .ref x_nameAt, .ref x_nameSize, .ref x_heads, .ref x_nexts, .int x_names, .int x_poolSize, .int x_knownSize, .int 0, .int 0, .int x_tokens, .int x_kind, .int x_start, .int x_meaning, .int 0, .int x_spelled]))]) [0] (by decide) rfl) hN 4 0 rfl rfl) rfl rfl hl.1 rfl (lv_room (Nat.le_of_ble_eq_true rfl)) dX4_skipBlanks_16 ⟨Nat.le_of_ble_eq_true rfl, Nat.le_of_ble_eq_true rfl⟩) hP hD hS hA [0] [] rfl rfl (by decide) (by decide) ?_
  clear hP hD hS
  intro r_3 u_2 H locs w_4 hK1 hP hD hS
  replace hP : va_P (dC, dI) vwCl [(h0, .inr (4, [.ref x_text, .ref x_pool, .ref x_scratch, .ref x_nameAt, .ref x_nameSize, .ref x_heads, .ref x_nexts, .int x_names, .int x_poolSize, .int x_knownSize, .int 0, .int 0, .int x_tokens, .int x_kind, .int x_start, .int x_meaning, .int 0, .int x_spelled]))] H := hP
  replace hD : va_D A [(h0, .inr (4, [.ref x_text, .ref x_pool, .ref x_scratch, .ref x_nameAt, .ref x_nameSize, .ref x_heads, .ref x_nexts, .int x_names, .int x_poolSize, .int x_knownSize, .int 0, .int 0, .int x_tokens, .int x_kind, .int x_start, .int x_meaning, .int 0, .int x_spelled]))] := hD
  clear hK1
  try dsimp only at w_4
  obtain rfl : r_3 = (-1) := w_4
  refine lv_istore_n (lv' := [(3, .int (-1)), (2, .int 0), (1, .int 0), (0, .ref h0)]) hx hb dX4_skipBlanks_19 rfl hl (by decide) rfl ?_
  clear hl
  intro ls hl
  refine lv_aload_n hx hb dX4_skipBlanks_20 rfl (lv_at hl 3 rfl) ?_
  refine lv_aload_n hx hb dX4_skipBlanks_21 rfl (lv_at hl 3 rfl) ?_
  refine va_get (D := (dC, dI)) (ci := 4) (v := .int 0) (C := RX4) (T := TX4) (N := 18) hx hb hts (fun _ h9 => List.mem_cons_of_mem _ (List.mem_append_right _ h9)) hown hK hP 0 rfl rfl 11 (by decide) (hts _ (List.mem_cons_of_mem _ (List.mem_append_left _ (List.mem_of_getElem? (i := 0) rfl)))) (fun _ h9 => h9) rfl dX4_skipBlanks_22 ?_
  refine lv_iconst (v := 1) hx hb dX4_skipBlanks_25 (by decide) ?_
  refine lv_iadd hx hb dX4_skipBlanks_26 ?_
  refine lv_topi (fun z_5 ez_5 => ?_)
  obtain rfl : z_5 = 1 := ez_5.trans (by decide)
  refine aft_i (wr := []) (va_runV (As := [.int 1]) (rest := []) ⟨hx, hb, hml, hown, hts⟩ (c_X4_peek l dC dI H.size h0 x_text x_pool x_scratch x_nameAt x_nameSize x_heads x_nexts x_names x_poolSize x_knownSize 0 x_tokens x_kind x_start x_meaning 0 x_spelled 1) (cwV 1 hts gzX4_skipBlanks_X4_peek_V100 rfl rfl rfl (by decide +kernel) ⟨Nat.le_of_ble_eq_true rfl, Nat.le_of_ble_eq_true rfl⟩) (wB.preV (hP.sub (ws' := [(h0, .inr (4, [.ref x_text, .ref x_pool, .ref x_scratch, .ref x_nameAt, .ref x_nameSize, .ref x_heads, .ref x_nexts, .int x_names, .int x_poolSize, .int x_knownSize, .int 0, .int 0, .int x_tokens, .int x_kind, .int x_start, .int x_meaning, .int 0, .int x_spelled]))]) [0] rfl) (hK.sub (tys' := []) [] rfl) (hD.sub (ws' := [(h0, .inr (4, [.ref x_text, .ref x_pool, .ref x_scratch, .ref x_nameAt, .ref x_nameSize, .ref x_heads, .ref x_nexts, .int x_names, .int x_poolSize, .int x_knownSize, .int 0, .int 0, .int x_tokens, .int x_kind, .int x_start, .int x_meaning, .int 0, .int x_spelled]))]) [0] (by decide) rfl) hN 4 0 rfl rfl) rfl rfl hl.1 rfl (lv_room (Nat.le_of_ble_eq_true rfl)) dX4_skipBlanks_27 ⟨Nat.le_of_ble_eq_true rfl, Nat.le_of_ble_eq_true rfl⟩) hP hD hS hA [0] [] rfl rfl (by decide) (by decide) ?_
  clear hP hD hS
  intro r_7 u_6 H locs w_8 hK1 hP hD hS
  replace hP : va_P (dC, dI) vwCl [(h0, .inr (4, [.ref x_text, .ref x_pool, .ref x_scratch, .ref x_nameAt, .ref x_nameSize, .ref x_heads, .ref x_nexts, .int x_names, .int x_poolSize, .int x_knownSize, .int 0, .int 0, .int x_tokens, .int x_kind, .int x_start, .int x_meaning, .int 0, .int x_spelled]))] H := hP
  replace hD : va_D A [(h0, .inr (4, [.ref x_text, .ref x_pool, .ref x_scratch, .ref x_nameAt, .ref x_nameSize, .ref x_heads, .ref x_nexts, .int x_names, .int x_poolSize, .int x_knownSize, .int 0, .int 0, .int x_tokens, .int x_kind, .int x_start, .int x_meaning, .int 0, .int x_spelled]))] := hD
  clear hK1
  try dsimp only at w_8
  obtain rfl : r_7 = (-1) := w_8
  refine lv_istore (lv' := [(4, .int (-1)), (3, .int (-1)), (2, .int 0), (1, .int 0), (0, .ref h0)]) hx hb dX4_skipBlanks_30 hl (by decide) rfl ?_
  clear hl
  intro ls hl
  refine lv_iload_n hx hb dX4_skipBlanks_32 rfl (lv_at hl 1 rfl) ?_
  refine lv_bipush (v := 40) hx hb dX4_skipBlanks_33 (by decide) ?_
  refine lv_icmp_ne (tgt := 73) hx hb dX4_skipBlanks_35 (by decide) (fun c_9 => ?_) (fun c_9 => absurd c_9 (by decide))
  refine lv_iload_n hx hb dX4_skipBlanks_73 rfl (lv_at hl 3 rfl) ?_
  refine lv_if_le (tgt := 106) hx hb dX4_skipBlanks_74 (by decide) (fun c_10 => ?_) (fun c_10 => absurd (by decide) c_10)
  refine lv_iload_n hx hb dX4_skipBlanks_106 rfl (lv_at hl 1 rfl) ?_
  refine lv_bipush (v := 9) hx hb dX4_skipBlanks_107 (by decide) ?_
  refine lv_icmp_eq (tgt := 132) hx hb dX4_skipBlanks_109 (by decide) (fun c_11 => absurd c_11 (by decide)) (fun c_11 => ?_)
  refine lv_iload_n hx hb dX4_skipBlanks_112 rfl (lv_at hl 1 rfl) ?_
  refine lv_bipush (v := 10) hx hb dX4_skipBlanks_113 (by decide) ?_
  refine lv_icmp_eq (tgt := 132) hx hb dX4_skipBlanks_115 (by decide) (fun c_12 => absurd c_12 (by decide)) (fun c_12 => ?_)
  refine lv_iload_n hx hb dX4_skipBlanks_118 rfl (lv_at hl 1 rfl) ?_
  refine lv_bipush (v := 32) hx hb dX4_skipBlanks_119 (by decide) ?_
  refine lv_icmp_eq (tgt := 132) hx hb dX4_skipBlanks_121 (by decide) (fun c_13 => absurd c_13 (by decide)) (fun c_13 => ?_)
  refine lv_iload_n hx hb dX4_skipBlanks_124 rfl (lv_at hl 3 rfl) ?_
  refine lv_if_le (tgt := 145) hx hb dX4_skipBlanks_125 (by decide) (fun c_14 => ?_) (fun c_14 => absurd (by decide) c_14)
  refine lv_iload_n hx hb dX4_skipBlanks_145 rfl (lv_at hl 3 rfl) ?_
  refine lv_if_le (tgt := 154) hx hb dX4_skipBlanks_146 (by decide) (fun c_15 => ?_) (fun c_15 => absurd (by decide) c_15)
  have hP9 := hP.sub (ws' := [(h0, .inr (4, [.ref x_text, .ref x_pool, .ref x_scratch, .ref x_nameAt, .ref x_nameSize, .ref x_heads, .ref x_nexts, .int x_names, .int x_poolSize, .int x_knownSize, .int 0, .int 0, .int x_tokens, .int x_kind, .int x_start, .int x_meaning, .int 0, .int x_spelled]))]) [0] rfl
  have hD9 := hD.sub (ws' := [(h0, .inr (4, [.ref x_text, .ref x_pool, .ref x_scratch, .ref x_nameAt, .ref x_nameSize, .ref x_heads, .ref x_nexts, .int x_names, .int x_poolSize, .int x_knownSize, .int 0, .int 0, .int x_tokens, .int x_kind, .int x_start, .int x_meaning, .int 0, .int x_spelled]))]) [0] (by decide) rfl
  have hK9 := hK.sub (tys' := []) [] rfl
  exact W.vret hx hb hr (fun t ht hW => ⟨⟨(), rfl, trivial, wE.of ht hW hP9 hK9 hD9⟩, hS.F ht⟩) hS.2.2 dX4_skipBlanks_154

theorem dX4_step_0 : decode cX4_step 0 = .ok (.aload_n 0, 1) := by decide +kernel
theorem dX4_step_1 : decode cX4_step 1 = .ok (.getfield 74, 3) := by decide +kernel
theorem dX4_step_4 : decode cX4_step 4 = .ok (.ifCond .eq 4, 3) := by decide +kernel
theorem dX4_step_8 : decode cX4_step 8 = .ok (.aload_n 0, 1) := by decide +kernel
theorem dX4_step_9 : decode cX4_step 9 = .ok (.invokevirtual 97, 3) := by decide +kernel
theorem dX4_step_12 : decode cX4_step 12 = .ok (.aload_n 0, 1) := by decide +kernel
theorem dX4_step_13 : decode cX4_step 13 = .ok (.getfield 74, 3) := by decide +kernel
theorem dX4_step_16 : decode cX4_step 16 = .ok (.ifCond .ne 190, 3) := by decide +kernel
theorem dX4_step_19 : decode cX4_step 19 = .ok (.aload_n 0, 1) := by decide +kernel
theorem dX4_step_20 : decode cX4_step 20 = .ok (.aload_n 0, 1) := by decide +kernel
theorem dX4_step_21 : decode cX4_step 21 = .ok (.getfield 68, 3) := by decide +kernel
theorem dX4_step_24 : decode cX4_step 24 = .ok (.putfield 80, 3) := by decide +kernel
theorem dX4_step_27 : decode cX4_step 27 = .ok (.aload_n 0, 1) := by decide +kernel
theorem dX4_step_28 : decode cX4_step 28 = .ok (.aload_n 0, 1) := by decide +kernel
theorem dX4_step_29 : decode cX4_step 29 = .ok (.getfield 68, 3) := by decide +kernel
theorem dX4_step_32 : decode cX4_step 32 = .ok (.invokevirtual 100, 3) := by decide +kernel
theorem dX4_step_35 : decode cX4_step 35 = .ok (.istore_n 1, 1) := by decide +kernel
theorem dX4_step_36 : decode cX4_step 36 = .ok (.iload_n 1, 1) := by decide +kernel
theorem dX4_step_37 : decode cX4_step 37 = .ok (.ifCond .ge 10, 3) := by decide +kernel
theorem dX4_step_40 : decode cX4_step 40 = .ok (.aload_n 0, 1) := by decide +kernel
theorem dX4_step_41 : decode cX4_step 41 = .ok (.bipush 54, 2) := by decide +kernel
theorem dX4_step_43 : decode cX4_step 43 = .ok (.putfield 77, 3) := by decide +kernel
theorem dX4_step_46 : decode cX4_step 46 = .ok (.return_, 1) := by decide +kernel
def zlX4_step : List Cond := [.fieldLink RX4 74 "LeanHouse$Lexer" "trouble" "I", .methodLink RX4 97 yX4_skipBlanks, .instanceMethod yX4_skipBlanks, .selects RX4 yX4_skipBlanks yX4_skipBlanks, .initialized RX4, .code yX4_skipBlanks cX4_skipBlanks 5 none, .fieldLink RX4 68 "LeanHouse$Lexer" "here" "I", .methodLink RX4 100 yX4_peek, .instanceMethod yX4_peek, .selects RX4 yX4_peek yX4_peek, .code yX4_peek cX4_peek 2 (some .int), .fieldLink RX4 65 "LeanHouse$Lexer" "textSize" "I", .fieldLink RX4 80 "LeanHouse$Lexer" "start" "I", .fieldLink RX4 77 "LeanHouse$Lexer" "kind" "I"]
def zsX4_step : List Cond := .code yX4_step cX4_step 2 none :: (zlX4_step ++ (wsX40))
set_option maxRecDepth 20000 in
theorem gzX4_step_X4_skipBlanks_V97 : GoodIn zsX4_step (wsV RX4 97 RX4 yX4_skipBlanks zsX4_skipBlanks) := (goodIn_app (goodIn_r _ [2, 3, 4, 5] (by decide +kernel) (by decide +kernel)) (goodIn_ca (goodIn_r _ [6, 7, 8, 9, 10, 5, 11, 12] (by decide +kernel) (by decide +kernel)) (goodIn_sub (fun _ h9 => List.mem_cons_of_mem _ (List.mem_append_right _ h9)) gwX4)))
set_option maxRecDepth 20000 in
theorem gzX4_step_X4_peek_V100 : GoodIn zsX4_step (wsV RX4 100 RX4 yX4_peek zsX4_peek) := (goodIn_app (goodIn_r _ [8, 9, 10, 5] (by decide +kernel) (by decide +kernel)) (goodIn_ca (goodIn_r _ [11, 12] (by decide +kernel) (by decide +kernel)) (goodIn_sub (fun _ h9 => List.mem_cons_of_mem _ (List.mem_append_right _ h9)) gwX4)))
set_option maxHeartbeats 8000000 in
set_option maxRecDepth 100000 in
theorem c_X4_step (l : Launch) (dC : Nat → ClassId) (dI : Nat → Nat → Nat) (sz : Nat) (h0 : Nat) (x_text : Nat) (x_pool : Nat) (x_scratch : Nat) (x_nameAt : Nat) (x_nameSize : Nat) (x_heads : Nat) (x_nexts : Nat) (x_names : Int32) (x_poolSize : Int32) (x_knownSize : Int32) (x_tokens : Int32) (x_kind : Int32) (x_start : Int32) (x_meaning : Int32) (x_spelled : Int32) : Met l yX4_step zsX4_step ({ frames := 3, cells := 0, slots := 0, locals := 60 } : Room) (va_Pc [.ref h0] (wB (dC, dI) vwCl nestM [] [(h0, .inr (4, [.ref x_text, .ref x_pool, .ref x_scratch, .ref x_nameAt, .ref x_nameSize, .ref x_heads, .ref x_nexts, .int x_names, .int x_poolSize, .int x_knownSize, .int 0, .int 0, .int x_tokens, .int x_kind, .int x_start, .int x_meaning, .int 0, .int x_spelled]))] sz)) (va_Qv (fun (u : Unit) => True) (fun (u : Unit) (t : State) => wE (dC, dI) vwCl [] [(h0, .inr (4, [.ref x_text, .ref x_pool, .ref x_scratch, .ref x_nameAt, .ref x_nameSize, .ref x_heads, .ref x_nexts, .int x_names, .int x_poolSize, .int x_knownSize, .int 0, .int 0, .int x_tokens, .int 54, .int 0, .int x_meaning, .int 0, .int x_spelled]))] (va_A [(h0, .inr (4, [.ref x_text, .ref x_pool, .ref x_scratch, .ref x_nameAt, .ref x_nameSize, .ref x_heads, .ref x_nexts, .int x_names, .int x_poolSize, .int x_knownSize, .int 0, .int 0, .int x_tokens, .int x_kind, .int x_start, .int x_meaning, .int 0, .int x_spelled]))] sz) t) (va_A [(h0, .inr (4, [.ref x_text, .ref x_pool, .ref x_scratch, .ref x_nameAt, .ref x_nameSize, .ref x_heads, .ref x_nexts, .int x_names, .int x_poolSize, .int x_knownSize, .int 0, .int 0, .int x_tokens, .int x_kind, .int x_start, .int x_meaning, .int 0, .int x_spelled]))] sz)) 0 0 (va_A [(h0, .inr (4, [.ref x_text, .ref x_pool, .ref x_scratch, .ref x_nameAt, .ref x_nameSize, .ref x_heads, .ref x_nexts, .int x_names, .int x_poolSize, .int x_knownSize, .int 0, .int 0, .int x_tokens, .int x_kind, .int x_start, .int x_meaning, .int 0, .int x_spelled]))] sz) := by
  refine Met.ofW (cc := cX4_step) (maxL := 2) (ret := none) (by decide) rfl ?_
  intro p e s m args below meth c s₁ B hml hv
  obtain ⟨rfl, hsz, hP, hK, hD0, hN⟩ := hv
  have hx := B.exec
  have hb := B.bytes
  have hr := B.returns
  have hts := atoms_spec (ws := zsX4_step) B.pre
  have hown : s.vm.findClass RX4 = some m.cls := findClass_of_methodNamed B.named
  have hlocks := B.notSynchronized
  subst hsz
  have hD := hD0.self (sz := s.heap.size)
  generalize hAe : va_A [(h0, .inr (4, [.ref x_text, .ref x_pool, .ref x_scratch, .ref x_nameAt, .ref x_nameSize, .ref x_heads, .ref x_nexts, .int x_names, .int x_poolSize, .int x_knownSize, .int 0, .int 0, .int x_tokens, .int x_kind, .int x_start, .int x_meaning, .int 0, .int x_spelled]))] s.heap.size = A at hD ⊢
  have hA : ∀ q : Nat, s.heap.size ≤ q → A q := fun q h => by rw [← hAe]; exact Or.inr h
  have hS : va_S A s.heap s.heap [] := va_S.rf
  have hP : va_P (dC, dI) vwCl [(h0, .inr (4, [.ref x_text, .ref x_pool, .ref x_scratch, .ref x_nameAt, .ref x_nameSize, .ref x_heads, .ref x_nexts, .int x_names, .int x_poolSize, .int x_knownSize, .int 0, .int 0, .int x_tokens, .int x_kind, .int x_start, .int x_meaning, .int 0, .int x_spelled]))] s.heap := hP
  have hl := lv_entry ([.ref h0]) (n := 2) (Nat.le_of_ble_eq_true rfl)
  rw [lg_entry_eq]
  generalize (lg_sl ([.ref h0]) ++ List.replicate (2 - (lg_sl ([.ref h0])).length) Slot.unset).toArray = ls at hl ⊢
  have hl : lv_has ls 2 [(0, .ref h0)] := hl
  refine lv_aload_n hx hb dX4_step_0 rfl (lv_at hl 0 rfl) ?_
  refine va_get (D := (dC, dI)) (ci := 4) (v := .int 0) (C := RX4) (T := TX4) (N := 18) hx hb hts (fun _ h9 => List.mem_cons_of_mem _ (List.mem_append_right _ h9)) hown hK hP 0 rfl rfl 16 (by decide) (hts _ (List.mem_cons_of_mem _ (List.mem_append_left _ (List.mem_of_getElem? (i := 0) rfl)))) (fun _ h9 => h9) rfl dX4_step_1 ?_
  refine lv_if_eq (tgt := 8) hx hb dX4_step_4 (by decide) (fun c_1 => ?_) (fun c_1 => absurd (by decide) c_1)
  refine lv_aload_n hx hb dX4_step_8 rfl (lv_at hl 0 rfl) ?_
  refine aft_v (wr := []) (va_runV (As := []) (rest := []) ⟨hx, hb, hml, hown, hts⟩ (c_X4_skipBlanks l dC dI s.heap.size h0 x_text x_pool x_scratch x_nameAt x_nameSize x_heads x_nexts x_names x_poolSize x_knownSize x_tokens x_kind x_start x_meaning x_spelled) (cwV 0 hts gzX4_step_X4_skipBlanks_V97 rfl rfl rfl (by decide +kernel) ⟨Nat.le_of_ble_eq_true rfl, Nat.le_of_ble_eq_true rfl⟩) (wB.preV (hP.sub (ws' := [(h0, .inr (4, [.ref x_text, .ref x_pool, .ref x_scratch, .ref x_nameAt, .ref x_nameSize, .ref x_heads, .ref x_nexts, .int x_names, .int x_poolSize, .int x_knownSize, .int 0, .int 0, .int x_tokens, .int x_kind, .int x_start, .int x_meaning, .int 0, .int x_spelled]))]) [0] rfl) (hK.sub (tys' := []) [] rfl) (hD.sub (ws' := [(h0, .inr (4, [.ref x_text, .ref x_pool, .ref x_scratch, .ref x_nameAt, .ref x_nameSize, .ref x_heads, .ref x_nexts, .int x_names, .int x_poolSize, .int x_knownSize, .int 0, .int 0, .int x_tokens, .int x_kind, .int x_start, .int x_meaning, .int 0, .int x_spelled]))]) [0] (by decide) rfl) hN 4 0 rfl rfl) rfl rfl hl.1 rfl (lv_room (Nat.le_of_ble_eq_true rfl)) dX4_step_9 ⟨Nat.le_of_ble_eq_true rfl, Nat.le_of_ble_eq_true rfl⟩) hP hD hS hA [0] [] rfl rfl (by decide) (by decide) ?_
  clear hP hD hS
  intro u_2 H locs w_4 hK1 hP hD hS
  replace hP : va_P (dC, dI) vwCl [(h0, .inr (4, [.ref x_text, .ref x_pool, .ref x_scratch, .ref x_nameAt, .ref x_nameSize, .ref x_heads, .ref x_nexts, .int x_names, .int x_poolSize, .int x_knownSize, .int 0, .int 0, .int x_tokens, .int x_kind, .int x_start, .int x_meaning, .int 0, .int x_spelled]))] H := hP
  replace hD : va_D A [(h0, .inr (4, [.ref x_text, .ref x_pool, .ref x_scratch, .ref x_nameAt, .ref x_nameSize, .ref x_heads, .ref x_nexts, .int x_names, .int x_poolSize, .int x_knownSize, .int 0, .int 0, .int x_tokens, .int x_kind, .int x_start, .int x_meaning, .int 0, .int x_spelled]))] := hD
  clear hK1
  try dsimp only at w_4
  refine lv_aload_n hx hb dX4_step_12 rfl (lv_at hl 0 rfl) ?_
  refine va_get (D := (dC, dI)) (ci := 4) (v := .int 0) (C := RX4) (T := TX4) (N := 18) hx hb hts (fun _ h9 => List.mem_cons_of_mem _ (List.mem_append_right _ h9)) hown hK hP 0 rfl rfl 16 (by decide) (hts _ (List.mem_cons_of_mem _ (List.mem_append_left _ (List.mem_of_getElem? (i := 0) rfl)))) (fun _ h9 => h9) rfl dX4_step_13 ?_
  refine lv_if_ne (tgt := 206) hx hb dX4_step_16 (by decide) (fun c_5 => absurd (by decide) c_5) (fun c_5 => ?_)
  refine lv_aload_n hx hb dX4_step_19 rfl (lv_at hl 0 rfl) ?_
  refine lv_aload_n hx hb dX4_step_20 rfl (lv_at hl 0 rfl) ?_
  refine va_get (D := (dC, dI)) (ci := 4) (v := .int 0) (C := RX4) (T := TX4) (N := 18) hx hb hts (fun _ h9 => List.mem_cons_of_mem _ (List.mem_append_right _ h9)) hown hK hP 0 rfl rfl 11 (by decide) (hts _ (List.mem_cons_of_mem _ (List.mem_append_left _ (List.mem_of_getElem? (i := 6) rfl)))) (fun _ h9 => h9) rfl dX4_step_21 ?_
  refine va_put (D := (dC, dI)) (ci := 4) (v := .int 0) (ty := .int) (C := RX4) (T := TX4) (N := 18) hx hb hts (fun _ h9 => List.mem_cons_of_mem _ (List.mem_append_right _ h9)) tyX4 tyX4_ok nmX4 hown hK hP hD hS 0 rfl rfl 14 (by decide) (hts _ (List.mem_cons_of_mem _ (List.mem_append_left _ (List.mem_of_getElem? (i := 12) rfl)))) (fun _ h9 => h9) rfl (by decide +kernel) rfl rfl (Nat.le_of_ble_eq_true rfl) dX4_step_24 ?_
  clear hP hD hS
  intro H locs hP hD hS
  replace hP : va_P (dC, dI) vwCl [(h0, .inr (4, [.ref x_text, .ref x_pool, .ref x_scratch, .ref x_nameAt, .ref x_nameSize, .ref x_heads, .ref x_nexts, .int x_names, .int x_poolSize, .int x_knownSize, .int 0, .int 0, .int x_tokens, .int x_kind, .int 0, .int x_meaning, .int 0, .int x_spelled]))] H := hP
  replace hD : va_D A [(h0, .inr (4, [.ref x_text, .ref x_pool, .ref x_scratch, .ref x_nameAt, .ref x_nameSize, .ref x_heads, .ref x_nexts, .int x_names, .int x_poolSize, .int x_knownSize, .int 0, .int 0, .int x_tokens, .int x_kind, .int 0, .int x_meaning, .int 0, .int x_spelled]))] := hD
  refine lv_aload_n hx hb dX4_step_27 rfl (lv_at hl 0 rfl) ?_
  refine lv_aload_n hx hb dX4_step_28 rfl (lv_at hl 0 rfl) ?_
  refine va_get (D := (dC, dI)) (ci := 4) (v := .int 0) (C := RX4) (T := TX4) (N := 18) hx hb hts (fun _ h9 => List.mem_cons_of_mem _ (List.mem_append_right _ h9)) hown hK hP 0 rfl rfl 11 (by decide) (hts _ (List.mem_cons_of_mem _ (List.mem_append_left _ (List.mem_of_getElem? (i := 6) rfl)))) (fun _ h9 => h9) rfl dX4_step_29 ?_
  refine aft_i (wr := []) (va_runV (As := [.int 0]) (rest := []) ⟨hx, hb, hml, hown, hts⟩ (c_X4_peek l dC dI H.size h0 x_text x_pool x_scratch x_nameAt x_nameSize x_heads x_nexts x_names x_poolSize x_knownSize 0 x_tokens x_kind 0 x_meaning 0 x_spelled 0) (cwV 1 hts gzX4_step_X4_peek_V100 rfl rfl rfl (by decide +kernel) ⟨Nat.le_of_ble_eq_true rfl, Nat.le_of_ble_eq_true rfl⟩) (wB.preV (hP.sub (ws' := [(h0, .inr (4, [.ref x_text, .ref x_pool, .ref x_scratch, .ref x_nameAt, .ref x_nameSize, .ref x_heads, .ref x_nexts, .int x_names, .int x_poolSize, .int x_knownSize, .int 0, .int 0, .int x_tokens, .int x_kind, .int 0, .int x_meaning, .int 0, .int x_spelled]))]) [0] rfl) (hK.sub (tys' := []) [] rfl) (hD.sub (ws' := [(h0, .inr (4, [.ref x_text, .ref x_pool, .ref x_scratch, .ref x_nameAt, .ref x_nameSize, .ref x_heads, .ref x_nexts, .int x_names, .int x_poolSize, .int x_knownSize, .int 0, .int 0, .int x_tokens, .int x_kind, .int 0, .int x_meaning, .int 0, .int x_spelled]))]) [0] (by decide) rfl) hN 4 0 rfl rfl) rfl rfl hl.1 rfl (lv_room (Nat.le_of_ble_eq_true rfl)) dX4_step_32 ⟨Nat.le_of_ble_eq_true rfl, Nat.le_of_ble_eq_true rfl⟩) hP hD hS hA [0] [] rfl rfl (by decide) (by decide) ?_
  clear hP hD hS
  intro r_7 u_6 H locs w_8 hK1 hP hD hS
  replace hP : va_P (dC, dI) vwCl [(h0, .inr (4, [.ref x_text, .ref x_pool, .ref x_scratch, .ref x_nameAt, .ref x_nameSize, .ref x_heads, .ref x_nexts, .int x_names, .int x_poolSize, .int x_knownSize, .int 0, .int 0, .int x_tokens, .int x_kind, .int 0, .int x_meaning, .int 0, .int x_spelled]))] H := hP
  replace hD : va_D A [(h0, .inr (4, [.ref x_text, .ref x_pool, .ref x_scratch, .ref x_nameAt, .ref x_nameSize, .ref x_heads, .ref x_nexts, .int x_names, .int x_poolSize, .int x_knownSize, .int 0, .int 0, .int x_tokens, .int x_kind, .int 0, .int x_meaning, .int 0, .int x_spelled]))] := hD
  clear hK1
  try dsimp only at w_8
  obtain rfl : r_7 = (-1) := w_8
  refine lv_istore_n (lv' := [(1, .int (-1)), (0, .ref h0)]) hx hb dX4_step_35 rfl hl (by decide) rfl ?_
  clear hl
  intro ls hl
  refine lv_iload_n hx hb dX4_step_36 rfl (lv_at hl 0 rfl) ?_
  refine lv_if_ge (tgt := 47) hx hb dX4_step_37 (by decide) (fun c_9 => absurd c_9 (by decide)) (fun c_9 => ?_)
  refine lv_aload_n hx hb dX4_step_40 rfl (lv_at hl 1 rfl) ?_
  refine lv_bipush (v := 54) hx hb dX4_step_41 (by decide) ?_
  refine va_put (D := (dC, dI)) (ci := 4) (v := .int 54) (ty := .int) (C := RX4) (T := TX4) (N := 18) hx hb hts (fun _ h9 => List.mem_cons_of_mem _ (List.mem_append_right _ h9)) tyX4 tyX4_ok nmX4 hown hK hP hD hS 0 rfl rfl 13 (by decide) (hts _ (List.mem_cons_of_mem _ (List.mem_append_left _ (List.mem_of_getElem? (i := 13) rfl)))) (fun _ h9 => h9) rfl (by decide +kernel) rfl rfl (Nat.le_of_ble_eq_true rfl) dX4_step_43 ?_
  clear hP hD hS
  intro H locs hP hD hS
  replace hP : va_P (dC, dI) vwCl [(h0, .inr (4, [.ref x_text, .ref x_pool, .ref x_scratch, .ref x_nameAt, .ref x_nameSize, .ref x_heads, .ref x_nexts, .int x_names, .int x_poolSize, .int x_knownSize, .int 0, .int 0, .int x_tokens, .int 54, .int 0, .int x_meaning, .int 0, .int x_spelled]))] H := hP
  replace hD : va_D A [(h0, .inr (4, [.ref x_text, .ref x_pool, .ref x_scratch, .ref x_nameAt, .ref x_nameSize, .ref x_heads, .ref x_nexts, .int x_names, .int x_poolSize, .int x_knownSize, .int 0, .int 0, .int x_tokens, .int 54, .int 0, .int x_meaning, .int 0, .int x_spelled]))] := hD
  have hP9 := hP.sub (ws' := [(h0, .inr (4, [.ref x_text, .ref x_pool, .ref x_scratch, .ref x_nameAt, .ref x_nameSize, .ref x_heads, .ref x_nexts, .int x_names, .int x_poolSize, .int x_knownSize, .int 0, .int 0, .int x_tokens, .int 54, .int 0, .int x_meaning, .int 0, .int x_spelled]))]) [0] rfl
  have hD9 := hD.sub (ws' := [(h0, .inr (4, [.ref x_text, .ref x_pool, .ref x_scratch, .ref x_nameAt, .ref x_nameSize, .ref x_heads, .ref x_nexts, .int x_names, .int x_poolSize, .int x_knownSize, .int 0, .int 0, .int x_tokens, .int 54, .int 0, .int x_meaning, .int 0, .int x_spelled]))]) [0] (by decide) rfl
  have hK9 := hK.sub (tys' := []) [] rfl
  exact W.vret hx hb hr (fun t ht hW => ⟨⟨(), rfl, trivial, wE.of ht hW hP9 hK9 hD9⟩, hS.F ht⟩) hS.2.2 dX4_step_46

