/-! LeanHouse.at, put, byteIn, putByte: any row of at most 2^31 - 1 places, any index: they return; what is read is anything. -/
def nestM : List (String × Nat × MethodName × String) := [(RX12, 32, yX10_init, RX12), (RX0, 62, yX12_put, RX12), (RX0, 66, yX12_at, RX12), (RX1, 113, yX12_put, RX12), (RX1, 74, yX12_at, RX12), (RX2, 78, yX12_put, RX12), (RX2, 86, yX12_at, RX12), (RX3, 108, yX12_at, RX12), (RX3, 147, yX12_put, RX12), (RX4, 34, yX12_put, RX12), (RX4, 50, yX12_putByte, RX12), (RX4, 89, yX12_at, RX12), (RX4, 93, yX12_byteIn, RX12), (RX6, 174, yX12_byteIn, RX12), (RX6, 181, yX12_putByte, RX12), (RX6, 69, yX12_put, RX12), (RX6, 80, yX12_at, RX12), (RX7, 111, yX12_at, RX12), (RX7, 89, yX12_put, RX12), (RX8, 18, yX12_put, RX12), (RX8, 39, yX12_at, RX12), (RX9, 105, yX12_at, RX12), (RX9, 42, yX12_put, RX12), (RX10, 59, yX12_put, RX12), (RX10, 67, yX12_at, RX12), (RX11, 102, yX12_put, RX12), (RX11, 34, yX12_byteIn, RX12), (RX11, 49, yX12_putByte, RX12), (RX11, 89, yX12_at, RX12)]
theorem gwX0 : wsX00.all goodWord = true := by decide +kernel
theorem dflX0 : ∀ j, j < 10 → defaultValue (tyX0 j) = vp_V [.null, .null, .null, .null, .int 0, .int 0, .int 0, .int 0, .int 0, .int 0] j := by decide +kernel
theorem gwX1 : wsX10.all goodWord = true := by decide +kernel
theorem dflX1 : ∀ j, j < 19 → defaultValue (tyX1 j) = vp_V [.null, .null, .null, .null, .null, .null, .null, .null, .int 0, .int 0, .int 0, .int 0, .int 0, .int 0, .int 0, .int 0, .int 0, .int 0, .int 0] j := by decide +kernel
theorem gwX2 : wsX20.all goodWord = true := by decide +kernel
theorem dflX2 : ∀ j, j < 20 → defaultValue (tyX2 j) = vp_V [.null, .null, .null, .int 0, .null, .null, .null, .null, .null, .null, .null, .null, .null, .int 0, .int 0, .int 0, .int 0, .int 0, .int 0, .int 0] j := by decide +kernel
theorem gwX3 : wsX30.all goodWord = true := by decide +kernel
theorem dflX3 : ∀ j, j < 4 → defaultValue (tyX3 j) = vp_V [.null, .null, .null, .null] j := by decide +kernel
theorem gwX4 : wsX40.all goodWord = true := by decide +kernel
theorem dflX4 : ∀ j, j < 18 → defaultValue (tyX4 j) = vp_V [.null, .null, .null, .null, .null, .null, .null, .int 0, .int 0, .int 0, .int 0, .int 0, .int 0, .int 0, .int 0, .int 0, .int 0, .int 0] j := by decide +kernel
theorem gwX5 : wsX50.all goodWord = true := by decide +kernel
theorem dflX5 : ∀ j, j < 1 → defaultValue (tyX5 j) = vp_V [.null] j := by decide +kernel
theorem gwX6 : wsX60.all goodWord = true := by decide +kernel
theorem dflX6 : ∀ j, j < 19 → defaultValue (tyX6 j) = vp_V [.null, .null, .null, .int 0, .int 0, .int 0, .int 0, .int 0, .int 0, .int 0, .int 0, .int 0, .int 0, .int 0, .int 0, .int 0, .int 0, .int 0, .int 0] j := by decide +kernel
theorem gwX7 : wsX70.all goodWord = true := by decide +kernel
theorem dflX7 : ∀ j, j < 13 → defaultValue (tyX7 j) = vp_V [.null, .null, .null, .null, .null, .int 0, .null, .null, .null, .int 0, .int 0, .int 0, .int 0] j := by decide +kernel
theorem gwX8 : wsX80.all goodWord = true := by decide +kernel
theorem dflX8 : ∀ j, j < 10 → defaultValue (tyX8 j) = vp_V [.null, .null, .int 0, .int 0, .int 0, .int 0, .int 0, .int 0, .int 0, .int 0] j := by decide +kernel
theorem gwX9 : wsX90.all goodWord = true := by decide +kernel
theorem dflX9 : ∀ j, j < 17 → defaultValue (tyX9 j) = vp_V [.null, .null, .null, .null, .null, .null, .null, .null, .null, .int 0, .int 0, .int 0, .int 0, .int 0, .int 0, .int 0, .int 0] j := by decide +kernel
theorem gwX10 : wsX100.all goodWord = true := by decide +kernel
theorem dflX10 : ∀ j, j < 16 → defaultValue (tyX10 j) = vp_V [.null, .null, .null, .null, .null, .null, .null, .null, .null, .null, .null, .int 0, .int 0, .int 0, .int 0, .int 0] j := by decide +kernel
theorem gwX11 : wsX110.all goodWord = true := by decide +kernel
theorem dflX11 : ∀ j, j < 11 → defaultValue (tyX11 j) = vp_V [.null, .null, .null, .null, .null, .null, .int 0, .int 0, .int 0, .int 0, .int 0] j := by decide +kernel
theorem gwX12 : wsX120.all goodWord = true := by decide +kernel
theorem dflX12 : ∀ j, j < 20 → defaultValue (tyX12 j) = vp_V [.null, .null, .null, .null, .null, .null, .null, .null, .null, .null, .null, .null, .int 0, .int 0, .int 0, .int 0, .int 0, .int 0, .int 0, .int 0] j := by decide +kernel
theorem gwX13 : wsX130.all goodWord = true := by decide +kernel
theorem dflX13 : ∀ j, j < 1 → defaultValue (tyX13 j) = vp_V [.int 0] j := by decide +kernel
theorem dX12_at_0 : decode cX12_at 0 = .ok (.iload_n 1, 1) := by decide +kernel
theorem dX12_at_1 : decode cX12_at 1 = .ok (.ifCond .lt 15, 3) := by decide +kernel
theorem dX12_at_4 : decode cX12_at 4 = .ok (.iload_n 1, 1) := by decide +kernel
theorem dX12_at_5 : decode cX12_at 5 = .ok (.aload_n 0, 1) := by decide +kernel
theorem dX12_at_6 : decode cX12_at 6 = .ok (.arraylength, 1) := by decide +kernel
theorem dX12_at_7 : decode cX12_at 7 = .ok (.if_icmp .ge 9, 3) := by decide +kernel
theorem dX12_at_10 : decode cX12_at 10 = .ok (.aload_n 0, 1) := by decide +kernel
theorem dX12_at_11 : decode cX12_at 11 = .ok (.iload_n 1, 1) := by decide +kernel
theorem dX12_at_12 : decode cX12_at 12 = .ok (.iaload, 1) := by decide +kernel
theorem dX12_at_13 : decode cX12_at 13 = .ok (.goto 4, 3) := by decide +kernel
theorem dX12_at_16 : decode cX12_at 16 = .ok (.iconst 0, 1) := by decide +kernel
theorem dX12_at_17 : decode cX12_at 17 = .ok (.ireturn, 1) := by decide +kernel
def zlX12_at : List Cond := []
def zsX12_at : List Cond := .code yX12_at cX12_at 2 (some .int) :: zlX12_at
set_option maxHeartbeats 8000000 in
set_option maxRecDepth 100000 in
theorem c_X12_at (l : Launch) (dC : Nat → ClassId) (dI : Nat → Nat → Nat) (sz : Nat) (q : Nat) (cA : ClassId) (n : Nat) (f : Nat → Int32) (k : Int32) (hn : n < 2 ^ 31) : Met l yX12_at zsX12_at ({ frames := 1, cells := 0, slots := 0, locals := 12 } : Jvm.Room) (va_Pc [.ref q, .int k] (wB (dC, dI) vwCl nestM [(cA, .int)] [(q, .inl (cA, n, .inl f))] sz)) (va_Qi (fun (r : Int32) (u : Unit) => True) (fun (u : Unit) (t : State) => wE (dC, dI) vwCl [(cA, .int)] [(q, .inl (cA, n, .inl f))] (va_A [(q, .inl (cA, n, .inl f))] sz) t) (va_A [(q, .inl (cA, n, .inl f))] sz)) 0 0 (va_A [(q, .inl (cA, n, .inl f))] sz) := by
  refine Met.ofW (cc := cX12_at) (maxL := 2) (ret := (some .int)) (by decide) rfl ?_
  intro p e s m args below meth c s₁ B hml hv
  obtain ⟨rfl, hsz, hP, hK, hD0, hN⟩ := hv
  have hx := B.exec
  have hb := B.bytes
  have hr := B.returns
  have hts := atoms_spec (ws := zsX12_at) B.pre
  have hown : s.vm.findClass RX12 = some m.cls := findClass_of_methodNamed B.named
  have hlocks := B.notSynchronized
  subst hsz
  have hD := hD0.self (sz := s.heap.size)
  generalize hAe : va_A [(q, .inl (cA, n, .inl f))] s.heap.size = A at hD ⊢
  have hA : ∀ q : Nat, s.heap.size ≤ q → A q := fun q h => by rw [← hAe]; exact Or.inr h
  have hS : va_S A s.heap s.heap [] := va_S.rf
  have hP : va_P (dC, dI) vwCl [(q, .inl (cA, n, .inl f))] s.heap := hP
  have hl := lv_entry ([.ref q, .int k]) (n := 2) (Nat.le_of_ble_eq_true rfl)
  rw [lg_entry_eq]
  generalize (lg_sl ([.ref q, .int k]) ++ List.replicate (2 - (lg_sl ([.ref q, .int k])).length) Slot.unset).toArray = ls at hl ⊢
  have hl : lv_has ls 2 [(0, .ref q), (1, .int k)] := hl
  refine lv_iload_n hx hb dX12_at_0 rfl (lv_at hl 1 rfl) ?_
  refine lv_if_lt (tgt := 16) hx hb dX12_at_1 (by decide) (fun c_1 => ?_) (fun c_1 => ?_)
  · refine lv_iconst (v := 0) hx hb dX12_at_16 (by decide) ?_
    have hP9 := hP.sub (ws' := [(q, .inl (cA, n, .inl f))]) [0] rfl
    have hD9 := hD.sub (ws' := [(q, .inl (cA, n, .inl f))]) [0] (by decide) rfl
    have hK9 := hK.sub (tys' := [(cA, .int)]) [0] rfl
    exact W.iret (v := 0) hx hb hr (fun t ht hW => ⟨⟨0, (), rfl, trivial, wE.of ht hW hP9 hK9 hD9⟩, hS.F ht⟩) hS.2.2 dX12_at_17
  · refine lv_iload_n hx hb dX12_at_4 rfl (lv_at hl 1 rfl) ?_
    refine lv_aload_n hx hb dX12_at_5 rfl (lv_at hl 0 rfl) ?_
    refine va_alen (D := (dC, dI)) (v := nI n) hx hb hK hP 0 0 rfl rfl rfl dX12_at_6 ?_
    refine lv_icmp_ge (tgt := 16) hx hb dX12_at_7 (by decide) (fun c_2 => ?_) (fun c_2 => ?_)
    · refine lv_iconst (v := 0) hx hb dX12_at_16 (by decide) ?_
      have hP9 := hP.sub (ws' := [(q, .inl (cA, n, .inl f))]) [0] rfl
      have hD9 := hD.sub (ws' := [(q, .inl (cA, n, .inl f))]) [0] (by decide) rfl
      have hK9 := hK.sub (tys' := [(cA, .int)]) [0] rfl
      exact W.iret (v := 0) hx hb hr (fun t ht hW => ⟨⟨0, (), rfl, trivial, wE.of ht hW hP9 hK9 hD9⟩, hS.F ht⟩) hS.2.2 dX12_at_17
    · have hin9 : vp_in k n := in_of c_1 c_2 hn
      refine lv_aload_n hx hb dX12_at_10 rfl (lv_at hl 0 rfl) ?_
      refine lv_iload_n hx hb dX12_at_11 rfl (lv_at hl 1 rfl) ?_
      refine va_iald (D := (dC, dI)) (i := k) hx hb hK hP 0 0 rfl rfl hin9 dX12_at_12 ?_
      refine lv_topi (fun z_3 ez_3 => ?_)
      refine lv_goto (tgt := 17) hx hb dX12_at_13 (by decide) ?_
      have hP9 := hP.sub (ws' := [(q, .inl (cA, n, .inl f))]) [0] rfl
      have hD9 := hD.sub (ws' := [(q, .inl (cA, n, .inl f))]) [0] (by decide) rfl
      have hK9 := hK.sub (tys' := [(cA, .int)]) [0] rfl
      exact W.iret (v := z_3) hx hb hr (fun t ht hW => ⟨⟨z_3, (), rfl, trivial, wE.of ht hW hP9 hK9 hD9⟩, hS.F ht⟩) hS.2.2 dX12_at_17

theorem dX12_byteIn_0 : decode cX12_byteIn 0 = .ok (.iload_n 1, 1) := by decide +kernel
theorem dX12_byteIn_1 : decode cX12_byteIn 1 = .ok (.ifCond .lt 19, 3) := by decide +kernel
theorem dX12_byteIn_4 : decode cX12_byteIn 4 = .ok (.iload_n 1, 1) := by decide +kernel
theorem dX12_byteIn_5 : decode cX12_byteIn 5 = .ok (.aload_n 0, 1) := by decide +kernel
theorem dX12_byteIn_6 : decode cX12_byteIn 6 = .ok (.arraylength, 1) := by decide +kernel
theorem dX12_byteIn_7 : decode cX12_byteIn 7 = .ok (.if_icmp .ge 13, 3) := by decide +kernel
theorem dX12_byteIn_10 : decode cX12_byteIn 10 = .ok (.aload_n 0, 1) := by decide +kernel
theorem dX12_byteIn_11 : decode cX12_byteIn 11 = .ok (.iload_n 1, 1) := by decide +kernel
theorem dX12_byteIn_12 : decode cX12_byteIn 12 = .ok (.baload, 1) := by decide +kernel
theorem dX12_byteIn_13 : decode cX12_byteIn 13 = .ok (.sipush 255, 3) := by decide +kernel
theorem dX12_byteIn_16 : decode cX12_byteIn 16 = .ok (.iand, 1) := by decide +kernel
theorem dX12_byteIn_17 : decode cX12_byteIn 17 = .ok (.goto 4, 3) := by decide +kernel
theorem dX12_byteIn_20 : decode cX12_byteIn 20 = .ok (.iconst 0, 1) := by decide +kernel
theorem dX12_byteIn_21 : decode cX12_byteIn 21 = .ok (.ireturn, 1) := by decide +kernel
def zlX12_byteIn : List Cond := []
def zsX12_byteIn : List Cond := .code yX12_byteIn cX12_byteIn 2 (some .int) :: zlX12_byteIn
set_option maxHeartbeats 8000000 in
set_option maxRecDepth 100000 in
theorem c_X12_byteIn (l : Launch) (dC : Nat → ClassId) (dI : Nat → Nat → Nat) (sz : Nat) (q : Nat) (cA : ClassId) (n : Nat) (f : Nat → Int32) (k : Int32) (hn : n < 2 ^ 31) : Met l yX12_byteIn zsX12_byteIn ({ frames := 1, cells := 0, slots := 0, locals := 12 } : Jvm.Room) (va_Pc [.ref q, .int k] (wB (dC, dI) vwCl nestM [(cA, .byte)] [(q, .inl (cA, n, .inl f))] sz)) (va_Qi (fun (r : Int32) (u : Unit) => True) (fun (u : Unit) (t : State) => wE (dC, dI) vwCl [(cA, .byte)] [(q, .inl (cA, n, .inl f))] (va_A [(q, .inl (cA, n, .inl f))] sz) t) (va_A [(q, .inl (cA, n, .inl f))] sz)) 0 0 (va_A [(q, .inl (cA, n, .inl f))] sz) := by
  refine Met.ofW (cc := cX12_byteIn) (maxL := 2) (ret := (some .int)) (by decide) rfl ?_
  intro p e s m args below meth c s₁ B hml hv
  obtain ⟨rfl, hsz, hP, hK, hD0, hN⟩ := hv
  have hx := B.exec
  have hb := B.bytes
  have hr := B.returns
  have hts := atoms_spec (ws := zsX12_byteIn) B.pre
  have hown : s.vm.findClass RX12 = some m.cls := findClass_of_methodNamed B.named
  have hlocks := B.notSynchronized
  subst hsz
  have hD := hD0.self (sz := s.heap.size)
  generalize hAe : va_A [(q, .inl (cA, n, .inl f))] s.heap.size = A at hD ⊢
  have hA : ∀ q : Nat, s.heap.size ≤ q → A q := fun q h => by rw [← hAe]; exact Or.inr h
  have hS : va_S A s.heap s.heap [] := va_S.rf
  have hP : va_P (dC, dI) vwCl [(q, .inl (cA, n, .inl f))] s.heap := hP
  have hl := lv_entry ([.ref q, .int k]) (n := 2) (Nat.le_of_ble_eq_true rfl)
  rw [lg_entry_eq]
  generalize (lg_sl ([.ref q, .int k]) ++ List.replicate (2 - (lg_sl ([.ref q, .int k])).length) Slot.unset).toArray = ls at hl ⊢
  have hl : lv_has ls 2 [(0, .ref q), (1, .int k)] := hl
  refine lv_iload_n hx hb dX12_byteIn_0 rfl (lv_at hl 1 rfl) ?_
  refine lv_if_lt (tgt := 20) hx hb dX12_byteIn_1 (by decide) (fun c_1 => ?_) (fun c_1 => ?_)
  · refine lv_iconst (v := 0) hx hb dX12_byteIn_20 (by decide) ?_
    have hP9 := hP.sub (ws' := [(q, .inl (cA, n, .inl f))]) [0] rfl
    have hD9 := hD.sub (ws' := [(q, .inl (cA, n, .inl f))]) [0] (by decide) rfl
    have hK9 := hK.sub (tys' := [(cA, .byte)]) [0] rfl
    exact W.iret (v := 0) hx hb hr (fun t ht hW => ⟨⟨0, (), rfl, trivial, wE.of ht hW hP9 hK9 hD9⟩, hS.F ht⟩) hS.2.2 dX12_byteIn_21
  · refine lv_iload_n hx hb dX12_byteIn_4 rfl (lv_at hl 1 rfl) ?_
    refine lv_aload_n hx hb dX12_byteIn_5 rfl (lv_at hl 0 rfl) ?_
    refine va_alen (D := (dC, dI)) (v := nI n) hx hb hK hP 0 0 rfl rfl rfl dX12_byteIn_6 ?_
    refine lv_icmp_ge (tgt := 20) hx hb dX12_byteIn_7 (by decide) (fun c_2 => ?_) (fun c_2 => ?_)
    · refine lv_iconst (v := 0) hx hb dX12_byteIn_20 (by decide) ?_
      have hP9 := hP.sub (ws' := [(q, .inl (cA, n, .inl f))]) [0] rfl
      have hD9 := hD.sub (ws' := [(q, .inl (cA, n, .inl f))]) [0] (by decide) rfl
      have hK9 := hK.sub (tys' := [(cA, .byte)]) [0] rfl
      exact W.iret (v := 0) hx hb hr (fun t ht hW => ⟨⟨0, (), rfl, trivial, wE.of ht hW hP9 hK9 hD9⟩, hS.F ht⟩) hS.2.2 dX12_byteIn_21
    · have hin9 : vp_in k n := in_of c_1 c_2 hn
      refine lv_aload_n hx hb dX12_byteIn_10 rfl (lv_at hl 0 rfl) ?_
      refine lv_iload_n hx hb dX12_byteIn_11 rfl (lv_at hl 1 rfl) ?_
      refine va_bald (D := (dC, dI)) (i := k) hx hb hK hP 0 0 rfl rfl hin9 dX12_byteIn_12 ?_
      refine lv_topi (fun z_3 ez_3 => ?_)
      refine lv_sipush (v := 255) hx hb dX12_byteIn_13 (by decide) ?_
      refine lv_iand hx hb dX12_byteIn_16 ?_
      refine lv_topi (fun z_4 ez_4 => ?_)
      refine lv_goto (tgt := 21) hx hb dX12_byteIn_17 (by decide) ?_
      have hP9 := hP.sub (ws' := [(q, .inl (cA, n, .inl f))]) [0] rfl
      have hD9 := hD.sub (ws' := [(q, .inl (cA, n, .inl f))]) [0] (by decide) rfl
      have hK9 := hK.sub (tys' := [(cA, .byte)]) [0] rfl
      exact W.iret (v := z_4) hx hb hr (fun t ht hW => ⟨⟨z_4, (), rfl, trivial, wE.of ht hW hP9 hK9 hD9⟩, hS.F ht⟩) hS.2.2 dX12_byteIn_21

theorem dX12_put_0 : decode cX12_put 0 = .ok (.iload_n 1, 1) := by decide +kernel
theorem dX12_put_1 : decode cX12_put 1 = .ok (.ifCond .lt 13, 3) := by decide +kernel
theorem dX12_put_4 : decode cX12_put 4 = .ok (.iload_n 1, 1) := by decide +kernel
theorem dX12_put_5 : decode cX12_put 5 = .ok (.aload_n 0, 1) := by decide +kernel
theorem dX12_put_6 : decode cX12_put 6 = .ok (.arraylength, 1) := by decide +kernel
theorem dX12_put_7 : decode cX12_put 7 = .ok (.if_icmp .ge 7, 3) := by decide +kernel
theorem dX12_put_10 : decode cX12_put 10 = .ok (.aload_n 0, 1) := by decide +kernel
theorem dX12_put_11 : decode cX12_put 11 = .ok (.iload_n 1, 1) := by decide +kernel
theorem dX12_put_12 : decode cX12_put 12 = .ok (.iload_n 2, 1) := by decide +kernel
theorem dX12_put_13 : decode cX12_put 13 = .ok (.iastore, 1) := by decide +kernel
theorem dX12_put_14 : decode cX12_put 14 = .ok (.return_, 1) := by decide +kernel
def zlX12_put : List Cond := []
def zsX12_put : List Cond := .code yX12_put cX12_put 3 none :: zlX12_put
set_option maxHeartbeats 8000000 in
set_option maxRecDepth 100000 in
theorem c_X12_put (l : Launch) (dC : Nat → ClassId) (dI : Nat → Nat → Nat) (sz : Nat) (q : Nat) (cA : ClassId) (n : Nat) (f : Nat → Int32) (k : Int32) (v : Int32) (hn : n < 2 ^ 31) : Met l yX12_put zsX12_put ({ frames := 1, cells := 0, slots := 0, locals := 12 } : Jvm.Room) (va_Pc [.ref q, .int k, .int v] (wB (dC, dI) vwCl nestM [(cA, .int)] [(q, .inl (cA, n, .inl f))] sz)) (va_Qv (fun (u : (Nat → Int32)) => True) (fun (u : (Nat → Int32)) (t : State) => wE (dC, dI) vwCl [(cA, .int)] [(q, .inl (cA, n, .inl u))] (va_A [(q, .inl (cA, n, .inl f))] sz) t) (va_A [(q, .inl (cA, n, .inl f))] sz)) 0 0 (va_A [(q, .inl (cA, n, .inl f))] sz) := by
  refine Met.ofW (cc := cX12_put) (maxL := 3) (ret := none) (by decide) rfl ?_
  intro p e s m args below meth c s₁ B hml hv
  obtain ⟨rfl, hsz, hP, hK, hD0, hN⟩ := hv
  have hx := B.exec
  have hb := B.bytes
  have hr := B.returns
  have hts := atoms_spec (ws := zsX12_put) B.pre
  have hown : s.vm.findClass RX12 = some m.cls := findClass_of_methodNamed B.named
  have hlocks := B.notSynchronized
  subst hsz
  have hD := hD0.self (sz := s.heap.size)
  generalize hAe : va_A [(q, .inl (cA, n, .inl f))] s.heap.size = A at hD ⊢
  have hA : ∀ q : Nat, s.heap.size ≤ q → A q := fun q h => by rw [← hAe]; exact Or.inr h
  have hS : va_S A s.heap s.heap [] := va_S.rf
  have hP : va_P (dC, dI) vwCl [(q, .inl (cA, n, .inl f))] s.heap := hP
  have hl := lv_entry ([.ref q, .int k, .int v]) (n := 3) (Nat.le_of_ble_eq_true rfl)
  rw [lg_entry_eq]
  generalize (lg_sl ([.ref q, .int k, .int v]) ++ List.replicate (3 - (lg_sl ([.ref q, .int k, .int v])).length) Slot.unset).toArray = ls at hl ⊢
  have hl : lv_has ls 3 [(0, .ref q), (1, .int k), (2, .int v)] := hl
  refine lv_iload_n hx hb dX12_put_0 rfl (lv_at hl 1 rfl) ?_
  refine lv_if_lt (tgt := 14) hx hb dX12_put_1 (by decide) (fun c_1 => ?_) (fun c_1 => ?_)
  · have hP9 := hP.sub (ws' := [(q, .inl (cA, n, .inl f))]) [0] rfl
    have hD9 := hD.sub (ws' := [(q, .inl (cA, n, .inl f))]) [0] (by decide) rfl
    have hK9 := hK.sub (tys' := [(cA, .int)]) [0] rfl
    exact W.vret hx hb hr (fun t ht hW => ⟨⟨f, rfl, trivial, wE.of ht hW hP9 hK9 hD9⟩, hS.F ht⟩) hS.2.2 dX12_put_14
  · refine lv_iload_n hx hb dX12_put_4 rfl (lv_at hl 1 rfl) ?_
    refine lv_aload_n hx hb dX12_put_5 rfl (lv_at hl 0 rfl) ?_
    refine va_alen (D := (dC, dI)) (v := nI n) hx hb hK hP 0 0 rfl rfl rfl dX12_put_6 ?_
    refine lv_icmp_ge (tgt := 14) hx hb dX12_put_7 (by decide) (fun c_2 => ?_) (fun c_2 => ?_)
    · have hP9 := hP.sub (ws' := [(q, .inl (cA, n, .inl f))]) [0] rfl
      have hD9 := hD.sub (ws' := [(q, .inl (cA, n, .inl f))]) [0] (by decide) rfl
      have hK9 := hK.sub (tys' := [(cA, .int)]) [0] rfl
      exact W.vret hx hb hr (fun t ht hW => ⟨⟨f, rfl, trivial, wE.of ht hW hP9 hK9 hD9⟩, hS.F ht⟩) hS.2.2 dX12_put_14
    · have hin9 : vp_in k n := in_of c_1 c_2 hn
      refine lv_aload_n hx hb dX12_put_10 rfl (lv_at hl 0 rfl) ?_
      refine lv_iload_n hx hb dX12_put_11 rfl (lv_at hl 1 rfl) ?_
      refine lv_iload_n hx hb dX12_put_12 rfl (lv_at hl 2 rfl) ?_
      refine va_iast (D := (dC, dI)) (i := k) hx hb hK hP hD hS 0 0 rfl rfl hin9 dX12_put_13 ?_
      clear hP hD hS
      intro H locs hP hD hS
      obtain ⟨f_3, ef_3⟩ : ∃ g : Nat → Int32, g = (upd f (Int32.toNatClampNeg (k)) v) := ⟨_, rfl⟩
      replace hP : va_P (dC, dI) vwCl [(q, .inl (cA, n, .inl f_3))] H := by rw [ef_3]; exact hP
      replace hD : va_D A [(q, .inl (cA, n, .inl f_3))] := by rw [ef_3]; exact hD
      have hP9 := hP.sub (ws' := [(q, .inl (cA, n, .inl f_3))]) [0] rfl
      have hD9 := hD.sub (ws' := [(q, .inl (cA, n, .inl f_3))]) [0] (by decide) rfl
      have hK9 := hK.sub (tys' := [(cA, .int)]) [0] rfl
      exact W.vret hx hb hr (fun t ht hW => ⟨⟨f_3, rfl, trivial, wE.of ht hW hP9 hK9 hD9⟩, hS.F ht⟩) hS.2.2 dX12_put_14

theorem dX12_putByte_0 : decode cX12_putByte 0 = .ok (.iload_n 1, 1) := by decide +kernel
theorem dX12_putByte_1 : decode cX12_putByte 1 = .ok (.ifCond .lt 14, 3) := by decide +kernel
theorem dX12_putByte_4 : decode cX12_putByte 4 = .ok (.iload_n 1, 1) := by decide +kernel
theorem dX12_putByte_5 : decode cX12_putByte 5 = .ok (.aload_n 0, 1) := by decide +kernel
theorem dX12_putByte_6 : decode cX12_putByte 6 = .ok (.arraylength, 1) := by decide +kernel
theorem dX12_putByte_7 : decode cX12_putByte 7 = .ok (.if_icmp .ge 8, 3) := by decide +kernel
theorem dX12_putByte_10 : decode cX12_putByte 10 = .ok (.aload_n 0, 1) := by decide +kernel
theorem dX12_putByte_11 : decode cX12_putByte 11 = .ok (.iload_n 1, 1) := by decide +kernel
theorem dX12_putByte_12 : decode cX12_putByte 12 = .ok (.iload_n 2, 1) := by decide +kernel
theorem dX12_putByte_13 : decode cX12_putByte 13 = .ok (.i2b, 1) := by decide +kernel
theorem dX12_putByte_14 : decode cX12_putByte 14 = .ok (.bastore, 1) := by decide +kernel
theorem dX12_putByte_15 : decode cX12_putByte 15 = .ok (.return_, 1) := by decide +kernel
def zlX12_putByte : List Cond := []
def zsX12_putByte : List Cond := .code yX12_putByte cX12_putByte 3 none :: zlX12_putByte
set_option maxHeartbeats 8000000 in
set_option maxRecDepth 100000 in
theorem c_X12_putByte (l : Launch) (dC : Nat → ClassId) (dI : Nat → Nat → Nat) (sz : Nat) (q : Nat) (cA : ClassId) (n : Nat) (f : Nat → Int32) (k : Int32) (v : Int32) (hn : n < 2 ^ 31) : Met l yX12_putByte zsX12_putByte ({ frames := 1, cells := 0, slots := 0, locals := 12 } : Jvm.Room) (va_Pc [.ref q, .int k, .int v] (wB (dC, dI) vwCl nestM [(cA, .byte)] [(q, .inl (cA, n, .inl f))] sz)) (va_Qv (fun (u : (Nat → Int32)) => True) (fun (u : (Nat → Int32)) (t : State) => wE (dC, dI) vwCl [(cA, .byte)] [(q, .inl (cA, n, .inl u))] (va_A [(q, .inl (cA, n, .inl f))] sz) t) (va_A [(q, .inl (cA, n, .inl f))] sz)) 0 0 (va_A [(q, .inl (cA, n, .inl f))] sz) := by
  refine Met.ofW (cc := cX12_putByte) (maxL := 3) (ret := none) (by decide) rfl ?_
  intro p e s m args below meth c s₁ B hml hv
  obtain ⟨rfl, hsz, hP, hK, hD0, hN⟩ := hv
  have hx := B.exec
  have hb := B.bytes
  have hr := B.returns
  have hts := atoms_spec (ws := zsX12_putByte) B.pre
  have hown : s.vm.findClass RX12 = some m.cls := findClass_of_methodNamed B.named
  have hlocks := B.notSynchronized
  subst hsz
  have hD := hD0.self (sz := s.heap.size)
  generalize hAe : va_A [(q, .inl (cA, n, .inl f))] s.heap.size = A at hD ⊢
  have hA : ∀ q : Nat, s.heap.size ≤ q → A q := fun q h => by rw [← hAe]; exact Or.inr h
  have hS : va_S A s.heap s.heap [] := va_S.rf
  have hP : va_P (dC, dI) vwCl [(q, .inl (cA, n, .inl f))] s.heap := hP
  have hl := lv_entry ([.ref q, .int k, .int v]) (n := 3) (Nat.le_of_ble_eq_true rfl)
  rw [lg_entry_eq]
  generalize (lg_sl ([.ref q, .int k, .int v]) ++ List.replicate (3 - (lg_sl ([.ref q, .int k, .int v])).length) Slot.unset).toArray = ls at hl ⊢
  have hl : lv_has ls 3 [(0, .ref q), (1, .int k), (2, .int v)] := hl
  refine lv_iload_n hx hb dX12_putByte_0 rfl (lv_at hl 1 rfl) ?_
  refine lv_if_lt (tgt := 15) hx hb dX12_putByte_1 (by decide) (fun c_1 => ?_) (fun c_1 => ?_)
  · have hP9 := hP.sub (ws' := [(q, .inl (cA, n, .inl f))]) [0] rfl
    have hD9 := hD.sub (ws' := [(q, .inl (cA, n, .inl f))]) [0] (by decide) rfl
    have hK9 := hK.sub (tys' := [(cA, .byte)]) [0] rfl
    exact W.vret hx hb hr (fun t ht hW => ⟨⟨f, rfl, trivial, wE.of ht hW hP9 hK9 hD9⟩, hS.F ht⟩) hS.2.2 dX12_putByte_15
  · refine lv_iload_n hx hb dX12_putByte_4 rfl (lv_at hl 1 rfl) ?_
    refine lv_aload_n hx hb dX12_putByte_5 rfl (lv_at hl 0 rfl) ?_
    refine va_alen (D := (dC, dI)) (v := nI n) hx hb hK hP 0 0 rfl rfl rfl dX12_putByte_6 ?_
    refine lv_icmp_ge (tgt := 15) hx hb dX12_putByte_7 (by decide) (fun c_2 => ?_) (fun c_2 => ?_)
    · have hP9 := hP.sub (ws' := [(q, .inl (cA, n, .inl f))]) [0] rfl
      have hD9 := hD.sub (ws' := [(q, .inl (cA, n, .inl f))]) [0] (by decide) rfl
      have hK9 := hK.sub (tys' := [(cA, .byte)]) [0] rfl
      exact W.vret hx hb hr (fun t ht hW => ⟨⟨f, rfl, trivial, wE.of ht hW hP9 hK9 hD9⟩, hS.F ht⟩) hS.2.2 dX12_putByte_15
    · have hin9 : vp_in k n := in_of c_1 c_2 hn
      refine lv_aload_n hx hb dX12_putByte_10 rfl (lv_at hl 0 rfl) ?_
      refine lv_iload_n hx hb dX12_putByte_11 rfl (lv_at hl 1 rfl) ?_
      refine lv_iload_n hx hb dX12_putByte_12 rfl (lv_at hl 2 rfl) ?_
      refine lv_i2b hx hb dX12_putByte_13 rfl ?_
      refine lv_topi (fun z_3 ez_3 => ?_)
      refine va_bast (D := (dC, dI)) (i := k) hx hb hK hP hD hS 0 0 rfl rfl hin9 dX12_putByte_14 ?_
      clear hP hD hS
      intro H locs hP hD hS
      obtain ⟨f_4, ef_4⟩ : ∃ g : Nat → Int32, g = (upd f (Int32.toNatClampNeg (k)) (vp_nar .byte z_3)) := ⟨_, rfl⟩
      replace hP : va_P (dC, dI) vwCl [(q, .inl (cA, n, .inl f_4))] H := by rw [ef_4]; exact hP
      replace hD : va_D A [(q, .inl (cA, n, .inl f_4))] := by rw [ef_4]; exact hD
      have hP9 := hP.sub (ws' := [(q, .inl (cA, n, .inl f_4))]) [0] rfl
      have hD9 := hD.sub (ws' := [(q, .inl (cA, n, .inl f_4))]) [0] (by decide) rfl
      have hK9 := hK.sub (tys' := [(cA, .byte)]) [0] rfl
      exact W.vret hx hb hr (fun t ht hW => ⟨⟨f_4, rfl, trivial, wE.of ht hW hP9 hK9 hD9⟩, hS.F ht⟩) hS.2.2 dX12_putByte_15

