/-! The constructors, with all that they make. -/
theorem k_one {D : va_G} {cl : List vw_C} {tys : List (ClassId × FieldType)} {U : State} (h : va_K D cl tys U) {c1 c2 : ClassId} {ty : FieldType} (i j : Nat) (hi : tys[i]? = some (c1, ty)) (hj : tys[j]? = some (c2, ty)) (ho : ∀ C, ty = .object C → False) : c1 = c2 := by
  have a := (h.2 i _ hi).2
  have b := (h.2 j _ hj).2
  unfold va_RA at a b
  cases ty with
  | object C => exact (ho C rfl).elim
  | _ => exact Option.some.inj (a.symm.trans b)
theorem dX0_init_0 : decode cX0_init 0 = .ok (.aload_n 0, 1) := by decide +kernel
theorem dX0_init_1 : decode cX0_init 1 = .ok (.invokespecial 5, 3) := by decide +kernel
theorem dX0_init_4 : decode cX0_init 4 = .ok (.aload_n 0, 1) := by decide +kernel
theorem dX0_init_5 : decode cX0_init 5 = .ok (.ldc 13, 2) := by decide +kernel
theorem dX0_init_7 : decode cX0_init 7 = .ok (.newarray .int, 2) := by decide +kernel
theorem dX0_init_9 : decode cX0_init 9 = .ok (.putfield 14, 3) := by decide +kernel
theorem dX0_init_12 : decode cX0_init 12 = .ok (.aload_n 0, 1) := by decide +kernel
theorem dX0_init_13 : decode cX0_init 13 = .ok (.ldc 18, 2) := by decide +kernel
theorem dX0_init_15 : decode cX0_init 15 = .ok (.newarray .int, 2) := by decide +kernel
theorem dX0_init_17 : decode cX0_init 17 = .ok (.putfield 19, 3) := by decide +kernel
theorem dX0_init_20 : decode cX0_init 20 = .ok (.aload_n 0, 1) := by decide +kernel
theorem dX0_init_21 : decode cX0_init 21 = .ok (.ldc 18, 2) := by decide +kernel
theorem dX0_init_23 : decode cX0_init 23 = .ok (.newarray .int, 2) := by decide +kernel
theorem dX0_init_25 : decode cX0_init 25 = .ok (.putfield 22, 3) := by decide +kernel
theorem dX0_init_28 : decode cX0_init 28 = .ok (.aload_n 0, 1) := by decide +kernel
theorem dX0_init_29 : decode cX0_init 29 = .ok (.aload_n 1, 1) := by decide +kernel
theorem dX0_init_30 : decode cX0_init 30 = .ok (.putfield 25, 3) := by decide +kernel
theorem dX0_init_33 : decode cX0_init 33 = .ok (.return_, 1) := by decide +kernel
def zlX0_init : List Cond := [.methodLink RX0 5 objectInit, .instanceMethod objectInit, .code objectInit ⟨#[0xb1]⟩ 1 none, .constant RX0 13 (66048), .arrayClass .int, .fieldLink RX0 14 "LeanHouse$Assembler" "labels" "[I", .constant RX0 18 (65536), .fieldLink RX0 19 "LeanHouse$Assembler" "fixAt" "[I", .fieldLink RX0 22 "LeanHouse$Assembler" "fixTo" "[I", .fieldLink RX0 25 "LeanHouse$Assembler" "memory" "[I"]
def zsX0_init : List Cond := .code yX0_init cX0_init 2 none :: (zlX0_init ++ (wsX00))
set_option maxHeartbeats 8000000 in
set_option maxRecDepth 100000 in
theorem c_X0_init (l : Launch) (dC : Nat → ClassId) (dI : Nat → Nat → Nat) (sz : Nat) (cI : Nat → ClassId) (h0 : Nat) (m0 : Nat) : Met l yX0_init zsX0_init ({ frames := 2, cells := 3, slots := 197120, locals := 20 } : Jvm.Room) (va_Pc [.ref h0, .ref m0] (wB (dC, dI) vwCl nestM [(cI 0, .int), (cI 1, .byte), (cI 2, .long)] [(h0, .inr (0, [.null, .null, .null, .null, .int 0, .int 0, .int 0, .int 0, .int 0, .int 0]))] sz)) (va_Qv (fun (u : Nat × Nat × Nat) => True) (fun (u : Nat × Nat × Nat) (t : State) => wE (dC, dI) vwCl [(cI 0, .int), (cI 1, .byte), (cI 2, .long)] [(h0, .inr (0, [.ref m0, .ref u.1, .ref u.2.1, .ref u.2.2, .int 0, .int 0, .int 0, .int 0, .int 0, .int 0])), (u.1, .inl (cI 0, 66048, .inl (fun _ => 0))), (u.2.1, .inl (cI 0, 65536, .inl (fun _ => 0))), (u.2.2, .inl (cI 0, 65536, .inl (fun _ => 0)))] (va_A [(h0, .inr (0, [.null, .null, .null, .null, .int 0, .int 0, .int 0, .int 0, .int 0, .int 0]))] sz) t) (va_A [(h0, .inr (0, [.null, .null, .null, .null, .int 0, .int 0, .int 0, .int 0, .int 0, .int 0]))] sz)) 3 197120 (va_A [(h0, .inr (0, [.null, .null, .null, .null, .int 0, .int 0, .int 0, .int 0, .int 0, .int 0]))] sz) := by
  refine Met.ofW (cc := cX0_init) (maxL := 2) (ret := none) (by decide) rfl ?_
  intro p e s m args below meth c s₁ B hml hv
  obtain ⟨rfl, hsz, hP, hK, hD0, hN⟩ := hv
  have hx := B.exec
  have hb := B.bytes
  have hr := B.returns
  have hts := atoms_spec (ws := zsX0_init) B.pre
  have hown : s.vm.findClass RX0 = some m.cls := findClass_of_methodNamed B.named
  have hlocks := B.notSynchronized
  have hin : meth.name = "<init>" := (name_of_methodNamed B.named B.method).1
  subst hsz
  have hD := hD0.self (sz := s.heap.size)
  generalize hAe : va_A [(h0, .inr (0, [.null, .null, .null, .null, .int 0, .int 0, .int 0, .int 0, .int 0, .int 0]))] s.heap.size = A at hD ⊢
  have hA : ∀ q : Nat, s.heap.size ≤ q → A q := fun q h => by rw [← hAe]; exact Or.inr h
  have hS : va_S A s.heap s.heap [] := va_S.rf
  have hP : va_P (dC, dI) vwCl [(h0, .inr (0, [.null, .null, .null, .null, .int 0, .int 0, .int 0, .int 0, .int 0, .int 0]))] s.heap := hP
  have hl := lv_entry ([.ref h0, .ref m0]) (n := 2) (Nat.le_of_ble_eq_true rfl)
  rw [lg_entry_eq]
  generalize (lg_sl ([.ref h0, .ref m0]) ++ List.replicate (2 - (lg_sl ([.ref h0, .ref m0])).length) Slot.unset).toArray = ls at hl ⊢
  have hl : lv_has ls 2 [(0, .ref h0), (1, .ref m0)] := hl
  refine lv_aload_n hx hb dX0_init_0 rfl (lv_at hl 0 rfl) ?_
  refine W.objInit hx hb hown (hts _ (List.mem_cons_of_mem _ (List.mem_append_left _ (List.mem_of_getElem? (i := 0) rfl)))) (hts _ (List.mem_cons_of_mem _ (List.mem_append_left _ (List.mem_of_getElem? (i := 1) rfl)))) (hts _ (List.mem_cons_of_mem _ (List.mem_append_left _ (List.mem_of_getElem? (i := 2) rfl)))) rfl (by rw [hml]; exact hl.1) rfl dX0_init_1 (Nat.le_of_ble_eq_true rfl) (Nat.le_of_ble_eq_true rfl) ?_
  refine lv_aload_n hx hb dX0_init_4 rfl (lv_at hl 0 rfl) ?_
  refine lv_ldc (v := 66048) hx hb hown (hts _ (List.mem_cons_of_mem _ (List.mem_append_left _ (List.mem_of_getElem? (i := 3) rfl)))) dX0_init_5 ?_
  refine va_newa (atype := .int) (ty := .int) (N' := 66048) (a0 := (66048, .inl (fun _ => 0))) hx hb (hts _ (List.mem_cons_of_mem _ (List.mem_append_left _ (List.mem_of_getElem? (i := 4) rfl)))) rfl hK hP hD hS hA (fun _ => rfl) (by decide) (by decide) (Nat.le_of_ble_eq_true rfl) (Nat.le_of_ble_eq_true rfl) (Nat.le_of_ble_eq_true rfl) dX0_init_7 ?_
  clear hK hP hD hS
  intro a_labels a_labelsc H hK hP hD hS
  replace hK : va_K (dC, dI) vwCl [(cI 0, .int), (cI 1, .byte), (cI 2, .long), (a_labelsc, .int)] s := hK
  obtain rfl : a_labelsc = cI 0 := k_one hK 3 0 rfl rfl (fun _ z => by cases z)
  replace hK := hK.sub (tys' := [(cI 0, .int), (cI 1, .byte), (cI 2, .long)]) [0, 1, 2] rfl
  replace hP : va_P (dC, dI) vwCl [(h0, .inr (0, [.null, .null, .null, .null, .int 0, .int 0, .int 0, .int 0, .int 0, .int 0])), (a_labels, .inl (cI 0, 66048, .inl (fun _ => 0)))] H := hP
  replace hD : va_D A [(h0, .inr (0, [.null, .null, .null, .null, .int 0, .int 0, .int 0, .int 0, .int 0, .int 0])), (a_labels, .inl (cI 0, 66048, .inl (fun _ => 0)))] := hD
  refine va_putF (D := (dC, dI)) (ci := 0) (v := .ref a_labels) (ty := (.array .int)) (C := RX0) (T := TX0) (N := 10) hx hb hts (fun _ h9 => List.mem_cons_of_mem _ (List.mem_append_right _ h9)) tyX0 tyX0_ok nmX0 hown hK hP hD hS 0 rfl rfl 1 (by decide) (hts _ (List.mem_cons_of_mem _ (List.mem_append_left _ (List.mem_of_getElem? (i := 5) rfl)))) (fun _ h9 => h9) rfl hin rfl (by decide +kernel) rfl rfl (Nat.le_of_ble_eq_true rfl) dX0_init_9 ?_
  clear hP hD hS
  intro H locs hP hD hS
  replace hP : va_P (dC, dI) vwCl [(h0, .inr (0, [.null, .ref a_labels, .null, .null, .int 0, .int 0, .int 0, .int 0, .int 0, .int 0])), (a_labels, .inl (cI 0, 66048, .inl (fun _ => 0)))] H := hP
  replace hD : va_D A [(h0, .inr (0, [.null, .ref a_labels, .null, .null, .int 0, .int 0, .int 0, .int 0, .int 0, .int 0])), (a_labels, .inl (cI 0, 66048, .inl (fun _ => 0)))] := hD
  refine lv_aload_n hx hb dX0_init_12 rfl (lv_at hl 0 rfl) ?_
  refine lv_ldc (v := 65536) hx hb hown (hts _ (List.mem_cons_of_mem _ (List.mem_append_left _ (List.mem_of_getElem? (i := 6) rfl)))) dX0_init_13 ?_
  refine va_newa (atype := .int) (ty := .int) (N' := 65536) (a0 := (65536, .inl (fun _ => 0))) hx hb (hts _ (List.mem_cons_of_mem _ (List.mem_append_left _ (List.mem_of_getElem? (i := 4) rfl)))) rfl hK hP hD hS hA (fun _ => rfl) (by decide) (by decide) (Nat.le_of_ble_eq_true rfl) (Nat.le_of_ble_eq_true rfl) (Nat.le_of_ble_eq_true rfl) dX0_init_15 ?_
  clear hK hP hD hS
  intro a_fixAt a_fixAtc H hK hP hD hS
  replace hK : va_K (dC, dI) vwCl [(cI 0, .int), (cI 1, .byte), (cI 2, .long), (a_fixAtc, .int)] s := hK
  obtain rfl : a_fixAtc = cI 0 := k_one hK 3 0 rfl rfl (fun _ z => by cases z)
  replace hK := hK.sub (tys' := [(cI 0, .int), (cI 1, .byte), (cI 2, .long)]) [0, 1, 2] rfl
  replace hP : va_P (dC, dI) vwCl [(h0, .inr (0, [.null, .ref a_labels, .null, .null, .int 0, .int 0, .int 0, .int 0, .int 0, .int 0])), (a_labels, .inl (cI 0, 66048, .inl (fun _ => 0))), (a_fixAt, .inl (cI 0, 65536, .inl (fun _ => 0)))] H := hP
  replace hD : va_D A [(h0, .inr (0, [.null, .ref a_labels, .null, .null, .int 0, .int 0, .int 0, .int 0, .int 0, .int 0])), (a_labels, .inl (cI 0, 66048, .inl (fun _ => 0))), (a_fixAt, .inl (cI 0, 65536, .inl (fun _ => 0)))] := hD
  refine va_putF (D := (dC, dI)) (ci := 0) (v := .ref a_fixAt) (ty := (.array .int)) (C := RX0) (T := TX0) (N := 10) hx hb hts (fun _ h9 => List.mem_cons_of_mem _ (List.mem_append_right _ h9)) tyX0 tyX0_ok nmX0 hown hK hP hD hS 0 rfl rfl 2 (by decide) (hts _ (List.mem_cons_of_mem _ (List.mem_append_left _ (List.mem_of_getElem? (i := 7) rfl)))) (fun _ h9 => h9) rfl hin rfl (by decide +kernel) rfl rfl (Nat.le_of_ble_eq_true rfl) dX0_init_17 ?_
  clear hP hD hS
  intro H locs hP hD hS
  replace hP : va_P (dC, dI) vwCl [(h0, .inr (0, [.null, .ref a_labels, .ref a_fixAt, .null, .int 0, .int 0, .int 0, .int 0, .int 0, .int 0])), (a_labels, .inl (cI 0, 66048, .inl (fun _ => 0))), (a_fixAt, .inl (cI 0, 65536, .inl (fun _ => 0)))] H := hP
  replace hD : va_D A [(h0, .inr (0, [.null, .ref a_labels, .ref a_fixAt, .null, .int 0, .int 0, .int 0, .int 0, .int 0, .int 0])), (a_labels, .inl (cI 0, 66048, .inl (fun _ => 0))), (a_fixAt, .inl (cI 0, 65536, .inl (fun _ => 0)))] := hD
  refine lv_aload_n hx hb dX0_init_20 rfl (lv_at hl 0 rfl) ?_
  refine lv_ldc (v := 65536) hx hb hown (hts _ (List.mem_cons_of_mem _ (List.mem_append_left _ (List.mem_of_getElem? (i := 6) rfl)))) dX0_init_21 ?_
  refine va_newa (atype := .int) (ty := .int) (N' := 65536) (a0 := (65536, .inl (fun _ => 0))) hx hb (hts _ (List.mem_cons_of_mem _ (List.mem_append_left _ (List.mem_of_getElem? (i := 4) rfl)))) rfl hK hP hD hS hA (fun _ => rfl) (by decide) (by decide) (Nat.le_of_ble_eq_true rfl) (Nat.le_of_ble_eq_true rfl) (Nat.le_of_ble_eq_true rfl) dX0_init_23 ?_
  clear hK hP hD hS
  intro a_fixTo a_fixToc H hK hP hD hS
  replace hK : va_K (dC, dI) vwCl [(cI 0, .int), (cI 1, .byte), (cI 2, .long), (a_fixToc, .int)] s := hK
  obtain rfl : a_fixToc = cI 0 := k_one hK 3 0 rfl rfl (fun _ z => by cases z)
  replace hK := hK.sub (tys' := [(cI 0, .int), (cI 1, .byte), (cI 2, .long)]) [0, 1, 2] rfl
  replace hP : va_P (dC, dI) vwCl [(h0, .inr (0, [.null, .ref a_labels, .ref a_fixAt, .null, .int 0, .int 0, .int 0, .int 0, .int 0, .int 0])), (a_labels, .inl (cI 0, 66048, .inl (fun _ => 0))), (a_fixAt, .inl (cI 0, 65536, .inl (fun _ => 0))), (a_fixTo, .inl (cI 0, 65536, .inl (fun _ => 0)))] H := hP
  replace hD : va_D A [(h0, .inr (0, [.null, .ref a_labels, .ref a_fixAt, .null, .int 0, .int 0, .int 0, .int 0, .int 0, .int 0])), (a_labels, .inl (cI 0, 66048, .inl (fun _ => 0))), (a_fixAt, .inl (cI 0, 65536, .inl (fun _ => 0))), (a_fixTo, .inl (cI 0, 65536, .inl (fun _ => 0)))] := hD
  refine va_putF (D := (dC, dI)) (ci := 0) (v := .ref a_fixTo) (ty := (.array .int)) (C := RX0) (T := TX0) (N := 10) hx hb hts (fun _ h9 => List.mem_cons_of_mem _ (List.mem_append_right _ h9)) tyX0 tyX0_ok nmX0 hown hK hP hD hS 0 rfl rfl 3 (by decide) (hts _ (List.mem_cons_of_mem _ (List.mem_append_left _ (List.mem_of_getElem? (i := 8) rfl)))) (fun _ h9 => h9) rfl hin rfl (by decide +kernel) rfl rfl (Nat.le_of_ble_eq_true rfl) dX0_init_25 ?_
  clear hP hD hS
  intro H locs hP hD hS
  replace hP : va_P (dC, dI) vwCl [(h0, .inr (0, [.null, .ref a_labels, .ref a_fixAt, .ref a_fixTo, .int 0, .int 0, .int 0, .int 0, .int 0, .int 0])), (a_labels, .inl (cI 0, 66048, .inl (fun _ => 0))), (a_fixAt, .inl (cI 0, 65536, .inl (fun _ => 0))), (a_fixTo, .inl (cI 0, 65536, .inl (fun _ => 0)))] H := hP
  replace hD : va_D A [(h0, .inr (0, [.null, .ref a_labels, .ref a_fixAt, .ref a_fixTo, .int 0, .int 0, .int 0, .int 0, .int 0, .int 0])), (a_labels, .inl (cI 0, 66048, .inl (fun _ => 0))), (a_fixAt, .inl (cI 0, 65536, .inl (fun _ => 0))), (a_fixTo, .inl (cI 0, 65536, .inl (fun _ => 0)))] := hD
  refine lv_aload_n hx hb dX0_init_28 rfl (lv_at hl 0 rfl) ?_
  refine lv_aload_n hx hb dX0_init_29 rfl (lv_at hl 1 rfl) ?_
  refine va_putF (D := (dC, dI)) (ci := 0) (v := .ref m0) (ty := (.array .int)) (C := RX0) (T := TX0) (N := 10) hx hb hts (fun _ h9 => List.mem_cons_of_mem _ (List.mem_append_right _ h9)) tyX0 tyX0_ok nmX0 hown hK hP hD hS 0 rfl rfl 0 (by decide) (hts _ (List.mem_cons_of_mem _ (List.mem_append_left _ (List.mem_of_getElem? (i := 9) rfl)))) (fun _ h9 => h9) rfl hin rfl (by decide +kernel) rfl rfl (Nat.le_of_ble_eq_true rfl) dX0_init_30 ?_
  clear hP hD hS
  intro H locs hP hD hS
  replace hP : va_P (dC, dI) vwCl [(h0, .inr (0, [.ref m0, .ref a_labels, .ref a_fixAt, .ref a_fixTo, .int 0, .int 0, .int 0, .int 0, .int 0, .int 0])), (a_labels, .inl (cI 0, 66048, .inl (fun _ => 0))), (a_fixAt, .inl (cI 0, 65536, .inl (fun _ => 0))), (a_fixTo, .inl (cI 0, 65536, .inl (fun _ => 0)))] H := hP
  replace hD : va_D A [(h0, .inr (0, [.ref m0, .ref a_labels, .ref a_fixAt, .ref a_fixTo, .int 0, .int 0, .int 0, .int 0, .int 0, .int 0])), (a_labels, .inl (cI 0, 66048, .inl (fun _ => 0))), (a_fixAt, .inl (cI 0, 65536, .inl (fun _ => 0))), (a_fixTo, .inl (cI 0, 65536, .inl (fun _ => 0)))] := hD
  have hP9 := hP.sub (ws' := [(h0, .inr (0, [.ref m0, .ref a_labels, .ref a_fixAt, .ref a_fixTo, .int 0, .int 0, .int 0, .int 0, .int 0, .int 0])), (a_labels, .inl (cI 0, 66048, .inl (fun _ => 0))), (a_fixAt, .inl (cI 0, 65536, .inl (fun _ => 0))), (a_fixTo, .inl (cI 0, 65536, .inl (fun _ => 0)))]) [0, 1, 2, 3] rfl
  have hD9 := hD.sub (ws' := [(h0, .inr (0, [.ref m0, .ref a_labels, .ref a_fixAt, .ref a_fixTo, .int 0, .int 0, .int 0, .int 0, .int 0, .int 0])), (a_labels, .inl (cI 0, 66048, .inl (fun _ => 0))), (a_fixAt, .inl (cI 0, 65536, .inl (fun _ => 0))), (a_fixTo, .inl (cI 0, 65536, .inl (fun _ => 0)))]) [0, 1, 2, 3] (by decide) rfl
  have hK9 := hK.sub (tys' := [(cI 0, .int), (cI 1, .byte), (cI 2, .long)]) [0, 1, 2] rfl
  exact W.vret hx hb hr (fun t ht hW => ⟨⟨(a_labels, a_fixAt, a_fixTo), rfl, trivial, wE.of ht hW hP9 hK9 hD9⟩, hS.F ht⟩) hS.2.2 dX0_init_33

theorem dX5_init_0 : decode cX5_init 0 = .ok (.aload_n 0, 1) := by decide +kernel
theorem dX5_init_1 : decode cX5_init 1 = .ok (.invokespecial 7, 3) := by decide +kernel
theorem dX5_init_4 : decode cX5_init 4 = .ok (.aload_n 0, 1) := by decide +kernel
theorem dX5_init_5 : decode cX5_init 5 = .ok (.aload_n 1, 1) := by decide +kernel
theorem dX5_init_6 : decode cX5_init 6 = .ok (.putfield 13, 3) := by decide +kernel
theorem dX5_init_9 : decode cX5_init 9 = .ok (.return_, 1) := by decide +kernel
def zlX5_init : List Cond := [.methodLink RX5 7 objectInit, .instanceMethod objectInit, .code objectInit ⟨#[0xb1]⟩ 1 none, .fieldLink RX5 13 "LeanHouse$Library" "a" "LLeanHouse$Assembler;"]
def zsX5_init : List Cond := .code yX5_init cX5_init 2 none :: (zlX5_init ++ (wsX50))
set_option maxHeartbeats 8000000 in
set_option maxRecDepth 100000 in
theorem c_X5_init (l : Launch) (dC : Nat → ClassId) (dI : Nat → Nat → Nat) (sz : Nat) (cI : Nat → ClassId) (h0 : Nat) (m0 : Nat) : Met l yX5_init zsX5_init ({ frames := 2, cells := 0, slots := 0, locals := 20 } : Jvm.Room) (va_Pc [.ref h0, .ref m0] (wB (dC, dI) vwCl nestM [(cI 0, .int), (cI 1, .byte), (cI 2, .long)] [(h0, .inr (5, [.null]))] sz)) (va_Qv (fun (u : Unit) => True) (fun (u : Unit) (t : State) => wE (dC, dI) vwCl [(cI 0, .int), (cI 1, .byte), (cI 2, .long)] [(h0, .inr (5, [.ref m0]))] (va_A [(h0, .inr (5, [.null]))] sz) t) (va_A [(h0, .inr (5, [.null]))] sz)) 0 0 (va_A [(h0, .inr (5, [.null]))] sz) := by
  refine Met.ofW (cc := cX5_init) (maxL := 2) (ret := none) (by decide) rfl ?_
  intro p e s m args below meth c s₁ B hml hv
  obtain ⟨rfl, hsz, hP, hK, hD0, hN⟩ := hv
  have hx := B.exec
  have hb := B.bytes
  have hr := B.returns
  have hts := atoms_spec (ws := zsX5_init) B.pre
  have hown : s.vm.findClass RX5 = some m.cls := findClass_of_methodNamed B.named
  have hlocks := B.notSynchronized
  have hin : meth.name = "<init>" := (name_of_methodNamed B.named B.method).1
  subst hsz
  have hD := hD0.self (sz := s.heap.size)
  generalize hAe : va_A [(h0, .inr (5, [.null]))] s.heap.size = A at hD ⊢
  have hA : ∀ q : Nat, s.heap.size ≤ q → A q := fun q h => by rw [← hAe]; exact Or.inr h
  have hS : va_S A s.heap s.heap [] := va_S.rf
  have hP : va_P (dC, dI) vwCl [(h0, .inr (5, [.null]))] s.heap := hP
  have hl := lv_entry ([.ref h0, .ref m0]) (n := 2) (Nat.le_of_ble_eq_true rfl)
  rw [lg_entry_eq]
  generalize (lg_sl ([.ref h0, .ref m0]) ++ List.replicate (2 - (lg_sl ([.ref h0, .ref m0])).length) Slot.unset).toArray = ls at hl ⊢
  have hl : lv_has ls 2 [(0, .ref h0), (1, .ref m0)] := hl
  refine lv_aload_n hx hb dX5_init_0 rfl (lv_at hl 0 rfl) ?_
  refine W.objInit hx hb hown (hts _ (List.mem_cons_of_mem _ (List.mem_append_left _ (List.mem_of_getElem? (i := 0) rfl)))) (hts _ (List.mem_cons_of_mem _ (List.mem_append_left _ (List.mem_of_getElem? (i := 1) rfl)))) (hts _ (List.mem_cons_of_mem _ (List.mem_append_left _ (List.mem_of_getElem? (i := 2) rfl)))) rfl (by rw [hml]; exact hl.1) rfl dX5_init_1 (Nat.le_of_ble_eq_true rfl) (Nat.le_of_ble_eq_true rfl) ?_
  refine lv_aload_n hx hb dX5_init_4 rfl (lv_at hl 0 rfl) ?_
  refine lv_aload_n hx hb dX5_init_5 rfl (lv_at hl 1 rfl) ?_
  refine va_putF (D := (dC, dI)) (ci := 5) (v := .ref m0) (ty := (.object "LeanHouse$Assembler")) (C := RX5) (T := TX5) (N := 1) hx hb hts (fun _ h9 => List.mem_cons_of_mem _ (List.mem_append_right _ h9)) tyX5 tyX5_ok nmX5 hown hK hP hD hS 0 rfl rfl 0 (by decide) (hts _ (List.mem_cons_of_mem _ (List.mem_append_left _ (List.mem_of_getElem? (i := 3) rfl)))) (fun _ h9 => h9) rfl hin rfl (by decide +kernel) rfl rfl (Nat.le_of_ble_eq_true rfl) dX5_init_6 ?_
  clear hP hD hS
  intro H locs hP hD hS
  replace hP : va_P (dC, dI) vwCl [(h0, .inr (5, [.ref m0]))] H := hP
  replace hD : va_D A [(h0, .inr (5, [.ref m0]))] := hD
  have hP9 := hP.sub (ws' := [(h0, .inr (5, [.ref m0]))]) [0] rfl
  have hD9 := hD.sub (ws' := [(h0, .inr (5, [.ref m0]))]) [0] (by decide) rfl
  have hK9 := hK.sub (tys' := [(cI 0, .int), (cI 1, .byte), (cI 2, .long)]) [0, 1, 2] rfl
  exact W.vret hx hb hr (fun t ht hW => ⟨⟨(), rfl, trivial, wE.of ht hW hP9 hK9 hD9⟩, hS.F ht⟩) hS.2.2 dX5_init_9

theorem dX3_init_0 : decode cX3_init 0 = .ok (.aload_n 0, 1) := by decide +kernel
theorem dX3_init_1 : decode cX3_init 1 = .ok (.invokespecial 3, 3) := by decide +kernel
theorem dX3_init_4 : decode cX3_init 4 = .ok (.aload_n 0, 1) := by decide +kernel
theorem dX3_init_5 : decode cX3_init 5 = .ok (.ldc 11, 2) := by decide +kernel
theorem dX3_init_7 : decode cX3_init 7 = .ok (.newarray .int, 2) := by decide +kernel
theorem dX3_init_9 : decode cX3_init 9 = .ok (.putfield 12, 3) := by decide +kernel
theorem dX3_init_12 : decode cX3_init 12 = .ok (.aload_n 0, 1) := by decide +kernel
theorem dX3_init_13 : decode cX3_init 13 = .ok (.aload_n 1, 1) := by decide +kernel
theorem dX3_init_14 : decode cX3_init 14 = .ok (.putfield 18, 3) := by decide +kernel
theorem dX3_init_17 : decode cX3_init 17 = .ok (.aload_n 0, 1) := by decide +kernel
theorem dX3_init_18 : decode cX3_init 18 = .ok (.new 22, 3) := by decide +kernel
theorem dX3_init_21 : decode cX3_init 21 = .ok (.dup, 1) := by decide +kernel
theorem dX3_init_22 : decode cX3_init 22 = .ok (.aload_n 2, 1) := by decide +kernel
theorem dX3_init_23 : decode cX3_init 23 = .ok (.invokespecial 24, 3) := by decide +kernel
theorem dX3_init_26 : decode cX3_init 26 = .ok (.putfield 27, 3) := by decide +kernel
theorem dX3_init_29 : decode cX3_init 29 = .ok (.aload_n 0, 1) := by decide +kernel
theorem dX3_init_30 : decode cX3_init 30 = .ok (.new 31, 3) := by decide +kernel
theorem dX3_init_33 : decode cX3_init 33 = .ok (.dup, 1) := by decide +kernel
theorem dX3_init_34 : decode cX3_init 34 = .ok (.aload_n 0, 1) := by decide +kernel
theorem dX3_init_35 : decode cX3_init 35 = .ok (.getfield 27, 3) := by decide +kernel
theorem dX3_init_38 : decode cX3_init 38 = .ok (.invokespecial 33, 3) := by decide +kernel
theorem dX3_init_41 : decode cX3_init 41 = .ok (.putfield 36, 3) := by decide +kernel
theorem dX3_init_44 : decode cX3_init 44 = .ok (.return_, 1) := by decide +kernel
def zlX3_init : List Cond := [.methodLink RX3 3 objectInit, .instanceMethod objectInit, .code objectInit ⟨#[0xb1]⟩ 1 none, .constant RX3 11 (65536), .arrayClass .int, .fieldLink RX3 12 "LeanHouse$Compiler" "landing" "[I", .fieldLink RX3 18 "LeanHouse$Compiler" "coder" "LLeanHouse$Coder;", .classLink RX3 22 RX0, .instantiable RX0 10, .initialized RX0, .code yX0_init cX0_init 2 none, .methodLink RX0 5 objectInit, .constant RX0 13 (66048), .fieldLink RX0 14 "LeanHouse$Assembler" "labels" "[I", .constant RX0 18 (65536), .fieldLink RX0 19 "LeanHouse$Assembler" "fixAt" "[I", .fieldLink RX0 22 "LeanHouse$Assembler" "fixTo" "[I", .fieldLink RX0 25 "LeanHouse$Assembler" "memory" "[I", .methodLink RX3 24 yX0_init, .instanceMethod yX0_init, .fieldLink RX3 27 "LeanHouse$Compiler" "a" "LLeanHouse$Assembler;", .classLink RX3 31 RX5, .instantiable RX5 1, .initialized RX5, .code yX5_init cX5_init 2 none, .methodLink RX5 7 objectInit, .fieldLink RX5 13 "LeanHouse$Library" "a" "LLeanHouse$Assembler;", .methodLink RX3 33 yX5_init, .instanceMethod yX5_init, .fieldLink RX3 36 "LeanHouse$Compiler" "library" "LLeanHouse$Library;"]
def zsX3_init : List Cond := .code yX3_init cX3_init 3 none :: (zlX3_init ++ (wsX30 ++ (wsX00 ++ (wsX50))))
set_option maxRecDepth 20000 in
theorem gzX3_init_X0_init_24 : GoodIn zsX3_init zsX0_init := (goodIn_ca (goodIn_r _ [11, 12, 2, 3, 13, 5, 14, 15, 16, 17, 18] (by decide +kernel) (by decide +kernel)) (goodIn_sub (fun _ h9 => List.mem_cons_of_mem _ (List.mem_append_right _ (List.mem_append_right _ (List.mem_append_left _ h9)))) gwX0))
set_option maxRecDepth 20000 in
theorem gzX3_init_X5_init_33 : GoodIn zsX3_init zsX5_init := (goodIn_ca (goodIn_r _ [25, 26, 2, 3, 27] (by decide +kernel) (by decide +kernel)) (goodIn_sub (fun _ h9 => List.mem_cons_of_mem _ (List.mem_append_right _ (List.mem_append_right _ (List.mem_append_right _ h9)))) gwX5))
set_option maxHeartbeats 8000000 in
set_option maxRecDepth 100000 in
theorem c_X3_init (l : Launch) (dC : Nat → ClassId) (dI : Nat → Nat → Nat) (sz : Nat) (cI : Nat → ClassId) (h0 : Nat) (m0 : Nat) (m1 : Nat) : Met l yX3_init zsX3_init ({ frames := 3, cells := 6, slots := 262667, locals := 41 } : Jvm.Room) (va_Pc [.ref h0, .ref m0, .ref m1] (wB (dC, dI) vwCl nestM [(cI 0, .int), (cI 1, .byte), (cI 2, .long)] [(h0, .inr (3, [.null, .null, .null, .null]))] sz)) (va_Qv (fun (u : Nat × Nat × Nat × Nat × Nat × Nat) => True) (fun (u : Nat × Nat × Nat × Nat × Nat × Nat) (t : State) => wE (dC, dI) vwCl [(cI 0, .int), (cI 1, .byte), (cI 2, .long)] [(h0, .inr (3, [.ref m0, .ref u.2.1, .ref u.2.2.2.2.2, .ref u.1])), (u.1, .inl (cI 0, 65536, .inl (fun _ => 0))), (u.2.1, .inr (0, [.ref m1, .ref u.2.2.1, .ref u.2.2.2.1, .ref u.2.2.2.2.1, .int 0, .int 0, .int 0, .int 0, .int 0, .int 0])), (u.2.2.1, .inl (cI 0, 66048, .inl (fun _ => 0))), (u.2.2.2.1, .inl (cI 0, 65536, .inl (fun _ => 0))), (u.2.2.2.2.1, .inl (cI 0, 65536, .inl (fun _ => 0))), (u.2.2.2.2.2, .inr (5, [.ref u.2.1]))] (va_A [(h0, .inr (3, [.null, .null, .null, .null]))] sz) t) (va_A [(h0, .inr (3, [.null, .null, .null, .null]))] sz)) 6 262667 (va_A [(h0, .inr (3, [.null, .null, .null, .null]))] sz) := by
  refine Met.ofW (cc := cX3_init) (maxL := 3) (ret := none) (by decide) rfl ?_
  intro p e s m args below meth c s₁ B hml hv
  obtain ⟨rfl, hsz, hP, hK, hD0, hN⟩ := hv
  have hx := B.exec
  have hb := B.bytes
  have hr := B.returns
  have hts := atoms_spec (ws := zsX3_init) B.pre
  have hown : s.vm.findClass RX3 = some m.cls := findClass_of_methodNamed B.named
  have hlocks := B.notSynchronized
  have hin : meth.name = "<init>" := (name_of_methodNamed B.named B.method).1
  subst hsz
  have hD := hD0.self (sz := s.heap.size)
  generalize hAe : va_A [(h0, .inr (3, [.null, .null, .null, .null]))] s.heap.size = A at hD ⊢
  have hA : ∀ q : Nat, s.heap.size ≤ q → A q := fun q h => by rw [← hAe]; exact Or.inr h
  have hS : va_S A s.heap s.heap [] := va_S.rf
  have hP : va_P (dC, dI) vwCl [(h0, .inr (3, [.null, .null, .null, .null]))] s.heap := hP
  have hl := lv_entry ([.ref h0, .ref m0, .ref m1]) (n := 3) (Nat.le_of_ble_eq_true rfl)
  rw [lg_entry_eq]
  generalize (lg_sl ([.ref h0, .ref m0, .ref m1]) ++ List.replicate (3 - (lg_sl ([.ref h0, .ref m0, .ref m1])).length) Slot.unset).toArray = ls at hl ⊢
  have hl : lv_has ls 3 [(0, .ref h0), (1, .ref m0), (2, .ref m1)] := hl
  refine lv_aload_n hx hb dX3_init_0 rfl (lv_at hl 0 rfl) ?_
  refine W.objInit hx hb hown (hts _ (List.mem_cons_of_mem _ (List.mem_append_left _ (List.mem_of_getElem? (i := 0) rfl)))) (hts _ (List.mem_cons_of_mem _ (List.mem_append_left _ (List.mem_of_getElem? (i := 1) rfl)))) (hts _ (List.mem_cons_of_mem _ (List.mem_append_left _ (List.mem_of_getElem? (i := 2) rfl)))) rfl (by rw [hml]; exact hl.1) rfl dX3_init_1 (Nat.le_of_ble_eq_true rfl) (Nat.le_of_ble_eq_true rfl) ?_
  refine lv_aload_n hx hb dX3_init_4 rfl (lv_at hl 0 rfl) ?_
  refine lv_ldc (v := 65536) hx hb hown (hts _ (List.mem_cons_of_mem _ (List.mem_append_left _ (List.mem_of_getElem? (i := 3) rfl)))) dX3_init_5 ?_
  refine va_newa (atype := .int) (ty := .int) (N' := 65536) (a0 := (65536, .inl (fun _ => 0))) hx hb (hts _ (List.mem_cons_of_mem _ (List.mem_append_left _ (List.mem_of_getElem? (i := 4) rfl)))) rfl hK hP hD hS hA (fun _ => rfl) (by decide) (by decide) (Nat.le_of_ble_eq_true rfl) (Nat.le_of_ble_eq_true rfl) (Nat.le_of_ble_eq_true rfl) dX3_init_7 ?_
  clear hK hP hD hS
  intro c_landing c_landingc H hK hP hD hS
  replace hK : va_K (dC, dI) vwCl [(cI 0, .int), (cI 1, .byte), (cI 2, .long), (c_landingc, .int)] s := hK
  obtain rfl : c_landingc = cI 0 := k_one hK 3 0 rfl rfl (fun _ z => by cases z)
  replace hK := hK.sub (tys' := [(cI 0, .int), (cI 1, .byte), (cI 2, .long)]) [0, 1, 2] rfl
  replace hP : va_P (dC, dI) vwCl [(h0, .inr (3, [.null, .null, .null, .null])), (c_landing, .inl (cI 0, 65536, .inl (fun _ => 0)))] H := hP
  replace hD : va_D A [(h0, .inr (3, [.null, .null, .null, .null])), (c_landing, .inl (cI 0, 65536, .inl (fun _ => 0)))] := hD
  refine va_putF (D := (dC, dI)) (ci := 3) (v := .ref c_landing) (ty := (.array .int)) (C := RX3) (T := TX3) (N := 4) hx hb hts (fun _ h9 => List.mem_cons_of_mem _ (List.mem_append_right _ (List.mem_append_left _ h9))) tyX3 tyX3_ok nmX3 hown hK hP hD hS 0 rfl rfl 3 (by decide) (hts _ (List.mem_cons_of_mem _ (List.mem_append_left _ (List.mem_of_getElem? (i := 5) rfl)))) (fun _ h9 => h9) rfl hin rfl (by decide +kernel) rfl rfl (Nat.le_of_ble_eq_true rfl) dX3_init_9 ?_
  clear hP hD hS
  intro H locs hP hD hS
  replace hP : va_P (dC, dI) vwCl [(h0, .inr (3, [.null, .null, .null, .ref c_landing])), (c_landing, .inl (cI 0, 65536, .inl (fun _ => 0)))] H := hP
  replace hD : va_D A [(h0, .inr (3, [.null, .null, .null, .ref c_landing])), (c_landing, .inl (cI 0, 65536, .inl (fun _ => 0)))] := hD
  refine lv_aload_n hx hb dX3_init_12 rfl (lv_at hl 0 rfl) ?_
  refine lv_aload_n hx hb dX3_init_13 rfl (lv_at hl 1 rfl) ?_
  refine va_putF (D := (dC, dI)) (ci := 3) (v := .ref m0) (ty := (.object "LeanHouse$Coder")) (C := RX3) (T := TX3) (N := 4) hx hb hts (fun _ h9 => List.mem_cons_of_mem _ (List.mem_append_right _ (List.mem_append_left _ h9))) tyX3 tyX3_ok nmX3 hown hK hP hD hS 0 rfl rfl 0 (by decide) (hts _ (List.mem_cons_of_mem _ (List.mem_append_left _ (List.mem_of_getElem? (i := 6) rfl)))) (fun _ h9 => h9) rfl hin rfl (by decide +kernel) rfl rfl (Nat.le_of_ble_eq_true rfl) dX3_init_14 ?_
  clear hP hD hS
  intro H locs hP hD hS
  replace hP : va_P (dC, dI) vwCl [(h0, .inr (3, [.ref m0, .null, .null, .ref c_landing])), (c_landing, .inl (cI 0, 65536, .inl (fun _ => 0)))] H := hP
  replace hD : va_D A [(h0, .inr (3, [.ref m0, .null, .null, .ref c_landing])), (c_landing, .inl (cI 0, 65536, .inl (fun _ => 0)))] := hD
  refine lv_aload_n hx hb dX3_init_17 rfl (lv_at hl 0 rfl) ?_
  refine va_new (ci := 0) (fs := [.null, .null, .null, .null, .int 0, .int 0, .int 0, .int 0, .int 0, .int 0]) (C := RX0) (T := TX0) (N := 10) hx hb hts (fun _ h9 => List.mem_cons_of_mem _ (List.mem_append_right _ (List.mem_append_right _ (List.mem_append_left _ h9)))) tyX0 tyX0_ok hown (hts _ (List.mem_cons_of_mem _ (List.mem_append_left _ (List.mem_of_getElem? (i := 7) rfl)))) (hts _ (List.mem_cons_of_mem _ (List.mem_append_left _ (List.mem_of_getElem? (i := 8) rfl)))) (hts _ (List.mem_cons_of_mem _ (List.mem_append_left _ (List.mem_of_getElem? (i := 9) rfl)))) hK hP hD hS hA rfl dflX0 (Nat.le_of_ble_eq_true rfl) (Nat.le_of_ble_eq_true rfl) dX3_init_18 ?_
  clear hP hD hS
  intro q_asm H hP hD hS
  replace hP : va_P (dC, dI) vwCl [(h0, .inr (3, [.ref m0, .null, .null, .ref c_landing])), (c_landing, .inl (cI 0, 65536, .inl (fun _ => 0))), (q_asm, .inr (0, [.null, .null, .null, .null, .int 0, .int 0, .int 0, .int 0, .int 0, .int 0]))] H := hP
  replace hD : va_D A [(h0, .inr (3, [.ref m0, .null, .null, .ref c_landing])), (c_landing, .inl (cI 0, 65536, .inl (fun _ => 0))), (q_asm, .inr (0, [.null, .null, .null, .null, .int 0, .int 0, .int 0, .int 0, .int 0, .int 0]))] := hD
  refine lv_dup hx hb dX3_init_21 rfl ?_
  refine lv_aload_n hx hb dX3_init_22 rfl (lv_at hl 2 rfl) ?_
  refine aft_v (wr := [(h0, .inr (3, [.ref m0, .null, .null, .ref c_landing])), (c_landing, .inl (cI 0, 65536, .inl (fun _ => 0)))]) (va_runI (As := [.ref m1]) (rest := [.ref q_asm, .ref h0]) ⟨hx, hb, hml, hown, hts⟩ (c_X0_init l dC dI H.size cI q_asm m1) (cwI 1 hts gzX3_init_X0_init_24 rfl rfl rfl (hts _ (List.mem_cons_of_mem _ (List.mem_append_left _ (List.mem_of_getElem? (i := 9) rfl)))) (hts _ (List.mem_cons_of_mem _ (List.mem_append_left _ (List.mem_of_getElem? (i := 18) rfl)))) (hts _ (List.mem_cons_of_mem _ (List.mem_append_left _ (List.mem_of_getElem? (i := 19) rfl)))) rfl (by decide +kernel) ⟨Nat.le_of_ble_eq_true rfl, Nat.le_of_ble_eq_true rfl⟩) (wB.preS (As := [.ref q_asm, .ref m1]) (hP.sub (ws' := [(q_asm, .inr (0, [.null, .null, .null, .null, .int 0, .int 0, .int 0, .int 0, .int 0, .int 0]))]) [2] rfl) (hK.sub (tys' := [(cI 0, .int), (cI 1, .byte), (cI 2, .long)]) [0, 1, 2] rfl) (hD.sub (ws' := [(q_asm, .inr (0, [.null, .null, .null, .null, .int 0, .int 0, .int 0, .int 0, .int 0, .int 0]))]) [2] (by decide) rfl) hN) rfl rfl hl.1 rfl (lv_room (Nat.le_of_ble_eq_true rfl)) dX3_init_23 ⟨Nat.le_of_ble_eq_true rfl, Nat.le_of_ble_eq_true rfl⟩) hP hD hS hA [2] [0, 1] rfl rfl (by decide) (by decide) ?_
  clear hP hD hS
  intro u_1 H locs w_3 hK1 hP hD hS
  obtain ⟨qa_labels, qa_fixAt, qa_fixTo⟩ := u_1
  replace hP : va_P (dC, dI) vwCl [(h0, .inr (3, [.ref m0, .null, .null, .ref c_landing])), (c_landing, .inl (cI 0, 65536, .inl (fun _ => 0))), (q_asm, .inr (0, [.ref m1, .ref qa_labels, .ref qa_fixAt, .ref qa_fixTo, .int 0, .int 0, .int 0, .int 0, .int 0, .int 0])), (qa_labels, .inl (cI 0, 66048, .inl (fun _ => 0))), (qa_fixAt, .inl (cI 0, 65536, .inl (fun _ => 0))), (qa_fixTo, .inl (cI 0, 65536, .inl (fun _ => 0)))] H := hP
  replace hD : va_D A [(h0, .inr (3, [.ref m0, .null, .null, .ref c_landing])), (c_landing, .inl (cI 0, 65536, .inl (fun _ => 0))), (q_asm, .inr (0, [.ref m1, .ref qa_labels, .ref qa_fixAt, .ref qa_fixTo, .int 0, .int 0, .int 0, .int 0, .int 0, .int 0])), (qa_labels, .inl (cI 0, 66048, .inl (fun _ => 0))), (qa_fixAt, .inl (cI 0, 65536, .inl (fun _ => 0))), (qa_fixTo, .inl (cI 0, 65536, .inl (fun _ => 0)))] := hD
  clear hK1
  try dsimp only at w_3
  refine va_putF (D := (dC, dI)) (ci := 3) (v := .ref q_asm) (ty := (.object "LeanHouse$Assembler")) (C := RX3) (T := TX3) (N := 4) hx hb hts (fun _ h9 => List.mem_cons_of_mem _ (List.mem_append_right _ (List.mem_append_left _ h9))) tyX3 tyX3_ok nmX3 hown hK hP hD hS 0 rfl rfl 1 (by decide) (hts _ (List.mem_cons_of_mem _ (List.mem_append_left _ (List.mem_of_getElem? (i := 20) rfl)))) (fun _ h9 => h9) rfl hin rfl (by decide +kernel) rfl rfl (Nat.le_of_ble_eq_true rfl) dX3_init_26 ?_
  clear hP hD hS
  intro H locs hP hD hS
  replace hP : va_P (dC, dI) vwCl [(h0, .inr (3, [.ref m0, .ref q_asm, .null, .ref c_landing])), (c_landing, .inl (cI 0, 65536, .inl (fun _ => 0))), (q_asm, .inr (0, [.ref m1, .ref qa_labels, .ref qa_fixAt, .ref qa_fixTo, .int 0, .int 0, .int 0, .int 0, .int 0, .int 0])), (qa_labels, .inl (cI 0, 66048, .inl (fun _ => 0))), (qa_fixAt, .inl (cI 0, 65536, .inl (fun _ => 0))), (qa_fixTo, .inl (cI 0, 65536, .inl (fun _ => 0)))] H := hP
  replace hD : va_D A [(h0, .inr (3, [.ref m0, .ref q_asm, .null, .ref c_landing])), (c_landing, .inl (cI 0, 65536, .inl (fun _ => 0))), (q_asm, .inr (0, [.ref m1, .ref qa_labels, .ref qa_fixAt, .ref qa_fixTo, .int 0, .int 0, .int 0, .int 0, .int 0, .int 0])), (qa_labels, .inl (cI 0, 66048, .inl (fun _ => 0))), (qa_fixAt, .inl (cI 0, 65536, .inl (fun _ => 0))), (qa_fixTo, .inl (cI 0, 65536, .inl (fun _ => 0)))] := hD
  refine lv_aload_n hx hb dX3_init_29 rfl (lv_at hl 0 rfl) ?_
  refine va_new (ci := 5) (fs := [.null]) (C := RX5) (T := TX5) (N := 1) hx hb hts (fun _ h9 => List.mem_cons_of_mem _ (List.mem_append_right _ (List.mem_append_right _ (List.mem_append_right _ h9)))) tyX5 tyX5_ok hown (hts _ (List.mem_cons_of_mem _ (List.mem_append_left _ (List.mem_of_getElem? (i := 21) rfl)))) (hts _ (List.mem_cons_of_mem _ (List.mem_append_left _ (List.mem_of_getElem? (i := 22) rfl)))) (hts _ (List.mem_cons_of_mem _ (List.mem_append_left _ (List.mem_of_getElem? (i := 23) rfl)))) hK hP hD hS hA rfl dflX5 (Nat.le_of_ble_eq_true rfl) (Nat.le_of_ble_eq_true rfl) dX3_init_30 ?_
  clear hP hD hS
  intro q_lib H hP hD hS
  replace hP : va_P (dC, dI) vwCl [(h0, .inr (3, [.ref m0, .ref q_asm, .null, .ref c_landing])), (c_landing, .inl (cI 0, 65536, .inl (fun _ => 0))), (q_asm, .inr (0, [.ref m1, .ref qa_labels, .ref qa_fixAt, .ref qa_fixTo, .int 0, .int 0, .int 0, .int 0, .int 0, .int 0])), (qa_labels, .inl (cI 0, 66048, .inl (fun _ => 0))), (qa_fixAt, .inl (cI 0, 65536, .inl (fun _ => 0))), (qa_fixTo, .inl (cI 0, 65536, .inl (fun _ => 0))), (q_lib, .inr (5, [.null]))] H := hP
  replace hD : va_D A [(h0, .inr (3, [.ref m0, .ref q_asm, .null, .ref c_landing])), (c_landing, .inl (cI 0, 65536, .inl (fun _ => 0))), (q_asm, .inr (0, [.ref m1, .ref qa_labels, .ref qa_fixAt, .ref qa_fixTo, .int 0, .int 0, .int 0, .int 0, .int 0, .int 0])), (qa_labels, .inl (cI 0, 66048, .inl (fun _ => 0))), (qa_fixAt, .inl (cI 0, 65536, .inl (fun _ => 0))), (qa_fixTo, .inl (cI 0, 65536, .inl (fun _ => 0))), (q_lib, .inr (5, [.null]))] := hD
  refine lv_dup hx hb dX3_init_33 rfl ?_
  refine lv_aload_n hx hb dX3_init_34 rfl (lv_at hl 0 rfl) ?_
  refine va_get (D := (dC, dI)) (ci := 3) (v := .ref q_asm) (C := RX3) (T := TX3) (N := 4) hx hb hts (fun _ h9 => List.mem_cons_of_mem _ (List.mem_append_right _ (List.mem_append_left _ h9))) hown hK hP 0 rfl rfl 1 (by decide) (hts _ (List.mem_cons_of_mem _ (List.mem_append_left _ (List.mem_of_getElem? (i := 20) rfl)))) (fun _ h9 => h9) rfl dX3_init_35 ?_
  refine aft_v (wr := [(h0, .inr (3, [.ref m0, .ref q_asm, .null, .ref c_landing])), (c_landing, .inl (cI 0, 65536, .inl (fun _ => 0))), (q_asm, .inr (0, [.ref m1, .ref qa_labels, .ref qa_fixAt, .ref qa_fixTo, .int 0, .int 0, .int 0, .int 0, .int 0, .int 0])), (qa_labels, .inl (cI 0, 66048, .inl (fun _ => 0))), (qa_fixAt, .inl (cI 0, 65536, .inl (fun _ => 0))), (qa_fixTo, .inl (cI 0, 65536, .inl (fun _ => 0)))]) (va_runI (As := [.ref q_asm]) (rest := [.ref q_lib, .ref h0]) ⟨hx, hb, hml, hown, hts⟩ (c_X5_init l dC dI H.size cI q_lib q_asm) (cwI 1 hts gzX3_init_X5_init_33 rfl rfl rfl (hts _ (List.mem_cons_of_mem _ (List.mem_append_left _ (List.mem_of_getElem? (i := 23) rfl)))) (hts _ (List.mem_cons_of_mem _ (List.mem_append_left _ (List.mem_of_getElem? (i := 27) rfl)))) (hts _ (List.mem_cons_of_mem _ (List.mem_append_left _ (List.mem_of_getElem? (i := 28) rfl)))) rfl (by decide +kernel) ⟨Nat.le_of_ble_eq_true rfl, Nat.le_of_ble_eq_true rfl⟩) (wB.preS (As := [.ref q_lib, .ref q_asm]) (hP.sub (ws' := [(q_lib, .inr (5, [.null]))]) [6] rfl) (hK.sub (tys' := [(cI 0, .int), (cI 1, .byte), (cI 2, .long)]) [0, 1, 2] rfl) (hD.sub (ws' := [(q_lib, .inr (5, [.null]))]) [6] (by decide) rfl) hN) rfl rfl hl.1 rfl (lv_room (Nat.le_of_ble_eq_true rfl)) dX3_init_38 ⟨Nat.le_of_ble_eq_true rfl, Nat.le_of_ble_eq_true rfl⟩) hP hD hS hA [6] [0, 1, 2, 3, 4, 5] rfl rfl (by decide) (by decide) ?_
  clear hP hD hS
  intro u_4 H locs w_6 hK1 hP hD hS
  replace hP : va_P (dC, dI) vwCl [(h0, .inr (3, [.ref m0, .ref q_asm, .null, .ref c_landing])), (c_landing, .inl (cI 0, 65536, .inl (fun _ => 0))), (q_asm, .inr (0, [.ref m1, .ref qa_labels, .ref qa_fixAt, .ref qa_fixTo, .int 0, .int 0, .int 0, .int 0, .int 0, .int 0])), (qa_labels, .inl (cI 0, 66048, .inl (fun _ => 0))), (qa_fixAt, .inl (cI 0, 65536, .inl (fun _ => 0))), (qa_fixTo, .inl (cI 0, 65536, .inl (fun _ => 0))), (q_lib, .inr (5, [.ref q_asm]))] H := hP
  replace hD : va_D A [(h0, .inr (3, [.ref m0, .ref q_asm, .null, .ref c_landing])), (c_landing, .inl (cI 0, 65536, .inl (fun _ => 0))), (q_asm, .inr (0, [.ref m1, .ref qa_labels, .ref qa_fixAt, .ref qa_fixTo, .int 0, .int 0, .int 0, .int 0, .int 0, .int 0])), (qa_labels, .inl (cI 0, 66048, .inl (fun _ => 0))), (qa_fixAt, .inl (cI 0, 65536, .inl (fun _ => 0))), (qa_fixTo, .inl (cI 0, 65536, .inl (fun _ => 0))), (q_lib, .inr (5, [.ref q_asm]))] := hD
  clear hK1
  try dsimp only at w_6
  refine va_putF (D := (dC, dI)) (ci := 3) (v := .ref q_lib) (ty := (.object "LeanHouse$Library")) (C := RX3) (T := TX3) (N := 4) hx hb hts (fun _ h9 => List.mem_cons_of_mem _ (List.mem_append_right _ (List.mem_append_left _ h9))) tyX3 tyX3_ok nmX3 hown hK hP hD hS 0 rfl rfl 2 (by decide) (hts _ (List.mem_cons_of_mem _ (List.mem_append_left _ (List.mem_of_getElem? (i := 29) rfl)))) (fun _ h9 => h9) rfl hin rfl (by decide +kernel) rfl rfl (Nat.le_of_ble_eq_true rfl) dX3_init_41 ?_
  clear hP hD hS
  intro H locs hP hD hS
  replace hP : va_P (dC, dI) vwCl [(h0, .inr (3, [.ref m0, .ref q_asm, .ref q_lib, .ref c_landing])), (c_landing, .inl (cI 0, 65536, .inl (fun _ => 0))), (q_asm, .inr (0, [.ref m1, .ref qa_labels, .ref qa_fixAt, .ref qa_fixTo, .int 0, .int 0, .int 0, .int 0, .int 0, .int 0])), (qa_labels, .inl (cI 0, 66048, .inl (fun _ => 0))), (qa_fixAt, .inl (cI 0, 65536, .inl (fun _ => 0))), (qa_fixTo, .inl (cI 0, 65536, .inl (fun _ => 0))), (q_lib, .inr (5, [.ref q_asm]))] H := hP
  replace hD : va_D A [(h0, .inr (3, [.ref m0, .ref q_asm, .ref q_lib, .ref c_landing])), (c_landing, .inl (cI 0, 65536, .inl (fun _ => 0))), (q_asm, .inr (0, [.ref m1, .ref qa_labels, .ref qa_fixAt, .ref qa_fixTo, .int 0, .int 0, .int 0, .int 0, .int 0, .int 0])), (qa_labels, .inl (cI 0, 66048, .inl (fun _ => 0))), (qa_fixAt, .inl (cI 0, 65536, .inl (fun _ => 0))), (qa_fixTo, .inl (cI 0, 65536, .inl (fun _ => 0))), (q_lib, .inr (5, [.ref q_asm]))] := hD
  have hP9 := hP.sub (ws' := [(h0, .inr (3, [.ref m0, .ref q_asm, .ref q_lib, .ref c_landing])), (c_landing, .inl (cI 0, 65536, .inl (fun _ => 0))), (q_asm, .inr (0, [.ref m1, .ref qa_labels, .ref qa_fixAt, .ref qa_fixTo, .int 0, .int 0, .int 0, .int 0, .int 0, .int 0])), (qa_labels, .inl (cI 0, 66048, .inl (fun _ => 0))), (qa_fixAt, .inl (cI 0, 65536, .inl (fun _ => 0))), (qa_fixTo, .inl (cI 0, 65536, .inl (fun _ => 0))), (q_lib, .inr (5, [.ref q_asm]))]) [0, 1, 2, 3, 4, 5, 6] rfl
  have hD9 := hD.sub (ws' := [(h0, .inr (3, [.ref m0, .ref q_asm, .ref q_lib, .ref c_landing])), (c_landing, .inl (cI 0, 65536, .inl (fun _ => 0))), (q_asm, .inr (0, [.ref m1, .ref qa_labels, .ref qa_fixAt, .ref qa_fixTo, .int 0, .int 0, .int 0, .int 0, .int 0, .int 0])), (qa_labels, .inl (cI 0, 66048, .inl (fun _ => 0))), (qa_fixAt, .inl (cI 0, 65536, .inl (fun _ => 0))), (qa_fixTo, .inl (cI 0, 65536, .inl (fun _ => 0))), (q_lib, .inr (5, [.ref q_asm]))]) [0, 1, 2, 3, 4, 5, 6] (by decide) rfl
  have hK9 := hK.sub (tys' := [(cI 0, .int), (cI 1, .byte), (cI 2, .long)]) [0, 1, 2] rfl
  exact W.vret hx hb hr (fun t ht hW => ⟨⟨(c_landing, q_asm, qa_labels, qa_fixAt, qa_fixTo, q_lib), rfl, trivial, wE.of ht hW hP9 hK9 hD9⟩, hS.F ht⟩) hS.2.2 dX3_init_44

theorem dX1_init_0 : decode cX1_init 0 = .ok (.aload_n 0, 1) := by decide +kernel
theorem dX1_init_1 : decode cX1_init 1 = .ok (.invokespecial 3, 3) := by decide +kernel
theorem dX1_init_4 : decode cX1_init 4 = .ok (.aload_n 0, 1) := by decide +kernel
theorem dX1_init_5 : decode cX1_init 5 = .ok (.sipush 16384, 3) := by decide +kernel
theorem dX1_init_8 : decode cX1_init 8 = .ok (.newarray .int, 2) := by decide +kernel
theorem dX1_init_10 : decode cX1_init 10 = .ok (.putfield 11, 3) := by decide +kernel
theorem dX1_init_13 : decode cX1_init 13 = .ok (.aload_n 0, 1) := by decide +kernel
theorem dX1_init_14 : decode cX1_init 14 = .ok (.sipush 16384, 3) := by decide +kernel
theorem dX1_init_17 : decode cX1_init 17 = .ok (.newarray .int, 2) := by decide +kernel
theorem dX1_init_19 : decode cX1_init 19 = .ok (.putfield 15, 3) := by decide +kernel
theorem dX1_init_22 : decode cX1_init 22 = .ok (.aload_n 0, 1) := by decide +kernel
theorem dX1_init_23 : decode cX1_init 23 = .ok (.sipush 16384, 3) := by decide +kernel
theorem dX1_init_26 : decode cX1_init 26 = .ok (.newarray .int, 2) := by decide +kernel
theorem dX1_init_28 : decode cX1_init 28 = .ok (.putfield 18, 3) := by decide +kernel
theorem dX1_init_31 : decode cX1_init 31 = .ok (.aload_n 0, 1) := by decide +kernel
theorem dX1_init_32 : decode cX1_init 32 = .ok (.sipush 2176, 3) := by decide +kernel
theorem dX1_init_35 : decode cX1_init 35 = .ok (.newarray .int, 2) := by decide +kernel
theorem dX1_init_37 : decode cX1_init 37 = .ok (.putfield 21, 3) := by decide +kernel
theorem dX1_init_40 : decode cX1_init 40 = .ok (.aload_n 0, 1) := by decide +kernel
theorem dX1_init_41 : decode cX1_init 41 = .ok (.sipush 2176, 3) := by decide +kernel
theorem dX1_init_44 : decode cX1_init 44 = .ok (.newarray .int, 2) := by decide +kernel
theorem dX1_init_46 : decode cX1_init 46 = .ok (.putfield 24, 3) := by decide +kernel
theorem dX1_init_49 : decode cX1_init 49 = .ok (.aload_n 0, 1) := by decide +kernel
theorem dX1_init_50 : decode cX1_init 50 = .ok (.aload_n 1, 1) := by decide +kernel
theorem dX1_init_51 : decode cX1_init 51 = .ok (.putfield 27, 3) := by decide +kernel
theorem dX1_init_54 : decode cX1_init 54 = .ok (.aload_n 0, 1) := by decide +kernel
theorem dX1_init_55 : decode cX1_init 55 = .ok (.aload_n 2, 1) := by decide +kernel
theorem dX1_init_56 : decode cX1_init 56 = .ok (.putfield 31, 3) := by decide +kernel
theorem dX1_init_59 : decode cX1_init 59 = .ok (.aload_n 0, 1) := by decide +kernel
theorem dX1_init_60 : decode cX1_init 60 = .ok (.aload_n 3, 1) := by decide +kernel
theorem dX1_init_61 : decode cX1_init 61 = .ok (.putfield 35, 3) := by decide +kernel
theorem dX1_init_64 : decode cX1_init 64 = .ok (.return_, 1) := by decide +kernel
def zlX1_init : List Cond := [.methodLink RX1 3 objectInit, .instanceMethod objectInit, .code objectInit ⟨#[0xb1]⟩ 1 none, .arrayClass .int, .fieldLink RX1 11 "LeanHouse$Checker" "stack" "[I", .fieldLink RX1 15 "LeanHouse$Checker" "flags" "[I", .fieldLink RX1 18 "LeanHouse$Checker" "held" "[I", .fieldLink RX1 21 "LeanHouse$Checker" "variableNode" "[I", .fieldLink RX1 24 "LeanHouse$Checker" "variableStamp" "[I", .fieldLink RX1 27 "LeanHouse$Checker" "parser" "LLeanHouse$Parser;", .fieldLink RX1 31 "LeanHouse$Checker" "types" "LLeanHouse$Types;", .fieldLink RX1 35 "LeanHouse$Checker" "scope" "LLeanHouse$Scope;"]
def zsX1_init : List Cond := .code yX1_init cX1_init 4 none :: (zlX1_init ++ (wsX10))
set_option maxHeartbeats 8000000 in
set_option maxRecDepth 100000 in
theorem c_X1_init (l : Launch) (dC : Nat → ClassId) (dI : Nat → Nat → Nat) (sz : Nat) (cI : Nat → ClassId) (h0 : Nat) (m0 : Nat) (m1 : Nat) (m2 : Nat) : Met l yX1_init zsX1_init ({ frames := 2, cells := 5, slots := 53504, locals := 20 } : Jvm.Room) (va_Pc [.ref h0, .ref m0, .ref m1, .ref m2] (wB (dC, dI) vwCl nestM [(cI 0, .int), (cI 1, .byte), (cI 2, .long)] [(h0, .inr (1, [.null, .null, .null, .null, .null, .null, .null, .null, .int 0, .int 0, .int 0, .int 0, .int 0, .int 0, .int 0, .int 0, .int 0, .int 0, .int 0]))] sz)) (va_Qv (fun (u : Nat × Nat × Nat × Nat × Nat) => True) (fun (u : Nat × Nat × Nat × Nat × Nat) (t : State) => wE (dC, dI) vwCl [(cI 0, .int), (cI 1, .byte), (cI 2, .long)] [(h0, .inr (1, [.ref m0, .ref m1, .ref m2, .ref u.1, .ref u.2.1, .ref u.2.2.1, .ref u.2.2.2.1, .ref u.2.2.2.2, .int 0, .int 0, .int 0, .int 0, .int 0, .int 0, .int 0, .int 0, .int 0, .int 0, .int 0])), (u.1, .inl (cI 0, 16384, .inl (fun _ => 0))), (u.2.1, .inl (cI 0, 16384, .inl (fun _ => 0))), (u.2.2.1, .inl (cI 0, 16384, .inl (fun _ => 0))), (u.2.2.2.1, .inl (cI 0, 2176, .inl (fun _ => 0))), (u.2.2.2.2, .inl (cI 0, 2176, .inl (fun _ => 0)))] (va_A [(h0, .inr (1, [.null, .null, .null, .null, .null, .null, .null, .null, .int 0, .int 0, .int 0, .int 0, .int 0, .int 0, .int 0, .int 0, .int 0, .int 0, .int 0]))] sz) t) (va_A [(h0, .inr (1, [.null, .null, .null, .null, .null, .null, .null, .null, .int 0, .int 0, .int 0, .int 0, .int 0, .int 0, .int 0, .int 0, .int 0, .int 0, .int 0]))] sz)) 5 53504 (va_A [(h0, .inr (1, [.null, .null, .null, .null, .null, .null, .null, .null, .int 0, .int 0, .int 0, .int 0, .int 0, .int 0, .int 0, .int 0, .int 0, .int 0, .int 0]))] sz) := by
  refine Met.ofW (cc := cX1_init) (maxL := 4) (ret := none) (by decide) rfl ?_
  intro p e s m args below meth c s₁ B hml hv
  obtain ⟨rfl, hsz, hP, hK, hD0, hN⟩ := hv
  have hx := B.exec
  have hb := B.bytes
  have hr := B.returns
  have hts := atoms_spec (ws := zsX1_init) B.pre
  have hown : s.vm.findClass RX1 = some m.cls := findClass_of_methodNamed B.named
  have hlocks := B.notSynchronized
  have hin : meth.name = "<init>" := (name_of_methodNamed B.named B.method).1
  subst hsz
  have hD := hD0.self (sz := s.heap.size)
  generalize hAe : va_A [(h0, .inr (1, [.null, .null, .null, .null, .null, .null, .null, .null, .int 0, .int 0, .int 0, .int 0, .int 0, .int 0, .int 0, .int 0, .int 0, .int 0, .int 0]))] s.heap.size = A at hD ⊢
  have hA : ∀ q : Nat, s.heap.size ≤ q → A q := fun q h => by rw [← hAe]; exact Or.inr h
  have hS : va_S A s.heap s.heap [] := va_S.rf
  have hP : va_P (dC, dI) vwCl [(h0, .inr (1, [.null, .null, .null, .null, .null, .null, .null, .null, .int 0, .int 0, .int 0, .int 0, .int 0, .int 0, .int 0, .int 0, .int 0, .int 0, .int 0]))] s.heap := hP
  have hl := lv_entry ([.ref h0, .ref m0, .ref m1, .ref m2]) (n := 4) (Nat.le_of_ble_eq_true rfl)
  rw [lg_entry_eq]
  generalize (lg_sl ([.ref h0, .ref m0, .ref m1, .ref m2]) ++ List.replicate (4 - (lg_sl ([.ref h0, .ref m0, .ref m1, .ref m2])).length) Slot.unset).toArray = ls at hl ⊢
  have hl : lv_has ls 4 [(0, .ref h0), (1, .ref m0), (2, .ref m1), (3, .ref m2)] := hl
  refine lv_aload_n hx hb dX1_init_0 rfl (lv_at hl 0 rfl) ?_
  refine W.objInit hx hb hown (hts _ (List.mem_cons_of_mem _ (List.mem_append_left _ (List.mem_of_getElem? (i := 0) rfl)))) (hts _ (List.mem_cons_of_mem _ (List.mem_append_left _ (List.mem_of_getElem? (i := 1) rfl)))) (hts _ (List.mem_cons_of_mem _ (List.mem_append_left _ (List.mem_of_getElem? (i := 2) rfl)))) rfl (by rw [hml]; exact hl.1) rfl dX1_init_1 (Nat.le_of_ble_eq_true rfl) (Nat.le_of_ble_eq_true rfl) ?_
  refine lv_aload_n hx hb dX1_init_4 rfl (lv_at hl 0 rfl) ?_
  refine lv_sipush (v := 16384) hx hb dX1_init_5 (by decide) ?_
  refine va_newa (atype := .int) (ty := .int) (N' := 16384) (a0 := (16384, .inl (fun _ => 0))) hx hb (hts _ (List.mem_cons_of_mem _ (List.mem_append_left _ (List.mem_of_getElem? (i := 3) rfl)))) rfl hK hP hD hS hA (fun _ => rfl) (by decide) (by decide) (Nat.le_of_ble_eq_true rfl) (Nat.le_of_ble_eq_true rfl) (Nat.le_of_ble_eq_true rfl) dX1_init_8 ?_
  clear hK hP hD hS
  intro d_stack d_stackc H hK hP hD hS
  replace hK : va_K (dC, dI) vwCl [(cI 0, .int), (cI 1, .byte), (cI 2, .long), (d_stackc, .int)] s := hK
  obtain rfl : d_stackc = cI 0 := k_one hK 3 0 rfl rfl (fun _ z => by cases z)
  replace hK := hK.sub (tys' := [(cI 0, .int), (cI 1, .byte), (cI 2, .long)]) [0, 1, 2] rfl
  replace hP : va_P (dC, dI) vwCl [(h0, .inr (1, [.null, .null, .null, .null, .null, .null, .null, .null, .int 0, .int 0, .int 0, .int 0, .int 0, .int 0, .int 0, .int 0, .int 0, .int 0, .int 0])), (d_stack, .inl (cI 0, 16384, .inl (fun _ => 0)))] H := hP
  replace hD : va_D A [(h0, .inr (1, [.null, .null, .null, .null, .null, .null, .null, .null, .int 0, .int 0, .int 0, .int 0, .int 0, .int 0, .int 0, .int 0, .int 0, .int 0, .int 0])), (d_stack, .inl (cI 0, 16384, .inl (fun _ => 0)))] := hD
  refine va_putF (D := (dC, dI)) (ci := 1) (v := .ref d_stack) (ty := (.array .int)) (C := RX1) (T := TX1) (N := 19) hx hb hts (fun _ h9 => List.mem_cons_of_mem _ (List.mem_append_right _ h9)) tyX1 tyX1_ok nmX1 hown hK hP hD hS 0 rfl rfl 3 (by decide) (hts _ (List.mem_cons_of_mem _ (List.mem_append_left _ (List.mem_of_getElem? (i := 4) rfl)))) (fun _ h9 => h9) rfl hin rfl (by decide +kernel) rfl rfl (Nat.le_of_ble_eq_true rfl) dX1_init_10 ?_
  clear hP hD hS
  intro H locs hP hD hS
  replace hP : va_P (dC, dI) vwCl [(h0, .inr (1, [.null, .null, .null, .ref d_stack, .null, .null, .null, .null, .int 0, .int 0, .int 0, .int 0, .int 0, .int 0, .int 0, .int 0, .int 0, .int 0, .int 0])), (d_stack, .inl (cI 0, 16384, .inl (fun _ => 0)))] H := hP
  replace hD : va_D A [(h0, .inr (1, [.null, .null, .null, .ref d_stack, .null, .null, .null, .null, .int 0, .int 0, .int 0, .int 0, .int 0, .int 0, .int 0, .int 0, .int 0, .int 0, .int 0])), (d_stack, .inl (cI 0, 16384, .inl (fun _ => 0)))] := hD
  refine lv_aload_n hx hb dX1_init_13 rfl (lv_at hl 0 rfl) ?_
  refine lv_sipush (v := 16384) hx hb dX1_init_14 (by decide) ?_
  refine va_newa (atype := .int) (ty := .int) (N' := 16384) (a0 := (16384, .inl (fun _ => 0))) hx hb (hts _ (List.mem_cons_of_mem _ (List.mem_append_left _ (List.mem_of_getElem? (i := 3) rfl)))) rfl hK hP hD hS hA (fun _ => rfl) (by decide) (by decide) (Nat.le_of_ble_eq_true rfl) (Nat.le_of_ble_eq_true rfl) (Nat.le_of_ble_eq_true rfl) dX1_init_17 ?_
  clear hK hP hD hS
  intro d_flags d_flagsc H hK hP hD hS
  replace hK : va_K (dC, dI) vwCl [(cI 0, .int), (cI 1, .byte), (cI 2, .long), (d_flagsc, .int)] s := hK
  obtain rfl : d_flagsc = cI 0 := k_one hK 3 0 rfl rfl (fun _ z => by cases z)
  replace hK := hK.sub (tys' := [(cI 0, .int), (cI 1, .byte), (cI 2, .long)]) [0, 1, 2] rfl
  replace hP : va_P (dC, dI) vwCl [(h0, .inr (1, [.null, .null, .null, .ref d_stack, .null, .null, .null, .null, .int 0, .int 0, .int 0, .int 0, .int 0, .int 0, .int 0, .int 0, .int 0, .int 0, .int 0])), (d_stack, .inl (cI 0, 16384, .inl (fun _ => 0))), (d_flags, .inl (cI 0, 16384, .inl (fun _ => 0)))] H := hP
  replace hD : va_D A [(h0, .inr (1, [.null, .null, .null, .ref d_stack, .null, .null, .null, .null, .int 0, .int 0, .int 0, .int 0, .int 0, .int 0, .int 0, .int 0, .int 0, .int 0, .int 0])), (d_stack, .inl (cI 0, 16384, .inl (fun _ => 0))), (d_flags, .inl (cI 0, 16384, .inl (fun _ => 0)))] := hD
  refine va_putF (D := (dC, dI)) (ci := 1) (v := .ref d_flags) (ty := (.array .int)) (C := RX1) (T := TX1) (N := 19) hx hb hts (fun _ h9 => List.mem_cons_of_mem _ (List.mem_append_right _ h9)) tyX1 tyX1_ok nmX1 hown hK hP hD hS 0 rfl rfl 4 (by decide) (hts _ (List.mem_cons_of_mem _ (List.mem_append_left _ (List.mem_of_getElem? (i := 5) rfl)))) (fun _ h9 => h9) rfl hin rfl (by decide +kernel) rfl rfl (Nat.le_of_ble_eq_true rfl) dX1_init_19 ?_
  clear hP hD hS
  intro H locs hP hD hS
  replace hP : va_P (dC, dI) vwCl [(h0, .inr (1, [.null, .null, .null, .ref d_stack, .ref d_flags, .null, .null, .null, .int 0, .int 0, .int 0, .int 0, .int 0, .int 0, .int 0, .int 0, .int 0, .int 0, .int 0])), (d_stack, .inl (cI 0, 16384, .inl (fun _ => 0))), (d_flags, .inl (cI 0, 16384, .inl (fun _ => 0)))] H := hP
  replace hD : va_D A [(h0, .inr (1, [.null, .null, .null, .ref d_stack, .ref d_flags, .null, .null, .null, .int 0, .int 0, .int 0, .int 0, .int 0, .int 0, .int 0, .int 0, .int 0, .int 0, .int 0])), (d_stack, .inl (cI 0, 16384, .inl (fun _ => 0))), (d_flags, .inl (cI 0, 16384, .inl (fun _ => 0)))] := hD
  refine lv_aload_n hx hb dX1_init_22 rfl (lv_at hl 0 rfl) ?_
  refine lv_sipush (v := 16384) hx hb dX1_init_23 (by decide) ?_
  refine va_newa (atype := .int) (ty := .int) (N' := 16384) (a0 := (16384, .inl (fun _ => 0))) hx hb (hts _ (List.mem_cons_of_mem _ (List.mem_append_left _ (List.mem_of_getElem? (i := 3) rfl)))) rfl hK hP hD hS hA (fun _ => rfl) (by decide) (by decide) (Nat.le_of_ble_eq_true rfl) (Nat.le_of_ble_eq_true rfl) (Nat.le_of_ble_eq_true rfl) dX1_init_26 ?_
  clear hK hP hD hS
  intro d_held d_heldc H hK hP hD hS
  replace hK : va_K (dC, dI) vwCl [(cI 0, .int), (cI 1, .byte), (cI 2, .long), (d_heldc, .int)] s := hK
  obtain rfl : d_heldc = cI 0 := k_one hK 3 0 rfl rfl (fun _ z => by cases z)
  replace hK := hK.sub (tys' := [(cI 0, .int), (cI 1, .byte), (cI 2, .long)]) [0, 1, 2] rfl
  replace hP : va_P (dC, dI) vwCl [(h0, .inr (1, [.null, .null, .null, .ref d_stack, .ref d_flags, .null, .null, .null, .int 0, .int 0, .int 0, .int 0, .int 0, .int 0, .int 0, .int 0, .int 0, .int 0, .int 0])), (d_stack, .inl (cI 0, 16384, .inl (fun _ => 0))), (d_flags, .inl (cI 0, 16384, .inl (fun _ => 0))), (d_held, .inl (cI 0, 16384, .inl (fun _ => 0)))] H := hP
  replace hD : va_D A [(h0, .inr (1, [.null, .null, .null, .ref d_stack, .ref d_flags, .null, .null, .null, .int 0, .int 0, .int 0, .int 0, .int 0, .int 0, .int 0, .int 0, .int 0, .int 0, .int 0])), (d_stack, .inl (cI 0, 16384, .inl (fun _ => 0))), (d_flags, .inl (cI 0, 16384, .inl (fun _ => 0))), (d_held, .inl (cI 0, 16384, .inl (fun _ => 0)))] := hD
  refine va_putF (D := (dC, dI)) (ci := 1) (v := .ref d_held) (ty := (.array .int)) (C := RX1) (T := TX1) (N := 19) hx hb hts (fun _ h9 => List.mem_cons_of_mem _ (List.mem_append_right _ h9)) tyX1 tyX1_ok nmX1 hown hK hP hD hS 0 rfl rfl 5 (by decide) (hts _ (List.mem_cons_of_mem _ (List.mem_append_left _ (List.mem_of_getElem? (i := 6) rfl)))) (fun _ h9 => h9) rfl hin rfl (by decide +kernel) rfl rfl (Nat.le_of_ble_eq_true rfl) dX1_init_28 ?_
  clear hP hD hS
  intro H locs hP hD hS
  replace hP : va_P (dC, dI) vwCl [(h0, .inr (1, [.null, .null, .null, .ref d_stack, .ref d_flags, .ref d_held, .null, .null, .int 0, .int 0, .int 0, .int 0, .int 0, .int 0, .int 0, .int 0, .int 0, .int 0, .int 0])), (d_stack, .inl (cI 0, 16384, .inl (fun _ => 0))), (d_flags, .inl (cI 0, 16384, .inl (fun _ => 0))), (d_held, .inl (cI 0, 16384, .inl (fun _ => 0)))] H := hP
  replace hD : va_D A [(h0, .inr (1, [.null, .null, .null, .ref d_stack, .ref d_flags, .ref d_held, .null, .null, .int 0, .int 0, .int 0, .int 0, .int 0, .int 0, .int 0, .int 0, .int 0, .int 0, .int 0])), (d_stack, .inl (cI 0, 16384, .inl (fun _ => 0))), (d_flags, .inl (cI 0, 16384, .inl (fun _ => 0))), (d_held, .inl (cI 0, 16384, .inl (fun _ => 0)))] := hD
  refine lv_aload_n hx hb dX1_init_31 rfl (lv_at hl 0 rfl) ?_
  refine lv_sipush (v := 2176) hx hb dX1_init_32 (by decide) ?_
  refine va_newa (atype := .int) (ty := .int) (N' := 2176) (a0 := (2176, .inl (fun _ => 0))) hx hb (hts _ (List.mem_cons_of_mem _ (List.mem_append_left _ (List.mem_of_getElem? (i := 3) rfl)))) rfl hK hP hD hS hA (fun _ => rfl) (by decide) (by decide) (Nat.le_of_ble_eq_true rfl) (Nat.le_of_ble_eq_true rfl) (Nat.le_of_ble_eq_true rfl) dX1_init_35 ?_
  clear hK hP hD hS
  intro d_variableNode d_variableNodec H hK hP hD hS
  replace hK : va_K (dC, dI) vwCl [(cI 0, .int), (cI 1, .byte), (cI 2, .long), (d_variableNodec, .int)] s := hK
  obtain rfl : d_variableNodec = cI 0 := k_one hK 3 0 rfl rfl (fun _ z => by cases z)
  replace hK := hK.sub (tys' := [(cI 0, .int), (cI 1, .byte), (cI 2, .long)]) [0, 1, 2] rfl
  replace hP : va_P (dC, dI) vwCl [(h0, .inr (1, [.null, .null, .null, .ref d_stack, .ref d_flags, .ref d_held, .null, .null, .int 0, .int 0, .int 0, .int 0, .int 0, .int 0, .int 0, .int 0, .int 0, .int 0, .int 0])), (d_stack, .inl (cI 0, 16384, .inl (fun _ => 0))), (d_flags, .inl (cI 0, 16384, .inl (fun _ => 0))), (d_held, .inl (cI 0, 16384, .inl (fun _ => 0))), (d_variableNode, .inl (cI 0, 2176, .inl (fun _ => 0)))] H := hP
  replace hD : va_D A [(h0, .inr (1, [.null, .null, .null, .ref d_stack, .ref d_flags, .ref d_held, .null, .null, .int 0, .int 0, .int 0, .int 0, .int 0, .int 0, .int 0, .int 0, .int 0, .int 0, .int 0])), (d_stack, .inl (cI 0, 16384, .inl (fun _ => 0))), (d_flags, .inl (cI 0, 16384, .inl (fun _ => 0))), (d_held, .inl (cI 0, 16384, .inl (fun _ => 0))), (d_variableNode, .inl (cI 0, 2176, .inl (fun _ => 0)))] := hD
  refine va_putF (D := (dC, dI)) (ci := 1) (v := .ref d_variableNode) (ty := (.array .int)) (C := RX1) (T := TX1) (N := 19) hx hb hts (fun _ h9 => List.mem_cons_of_mem _ (List.mem_append_right _ h9)) tyX1 tyX1_ok nmX1 hown hK hP hD hS 0 rfl rfl 6 (by decide) (hts _ (List.mem_cons_of_mem _ (List.mem_append_left _ (List.mem_of_getElem? (i := 7) rfl)))) (fun _ h9 => h9) rfl hin rfl (by decide +kernel) rfl rfl (Nat.le_of_ble_eq_true rfl) dX1_init_37 ?_
  clear hP hD hS
  intro H locs hP hD hS
  replace hP : va_P (dC, dI) vwCl [(h0, .inr (1, [.null, .null, .null, .ref d_stack, .ref d_flags, .ref d_held, .ref d_variableNode, .null, .int 0, .int 0, .int 0, .int 0, .int 0, .int 0, .int 0, .int 0, .int 0, .int 0, .int 0])), (d_stack, .inl (cI 0, 16384, .inl (fun _ => 0))), (d_flags, .inl (cI 0, 16384, .inl (fun _ => 0))), (d_held, .inl (cI 0, 16384, .inl (fun _ => 0))), (d_variableNode, .inl (cI 0, 2176, .inl (fun _ => 0)))] H := hP
  replace hD : va_D A [(h0, .inr (1, [.null, .null, .null, .ref d_stack, .ref d_flags, .ref d_held, .ref d_variableNode, .null, .int 0, .int 0, .int 0, .int 0, .int 0, .int 0, .int 0, .int 0, .int 0, .int 0, .int 0])), (d_stack, .inl (cI 0, 16384, .inl (fun _ => 0))), (d_flags, .inl (cI 0, 16384, .inl (fun _ => 0))), (d_held, .inl (cI 0, 16384, .inl (fun _ => 0))), (d_variableNode, .inl (cI 0, 2176, .inl (fun _ => 0)))] := hD
  refine lv_aload_n hx hb dX1_init_40 rfl (lv_at hl 0 rfl) ?_
  refine lv_sipush (v := 2176) hx hb dX1_init_41 (by decide) ?_
  refine va_newa (atype := .int) (ty := .int) (N' := 2176) (a0 := (2176, .inl (fun _ => 0))) hx hb (hts _ (List.mem_cons_of_mem _ (List.mem_append_left _ (List.mem_of_getElem? (i := 3) rfl)))) rfl hK hP hD hS hA (fun _ => rfl) (by decide) (by decide) (Nat.le_of_ble_eq_true rfl) (Nat.le_of_ble_eq_true rfl) (Nat.le_of_ble_eq_true rfl) dX1_init_44 ?_
  clear hK hP hD hS
  intro d_variableStamp d_variableStampc H hK hP hD hS
  replace hK : va_K (dC, dI) vwCl [(cI 0, .int), (cI 1, .byte), (cI 2, .long), (d_variableStampc, .int)] s := hK
  obtain rfl : d_variableStampc = cI 0 := k_one hK 3 0 rfl rfl (fun _ z => by cases z)
  replace hK := hK.sub (tys' := [(cI 0, .int), (cI 1, .byte), (cI 2, .long)]) [0, 1, 2] rfl
  replace hP : va_P (dC, dI) vwCl [(h0, .inr (1, [.null, .null, .null, .ref d_stack, .ref d_flags, .ref d_held, .ref d_variableNode, .null, .int 0, .int 0, .int 0, .int 0, .int 0, .int 0, .int 0, .int 0, .int 0, .int 0, .int 0])), (d_stack, .inl (cI 0, 16384, .inl (fun _ => 0))), (d_flags, .inl (cI 0, 16384, .inl (fun _ => 0))), (d_held, .inl (cI 0, 16384, .inl (fun _ => 0))), (d_variableNode, .inl (cI 0, 2176, .inl (fun _ => 0))), (d_variableStamp, .inl (cI 0, 2176, .inl (fun _ => 0)))] H := hP
  replace hD : va_D A [(h0, .inr (1, [.null, .null, .null, .ref d_stack, .ref d_flags, .ref d_held, .ref d_variableNode, .null, .int 0, .int 0, .int 0, .int 0, .int 0, .int 0, .int 0, .int 0, .int 0, .int 0, .int 0])), (d_stack, .inl (cI 0, 16384, .inl (fun _ => 0))), (d_flags, .inl (cI 0, 16384, .inl (fun _ => 0))), (d_held, .inl (cI 0, 16384, .inl (fun _ => 0))), (d_variableNode, .inl (cI 0, 2176, .inl (fun _ => 0))), (d_variableStamp, .inl (cI 0, 2176, .inl (fun _ => 0)))] := hD
  refine va_putF (D := (dC, dI)) (ci := 1) (v := .ref d_variableStamp) (ty := (.array .int)) (C := RX1) (T := TX1) (N := 19) hx hb hts (fun _ h9 => List.mem_cons_of_mem _ (List.mem_append_right _ h9)) tyX1 tyX1_ok nmX1 hown hK hP hD hS 0 rfl rfl 7 (by decide) (hts _ (List.mem_cons_of_mem _ (List.mem_append_left _ (List.mem_of_getElem? (i := 8) rfl)))) (fun _ h9 => h9) rfl hin rfl (by decide +kernel) rfl rfl (Nat.le_of_ble_eq_true rfl) dX1_init_46 ?_
  clear hP hD hS
  intro H locs hP hD hS
  replace hP : va_P (dC, dI) vwCl [(h0, .inr (1, [.null, .null, .null, .ref d_stack, .ref d_flags, .ref d_held, .ref d_variableNode, .ref d_variableStamp, .int 0, .int 0, .int 0, .int 0, .int 0, .int 0, .int 0, .int 0, .int 0, .int 0, .int 0])), (d_stack, .inl (cI 0, 16384, .inl (fun _ => 0))), (d_flags, .inl (cI 0, 16384, .inl (fun _ => 0))), (d_held, .inl (cI 0, 16384, .inl (fun _ => 0))), (d_variableNode, .inl (cI 0, 2176, .inl (fun _ => 0))), (d_variableStamp, .inl (cI 0, 2176, .inl (fun _ => 0)))] H := hP
  replace hD : va_D A [(h0, .inr (1, [.null, .null, .null, .ref d_stack, .ref d_flags, .ref d_held, .ref d_variableNode, .ref d_variableStamp, .int 0, .int 0, .int 0, .int 0, .int 0, .int 0, .int 0, .int 0, .int 0, .int 0, .int 0])), (d_stack, .inl (cI 0, 16384, .inl (fun _ => 0))), (d_flags, .inl (cI 0, 16384, .inl (fun _ => 0))), (d_held, .inl (cI 0, 16384, .inl (fun _ => 0))), (d_variableNode, .inl (cI 0, 2176, .inl (fun _ => 0))), (d_variableStamp, .inl (cI 0, 2176, .inl (fun _ => 0)))] := hD
  refine lv_aload_n hx hb dX1_init_49 rfl (lv_at hl 0 rfl) ?_
  refine lv_aload_n hx hb dX1_init_50 rfl (lv_at hl 1 rfl) ?_
  refine va_putF (D := (dC, dI)) (ci := 1) (v := .ref m0) (ty := (.object "LeanHouse$Parser")) (C := RX1) (T := TX1) (N := 19) hx hb hts (fun _ h9 => List.mem_cons_of_mem _ (List.mem_append_right _ h9)) tyX1 tyX1_ok nmX1 hown hK hP hD hS 0 rfl rfl 0 (by decide) (hts _ (List.mem_cons_of_mem _ (List.mem_append_left _ (List.mem_of_getElem? (i := 9) rfl)))) (fun _ h9 => h9) rfl hin rfl (by decide +kernel) rfl rfl (Nat.le_of_ble_eq_true rfl) dX1_init_51 ?_
  clear hP hD hS
  intro H locs hP hD hS
  replace hP : va_P (dC, dI) vwCl [(h0, .inr (1, [.ref m0, .null, .null, .ref d_stack, .ref d_flags, .ref d_held, .ref d_variableNode, .ref d_variableStamp, .int 0, .int 0, .int 0, .int 0, .int 0, .int 0, .int 0, .int 0, .int 0, .int 0, .int 0])), (d_stack, .inl (cI 0, 16384, .inl (fun _ => 0))), (d_flags, .inl (cI 0, 16384, .inl (fun _ => 0))), (d_held, .inl (cI 0, 16384, .inl (fun _ => 0))), (d_variableNode, .inl (cI 0, 2176, .inl (fun _ => 0))), (d_variableStamp, .inl (cI 0, 2176, .inl (fun _ => 0)))] H := hP
  replace hD : va_D A [(h0, .inr (1, [.ref m0, .null, .null, .ref d_stack, .ref d_flags, .ref d_held, .ref d_variableNode, .ref d_variableStamp, .int 0, .int 0, .int 0, .int 0, .int 0, .int 0, .int 0, .int 0, .int 0, .int 0, .int 0])), (d_stack, .inl (cI 0, 16384, .inl (fun _ => 0))), (d_flags, .inl (cI 0, 16384, .inl (fun _ => 0))), (d_held, .inl (cI 0, 16384, .inl (fun _ => 0))), (d_variableNode, .inl (cI 0, 2176, .inl (fun _ => 0))), (d_variableStamp, .inl (cI 0, 2176, .inl (fun _ => 0)))] := hD
  refine lv_aload_n hx hb dX1_init_54 rfl (lv_at hl 0 rfl) ?_
  refine lv_aload_n hx hb dX1_init_55 rfl (lv_at hl 2 rfl) ?_
  refine va_putF (D := (dC, dI)) (ci := 1) (v := .ref m1) (ty := (.object "LeanHouse$Types")) (C := RX1) (T := TX1) (N := 19) hx hb hts (fun _ h9 => List.mem_cons_of_mem _ (List.mem_append_right _ h9)) tyX1 tyX1_ok nmX1 hown hK hP hD hS 0 rfl rfl 1 (by decide) (hts _ (List.mem_cons_of_mem _ (List.mem_append_left _ (List.mem_of_getElem? (i := 10) rfl)))) (fun _ h9 => h9) rfl hin rfl (by decide +kernel) rfl rfl (Nat.le_of_ble_eq_true rfl) dX1_init_56 ?_
  clear hP hD hS
  intro H locs hP hD hS
  replace hP : va_P (dC, dI) vwCl [(h0, .inr (1, [.ref m0, .ref m1, .null, .ref d_stack, .ref d_flags, .ref d_held, .ref d_variableNode, .ref d_variableStamp, .int 0, .int 0, .int 0, .int 0, .int 0, .int 0, .int 0, .int 0, .int 0, .int 0, .int 0])), (d_stack, .inl (cI 0, 16384, .inl (fun _ => 0))), (d_flags, .inl (cI 0, 16384, .inl (fun _ => 0))), (d_held, .inl (cI 0, 16384, .inl (fun _ => 0))), (d_variableNode, .inl (cI 0, 2176, .inl (fun _ => 0))), (d_variableStamp, .inl (cI 0, 2176, .inl (fun _ => 0)))] H := hP
  replace hD : va_D A [(h0, .inr (1, [.ref m0, .ref m1, .null, .ref d_stack, .ref d_flags, .ref d_held, .ref d_variableNode, .ref d_variableStamp, .int 0, .int 0, .int 0, .int 0, .int 0, .int 0, .int 0, .int 0, .int 0, .int 0, .int 0])), (d_stack, .inl (cI 0, 16384, .inl (fun _ => 0))), (d_flags, .inl (cI 0, 16384, .inl (fun _ => 0))), (d_held, .inl (cI 0, 16384, .inl (fun _ => 0))), (d_variableNode, .inl (cI 0, 2176, .inl (fun _ => 0))), (d_variableStamp, .inl (cI 0, 2176, .inl (fun _ => 0)))] := hD
  refine lv_aload_n hx hb dX1_init_59 rfl (lv_at hl 0 rfl) ?_
  refine lv_aload_n hx hb dX1_init_60 rfl (lv_at hl 3 rfl) ?_
  refine va_putF (D := (dC, dI)) (ci := 1) (v := .ref m2) (ty := (.object "LeanHouse$Scope")) (C := RX1) (T := TX1) (N := 19) hx hb hts (fun _ h9 => List.mem_cons_of_mem _ (List.mem_append_right _ h9)) tyX1 tyX1_ok nmX1 hown hK hP hD hS 0 rfl rfl 2 (by decide) (hts _ (List.mem_cons_of_mem _ (List.mem_append_left _ (List.mem_of_getElem? (i := 11) rfl)))) (fun _ h9 => h9) rfl hin rfl (by decide +kernel) rfl rfl (Nat.le_of_ble_eq_true rfl) dX1_init_61 ?_
  clear hP hD hS
  intro H locs hP hD hS
  replace hP : va_P (dC, dI) vwCl [(h0, .inr (1, [.ref m0, .ref m1, .ref m2, .ref d_stack, .ref d_flags, .ref d_held, .ref d_variableNode, .ref d_variableStamp, .int 0, .int 0, .int 0, .int 0, .int 0, .int 0, .int 0, .int 0, .int 0, .int 0, .int 0])), (d_stack, .inl (cI 0, 16384, .inl (fun _ => 0))), (d_flags, .inl (cI 0, 16384, .inl (fun _ => 0))), (d_held, .inl (cI 0, 16384, .inl (fun _ => 0))), (d_variableNode, .inl (cI 0, 2176, .inl (fun _ => 0))), (d_variableStamp, .inl (cI 0, 2176, .inl (fun _ => 0)))] H := hP
  replace hD : va_D A [(h0, .inr (1, [.ref m0, .ref m1, .ref m2, .ref d_stack, .ref d_flags, .ref d_held, .ref d_variableNode, .ref d_variableStamp, .int 0, .int 0, .int 0, .int 0, .int 0, .int 0, .int 0, .int 0, .int 0, .int 0, .int 0])), (d_stack, .inl (cI 0, 16384, .inl (fun _ => 0))), (d_flags, .inl (cI 0, 16384, .inl (fun _ => 0))), (d_held, .inl (cI 0, 16384, .inl (fun _ => 0))), (d_variableNode, .inl (cI 0, 2176, .inl (fun _ => 0))), (d_variableStamp, .inl (cI 0, 2176, .inl (fun _ => 0)))] := hD
  have hP9 := hP.sub (ws' := [(h0, .inr (1, [.ref m0, .ref m1, .ref m2, .ref d_stack, .ref d_flags, .ref d_held, .ref d_variableNode, .ref d_variableStamp, .int 0, .int 0, .int 0, .int 0, .int 0, .int 0, .int 0, .int 0, .int 0, .int 0, .int 0])), (d_stack, .inl (cI 0, 16384, .inl (fun _ => 0))), (d_flags, .inl (cI 0, 16384, .inl (fun _ => 0))), (d_held, .inl (cI 0, 16384, .inl (fun _ => 0))), (d_variableNode, .inl (cI 0, 2176, .inl (fun _ => 0))), (d_variableStamp, .inl (cI 0, 2176, .inl (fun _ => 0)))]) [0, 1, 2, 3, 4, 5] rfl
  have hD9 := hD.sub (ws' := [(h0, .inr (1, [.ref m0, .ref m1, .ref m2, .ref d_stack, .ref d_flags, .ref d_held, .ref d_variableNode, .ref d_variableStamp, .int 0, .int 0, .int 0, .int 0, .int 0, .int 0, .int 0, .int 0, .int 0, .int 0, .int 0])), (d_stack, .inl (cI 0, 16384, .inl (fun _ => 0))), (d_flags, .inl (cI 0, 16384, .inl (fun _ => 0))), (d_held, .inl (cI 0, 16384, .inl (fun _ => 0))), (d_variableNode, .inl (cI 0, 2176, .inl (fun _ => 0))), (d_variableStamp, .inl (cI 0, 2176, .inl (fun _ => 0)))]) [0, 1, 2, 3, 4, 5] (by decide) rfl
  have hK9 := hK.sub (tys' := [(cI 0, .int), (cI 1, .byte), (cI 2, .long)]) [0, 1, 2] rfl
  exact W.vret hx hb hr (fun t ht hW => ⟨⟨(d_stack, d_flags, d_held, d_variableNode, d_variableStamp), rfl, trivial, wE.of ht hW hP9 hK9 hD9⟩, hS.F ht⟩) hS.2.2 dX1_init_64

theorem dX2_init_0 : decode cX2_init 0 = .ok (.aload_n 0, 1) := by decide +kernel
theorem dX2_init_1 : decode cX2_init 1 = .ok (.invokespecial 3, 3) := by decide +kernel
theorem dX2_init_4 : decode cX2_init 4 = .ok (.aload_n 0, 1) := by decide +kernel
theorem dX2_init_5 : decode cX2_init 5 = .ok (.ldc 11, 2) := by decide +kernel
theorem dX2_init_7 : decode cX2_init 7 = .ok (.newarray .int, 2) := by decide +kernel
theorem dX2_init_9 : decode cX2_init 9 = .ok (.putfield 12, 3) := by decide +kernel
theorem dX2_init_12 : decode cX2_init 12 = .ok (.aload_n 0, 1) := by decide +kernel
theorem dX2_init_13 : decode cX2_init 13 = .ok (.ldc 11, 2) := by decide +kernel
theorem dX2_init_15 : decode cX2_init 15 = .ok (.newarray .int, 2) := by decide +kernel
theorem dX2_init_17 : decode cX2_init 17 = .ok (.putfield 16, 3) := by decide +kernel
theorem dX2_init_20 : decode cX2_init 20 = .ok (.aload_n 0, 1) := by decide +kernel
theorem dX2_init_21 : decode cX2_init 21 = .ok (.ldc 11, 2) := by decide +kernel
theorem dX2_init_23 : decode cX2_init 23 = .ok (.newarray .int, 2) := by decide +kernel
theorem dX2_init_25 : decode cX2_init 25 = .ok (.putfield 19, 3) := by decide +kernel
theorem dX2_init_28 : decode cX2_init 28 = .ok (.aload_n 0, 1) := by decide +kernel
theorem dX2_init_29 : decode cX2_init 29 = .ok (.sipush 2176, 3) := by decide +kernel
theorem dX2_init_32 : decode cX2_init 32 = .ok (.newarray .int, 2) := by decide +kernel
theorem dX2_init_34 : decode cX2_init 34 = .ok (.putfield 22, 3) := by decide +kernel
theorem dX2_init_37 : decode cX2_init 37 = .ok (.aload_n 0, 1) := by decide +kernel
theorem dX2_init_38 : decode cX2_init 38 = .ok (.sipush 16384, 3) := by decide +kernel
theorem dX2_init_41 : decode cX2_init 41 = .ok (.newarray .int, 2) := by decide +kernel
theorem dX2_init_43 : decode cX2_init 43 = .ok (.putfield 25, 3) := by decide +kernel
theorem dX2_init_46 : decode cX2_init 46 = .ok (.aload_n 0, 1) := by decide +kernel
theorem dX2_init_47 : decode cX2_init 47 = .ok (.sipush 10240, 3) := by decide +kernel
theorem dX2_init_50 : decode cX2_init 50 = .ok (.newarray .int, 2) := by decide +kernel
theorem dX2_init_52 : decode cX2_init 52 = .ok (.putfield 30, 3) := by decide +kernel
theorem dX2_init_55 : decode cX2_init 55 = .ok (.aload_n 0, 1) := by decide +kernel
theorem dX2_init_56 : decode cX2_init 56 = .ok (.sipush 10240, 3) := by decide +kernel
theorem dX2_init_59 : decode cX2_init 59 = .ok (.newarray .int, 2) := by decide +kernel
theorem dX2_init_61 : decode cX2_init 61 = .ok (.putfield 33, 3) := by decide +kernel
theorem dX2_init_64 : decode cX2_init 64 = .ok (.aload_n 0, 1) := by decide +kernel
theorem dX2_init_65 : decode cX2_init 65 = .ok (.bipush 101, 2) := by decide +kernel
theorem dX2_init_67 : decode cX2_init 67 = .ok (.newarray .int, 2) := by decide +kernel
theorem dX2_init_69 : decode cX2_init 69 = .ok (.putfield 36, 3) := by decide +kernel
theorem dX2_init_72 : decode cX2_init 72 = .ok (.aload_n 0, 1) := by decide +kernel
theorem dX2_init_73 : decode cX2_init 73 = .ok (.aload_n 1, 1) := by decide +kernel
theorem dX2_init_74 : decode cX2_init 74 = .ok (.putfield 39, 3) := by decide +kernel
theorem dX2_init_77 : decode cX2_init 77 = .ok (.aload_n 0, 1) := by decide +kernel
theorem dX2_init_78 : decode cX2_init 78 = .ok (.aload_n 2, 1) := by decide +kernel
theorem dX2_init_79 : decode cX2_init 79 = .ok (.putfield 43, 3) := by decide +kernel
theorem dX2_init_82 : decode cX2_init 82 = .ok (.aload_n 0, 1) := by decide +kernel
theorem dX2_init_83 : decode cX2_init 83 = .ok (.aload_n 3, 1) := by decide +kernel
theorem dX2_init_84 : decode cX2_init 84 = .ok (.putfield 47, 3) := by decide +kernel
theorem dX2_init_87 : decode cX2_init 87 = .ok (.aload_n 0, 1) := by decide +kernel
theorem dX2_init_88 : decode cX2_init 88 = .ok (.aload 4, 2) := by decide +kernel
theorem dX2_init_90 : decode cX2_init 90 = .ok (.putfield 51, 3) := by decide +kernel
theorem dX2_init_93 : decode cX2_init 93 = .ok (.return_, 1) := by decide +kernel
def zlX2_init : List Cond := [.methodLink RX2 3 objectInit, .instanceMethod objectInit, .code objectInit ⟨#[0xb1]⟩ 1 none, .constant RX2 11 (65536), .arrayClass .int, .fieldLink RX2 12 "LeanHouse$Coder" "op" "[I", .fieldLink RX2 16 "LeanHouse$Coder" "one" "[I", .fieldLink RX2 19 "LeanHouse$Coder" "two" "[I", .fieldLink RX2 22 "LeanHouse$Coder" "literal" "[I", .fieldLink RX2 25 "LeanHouse$Coder" "holds" "[I", .fieldLink RX2 30 "LeanHouse$Coder" "owner" "[I", .fieldLink RX2 33 "LeanHouse$Coder" "where" "[I", .fieldLink RX2 36 "LeanHouse$Coder" "bound" "[I", .fieldLink RX2 39 "LeanHouse$Coder" "parser" "LLeanHouse$Parser;", .fieldLink RX2 43 "LeanHouse$Coder" "scope" "LLeanHouse$Scope;", .fieldLink RX2 47 "LeanHouse$Coder" "lexer" "LLeanHouse$Lexer;", .fieldLink RX2 51 "LeanHouse$Coder" "memory" "[I"]
def zsX2_init : List Cond := .code yX2_init cX2_init 5 none :: (zlX2_init ++ (wsX20))
set_option maxHeartbeats 8000000 in
set_option maxRecDepth 100000 in
theorem c_X2_init (l : Launch) (dC : Nat → ClassId) (dI : Nat → Nat → Nat) (sz : Nat) (cI : Nat → ClassId) (h0 : Nat) (m0 : Nat) (m1 : Nat) (m2 : Nat) (m3 : Nat) : Met l yX2_init zsX2_init ({ frames := 2, cells := 8, slots := 235749, locals := 20 } : Jvm.Room) (va_Pc [.ref h0, .ref m0, .ref m1, .ref m2, .ref m3] (wB (dC, dI) vwCl nestM [(cI 0, .int), (cI 1, .byte), (cI 2, .long)] [(h0, .inr (2, [.null, .null, .null, .int 0, .null, .null, .null, .null, .null, .null, .null, .null, .null, .int 0, .int 0, .int 0, .int 0, .int 0, .int 0, .int 0]))] sz)) (va_Qv (fun (u : Nat × Nat × Nat × Nat × Nat × Nat × Nat × Nat) => True) (fun (u : Nat × Nat × Nat × Nat × Nat × Nat × Nat × Nat) (t : State) => wE (dC, dI) vwCl [(cI 0, .int), (cI 1, .byte), (cI 2, .long)] [(h0, .inr (2, [.ref u.1, .ref u.2.1, .ref u.2.2.1, .int 0, .ref m0, .ref m1, .ref m2, .ref m3, .ref u.2.2.2.1, .ref u.2.2.2.2.1, .ref u.2.2.2.2.2.1, .ref u.2.2.2.2.2.2.1, .ref u.2.2.2.2.2.2.2, .int 0, .int 0, .int 0, .int 0, .int 0, .int 0, .int 0])), (u.1, .inl (cI 0, 65536, .inl (fun _ => 0))), (u.2.1, .inl (cI 0, 65536, .inl (fun _ => 0))), (u.2.2.1, .inl (cI 0, 65536, .inl (fun _ => 0))), (u.2.2.2.1, .inl (cI 0, 2176, .inl (fun _ => 0))), (u.2.2.2.2.1, .inl (cI 0, 16384, .inl (fun _ => 0))), (u.2.2.2.2.2.1, .inl (cI 0, 10240, .inl (fun _ => 0))), (u.2.2.2.2.2.2.1, .inl (cI 0, 10240, .inl (fun _ => 0))), (u.2.2.2.2.2.2.2, .inl (cI 0, 101, .inl (fun _ => 0)))] (va_A [(h0, .inr (2, [.null, .null, .null, .int 0, .null, .null, .null, .null, .null, .null, .null, .null, .null, .int 0, .int 0, .int 0, .int 0, .int 0, .int 0, .int 0]))] sz) t) (va_A [(h0, .inr (2, [.null, .null, .null, .int 0, .null, .null, .null, .null, .null, .null, .null, .null, .null, .int 0, .int 0, .int 0, .int 0, .int 0, .int 0, .int 0]))] sz)) 8 235749 (va_A [(h0, .inr (2, [.null, .null, .null, .int 0, .null, .null, .null, .null, .null, .null, .null, .null, .null, .int 0, .int 0, .int 0, .int 0, .int 0, .int 0, .int 0]))] sz) := by
  refine Met.ofW (cc := cX2_init) (maxL := 5) (ret := none) (by decide) rfl ?_
  intro p e s m args below meth c s₁ B hml hv
  obtain ⟨rfl, hsz, hP, hK, hD0, hN⟩ := hv
  have hx := B.exec
  have hb := B.bytes
  have hr := B.returns
  have hts := atoms_spec (ws := zsX2_init) B.pre
  have hown : s.vm.findClass RX2 = some m.cls := findClass_of_methodNamed B.named
  have hlocks := B.notSynchronized
  have hin : meth.name = "<init>" := (name_of_methodNamed B.named B.method).1
  subst hsz
  have hD := hD0.self (sz := s.heap.size)
  generalize hAe : va_A [(h0, .inr (2, [.null, .null, .null, .int 0, .null, .null, .null, .null, .null, .null, .null, .null, .null, .int 0, .int 0, .int 0, .int 0, .int 0, .int 0, .int 0]))] s.heap.size = A at hD ⊢
  have hA : ∀ q : Nat, s.heap.size ≤ q → A q := fun q h => by rw [← hAe]; exact Or.inr h
  have hS : va_S A s.heap s.heap [] := va_S.rf
  have hP : va_P (dC, dI) vwCl [(h0, .inr (2, [.null, .null, .null, .int 0, .null, .null, .null, .null, .null, .null, .null, .null, .null, .int 0, .int 0, .int 0, .int 0, .int 0, .int 0, .int 0]))] s.heap := hP
  have hl := lv_entry ([.ref h0, .ref m0, .ref m1, .ref m2, .ref m3]) (n := 5) (Nat.le_of_ble_eq_true rfl)
  rw [lg_entry_eq]
  generalize (lg_sl ([.ref h0, .ref m0, .ref m1, .ref m2, .ref m3]) ++ List.replicate (5 - (lg_sl ([.ref h0, .ref m0, .ref m1, .ref m2, .ref m3])).length) Slot.unset).toArray = ls at hl ⊢
  have hl : lv_has ls 5 [(0, .ref h0), (1, .ref m0), (2, .ref m1), (3, .ref m2), (4, .ref m3)] := hl
  refine lv_aload_n hx hb dX2_init_0 rfl (lv_at hl 0 rfl) ?_
  refine W.objInit hx hb hown (hts _ (List.mem_cons_of_mem _ (List.mem_append_left _ (List.mem_of_getElem? (i := 0) rfl)))) (hts _ (List.mem_cons_of_mem _ (List.mem_append_left _ (List.mem_of_getElem? (i := 1) rfl)))) (hts _ (List.mem_cons_of_mem _ (List.mem_append_left _ (List.mem_of_getElem? (i := 2) rfl)))) rfl (by rw [hml]; exact hl.1) rfl dX2_init_1 (Nat.le_of_ble_eq_true rfl) (Nat.le_of_ble_eq_true rfl) ?_
  refine lv_aload_n hx hb dX2_init_4 rfl (lv_at hl 0 rfl) ?_
  refine lv_ldc (v := 65536) hx hb hown (hts _ (List.mem_cons_of_mem _ (List.mem_append_left _ (List.mem_of_getElem? (i := 3) rfl)))) dX2_init_5 ?_
  refine va_newa (atype := .int) (ty := .int) (N' := 65536) (a0 := (65536, .inl (fun _ => 0))) hx hb (hts _ (List.mem_cons_of_mem _ (List.mem_append_left _ (List.mem_of_getElem? (i := 4) rfl)))) rfl hK hP hD hS hA (fun _ => rfl) (by decide) (by decide) (Nat.le_of_ble_eq_true rfl) (Nat.le_of_ble_eq_true rfl) (Nat.le_of_ble_eq_true rfl) dX2_init_7 ?_
  clear hK hP hD hS
  intro e_op e_opc H hK hP hD hS
  replace hK : va_K (dC, dI) vwCl [(cI 0, .int), (cI 1, .byte), (cI 2, .long), (e_opc, .int)] s := hK
  obtain rfl : e_opc = cI 0 := k_one hK 3 0 rfl rfl (fun _ z => by cases z)
  replace hK := hK.sub (tys' := [(cI 0, .int), (cI 1, .byte), (cI 2, .long)]) [0, 1, 2] rfl
  replace hP : va_P (dC, dI) vwCl [(h0, .inr (2, [.null, .null, .null, .int 0, .null, .null, .null, .null, .null, .null, .null, .null, .null, .int 0, .int 0, .int 0, .int 0, .int 0, .int 0, .int 0])), (e_op, .inl (cI 0, 65536, .inl (fun _ => 0)))] H := hP
  replace hD : va_D A [(h0, .inr (2, [.null, .null, .null, .int 0, .null, .null, .null, .null, .null, .null, .null, .null, .null, .int 0, .int 0, .int 0, .int 0, .int 0, .int 0, .int 0])), (e_op, .inl (cI 0, 65536, .inl (fun _ => 0)))] := hD
  refine va_putF (D := (dC, dI)) (ci := 2) (v := .ref e_op) (ty := (.array .int)) (C := RX2) (T := TX2) (N := 20) hx hb hts (fun _ h9 => List.mem_cons_of_mem _ (List.mem_append_right _ h9)) tyX2 tyX2_ok nmX2 hown hK hP hD hS 0 rfl rfl 0 (by decide) (hts _ (List.mem_cons_of_mem _ (List.mem_append_left _ (List.mem_of_getElem? (i := 5) rfl)))) (fun _ h9 => h9) rfl hin rfl (by decide +kernel) rfl rfl (Nat.le_of_ble_eq_true rfl) dX2_init_9 ?_
  clear hP hD hS
  intro H locs hP hD hS
  replace hP : va_P (dC, dI) vwCl [(h0, .inr (2, [.ref e_op, .null, .null, .int 0, .null, .null, .null, .null, .null, .null, .null, .null, .null, .int 0, .int 0, .int 0, .int 0, .int 0, .int 0, .int 0])), (e_op, .inl (cI 0, 65536, .inl (fun _ => 0)))] H := hP
  replace hD : va_D A [(h0, .inr (2, [.ref e_op, .null, .null, .int 0, .null, .null, .null, .null, .null, .null, .null, .null, .null, .int 0, .int 0, .int 0, .int 0, .int 0, .int 0, .int 0])), (e_op, .inl (cI 0, 65536, .inl (fun _ => 0)))] := hD
  refine lv_aload_n hx hb dX2_init_12 rfl (lv_at hl 0 rfl) ?_
  refine lv_ldc (v := 65536) hx hb hown (hts _ (List.mem_cons_of_mem _ (List.mem_append_left _ (List.mem_of_getElem? (i := 3) rfl)))) dX2_init_13 ?_
  refine va_newa (atype := .int) (ty := .int) (N' := 65536) (a0 := (65536, .inl (fun _ => 0))) hx hb (hts _ (List.mem_cons_of_mem _ (List.mem_append_left _ (List.mem_of_getElem? (i := 4) rfl)))) rfl hK hP hD hS hA (fun _ => rfl) (by decide) (by decide) (Nat.le_of_ble_eq_true rfl) (Nat.le_of_ble_eq_true rfl) (Nat.le_of_ble_eq_true rfl) dX2_init_15 ?_
  clear hK hP hD hS
  intro e_one e_onec H hK hP hD hS
  replace hK : va_K (dC, dI) vwCl [(cI 0, .int), (cI 1, .byte), (cI 2, .long), (e_onec, .int)] s := hK
  obtain rfl : e_onec = cI 0 := k_one hK 3 0 rfl rfl (fun _ z => by cases z)
  replace hK := hK.sub (tys' := [(cI 0, .int), (cI 1, .byte), (cI 2, .long)]) [0, 1, 2] rfl
  replace hP : va_P (dC, dI) vwCl [(h0, .inr (2, [.ref e_op, .null, .null, .int 0, .null, .null, .null, .null, .null, .null, .null, .null, .null, .int 0, .int 0, .int 0, .int 0, .int 0, .int 0, .int 0])), (e_op, .inl (cI 0, 65536, .inl (fun _ => 0))), (e_one, .inl (cI 0, 65536, .inl (fun _ => 0)))] H := hP
  replace hD : va_D A [(h0, .inr (2, [.ref e_op, .null, .null, .int 0, .null, .null, .null, .null, .null, .null, .null, .null, .null, .int 0, .int 0, .int 0, .int 0, .int 0, .int 0, .int 0])), (e_op, .inl (cI 0, 65536, .inl (fun _ => 0))), (e_one, .inl (cI 0, 65536, .inl (fun _ => 0)))] := hD
  refine va_putF (D := (dC, dI)) (ci := 2) (v := .ref e_one) (ty := (.array .int)) (C := RX2) (T := TX2) (N := 20) hx hb hts (fun _ h9 => List.mem_cons_of_mem _ (List.mem_append_right _ h9)) tyX2 tyX2_ok nmX2 hown hK hP hD hS 0 rfl rfl 1 (by decide) (hts _ (List.mem_cons_of_mem _ (List.mem_append_left _ (List.mem_of_getElem? (i := 6) rfl)))) (fun _ h9 => h9) rfl hin rfl (by decide +kernel) rfl rfl (Nat.le_of_ble_eq_true rfl) dX2_init_17 ?_
  clear hP hD hS
  intro H locs hP hD hS
  replace hP : va_P (dC, dI) vwCl [(h0, .inr (2, [.ref e_op, .ref e_one, .null, .int 0, .null, .null, .null, .null, .null, .null, .null, .null, .null, .int 0, .int 0, .int 0, .int 0, .int 0, .int 0, .int 0])), (e_op, .inl (cI 0, 65536, .inl (fun _ => 0))), (e_one, .inl (cI 0, 65536, .inl (fun _ => 0)))] H := hP
  replace hD : va_D A [(h0, .inr (2, [.ref e_op, .ref e_one, .null, .int 0, .null, .null, .null, .null, .null, .null, .null, .null, .null, .int 0, .int 0, .int 0, .int 0, .int 0, .int 0, .int 0])), (e_op, .inl (cI 0, 65536, .inl (fun _ => 0))), (e_one, .inl (cI 0, 65536, .inl (fun _ => 0)))] := hD
  refine lv_aload_n hx hb dX2_init_20 rfl (lv_at hl 0 rfl) ?_
  refine lv_ldc (v := 65536) hx hb hown (hts _ (List.mem_cons_of_mem _ (List.mem_append_left _ (List.mem_of_getElem? (i := 3) rfl)))) dX2_init_21 ?_
  refine va_newa (atype := .int) (ty := .int) (N' := 65536) (a0 := (65536, .inl (fun _ => 0))) hx hb (hts _ (List.mem_cons_of_mem _ (List.mem_append_left _ (List.mem_of_getElem? (i := 4) rfl)))) rfl hK hP hD hS hA (fun _ => rfl) (by decide) (by decide) (Nat.le_of_ble_eq_true rfl) (Nat.le_of_ble_eq_true rfl) (Nat.le_of_ble_eq_true rfl) dX2_init_23 ?_
  clear hK hP hD hS
  intro e_two e_twoc H hK hP hD hS
  replace hK : va_K (dC, dI) vwCl [(cI 0, .int), (cI 1, .byte), (cI 2, .long), (e_twoc, .int)] s := hK
  obtain rfl : e_twoc = cI 0 := k_one hK 3 0 rfl rfl (fun _ z => by cases z)
  replace hK := hK.sub (tys' := [(cI 0, .int), (cI 1, .byte), (cI 2, .long)]) [0, 1, 2] rfl
  replace hP : va_P (dC, dI) vwCl [(h0, .inr (2, [.ref e_op, .ref e_one, .null, .int 0, .null, .null, .null, .null, .null, .null, .null, .null, .null, .int 0, .int 0, .int 0, .int 0, .int 0, .int 0, .int 0])), (e_op, .inl (cI 0, 65536, .inl (fun _ => 0))), (e_one, .inl (cI 0, 65536, .inl (fun _ => 0))), (e_two, .inl (cI 0, 65536, .inl (fun _ => 0)))] H := hP
  replace hD : va_D A [(h0, .inr (2, [.ref e_op, .ref e_one, .null, .int 0, .null, .null, .null, .null, .null, .null, .null, .null, .null, .int 0, .int 0, .int 0, .int 0, .int 0, .int 0, .int 0])), (e_op, .inl (cI 0, 65536, .inl (fun _ => 0))), (e_one, .inl (cI 0, 65536, .inl (fun _ => 0))), (e_two, .inl (cI 0, 65536, .inl (fun _ => 0)))] := hD
  refine va_putF (D := (dC, dI)) (ci := 2) (v := .ref e_two) (ty := (.array .int)) (C := RX2) (T := TX2) (N := 20) hx hb hts (fun _ h9 => List.mem_cons_of_mem _ (List.mem_append_right _ h9)) tyX2 tyX2_ok nmX2 hown hK hP hD hS 0 rfl rfl 2 (by decide) (hts _ (List.mem_cons_of_mem _ (List.mem_append_left _ (List.mem_of_getElem? (i := 7) rfl)))) (fun _ h9 => h9) rfl hin rfl (by decide +kernel) rfl rfl (Nat.le_of_ble_eq_true rfl) dX2_init_25 ?_
  clear hP hD hS
  intro H locs hP hD hS
  replace hP : va_P (dC, dI) vwCl [(h0, .inr (2, [.ref e_op, .ref e_one, .ref e_two, .int 0, .null, .null, .null, .null, .null, .null, .null, .null, .null, .int 0, .int 0, .int 0, .int 0, .int 0, .int 0, .int 0])), (e_op, .inl (cI 0, 65536, .inl (fun _ => 0))), (e_one, .inl (cI 0, 65536, .inl (fun _ => 0))), (e_two, .inl (cI 0, 65536, .inl (fun _ => 0)))] H := hP
  replace hD : va_D A [(h0, .inr (2, [.ref e_op, .ref e_one, .ref e_two, .int 0, .null, .null, .null, .null, .null, .null, .null, .null, .null, .int 0, .int 0, .int 0, .int 0, .int 0, .int 0, .int 0])), (e_op, .inl (cI 0, 65536, .inl (fun _ => 0))), (e_one, .inl (cI 0, 65536, .inl (fun _ => 0))), (e_two, .inl (cI 0, 65536, .inl (fun _ => 0)))] := hD
  refine lv_aload_n hx hb dX2_init_28 rfl (lv_at hl 0 rfl) ?_
  refine lv_sipush (v := 2176) hx hb dX2_init_29 (by decide) ?_
  refine va_newa (atype := .int) (ty := .int) (N' := 2176) (a0 := (2176, .inl (fun _ => 0))) hx hb (hts _ (List.mem_cons_of_mem _ (List.mem_append_left _ (List.mem_of_getElem? (i := 4) rfl)))) rfl hK hP hD hS hA (fun _ => rfl) (by decide) (by decide) (Nat.le_of_ble_eq_true rfl) (Nat.le_of_ble_eq_true rfl) (Nat.le_of_ble_eq_true rfl) dX2_init_32 ?_
  clear hK hP hD hS
  intro e_literal e_literalc H hK hP hD hS
  replace hK : va_K (dC, dI) vwCl [(cI 0, .int), (cI 1, .byte), (cI 2, .long), (e_literalc, .int)] s := hK
  obtain rfl : e_literalc = cI 0 := k_one hK 3 0 rfl rfl (fun _ z => by cases z)
  replace hK := hK.sub (tys' := [(cI 0, .int), (cI 1, .byte), (cI 2, .long)]) [0, 1, 2] rfl
  replace hP : va_P (dC, dI) vwCl [(h0, .inr (2, [.ref e_op, .ref e_one, .ref e_two, .int 0, .null, .null, .null, .null, .null, .null, .null, .null, .null, .int 0, .int 0, .int 0, .int 0, .int 0, .int 0, .int 0])), (e_op, .inl (cI 0, 65536, .inl (fun _ => 0))), (e_one, .inl (cI 0, 65536, .inl (fun _ => 0))), (e_two, .inl (cI 0, 65536, .inl (fun _ => 0))), (e_literal, .inl (cI 0, 2176, .inl (fun _ => 0)))] H := hP
  replace hD : va_D A [(h0, .inr (2, [.ref e_op, .ref e_one, .ref e_two, .int 0, .null, .null, .null, .null, .null, .null, .null, .null, .null, .int 0, .int 0, .int 0, .int 0, .int 0, .int 0, .int 0])), (e_op, .inl (cI 0, 65536, .inl (fun _ => 0))), (e_one, .inl (cI 0, 65536, .inl (fun _ => 0))), (e_two, .inl (cI 0, 65536, .inl (fun _ => 0))), (e_literal, .inl (cI 0, 2176, .inl (fun _ => 0)))] := hD
  refine va_putF (D := (dC, dI)) (ci := 2) (v := .ref e_literal) (ty := (.array .int)) (C := RX2) (T := TX2) (N := 20) hx hb hts (fun _ h9 => List.mem_cons_of_mem _ (List.mem_append_right _ h9)) tyX2 tyX2_ok nmX2 hown hK hP hD hS 0 rfl rfl 8 (by decide) (hts _ (List.mem_cons_of_mem _ (List.mem_append_left _ (List.mem_of_getElem? (i := 8) rfl)))) (fun _ h9 => h9) rfl hin rfl (by decide +kernel) rfl rfl (Nat.le_of_ble_eq_true rfl) dX2_init_34 ?_
  clear hP hD hS
  intro H locs hP hD hS
  replace hP : va_P (dC, dI) vwCl [(h0, .inr (2, [.ref e_op, .ref e_one, .ref e_two, .int 0, .null, .null, .null, .null, .ref e_literal, .null, .null, .null, .null, .int 0, .int 0, .int 0, .int 0, .int 0, .int 0, .int 0])), (e_op, .inl (cI 0, 65536, .inl (fun _ => 0))), (e_one, .inl (cI 0, 65536, .inl (fun _ => 0))), (e_two, .inl (cI 0, 65536, .inl (fun _ => 0))), (e_literal, .inl (cI 0, 2176, .inl (fun _ => 0)))] H := hP
  replace hD : va_D A [(h0, .inr (2, [.ref e_op, .ref e_one, .ref e_two, .int 0, .null, .null, .null, .null, .ref e_literal, .null, .null, .null, .null, .int 0, .int 0, .int 0, .int 0, .int 0, .int 0, .int 0])), (e_op, .inl (cI 0, 65536, .inl (fun _ => 0))), (e_one, .inl (cI 0, 65536, .inl (fun _ => 0))), (e_two, .inl (cI 0, 65536, .inl (fun _ => 0))), (e_literal, .inl (cI 0, 2176, .inl (fun _ => 0)))] := hD
  refine lv_aload_n hx hb dX2_init_37 rfl (lv_at hl 0 rfl) ?_
  refine lv_sipush (v := 16384) hx hb dX2_init_38 (by decide) ?_
  refine va_newa (atype := .int) (ty := .int) (N' := 16384) (a0 := (16384, .inl (fun _ => 0))) hx hb (hts _ (List.mem_cons_of_mem _ (List.mem_append_left _ (List.mem_of_getElem? (i := 4) rfl)))) rfl hK hP hD hS hA (fun _ => rfl) (by decide) (by decide) (Nat.le_of_ble_eq_true rfl) (Nat.le_of_ble_eq_true rfl) (Nat.le_of_ble_eq_true rfl) dX2_init_41 ?_
  clear hK hP hD hS
  intro e_holds e_holdsc H hK hP hD hS
  replace hK : va_K (dC, dI) vwCl [(cI 0, .int), (cI 1, .byte), (cI 2, .long), (e_holdsc, .int)] s := hK
  obtain rfl : e_holdsc = cI 0 := k_one hK 3 0 rfl rfl (fun _ z => by cases z)
  replace hK := hK.sub (tys' := [(cI 0, .int), (cI 1, .byte), (cI 2, .long)]) [0, 1, 2] rfl
  replace hP : va_P (dC, dI) vwCl [(h0, .inr (2, [.ref e_op, .ref e_one, .ref e_two, .int 0, .null, .null, .null, .null, .ref e_literal, .null, .null, .null, .null, .int 0, .int 0, .int 0, .int 0, .int 0, .int 0, .int 0])), (e_op, .inl (cI 0, 65536, .inl (fun _ => 0))), (e_one, .inl (cI 0, 65536, .inl (fun _ => 0))), (e_two, .inl (cI 0, 65536, .inl (fun _ => 0))), (e_literal, .inl (cI 0, 2176, .inl (fun _ => 0))), (e_holds, .inl (cI 0, 16384, .inl (fun _ => 0)))] H := hP
  replace hD : va_D A [(h0, .inr (2, [.ref e_op, .ref e_one, .ref e_two, .int 0, .null, .null, .null, .null, .ref e_literal, .null, .null, .null, .null, .int 0, .int 0, .int 0, .int 0, .int 0, .int 0, .int 0])), (e_op, .inl (cI 0, 65536, .inl (fun _ => 0))), (e_one, .inl (cI 0, 65536, .inl (fun _ => 0))), (e_two, .inl (cI 0, 65536, .inl (fun _ => 0))), (e_literal, .inl (cI 0, 2176, .inl (fun _ => 0))), (e_holds, .inl (cI 0, 16384, .inl (fun _ => 0)))] := hD
  refine va_putF (D := (dC, dI)) (ci := 2) (v := .ref e_holds) (ty := (.array .int)) (C := RX2) (T := TX2) (N := 20) hx hb hts (fun _ h9 => List.mem_cons_of_mem _ (List.mem_append_right _ h9)) tyX2 tyX2_ok nmX2 hown hK hP hD hS 0 rfl rfl 9 (by decide) (hts _ (List.mem_cons_of_mem _ (List.mem_append_left _ (List.mem_of_getElem? (i := 9) rfl)))) (fun _ h9 => h9) rfl hin rfl (by decide +kernel) rfl rfl (Nat.le_of_ble_eq_true rfl) dX2_init_43 ?_
  clear hP hD hS
  intro H locs hP hD hS
  replace hP : va_P (dC, dI) vwCl [(h0, .inr (2, [.ref e_op, .ref e_one, .ref e_two, .int 0, .null, .null, .null, .null, .ref e_literal, .ref e_holds, .null, .null, .null, .int 0, .int 0, .int 0, .int 0, .int 0, .int 0, .int 0])), (e_op, .inl (cI 0, 65536, .inl (fun _ => 0))), (e_one, .inl (cI 0, 65536, .inl (fun _ => 0))), (e_two, .inl (cI 0, 65536, .inl (fun _ => 0))), (e_literal, .inl (cI 0, 2176, .inl (fun _ => 0))), (e_holds, .inl (cI 0, 16384, .inl (fun _ => 0)))] H := hP
  replace hD : va_D A [(h0, .inr (2, [.ref e_op, .ref e_one, .ref e_two, .int 0, .null, .null, .null, .null, .ref e_literal, .ref e_holds, .null, .null, .null, .int 0, .int 0, .int 0, .int 0, .int 0, .int 0, .int 0])), (e_op, .inl (cI 0, 65536, .inl (fun _ => 0))), (e_one, .inl (cI 0, 65536, .inl (fun _ => 0))), (e_two, .inl (cI 0, 65536, .inl (fun _ => 0))), (e_literal, .inl (cI 0, 2176, .inl (fun _ => 0))), (e_holds, .inl (cI 0, 16384, .inl (fun _ => 0)))] := hD
  refine lv_aload_n hx hb dX2_init_46 rfl (lv_at hl 0 rfl) ?_
  refine lv_sipush (v := 10240) hx hb dX2_init_47 (by decide) ?_
  refine va_newa (atype := .int) (ty := .int) (N' := 10240) (a0 := (10240, .inl (fun _ => 0))) hx hb (hts _ (List.mem_cons_of_mem _ (List.mem_append_left _ (List.mem_of_getElem? (i := 4) rfl)))) rfl hK hP hD hS hA (fun _ => rfl) (by decide) (by decide) (Nat.le_of_ble_eq_true rfl) (Nat.le_of_ble_eq_true rfl) (Nat.le_of_ble_eq_true rfl) dX2_init_50 ?_
  clear hK hP hD hS
  intro e_owner e_ownerc H hK hP hD hS
  replace hK : va_K (dC, dI) vwCl [(cI 0, .int), (cI 1, .byte), (cI 2, .long), (e_ownerc, .int)] s := hK
  obtain rfl : e_ownerc = cI 0 := k_one hK 3 0 rfl rfl (fun _ z => by cases z)
  replace hK := hK.sub (tys' := [(cI 0, .int), (cI 1, .byte), (cI 2, .long)]) [0, 1, 2] rfl
  replace hP : va_P (dC, dI) vwCl [(h0, .inr (2, [.ref e_op, .ref e_one, .ref e_two, .int 0, .null, .null, .null, .null, .ref e_literal, .ref e_holds, .null, .null, .null, .int 0, .int 0, .int 0, .int 0, .int 0, .int 0, .int 0])), (e_op, .inl (cI 0, 65536, .inl (fun _ => 0))), (e_one, .inl (cI 0, 65536, .inl (fun _ => 0))), (e_two, .inl (cI 0, 65536, .inl (fun _ => 0))), (e_literal, .inl (cI 0, 2176, .inl (fun _ => 0))), (e_holds, .inl (cI 0, 16384, .inl (fun _ => 0))), (e_owner, .inl (cI 0, 10240, .inl (fun _ => 0)))] H := hP
  replace hD : va_D A [(h0, .inr (2, [.ref e_op, .ref e_one, .ref e_two, .int 0, .null, .null, .null, .null, .ref e_literal, .ref e_holds, .null, .null, .null, .int 0, .int 0, .int 0, .int 0, .int 0, .int 0, .int 0])), (e_op, .inl (cI 0, 65536, .inl (fun _ => 0))), (e_one, .inl (cI 0, 65536, .inl (fun _ => 0))), (e_two, .inl (cI 0, 65536, .inl (fun _ => 0))), (e_literal, .inl (cI 0, 2176, .inl (fun _ => 0))), (e_holds, .inl (cI 0, 16384, .inl (fun _ => 0))), (e_owner, .inl (cI 0, 10240, .inl (fun _ => 0)))] := hD
  refine va_putF (D := (dC, dI)) (ci := 2) (v := .ref e_owner) (ty := (.array .int)) (C := RX2) (T := TX2) (N := 20) hx hb hts (fun _ h9 => List.mem_cons_of_mem _ (List.mem_append_right _ h9)) tyX2 tyX2_ok nmX2 hown hK hP hD hS 0 rfl rfl 10 (by decide) (hts _ (List.mem_cons_of_mem _ (List.mem_append_left _ (List.mem_of_getElem? (i := 10) rfl)))) (fun _ h9 => h9) rfl hin rfl (by decide +kernel) rfl rfl (Nat.le_of_ble_eq_true rfl) dX2_init_52 ?_
  clear hP hD hS
  intro H locs hP hD hS
  replace hP : va_P (dC, dI) vwCl [(h0, .inr (2, [.ref e_op, .ref e_one, .ref e_two, .int 0, .null, .null, .null, .null, .ref e_literal, .ref e_holds, .ref e_owner, .null, .null, .int 0, .int 0, .int 0, .int 0, .int 0, .int 0, .int 0])), (e_op, .inl (cI 0, 65536, .inl (fun _ => 0))), (e_one, .inl (cI 0, 65536, .inl (fun _ => 0))), (e_two, .inl (cI 0, 65536, .inl (fun _ => 0))), (e_literal, .inl (cI 0, 2176, .inl (fun _ => 0))), (e_holds, .inl (cI 0, 16384, .inl (fun _ => 0))), (e_owner, .inl (cI 0, 10240, .inl (fun _ => 0)))] H := hP
  replace hD : va_D A [(h0, .inr (2, [.ref e_op, .ref e_one, .ref e_two, .int 0, .null, .null, .null, .null, .ref e_literal, .ref e_holds, .ref e_owner, .null, .null, .int 0, .int 0, .int 0, .int 0, .int 0, .int 0, .int 0])), (e_op, .inl (cI 0, 65536, .inl (fun _ => 0))), (e_one, .inl (cI 0, 65536, .inl (fun _ => 0))), (e_two, .inl (cI 0, 65536, .inl (fun _ => 0))), (e_literal, .inl (cI 0, 2176, .inl (fun _ => 0))), (e_holds, .inl (cI 0, 16384, .inl (fun _ => 0))), (e_owner, .inl (cI 0, 10240, .inl (fun _ => 0)))] := hD
  refine lv_aload_n hx hb dX2_init_55 rfl (lv_at hl 0 rfl) ?_
  refine lv_sipush (v := 10240) hx hb dX2_init_56 (by decide) ?_
  refine va_newa (atype := .int) (ty := .int) (N' := 10240) (a0 := (10240, .inl (fun _ => 0))) hx hb (hts _ (List.mem_cons_of_mem _ (List.mem_append_left _ (List.mem_of_getElem? (i := 4) rfl)))) rfl hK hP hD hS hA (fun _ => rfl) (by decide) (by decide) (Nat.le_of_ble_eq_true rfl) (Nat.le_of_ble_eq_true rfl) (Nat.le_of_ble_eq_true rfl) dX2_init_59 ?_
  clear hK hP hD hS
  intro e_where e_wherec H hK hP hD hS
  replace hK : va_K (dC, dI) vwCl [(cI 0, .int), (cI 1, .byte), (cI 2, .long), (e_wherec, .int)] s := hK
  obtain rfl : e_wherec = cI 0 := k_one hK 3 0 rfl rfl (fun _ z => by cases z)
  replace hK := hK.sub (tys' := [(cI 0, .int), (cI 1, .byte), (cI 2, .long)]) [0, 1, 2] rfl
  replace hP : va_P (dC, dI) vwCl [(h0, .inr (2, [.ref e_op, .ref e_one, .ref e_two, .int 0, .null, .null, .null, .null, .ref e_literal, .ref e_holds, .ref e_owner, .null, .null, .int 0, .int 0, .int 0, .int 0, .int 0, .int 0, .int 0])), (e_op, .inl (cI 0, 65536, .inl (fun _ => 0))), (e_one, .inl (cI 0, 65536, .inl (fun _ => 0))), (e_two, .inl (cI 0, 65536, .inl (fun _ => 0))), (e_literal, .inl (cI 0, 2176, .inl (fun _ => 0))), (e_holds, .inl (cI 0, 16384, .inl (fun _ => 0))), (e_owner, .inl (cI 0, 10240, .inl (fun _ => 0))), (e_where, .inl (cI 0, 10240, .inl (fun _ => 0)))] H := hP
  replace hD : va_D A [(h0, .inr (2, [.ref e_op, .ref e_one, .ref e_two, .int 0, .null, .null, .null, .null, .ref e_literal, .ref e_holds, .ref e_owner, .null, .null, .int 0, .int 0, .int 0, .int 0, .int 0, .int 0, .int 0])), (e_op, .inl (cI 0, 65536, .inl (fun _ => 0))), (e_one, .inl (cI 0, 65536, .inl (fun _ => 0))), (e_two, .inl (cI 0, 65536, .inl (fun _ => 0))), (e_literal, .inl (cI 0, 2176, .inl (fun _ => 0))), (e_holds, .inl (cI 0, 16384, .inl (fun _ => 0))), (e_owner, .inl (cI 0, 10240, .inl (fun _ => 0))), (e_where, .inl (cI 0, 10240, .inl (fun _ => 0)))] := hD
  refine va_putF (D := (dC, dI)) (ci := 2) (v := .ref e_where) (ty := (.array .int)) (C := RX2) (T := TX2) (N := 20) hx hb hts (fun _ h9 => List.mem_cons_of_mem _ (List.mem_append_right _ h9)) tyX2 tyX2_ok nmX2 hown hK hP hD hS 0 rfl rfl 11 (by decide) (hts _ (List.mem_cons_of_mem _ (List.mem_append_left _ (List.mem_of_getElem? (i := 11) rfl)))) (fun _ h9 => h9) rfl hin rfl (by decide +kernel) rfl rfl (Nat.le_of_ble_eq_true rfl) dX2_init_61 ?_
  clear hP hD hS
  intro H locs hP hD hS
  replace hP : va_P (dC, dI) vwCl [(h0, .inr (2, [.ref e_op, .ref e_one, .ref e_two, .int 0, .null, .null, .null, .null, .ref e_literal, .ref e_holds, .ref e_owner, .ref e_where, .null, .int 0, .int 0, .int 0, .int 0, .int 0, .int 0, .int 0])), (e_op, .inl (cI 0, 65536, .inl (fun _ => 0))), (e_one, .inl (cI 0, 65536, .inl (fun _ => 0))), (e_two, .inl (cI 0, 65536, .inl (fun _ => 0))), (e_literal, .inl (cI 0, 2176, .inl (fun _ => 0))), (e_holds, .inl (cI 0, 16384, .inl (fun _ => 0))), (e_owner, .inl (cI 0, 10240, .inl (fun _ => 0))), (e_where, .inl (cI 0, 10240, .inl (fun _ => 0)))] H := hP
  replace hD : va_D A [(h0, .inr (2, [.ref e_op, .ref e_one, .ref e_two, .int 0, .null, .null, .null, .null, .ref e_literal, .ref e_holds, .ref e_owner, .ref e_where, .null, .int 0, .int 0, .int 0, .int 0, .int 0, .int 0, .int 0])), (e_op, .inl (cI 0, 65536, .inl (fun _ => 0))), (e_one, .inl (cI 0, 65536, .inl (fun _ => 0))), (e_two, .inl (cI 0, 65536, .inl (fun _ => 0))), (e_literal, .inl (cI 0, 2176, .inl (fun _ => 0))), (e_holds, .inl (cI 0, 16384, .inl (fun _ => 0))), (e_owner, .inl (cI 0, 10240, .inl (fun _ => 0))), (e_where, .inl (cI 0, 10240, .inl (fun _ => 0)))] := hD
  refine lv_aload_n hx hb dX2_init_64 rfl (lv_at hl 0 rfl) ?_
  refine lv_bipush (v := 101) hx hb dX2_init_65 (by decide) ?_
  refine va_newa (atype := .int) (ty := .int) (N' := 101) (a0 := (101, .inl (fun _ => 0))) hx hb (hts _ (List.mem_cons_of_mem _ (List.mem_append_left _ (List.mem_of_getElem? (i := 4) rfl)))) rfl hK hP hD hS hA (fun _ => rfl) (by decide) (by decide) (Nat.le_of_ble_eq_true rfl) (Nat.le_of_ble_eq_true rfl) (Nat.le_of_ble_eq_true rfl) dX2_init_67 ?_
  clear hK hP hD hS
  intro e_bound e_boundc H hK hP hD hS
  replace hK : va_K (dC, dI) vwCl [(cI 0, .int), (cI 1, .byte), (cI 2, .long), (e_boundc, .int)] s := hK
  obtain rfl : e_boundc = cI 0 := k_one hK 3 0 rfl rfl (fun _ z => by cases z)
  replace hK := hK.sub (tys' := [(cI 0, .int), (cI 1, .byte), (cI 2, .long)]) [0, 1, 2] rfl
  replace hP : va_P (dC, dI) vwCl [(h0, .inr (2, [.ref e_op, .ref e_one, .ref e_two, .int 0, .null, .null, .null, .null, .ref e_literal, .ref e_holds, .ref e_owner, .ref e_where, .null, .int 0, .int 0, .int 0, .int 0, .int 0, .int 0, .int 0])), (e_op, .inl (cI 0, 65536, .inl (fun _ => 0))), (e_one, .inl (cI 0, 65536, .inl (fun _ => 0))), (e_two, .inl (cI 0, 65536, .inl (fun _ => 0))), (e_literal, .inl (cI 0, 2176, .inl (fun _ => 0))), (e_holds, .inl (cI 0, 16384, .inl (fun _ => 0))), (e_owner, .inl (cI 0, 10240, .inl (fun _ => 0))), (e_where, .inl (cI 0, 10240, .inl (fun _ => 0))), (e_bound, .inl (cI 0, 101, .inl (fun _ => 0)))] H := hP
  replace hD : va_D A [(h0, .inr (2, [.ref e_op, .ref e_one, .ref e_two, .int 0, .null, .null, .null, .null, .ref e_literal, .ref e_holds, .ref e_owner, .ref e_where, .null, .int 0, .int 0, .int 0, .int 0, .int 0, .int 0, .int 0])), (e_op, .inl (cI 0, 65536, .inl (fun _ => 0))), (e_one, .inl (cI 0, 65536, .inl (fun _ => 0))), (e_two, .inl (cI 0, 65536, .inl (fun _ => 0))), (e_literal, .inl (cI 0, 2176, .inl (fun _ => 0))), (e_holds, .inl (cI 0, 16384, .inl (fun _ => 0))), (e_owner, .inl (cI 0, 10240, .inl (fun _ => 0))), (e_where, .inl (cI 0, 10240, .inl (fun _ => 0))), (e_bound, .inl (cI 0, 101, .inl (fun _ => 0)))] := hD
  refine va_putF (D := (dC, dI)) (ci := 2) (v := .ref e_bound) (ty := (.array .int)) (C := RX2) (T := TX2) (N := 20) hx hb hts (fun _ h9 => List.mem_cons_of_mem _ (List.mem_append_right _ h9)) tyX2 tyX2_ok nmX2 hown hK hP hD hS 0 rfl rfl 12 (by decide) (hts _ (List.mem_cons_of_mem _ (List.mem_append_left _ (List.mem_of_getElem? (i := 12) rfl)))) (fun _ h9 => h9) rfl hin rfl (by decide +kernel) rfl rfl (Nat.le_of_ble_eq_true rfl) dX2_init_69 ?_
  clear hP hD hS
  intro H locs hP hD hS
  replace hP : va_P (dC, dI) vwCl [(h0, .inr (2, [.ref e_op, .ref e_one, .ref e_two, .int 0, .null, .null, .null, .null, .ref e_literal, .ref e_holds, .ref e_owner, .ref e_where, .ref e_bound, .int 0, .int 0, .int 0, .int 0, .int 0, .int 0, .int 0])), (e_op, .inl (cI 0, 65536, .inl (fun _ => 0))), (e_one, .inl (cI 0, 65536, .inl (fun _ => 0))), (e_two, .inl (cI 0, 65536, .inl (fun _ => 0))), (e_literal, .inl (cI 0, 2176, .inl (fun _ => 0))), (e_holds, .inl (cI 0, 16384, .inl (fun _ => 0))), (e_owner, .inl (cI 0, 10240, .inl (fun _ => 0))), (e_where, .inl (cI 0, 10240, .inl (fun _ => 0))), (e_bound, .inl (cI 0, 101, .inl (fun _ => 0)))] H := hP
  replace hD : va_D A [(h0, .inr (2, [.ref e_op, .ref e_one, .ref e_two, .int 0, .null, .null, .null, .null, .ref e_literal, .ref e_holds, .ref e_owner, .ref e_where, .ref e_bound, .int 0, .int 0, .int 0, .int 0, .int 0, .int 0, .int 0])), (e_op, .inl (cI 0, 65536, .inl (fun _ => 0))), (e_one, .inl (cI 0, 65536, .inl (fun _ => 0))), (e_two, .inl (cI 0, 65536, .inl (fun _ => 0))), (e_literal, .inl (cI 0, 2176, .inl (fun _ => 0))), (e_holds, .inl (cI 0, 16384, .inl (fun _ => 0))), (e_owner, .inl (cI 0, 10240, .inl (fun _ => 0))), (e_where, .inl (cI 0, 10240, .inl (fun _ => 0))), (e_bound, .inl (cI 0, 101, .inl (fun _ => 0)))] := hD
  refine lv_aload_n hx hb dX2_init_72 rfl (lv_at hl 0 rfl) ?_
  refine lv_aload_n hx hb dX2_init_73 rfl (lv_at hl 1 rfl) ?_
  refine va_putF (D := (dC, dI)) (ci := 2) (v := .ref m0) (ty := (.object "LeanHouse$Parser")) (C := RX2) (T := TX2) (N := 20) hx hb hts (fun _ h9 => List.mem_cons_of_mem _ (List.mem_append_right _ h9)) tyX2 tyX2_ok nmX2 hown hK hP hD hS 0 rfl rfl 4 (by decide) (hts _ (List.mem_cons_of_mem _ (List.mem_append_left _ (List.mem_of_getElem? (i := 13) rfl)))) (fun _ h9 => h9) rfl hin rfl (by decide +kernel) rfl rfl (Nat.le_of_ble_eq_true rfl) dX2_init_74 ?_
  clear hP hD hS
  intro H locs hP hD hS
  replace hP : va_P (dC, dI) vwCl [(h0, .inr (2, [.ref e_op, .ref e_one, .ref e_two, .int 0, .ref m0, .null, .null, .null, .ref e_literal, .ref e_holds, .ref e_owner, .ref e_where, .ref e_bound, .int 0, .int 0, .int 0, .int 0, .int 0, .int 0, .int 0])), (e_op, .inl (cI 0, 65536, .inl (fun _ => 0))), (e_one, .inl (cI 0, 65536, .inl (fun _ => 0))), (e_two, .inl (cI 0, 65536, .inl (fun _ => 0))), (e_literal, .inl (cI 0, 2176, .inl (fun _ => 0))), (e_holds, .inl (cI 0, 16384, .inl (fun _ => 0))), (e_owner, .inl (cI 0, 10240, .inl (fun _ => 0))), (e_where, .inl (cI 0, 10240, .inl (fun _ => 0))), (e_bound, .inl (cI 0, 101, .inl (fun _ => 0)))] H := hP
  replace hD : va_D A [(h0, .inr (2, [.ref e_op, .ref e_one, .ref e_two, .int 0, .ref m0, .null, .null, .null, .ref e_literal, .ref e_holds, .ref e_owner, .ref e_where, .ref e_bound, .int 0, .int 0, .int 0, .int 0, .int 0, .int 0, .int 0])), (e_op, .inl (cI 0, 65536, .inl (fun _ => 0))), (e_one, .inl (cI 0, 65536, .inl (fun _ => 0))), (e_two, .inl (cI 0, 65536, .inl (fun _ => 0))), (e_literal, .inl (cI 0, 2176, .inl (fun _ => 0))), (e_holds, .inl (cI 0, 16384, .inl (fun _ => 0))), (e_owner, .inl (cI 0, 10240, .inl (fun _ => 0))), (e_where, .inl (cI 0, 10240, .inl (fun _ => 0))), (e_bound, .inl (cI 0, 101, .inl (fun _ => 0)))] := hD
  refine lv_aload_n hx hb dX2_init_77 rfl (lv_at hl 0 rfl) ?_
  refine lv_aload_n hx hb dX2_init_78 rfl (lv_at hl 2 rfl) ?_
  refine va_putF (D := (dC, dI)) (ci := 2) (v := .ref m1) (ty := (.object "LeanHouse$Scope")) (C := RX2) (T := TX2) (N := 20) hx hb hts (fun _ h9 => List.mem_cons_of_mem _ (List.mem_append_right _ h9)) tyX2 tyX2_ok nmX2 hown hK hP hD hS 0 rfl rfl 5 (by decide) (hts _ (List.mem_cons_of_mem _ (List.mem_append_left _ (List.mem_of_getElem? (i := 14) rfl)))) (fun _ h9 => h9) rfl hin rfl (by decide +kernel) rfl rfl (Nat.le_of_ble_eq_true rfl) dX2_init_79 ?_
  clear hP hD hS
  intro H locs hP hD hS
  replace hP : va_P (dC, dI) vwCl [(h0, .inr (2, [.ref e_op, .ref e_one, .ref e_two, .int 0, .ref m0, .ref m1, .null, .null, .ref e_literal, .ref e_holds, .ref e_owner, .ref e_where, .ref e_bound, .int 0, .int 0, .int 0, .int 0, .int 0, .int 0, .int 0])), (e_op, .inl (cI 0, 65536, .inl (fun _ => 0))), (e_one, .inl (cI 0, 65536, .inl (fun _ => 0))), (e_two, .inl (cI 0, 65536, .inl (fun _ => 0))), (e_literal, .inl (cI 0, 2176, .inl (fun _ => 0))), (e_holds, .inl (cI 0, 16384, .inl (fun _ => 0))), (e_owner, .inl (cI 0, 10240, .inl (fun _ => 0))), (e_where, .inl (cI 0, 10240, .inl (fun _ => 0))), (e_bound, .inl (cI 0, 101, .inl (fun _ => 0)))] H := hP
  replace hD : va_D A [(h0, .inr (2, [.ref e_op, .ref e_one, .ref e_two, .int 0, .ref m0, .ref m1, .null, .null, .ref e_literal, .ref e_holds, .ref e_owner, .ref e_where, .ref e_bound, .int 0, .int 0, .int 0, .int 0, .int 0, .int 0, .int 0])), (e_op, .inl (cI 0, 65536, .inl (fun _ => 0))), (e_one, .inl (cI 0, 65536, .inl (fun _ => 0))), (e_two, .inl (cI 0, 65536, .inl (fun _ => 0))), (e_literal, .inl (cI 0, 2176, .inl (fun _ => 0))), (e_holds, .inl (cI 0, 16384, .inl (fun _ => 0))), (e_owner, .inl (cI 0, 10240, .inl (fun _ => 0))), (e_where, .inl (cI 0, 10240, .inl (fun _ => 0))), (e_bound, .inl (cI 0, 101, .inl (fun _ => 0)))] := hD
  refine lv_aload_n hx hb dX2_init_82 rfl (lv_at hl 0 rfl) ?_
  refine lv_aload_n hx hb dX2_init_83 rfl (lv_at hl 3 rfl) ?_
  refine va_putF (D := (dC, dI)) (ci := 2) (v := .ref m2) (ty := (.object "LeanHouse$Lexer")) (C := RX2) (T := TX2) (N := 20) hx hb hts (fun _ h9 => List.mem_cons_of_mem _ (List.mem_append_right _ h9)) tyX2 tyX2_ok nmX2 hown hK hP hD hS 0 rfl rfl 6 (by decide) (hts _ (List.mem_cons_of_mem _ (List.mem_append_left _ (List.mem_of_getElem? (i := 15) rfl)))) (fun _ h9 => h9) rfl hin rfl (by decide +kernel) rfl rfl (Nat.le_of_ble_eq_true rfl) dX2_init_84 ?_
  clear hP hD hS
  intro H locs hP hD hS
  replace hP : va_P (dC, dI) vwCl [(h0, .inr (2, [.ref e_op, .ref e_one, .ref e_two, .int 0, .ref m0, .ref m1, .ref m2, .null, .ref e_literal, .ref e_holds, .ref e_owner, .ref e_where, .ref e_bound, .int 0, .int 0, .int 0, .int 0, .int 0, .int 0, .int 0])), (e_op, .inl (cI 0, 65536, .inl (fun _ => 0))), (e_one, .inl (cI 0, 65536, .inl (fun _ => 0))), (e_two, .inl (cI 0, 65536, .inl (fun _ => 0))), (e_literal, .inl (cI 0, 2176, .inl (fun _ => 0))), (e_holds, .inl (cI 0, 16384, .inl (fun _ => 0))), (e_owner, .inl (cI 0, 10240, .inl (fun _ => 0))), (e_where, .inl (cI 0, 10240, .inl (fun _ => 0))), (e_bound, .inl (cI 0, 101, .inl (fun _ => 0)))] H := hP
  replace hD : va_D A [(h0, .inr (2, [.ref e_op, .ref e_one, .ref e_two, .int 0, .ref m0, .ref m1, .ref m2, .null, .ref e_literal, .ref e_holds, .ref e_owner, .ref e_where, .ref e_bound, .int 0, .int 0, .int 0, .int 0, .int 0, .int 0, .int 0])), (e_op, .inl (cI 0, 65536, .inl (fun _ => 0))), (e_one, .inl (cI 0, 65536, .inl (fun _ => 0))), (e_two, .inl (cI 0, 65536, .inl (fun _ => 0))), (e_literal, .inl (cI 0, 2176, .inl (fun _ => 0))), (e_holds, .inl (cI 0, 16384, .inl (fun _ => 0))), (e_owner, .inl (cI 0, 10240, .inl (fun _ => 0))), (e_where, .inl (cI 0, 10240, .inl (fun _ => 0))), (e_bound, .inl (cI 0, 101, .inl (fun _ => 0)))] := hD
  refine lv_aload_n hx hb dX2_init_87 rfl (lv_at hl 0 rfl) ?_
  refine lv_aload hx hb dX2_init_88 (lv_at hl 4 rfl) ?_
  refine va_putF (D := (dC, dI)) (ci := 2) (v := .ref m3) (ty := (.array .int)) (C := RX2) (T := TX2) (N := 20) hx hb hts (fun _ h9 => List.mem_cons_of_mem _ (List.mem_append_right _ h9)) tyX2 tyX2_ok nmX2 hown hK hP hD hS 0 rfl rfl 7 (by decide) (hts _ (List.mem_cons_of_mem _ (List.mem_append_left _ (List.mem_of_getElem? (i := 16) rfl)))) (fun _ h9 => h9) rfl hin rfl (by decide +kernel) rfl rfl (Nat.le_of_ble_eq_true rfl) dX2_init_90 ?_
  clear hP hD hS
  intro H locs hP hD hS
  replace hP : va_P (dC, dI) vwCl [(h0, .inr (2, [.ref e_op, .ref e_one, .ref e_two, .int 0, .ref m0, .ref m1, .ref m2, .ref m3, .ref e_literal, .ref e_holds, .ref e_owner, .ref e_where, .ref e_bound, .int 0, .int 0, .int 0, .int 0, .int 0, .int 0, .int 0])), (e_op, .inl (cI 0, 65536, .inl (fun _ => 0))), (e_one, .inl (cI 0, 65536, .inl (fun _ => 0))), (e_two, .inl (cI 0, 65536, .inl (fun _ => 0))), (e_literal, .inl (cI 0, 2176, .inl (fun _ => 0))), (e_holds, .inl (cI 0, 16384, .inl (fun _ => 0))), (e_owner, .inl (cI 0, 10240, .inl (fun _ => 0))), (e_where, .inl (cI 0, 10240, .inl (fun _ => 0))), (e_bound, .inl (cI 0, 101, .inl (fun _ => 0)))] H := hP
  replace hD : va_D A [(h0, .inr (2, [.ref e_op, .ref e_one, .ref e_two, .int 0, .ref m0, .ref m1, .ref m2, .ref m3, .ref e_literal, .ref e_holds, .ref e_owner, .ref e_where, .ref e_bound, .int 0, .int 0, .int 0, .int 0, .int 0, .int 0, .int 0])), (e_op, .inl (cI 0, 65536, .inl (fun _ => 0))), (e_one, .inl (cI 0, 65536, .inl (fun _ => 0))), (e_two, .inl (cI 0, 65536, .inl (fun _ => 0))), (e_literal, .inl (cI 0, 2176, .inl (fun _ => 0))), (e_holds, .inl (cI 0, 16384, .inl (fun _ => 0))), (e_owner, .inl (cI 0, 10240, .inl (fun _ => 0))), (e_where, .inl (cI 0, 10240, .inl (fun _ => 0))), (e_bound, .inl (cI 0, 101, .inl (fun _ => 0)))] := hD
  have hP9 := hP.sub (ws' := [(h0, .inr (2, [.ref e_op, .ref e_one, .ref e_two, .int 0, .ref m0, .ref m1, .ref m2, .ref m3, .ref e_literal, .ref e_holds, .ref e_owner, .ref e_where, .ref e_bound, .int 0, .int 0, .int 0, .int 0, .int 0, .int 0, .int 0])), (e_op, .inl (cI 0, 65536, .inl (fun _ => 0))), (e_one, .inl (cI 0, 65536, .inl (fun _ => 0))), (e_two, .inl (cI 0, 65536, .inl (fun _ => 0))), (e_literal, .inl (cI 0, 2176, .inl (fun _ => 0))), (e_holds, .inl (cI 0, 16384, .inl (fun _ => 0))), (e_owner, .inl (cI 0, 10240, .inl (fun _ => 0))), (e_where, .inl (cI 0, 10240, .inl (fun _ => 0))), (e_bound, .inl (cI 0, 101, .inl (fun _ => 0)))]) [0, 1, 2, 3, 4, 5, 6, 7, 8] rfl
  have hD9 := hD.sub (ws' := [(h0, .inr (2, [.ref e_op, .ref e_one, .ref e_two, .int 0, .ref m0, .ref m1, .ref m2, .ref m3, .ref e_literal, .ref e_holds, .ref e_owner, .ref e_where, .ref e_bound, .int 0, .int 0, .int 0, .int 0, .int 0, .int 0, .int 0])), (e_op, .inl (cI 0, 65536, .inl (fun _ => 0))), (e_one, .inl (cI 0, 65536, .inl (fun _ => 0))), (e_two, .inl (cI 0, 65536, .inl (fun _ => 0))), (e_literal, .inl (cI 0, 2176, .inl (fun _ => 0))), (e_holds, .inl (cI 0, 16384, .inl (fun _ => 0))), (e_owner, .inl (cI 0, 10240, .inl (fun _ => 0))), (e_where, .inl (cI 0, 10240, .inl (fun _ => 0))), (e_bound, .inl (cI 0, 101, .inl (fun _ => 0)))]) [0, 1, 2, 3, 4, 5, 6, 7, 8] (by decide) rfl
  have hK9 := hK.sub (tys' := [(cI 0, .int), (cI 1, .byte), (cI 2, .long)]) [0, 1, 2] rfl
  exact W.vret hx hb hr (fun t ht hW => ⟨⟨(e_op, e_one, e_two, e_literal, e_holds, e_owner, e_where, e_bound), rfl, trivial, wE.of ht hW hP9 hK9 hD9⟩, hS.F ht⟩) hS.2.2 dX2_init_93

theorem dX6_init_0 : decode cX6_init 0 = .ok (.aload_n 0, 1) := by decide +kernel
theorem dX6_init_1 : decode cX6_init 1 = .ok (.invokespecial 3, 3) := by decide +kernel
theorem dX6_init_4 : decode cX6_init 4 = .ok (.aload_n 0, 1) := by decide +kernel
theorem dX6_init_5 : decode cX6_init 5 = .ok (.bipush 16, 2) := by decide +kernel
theorem dX6_init_7 : decode cX6_init 7 = .ok (.newarray .byte, 2) := by decide +kernel
theorem dX6_init_9 : decode cX6_init 9 = .ok (.putfield 9, 3) := by decide +kernel
theorem dX6_init_12 : decode cX6_init 12 = .ok (.aload_n 0, 1) := by decide +kernel
theorem dX6_init_13 : decode cX6_init 13 = .ok (.aload_n 1, 1) := by decide +kernel
theorem dX6_init_14 : decode cX6_init 14 = .ok (.putfield 15, 3) := by decide +kernel
theorem dX6_init_17 : decode cX6_init 17 = .ok (.aload_n 0, 1) := by decide +kernel
theorem dX6_init_18 : decode cX6_init 18 = .ok (.aload_n 2, 1) := by decide +kernel
theorem dX6_init_19 : decode cX6_init 19 = .ok (.putfield 19, 3) := by decide +kernel
theorem dX6_init_22 : decode cX6_init 22 = .ok (.return_, 1) := by decide +kernel
def zlX6_init : List Cond := [.methodLink RX6 3 objectInit, .instanceMethod objectInit, .code objectInit ⟨#[0xb1]⟩ 1 none, .arrayClass .byte, .fieldLink RX6 9 "LeanHouse$Machine" "figures" "[B", .fieldLink RX6 15 "LeanHouse$Machine" "coder" "LLeanHouse$Coder;", .fieldLink RX6 19 "LeanHouse$Machine" "memory" "[I"]
def zsX6_init : List Cond := .code yX6_init cX6_init 3 none :: (zlX6_init ++ (wsX60))
set_option maxHeartbeats 8000000 in
set_option maxRecDepth 100000 in
theorem c_X6_init (l : Launch) (dC : Nat → ClassId) (dI : Nat → Nat → Nat) (sz : Nat) (cI : Nat → ClassId) (h0 : Nat) (m0 : Nat) (m1 : Nat) : Met l yX6_init zsX6_init ({ frames := 2, cells := 1, slots := 16, locals := 20 } : Jvm.Room) (va_Pc [.ref h0, .ref m0, .ref m1] (wB (dC, dI) vwCl nestM [(cI 0, .int), (cI 1, .byte), (cI 2, .long)] [(h0, .inr (6, [.null, .null, .null, .int 0, .int 0, .int 0, .int 0, .int 0, .int 0, .int 0, .int 0, .int 0, .int 0, .int 0, .int 0, .int 0, .int 0, .int 0, .int 0]))] sz)) (va_Qv (fun (u : Nat) => True) (fun (u : Nat) (t : State) => wE (dC, dI) vwCl [(cI 0, .int), (cI 1, .byte), (cI 2, .long)] [(h0, .inr (6, [.ref m1, .ref m0, .ref u, .int 0, .int 0, .int 0, .int 0, .int 0, .int 0, .int 0, .int 0, .int 0, .int 0, .int 0, .int 0, .int 0, .int 0, .int 0, .int 0])), (u, .inl (cI 1, 16, .inl (fun _ => 0)))] (va_A [(h0, .inr (6, [.null, .null, .null, .int 0, .int 0, .int 0, .int 0, .int 0, .int 0, .int 0, .int 0, .int 0, .int 0, .int 0, .int 0, .int 0, .int 0, .int 0, .int 0]))] sz) t) (va_A [(h0, .inr (6, [.null, .null, .null, .int 0, .int 0, .int 0, .int 0, .int 0, .int 0, .int 0, .int 0, .int 0, .int 0, .int 0, .int 0, .int 0, .int 0, .int 0, .int 0]))] sz)) 1 16 (va_A [(h0, .inr (6, [.null, .null, .null, .int 0, .int 0, .int 0, .int 0, .int 0, .int 0, .int 0, .int 0, .int 0, .int 0, .int 0, .int 0, .int 0, .int 0, .int 0, .int 0]))] sz) := by
  refine Met.ofW (cc := cX6_init) (maxL := 3) (ret := none) (by decide) rfl ?_
  intro p e s m args below meth c s₁ B hml hv
  obtain ⟨rfl, hsz, hP, hK, hD0, hN⟩ := hv
  have hx := B.exec
  have hb := B.bytes
  have hr := B.returns
  have hts := atoms_spec (ws := zsX6_init) B.pre
  have hown : s.vm.findClass RX6 = some m.cls := findClass_of_methodNamed B.named
  have hlocks := B.notSynchronized
  have hin : meth.name = "<init>" := (name_of_methodNamed B.named B.method).1
  subst hsz
  have hD := hD0.self (sz := s.heap.size)
  generalize hAe : va_A [(h0, .inr (6, [.null, .null, .null, .int 0, .int 0, .int 0, .int 0, .int 0, .int 0, .int 0, .int 0, .int 0, .int 0, .int 0, .int 0, .int 0, .int 0, .int 0, .int 0]))] s.heap.size = A at hD ⊢
  have hA : ∀ q : Nat, s.heap.size ≤ q → A q := fun q h => by rw [← hAe]; exact Or.inr h
  have hS : va_S A s.heap s.heap [] := va_S.rf
  have hP : va_P (dC, dI) vwCl [(h0, .inr (6, [.null, .null, .null, .int 0, .int 0, .int 0, .int 0, .int 0, .int 0, .int 0, .int 0, .int 0, .int 0, .int 0, .int 0, .int 0, .int 0, .int 0, .int 0]))] s.heap := hP
  have hl := lv_entry ([.ref h0, .ref m0, .ref m1]) (n := 3) (Nat.le_of_ble_eq_true rfl)
  rw [lg_entry_eq]
  generalize (lg_sl ([.ref h0, .ref m0, .ref m1]) ++ List.replicate (3 - (lg_sl ([.ref h0, .ref m0, .ref m1])).length) Slot.unset).toArray = ls at hl ⊢
  have hl : lv_has ls 3 [(0, .ref h0), (1, .ref m0), (2, .ref m1)] := hl
  refine lv_aload_n hx hb dX6_init_0 rfl (lv_at hl 0 rfl) ?_
  refine W.objInit hx hb hown (hts _ (List.mem_cons_of_mem _ (List.mem_append_left _ (List.mem_of_getElem? (i := 0) rfl)))) (hts _ (List.mem_cons_of_mem _ (List.mem_append_left _ (List.mem_of_getElem? (i := 1) rfl)))) (hts _ (List.mem_cons_of_mem _ (List.mem_append_left _ (List.mem_of_getElem? (i := 2) rfl)))) rfl (by rw [hml]; exact hl.1) rfl dX6_init_1 (Nat.le_of_ble_eq_true rfl) (Nat.le_of_ble_eq_true rfl) ?_
  refine lv_aload_n hx hb dX6_init_4 rfl (lv_at hl 0 rfl) ?_
  refine lv_bipush (v := 16) hx hb dX6_init_5 (by decide) ?_
  refine va_newa (atype := .byte) (ty := .byte) (N' := 16) (a0 := (16, .inl (fun _ => 0))) hx hb (hts _ (List.mem_cons_of_mem _ (List.mem_append_left _ (List.mem_of_getElem? (i := 3) rfl)))) rfl hK hP hD hS hA (fun _ => rfl) (by decide) (by decide) (Nat.le_of_ble_eq_true rfl) (Nat.le_of_ble_eq_true rfl) (Nat.le_of_ble_eq_true rfl) dX6_init_7 ?_
  clear hK hP hD hS
  intro f_figures f_figuresc H hK hP hD hS
  replace hK : va_K (dC, dI) vwCl [(cI 0, .int), (cI 1, .byte), (cI 2, .long), (f_figuresc, .byte)] s := hK
  obtain rfl : f_figuresc = cI 1 := k_one hK 3 1 rfl rfl (fun _ z => by cases z)
  replace hK := hK.sub (tys' := [(cI 0, .int), (cI 1, .byte), (cI 2, .long)]) [0, 1, 2] rfl
  replace hP : va_P (dC, dI) vwCl [(h0, .inr (6, [.null, .null, .null, .int 0, .int 0, .int 0, .int 0, .int 0, .int 0, .int 0, .int 0, .int 0, .int 0, .int 0, .int 0, .int 0, .int 0, .int 0, .int 0])), (f_figures, .inl (cI 1, 16, .inl (fun _ => 0)))] H := hP
  replace hD : va_D A [(h0, .inr (6, [.null, .null, .null, .int 0, .int 0, .int 0, .int 0, .int 0, .int 0, .int 0, .int 0, .int 0, .int 0, .int 0, .int 0, .int 0, .int 0, .int 0, .int 0])), (f_figures, .inl (cI 1, 16, .inl (fun _ => 0)))] := hD
  refine va_putF (D := (dC, dI)) (ci := 6) (v := .ref f_figures) (ty := (.array .byte)) (C := RX6) (T := TX6) (N := 19) hx hb hts (fun _ h9 => List.mem_cons_of_mem _ (List.mem_append_right _ h9)) tyX6 tyX6_ok nmX6 hown hK hP hD hS 0 rfl rfl 2 (by decide) (hts _ (List.mem_cons_of_mem _ (List.mem_append_left _ (List.mem_of_getElem? (i := 4) rfl)))) (fun _ h9 => h9) rfl hin rfl (by decide +kernel) rfl rfl (Nat.le_of_ble_eq_true rfl) dX6_init_9 ?_
  clear hP hD hS
  intro H locs hP hD hS
  replace hP : va_P (dC, dI) vwCl [(h0, .inr (6, [.null, .null, .ref f_figures, .int 0, .int 0, .int 0, .int 0, .int 0, .int 0, .int 0, .int 0, .int 0, .int 0, .int 0, .int 0, .int 0, .int 0, .int 0, .int 0])), (f_figures, .inl (cI 1, 16, .inl (fun _ => 0)))] H := hP
  replace hD : va_D A [(h0, .inr (6, [.null, .null, .ref f_figures, .int 0, .int 0, .int 0, .int 0, .int 0, .int 0, .int 0, .int 0, .int 0, .int 0, .int 0, .int 0, .int 0, .int 0, .int 0, .int 0])), (f_figures, .inl (cI 1, 16, .inl (fun _ => 0)))] := hD
  refine lv_aload_n hx hb dX6_init_12 rfl (lv_at hl 0 rfl) ?_
  refine lv_aload_n hx hb dX6_init_13 rfl (lv_at hl 1 rfl) ?_
  refine va_putF (D := (dC, dI)) (ci := 6) (v := .ref m0) (ty := (.object "LeanHouse$Coder")) (C := RX6) (T := TX6) (N := 19) hx hb hts (fun _ h9 => List.mem_cons_of_mem _ (List.mem_append_right _ h9)) tyX6 tyX6_ok nmX6 hown hK hP hD hS 0 rfl rfl 1 (by decide) (hts _ (List.mem_cons_of_mem _ (List.mem_append_left _ (List.mem_of_getElem? (i := 5) rfl)))) (fun _ h9 => h9) rfl hin rfl (by decide +kernel) rfl rfl (Nat.le_of_ble_eq_true rfl) dX6_init_14 ?_
  clear hP hD hS
  intro H locs hP hD hS
  replace hP : va_P (dC, dI) vwCl [(h0, .inr (6, [.null, .ref m0, .ref f_figures, .int 0, .int 0, .int 0, .int 0, .int 0, .int 0, .int 0, .int 0, .int 0, .int 0, .int 0, .int 0, .int 0, .int 0, .int 0, .int 0])), (f_figures, .inl (cI 1, 16, .inl (fun _ => 0)))] H := hP
  replace hD : va_D A [(h0, .inr (6, [.null, .ref m0, .ref f_figures, .int 0, .int 0, .int 0, .int 0, .int 0, .int 0, .int 0, .int 0, .int 0, .int 0, .int 0, .int 0, .int 0, .int 0, .int 0, .int 0])), (f_figures, .inl (cI 1, 16, .inl (fun _ => 0)))] := hD
  refine lv_aload_n hx hb dX6_init_17 rfl (lv_at hl 0 rfl) ?_
  refine lv_aload_n hx hb dX6_init_18 rfl (lv_at hl 2 rfl) ?_
  refine va_putF (D := (dC, dI)) (ci := 6) (v := .ref m1) (ty := (.array .int)) (C := RX6) (T := TX6) (N := 19) hx hb hts (fun _ h9 => List.mem_cons_of_mem _ (List.mem_append_right _ h9)) tyX6 tyX6_ok nmX6 hown hK hP hD hS 0 rfl rfl 0 (by decide) (hts _ (List.mem_cons_of_mem _ (List.mem_append_left _ (List.mem_of_getElem? (i := 6) rfl)))) (fun _ h9 => h9) rfl hin rfl (by decide +kernel) rfl rfl (Nat.le_of_ble_eq_true rfl) dX6_init_19 ?_
  clear hP hD hS
  intro H locs hP hD hS
  replace hP : va_P (dC, dI) vwCl [(h0, .inr (6, [.ref m1, .ref m0, .ref f_figures, .int 0, .int 0, .int 0, .int 0, .int 0, .int 0, .int 0, .int 0, .int 0, .int 0, .int 0, .int 0, .int 0, .int 0, .int 0, .int 0])), (f_figures, .inl (cI 1, 16, .inl (fun _ => 0)))] H := hP
  replace hD : va_D A [(h0, .inr (6, [.ref m1, .ref m0, .ref f_figures, .int 0, .int 0, .int 0, .int 0, .int 0, .int 0, .int 0, .int 0, .int 0, .int 0, .int 0, .int 0, .int 0, .int 0, .int 0, .int 0])), (f_figures, .inl (cI 1, 16, .inl (fun _ => 0)))] := hD
  have hP9 := hP.sub (ws' := [(h0, .inr (6, [.ref m1, .ref m0, .ref f_figures, .int 0, .int 0, .int 0, .int 0, .int 0, .int 0, .int 0, .int 0, .int 0, .int 0, .int 0, .int 0, .int 0, .int 0, .int 0, .int 0])), (f_figures, .inl (cI 1, 16, .inl (fun _ => 0)))]) [0, 1] rfl
  have hD9 := hD.sub (ws' := [(h0, .inr (6, [.ref m1, .ref m0, .ref f_figures, .int 0, .int 0, .int 0, .int 0, .int 0, .int 0, .int 0, .int 0, .int 0, .int 0, .int 0, .int 0, .int 0, .int 0, .int 0, .int 0])), (f_figures, .inl (cI 1, 16, .inl (fun _ => 0)))]) [0, 1] (by decide) rfl
  have hK9 := hK.sub (tys' := [(cI 0, .int), (cI 1, .byte), (cI 2, .long)]) [0, 1, 2] rfl
  exact W.vret hx hb hr (fun t ht hW => ⟨⟨f_figures, rfl, trivial, wE.of ht hW hP9 hK9 hD9⟩, hS.F ht⟩) hS.2.2 dX6_init_22

theorem dX8_init_0 : decode cX8_init 0 = .ok (.aload_n 0, 1) := by decide +kernel
theorem dX8_init_1 : decode cX8_init 1 = .ok (.invokespecial 3, 3) := by decide +kernel
theorem dX8_init_4 : decode cX8_init 4 = .ok (.aload_n 0, 1) := by decide +kernel
theorem dX8_init_5 : decode cX8_init 5 = .ok (.bipush 32, 2) := by decide +kernel
theorem dX8_init_7 : decode cX8_init 7 = .ok (.newarray .int, 2) := by decide +kernel
theorem dX8_init_9 : decode cX8_init 9 = .ok (.putfield 9, 3) := by decide +kernel
theorem dX8_init_12 : decode cX8_init 12 = .ok (.aload_n 0, 1) := by decide +kernel
theorem dX8_init_13 : decode cX8_init 13 = .ok (.aload_n 1, 1) := by decide +kernel
theorem dX8_init_14 : decode cX8_init 14 = .ok (.putfield 15, 3) := by decide +kernel
theorem dX8_init_17 : decode cX8_init 17 = .ok (.return_, 1) := by decide +kernel
def zlX8_init : List Cond := [.methodLink RX8 3 objectInit, .instanceMethod objectInit, .code objectInit ⟨#[0xb1]⟩ 1 none, .arrayClass .int, .fieldLink RX8 9 "LeanHouse$Processor" "register" "[I", .fieldLink RX8 15 "LeanHouse$Processor" "memory" "[I"]
def zsX8_init : List Cond := .code yX8_init cX8_init 2 none :: (zlX8_init ++ (wsX80))
set_option maxHeartbeats 8000000 in
set_option maxRecDepth 100000 in
theorem c_X8_init (l : Launch) (dC : Nat → ClassId) (dI : Nat → Nat → Nat) (sz : Nat) (cI : Nat → ClassId) (h0 : Nat) (m0 : Nat) : Met l yX8_init zsX8_init ({ frames := 2, cells := 1, slots := 32, locals := 20 } : Jvm.Room) (va_Pc [.ref h0, .ref m0] (wB (dC, dI) vwCl nestM [(cI 0, .int), (cI 1, .byte), (cI 2, .long)] [(h0, .inr (8, [.null, .null, .int 0, .int 0, .int 0, .int 0, .int 0, .int 0, .int 0, .int 0]))] sz)) (va_Qv (fun (u : Nat) => True) (fun (u : Nat) (t : State) => wE (dC, dI) vwCl [(cI 0, .int), (cI 1, .byte), (cI 2, .long)] [(h0, .inr (8, [.ref m0, .ref u, .int 0, .int 0, .int 0, .int 0, .int 0, .int 0, .int 0, .int 0])), (u, .inl (cI 0, 32, .inl (fun _ => 0)))] (va_A [(h0, .inr (8, [.null, .null, .int 0, .int 0, .int 0, .int 0, .int 0, .int 0, .int 0, .int 0]))] sz) t) (va_A [(h0, .inr (8, [.null, .null, .int 0, .int 0, .int 0, .int 0, .int 0, .int 0, .int 0, .int 0]))] sz)) 1 32 (va_A [(h0, .inr (8, [.null, .null, .int 0, .int 0, .int 0, .int 0, .int 0, .int 0, .int 0, .int 0]))] sz) := by
  refine Met.ofW (cc := cX8_init) (maxL := 2) (ret := none) (by decide) rfl ?_
  intro p e s m args below meth c s₁ B hml hv
  obtain ⟨rfl, hsz, hP, hK, hD0, hN⟩ := hv
  have hx := B.exec
  have hb := B.bytes
  have hr := B.returns
  have hts := atoms_spec (ws := zsX8_init) B.pre
  have hown : s.vm.findClass RX8 = some m.cls := findClass_of_methodNamed B.named
  have hlocks := B.notSynchronized
  have hin : meth.name = "<init>" := (name_of_methodNamed B.named B.method).1
  subst hsz
  have hD := hD0.self (sz := s.heap.size)
  generalize hAe : va_A [(h0, .inr (8, [.null, .null, .int 0, .int 0, .int 0, .int 0, .int 0, .int 0, .int 0, .int 0]))] s.heap.size = A at hD ⊢
  have hA : ∀ q : Nat, s.heap.size ≤ q → A q := fun q h => by rw [← hAe]; exact Or.inr h
  have hS : va_S A s.heap s.heap [] := va_S.rf
  have hP : va_P (dC, dI) vwCl [(h0, .inr (8, [.null, .null, .int 0, .int 0, .int 0, .int 0, .int 0, .int 0, .int 0, .int 0]))] s.heap := hP
  have hl := lv_entry ([.ref h0, .ref m0]) (n := 2) (Nat.le_of_ble_eq_true rfl)
  rw [lg_entry_eq]
  generalize (lg_sl ([.ref h0, .ref m0]) ++ List.replicate (2 - (lg_sl ([.ref h0, .ref m0])).length) Slot.unset).toArray = ls at hl ⊢
  have hl : lv_has ls 2 [(0, .ref h0), (1, .ref m0)] := hl
  refine lv_aload_n hx hb dX8_init_0 rfl (lv_at hl 0 rfl) ?_
  refine W.objInit hx hb hown (hts _ (List.mem_cons_of_mem _ (List.mem_append_left _ (List.mem_of_getElem? (i := 0) rfl)))) (hts _ (List.mem_cons_of_mem _ (List.mem_append_left _ (List.mem_of_getElem? (i := 1) rfl)))) (hts _ (List.mem_cons_of_mem _ (List.mem_append_left _ (List.mem_of_getElem? (i := 2) rfl)))) rfl (by rw [hml]; exact hl.1) rfl dX8_init_1 (Nat.le_of_ble_eq_true rfl) (Nat.le_of_ble_eq_true rfl) ?_
  refine lv_aload_n hx hb dX8_init_4 rfl (lv_at hl 0 rfl) ?_
  refine lv_bipush (v := 32) hx hb dX8_init_5 (by decide) ?_
  refine va_newa (atype := .int) (ty := .int) (N' := 32) (a0 := (32, .inl (fun _ => 0))) hx hb (hts _ (List.mem_cons_of_mem _ (List.mem_append_left _ (List.mem_of_getElem? (i := 3) rfl)))) rfl hK hP hD hS hA (fun _ => rfl) (by decide) (by decide) (Nat.le_of_ble_eq_true rfl) (Nat.le_of_ble_eq_true rfl) (Nat.le_of_ble_eq_true rfl) dX8_init_7 ?_
  clear hK hP hD hS
  intro g_register g_registerc H hK hP hD hS
  replace hK : va_K (dC, dI) vwCl [(cI 0, .int), (cI 1, .byte), (cI 2, .long), (g_registerc, .int)] s := hK
  obtain rfl : g_registerc = cI 0 := k_one hK 3 0 rfl rfl (fun _ z => by cases z)
  replace hK := hK.sub (tys' := [(cI 0, .int), (cI 1, .byte), (cI 2, .long)]) [0, 1, 2] rfl
  replace hP : va_P (dC, dI) vwCl [(h0, .inr (8, [.null, .null, .int 0, .int 0, .int 0, .int 0, .int 0, .int 0, .int 0, .int 0])), (g_register, .inl (cI 0, 32, .inl (fun _ => 0)))] H := hP
  replace hD : va_D A [(h0, .inr (8, [.null, .null, .int 0, .int 0, .int 0, .int 0, .int 0, .int 0, .int 0, .int 0])), (g_register, .inl (cI 0, 32, .inl (fun _ => 0)))] := hD
  refine va_putF (D := (dC, dI)) (ci := 8) (v := .ref g_register) (ty := (.array .int)) (C := RX8) (T := TX8) (N := 10) hx hb hts (fun _ h9 => List.mem_cons_of_mem _ (List.mem_append_right _ h9)) tyX8 tyX8_ok nmX8 hown hK hP hD hS 0 rfl rfl 1 (by decide) (hts _ (List.mem_cons_of_mem _ (List.mem_append_left _ (List.mem_of_getElem? (i := 4) rfl)))) (fun _ h9 => h9) rfl hin rfl (by decide +kernel) rfl rfl (Nat.le_of_ble_eq_true rfl) dX8_init_9 ?_
  clear hP hD hS
  intro H locs hP hD hS
  replace hP : va_P (dC, dI) vwCl [(h0, .inr (8, [.null, .ref g_register, .int 0, .int 0, .int 0, .int 0, .int 0, .int 0, .int 0, .int 0])), (g_register, .inl (cI 0, 32, .inl (fun _ => 0)))] H := hP
  replace hD : va_D A [(h0, .inr (8, [.null, .ref g_register, .int 0, .int 0, .int 0, .int 0, .int 0, .int 0, .int 0, .int 0])), (g_register, .inl (cI 0, 32, .inl (fun _ => 0)))] := hD
  refine lv_aload_n hx hb dX8_init_12 rfl (lv_at hl 0 rfl) ?_
  refine lv_aload_n hx hb dX8_init_13 rfl (lv_at hl 1 rfl) ?_
  refine va_putF (D := (dC, dI)) (ci := 8) (v := .ref m0) (ty := (.array .int)) (C := RX8) (T := TX8) (N := 10) hx hb hts (fun _ h9 => List.mem_cons_of_mem _ (List.mem_append_right _ h9)) tyX8 tyX8_ok nmX8 hown hK hP hD hS 0 rfl rfl 0 (by decide) (hts _ (List.mem_cons_of_mem _ (List.mem_append_left _ (List.mem_of_getElem? (i := 5) rfl)))) (fun _ h9 => h9) rfl hin rfl (by decide +kernel) rfl rfl (Nat.le_of_ble_eq_true rfl) dX8_init_14 ?_
  clear hP hD hS
  intro H locs hP hD hS
  replace hP : va_P (dC, dI) vwCl [(h0, .inr (8, [.ref m0, .ref g_register, .int 0, .int 0, .int 0, .int 0, .int 0, .int 0, .int 0, .int 0])), (g_register, .inl (cI 0, 32, .inl (fun _ => 0)))] H := hP
  replace hD : va_D A [(h0, .inr (8, [.ref m0, .ref g_register, .int 0, .int 0, .int 0, .int 0, .int 0, .int 0, .int 0, .int 0])), (g_register, .inl (cI 0, 32, .inl (fun _ => 0)))] := hD
  have hP9 := hP.sub (ws' := [(h0, .inr (8, [.ref m0, .ref g_register, .int 0, .int 0, .int 0, .int 0, .int 0, .int 0, .int 0, .int 0])), (g_register, .inl (cI 0, 32, .inl (fun _ => 0)))]) [0, 1] rfl
  have hD9 := hD.sub (ws' := [(h0, .inr (8, [.ref m0, .ref g_register, .int 0, .int 0, .int 0, .int 0, .int 0, .int 0, .int 0, .int 0])), (g_register, .inl (cI 0, 32, .inl (fun _ => 0)))]) [0, 1] (by decide) rfl
  have hK9 := hK.sub (tys' := [(cI 0, .int), (cI 1, .byte), (cI 2, .long)]) [0, 1, 2] rfl
  exact W.vret hx hb hr (fun t ht hW => ⟨⟨g_register, rfl, trivial, wE.of ht hW hP9 hK9 hD9⟩, hS.F ht⟩) hS.2.2 dX8_init_17

theorem dX10_init_0 : decode cX10_init 0 = .ok (.aload_n 0, 1) := by decide +kernel
theorem dX10_init_1 : decode cX10_init 1 = .ok (.invokespecial 5, 3) := by decide +kernel
theorem dX10_init_4 : decode cX10_init 4 = .ok (.aload_n 0, 1) := by decide +kernel
theorem dX10_init_5 : decode cX10_init 5 = .ok (.ldc 11, 2) := by decide +kernel
theorem dX10_init_7 : decode cX10_init 7 = .ok (.newarray .int, 2) := by decide +kernel
theorem dX10_init_9 : decode cX10_init 9 = .ok (.putfield 12, 3) := by decide +kernel
theorem dX10_init_12 : decode cX10_init 12 = .ok (.aload_n 0, 1) := by decide +kernel
theorem dX10_init_13 : decode cX10_init 13 = .ok (.ldc 11, 2) := by decide +kernel
theorem dX10_init_15 : decode cX10_init 15 = .ok (.newarray .int, 2) := by decide +kernel
theorem dX10_init_17 : decode cX10_init 17 = .ok (.putfield 16, 3) := by decide +kernel
theorem dX10_init_20 : decode cX10_init 20 = .ok (.aload_n 0, 1) := by decide +kernel
theorem dX10_init_21 : decode cX10_init 21 = .ok (.ldc 11, 2) := by decide +kernel
theorem dX10_init_23 : decode cX10_init 23 = .ok (.newarray .int, 2) := by decide +kernel
theorem dX10_init_25 : decode cX10_init 25 = .ok (.putfield 19, 3) := by decide +kernel
theorem dX10_init_28 : decode cX10_init 28 = .ok (.aload_n 0, 1) := by decide +kernel
theorem dX10_init_29 : decode cX10_init 29 = .ok (.ldc 11, 2) := by decide +kernel
theorem dX10_init_31 : decode cX10_init 31 = .ok (.newarray .int, 2) := by decide +kernel
theorem dX10_init_33 : decode cX10_init 33 = .ok (.putfield 22, 3) := by decide +kernel
theorem dX10_init_36 : decode cX10_init 36 = .ok (.aload_n 0, 1) := by decide +kernel
theorem dX10_init_37 : decode cX10_init 37 = .ok (.ldc 11, 2) := by decide +kernel
theorem dX10_init_39 : decode cX10_init 39 = .ok (.newarray .int, 2) := by decide +kernel
theorem dX10_init_41 : decode cX10_init 41 = .ok (.putfield 25, 3) := by decide +kernel
theorem dX10_init_44 : decode cX10_init 44 = .ok (.aload_n 0, 1) := by decide +kernel
theorem dX10_init_45 : decode cX10_init 45 = .ok (.ldc 11, 2) := by decide +kernel
theorem dX10_init_47 : decode cX10_init 47 = .ok (.newarray .int, 2) := by decide +kernel
theorem dX10_init_49 : decode cX10_init 49 = .ok (.putfield 28, 3) := by decide +kernel
theorem dX10_init_52 : decode cX10_init 52 = .ok (.aload_n 0, 1) := by decide +kernel
theorem dX10_init_53 : decode cX10_init 53 = .ok (.ldc 11, 2) := by decide +kernel
theorem dX10_init_55 : decode cX10_init 55 = .ok (.newarray .int, 2) := by decide +kernel
theorem dX10_init_57 : decode cX10_init 57 = .ok (.putfield 31, 3) := by decide +kernel
theorem dX10_init_60 : decode cX10_init 60 = .ok (.aload_n 0, 1) := by decide +kernel
theorem dX10_init_61 : decode cX10_init 61 = .ok (.ldc 11, 2) := by decide +kernel
theorem dX10_init_63 : decode cX10_init 63 = .ok (.newarray .int, 2) := by decide +kernel
theorem dX10_init_65 : decode cX10_init 65 = .ok (.putfield 34, 3) := by decide +kernel
theorem dX10_init_68 : decode cX10_init 68 = .ok (.aload_n 0, 1) := by decide +kernel
theorem dX10_init_69 : decode cX10_init 69 = .ok (.bipush 95, 2) := by decide +kernel
theorem dX10_init_71 : decode cX10_init 71 = .ok (.newarray .int, 2) := by decide +kernel
theorem dX10_init_73 : decode cX10_init 73 = .ok (.putfield 37, 3) := by decide +kernel
theorem dX10_init_76 : decode cX10_init 76 = .ok (.aload_n 0, 1) := by decide +kernel
theorem dX10_init_77 : decode cX10_init 77 = .ok (.bipush 101, 2) := by decide +kernel
theorem dX10_init_79 : decode cX10_init 79 = .ok (.newarray .int, 2) := by decide +kernel
theorem dX10_init_81 : decode cX10_init 81 = .ok (.putfield 40, 3) := by decide +kernel
theorem dX10_init_84 : decode cX10_init 84 = .ok (.aload_n 0, 1) := by decide +kernel
theorem dX10_init_85 : decode cX10_init 85 = .ok (.bipush 101, 2) := by decide +kernel
theorem dX10_init_87 : decode cX10_init 87 = .ok (.newarray .int, 2) := by decide +kernel
theorem dX10_init_89 : decode cX10_init 89 = .ok (.putfield 43, 3) := by decide +kernel
theorem dX10_init_92 : decode cX10_init 92 = .ok (.aload_n 0, 1) := by decide +kernel
theorem dX10_init_93 : decode cX10_init 93 = .ok (.iconst 2, 1) := by decide +kernel
theorem dX10_init_94 : decode cX10_init 94 = .ok (.putfield 46, 3) := by decide +kernel
theorem dX10_init_97 : decode cX10_init 97 = .ok (.return_, 1) := by decide +kernel
def zlX10_init : List Cond := [.methodLink RX10 5 objectInit, .instanceMethod objectInit, .code objectInit ⟨#[0xb1]⟩ 1 none, .constant RX10 11 (212992), .arrayClass .int, .fieldLink RX10 12 "LeanHouse$Types" "left" "[I", .fieldLink RX10 16 "LeanHouse$Types" "right" "[I", .fieldLink RX10 19 "LeanHouse$Types" "kind" "[I", .fieldLink RX10 22 "LeanHouse$Types" "says" "[I", .fieldLink RX10 25 "LeanHouse$Types" "parts" "[I", .fieldLink RX10 28 "LeanHouse$Types" "mark" "[I", .fieldLink RX10 31 "LeanHouse$Types" "path" "[I", .fieldLink RX10 34 "LeanHouse$Types" "turn" "[I", .fieldLink RX10 37 "LeanHouse$Types" "arity" "[I", .fieldLink RX10 40 "LeanHouse$Types" "general" "[I", .fieldLink RX10 43 "LeanHouse$Types" "row" "[I", .fieldLink RX10 46 "LeanHouse$Types" "stamp" "I"]
def zsX10_init : List Cond := .code yX10_init cX10_init 1 none :: (zlX10_init ++ (wsX100))
set_option maxHeartbeats 8000000 in
set_option maxRecDepth 100000 in
theorem c_X10_init (l : Launch) (dC : Nat → ClassId) (dI : Nat → Nat → Nat) (sz : Nat) (cI : Nat → ClassId) (h0 : Nat) : Met l yX10_init zsX10_init ({ frames := 2, cells := 11, slots := 1704233, locals := 20 } : Jvm.Room) (va_Pc [.ref h0] (wB (dC, dI) vwCl nestM [(cI 0, .int), (cI 1, .byte), (cI 2, .long)] [(h0, .inr (10, [.null, .null, .null, .null, .null, .null, .null, .null, .null, .null, .null, .int 0, .int 0, .int 0, .int 0, .int 0]))] sz)) (va_Qv (fun (u : Nat × Nat × Nat × Nat × Nat × Nat × Nat × Nat × Nat × Nat × Nat) => True) (fun (u : Nat × Nat × Nat × Nat × Nat × Nat × Nat × Nat × Nat × Nat × Nat) (t : State) => wE (dC, dI) vwCl [(cI 0, .int), (cI 1, .byte), (cI 2, .long)] [(h0, .inr (10, [.ref u.1, .ref u.2.1, .ref u.2.2.1, .ref u.2.2.2.1, .ref u.2.2.2.2.1, .ref u.2.2.2.2.2.1, .ref u.2.2.2.2.2.2.1, .ref u.2.2.2.2.2.2.2.1, .ref u.2.2.2.2.2.2.2.2.1, .ref u.2.2.2.2.2.2.2.2.2.1, .ref u.2.2.2.2.2.2.2.2.2.2, .int 0, .int 0, .int 2, .int 0, .int 0])), (u.1, .inl (cI 0, 212992, .inl (fun _ => 0))), (u.2.1, .inl (cI 0, 212992, .inl (fun _ => 0))), (u.2.2.1, .inl (cI 0, 212992, .inl (fun _ => 0))), (u.2.2.2.1, .inl (cI 0, 212992, .inl (fun _ => 0))), (u.2.2.2.2.1, .inl (cI 0, 212992, .inl (fun _ => 0))), (u.2.2.2.2.2.1, .inl (cI 0, 212992, .inl (fun _ => 0))), (u.2.2.2.2.2.2.1, .inl (cI 0, 212992, .inl (fun _ => 0))), (u.2.2.2.2.2.2.2.1, .inl (cI 0, 212992, .inl (fun _ => 0))), (u.2.2.2.2.2.2.2.2.1, .inl (cI 0, 95, .inl (fun _ => 0))), (u.2.2.2.2.2.2.2.2.2.1, .inl (cI 0, 101, .inl (fun _ => 0))), (u.2.2.2.2.2.2.2.2.2.2, .inl (cI 0, 101, .inl (fun _ => 0)))] (va_A [(h0, .inr (10, [.null, .null, .null, .null, .null, .null, .null, .null, .null, .null, .null, .int 0, .int 0, .int 0, .int 0, .int 0]))] sz) t) (va_A [(h0, .inr (10, [.null, .null, .null, .null, .null, .null, .null, .null, .null, .null, .null, .int 0, .int 0, .int 0, .int 0, .int 0]))] sz)) 11 1704233 (va_A [(h0, .inr (10, [.null, .null, .null, .null, .null, .null, .null, .null, .null, .null, .null, .int 0, .int 0, .int 0, .int 0, .int 0]))] sz) := by
  refine Met.ofW (cc := cX10_init) (maxL := 1) (ret := none) (by decide) rfl ?_
  intro p e s m args below meth c s₁ B hml hv
  obtain ⟨rfl, hsz, hP, hK, hD0, hN⟩ := hv
  have hx := B.exec
  have hb := B.bytes
  have hr := B.returns
  have hts := atoms_spec (ws := zsX10_init) B.pre
  have hown : s.vm.findClass RX10 = some m.cls := findClass_of_methodNamed B.named
  have hlocks := B.notSynchronized
  have hin : meth.name = "<init>" := (name_of_methodNamed B.named B.method).1
  subst hsz
  have hD := hD0.self (sz := s.heap.size)
  generalize hAe : va_A [(h0, .inr (10, [.null, .null, .null, .null, .null, .null, .null, .null, .null, .null, .null, .int 0, .int 0, .int 0, .int 0, .int 0]))] s.heap.size = A at hD ⊢
  have hA : ∀ q : Nat, s.heap.size ≤ q → A q := fun q h => by rw [← hAe]; exact Or.inr h
  have hS : va_S A s.heap s.heap [] := va_S.rf
  have hP : va_P (dC, dI) vwCl [(h0, .inr (10, [.null, .null, .null, .null, .null, .null, .null, .null, .null, .null, .null, .int 0, .int 0, .int 0, .int 0, .int 0]))] s.heap := hP
  have hl := lv_entry ([.ref h0]) (n := 1) (Nat.le_of_ble_eq_true rfl)
  rw [lg_entry_eq]
  generalize (lg_sl ([.ref h0]) ++ List.replicate (1 - (lg_sl ([.ref h0])).length) Slot.unset).toArray = ls at hl ⊢
  have hl : lv_has ls 1 [(0, .ref h0)] := hl
  refine lv_aload_n hx hb dX10_init_0 rfl (lv_at hl 0 rfl) ?_
  refine W.objInit hx hb hown (hts _ (List.mem_cons_of_mem _ (List.mem_append_left _ (List.mem_of_getElem? (i := 0) rfl)))) (hts _ (List.mem_cons_of_mem _ (List.mem_append_left _ (List.mem_of_getElem? (i := 1) rfl)))) (hts _ (List.mem_cons_of_mem _ (List.mem_append_left _ (List.mem_of_getElem? (i := 2) rfl)))) rfl (by rw [hml]; exact hl.1) rfl dX10_init_1 (Nat.le_of_ble_eq_true rfl) (Nat.le_of_ble_eq_true rfl) ?_
  refine lv_aload_n hx hb dX10_init_4 rfl (lv_at hl 0 rfl) ?_
  refine lv_ldc (v := 212992) hx hb hown (hts _ (List.mem_cons_of_mem _ (List.mem_append_left _ (List.mem_of_getElem? (i := 3) rfl)))) dX10_init_5 ?_
  refine va_newa (atype := .int) (ty := .int) (N' := 212992) (a0 := (212992, .inl (fun _ => 0))) hx hb (hts _ (List.mem_cons_of_mem _ (List.mem_append_left _ (List.mem_of_getElem? (i := 4) rfl)))) rfl hK hP hD hS hA (fun _ => rfl) (by decide) (by decide) (Nat.le_of_ble_eq_true rfl) (Nat.le_of_ble_eq_true rfl) (Nat.le_of_ble_eq_true rfl) dX10_init_7 ?_
  clear hK hP hD hS
  intro i_left i_leftc H hK hP hD hS
  replace hK : va_K (dC, dI) vwCl [(cI 0, .int), (cI 1, .byte), (cI 2, .long), (i_leftc, .int)] s := hK
  obtain rfl : i_leftc = cI 0 := k_one hK 3 0 rfl rfl (fun _ z => by cases z)
  replace hK := hK.sub (tys' := [(cI 0, .int), (cI 1, .byte), (cI 2, .long)]) [0, 1, 2] rfl
  replace hP : va_P (dC, dI) vwCl [(h0, .inr (10, [.null, .null, .null, .null, .null, .null, .null, .null, .null, .null, .null, .int 0, .int 0, .int 0, .int 0, .int 0])), (i_left, .inl (cI 0, 212992, .inl (fun _ => 0)))] H := hP
  replace hD : va_D A [(h0, .inr (10, [.null, .null, .null, .null, .null, .null, .null, .null, .null, .null, .null, .int 0, .int 0, .int 0, .int 0, .int 0])), (i_left, .inl (cI 0, 212992, .inl (fun _ => 0)))] := hD
  refine va_putF (D := (dC, dI)) (ci := 10) (v := .ref i_left) (ty := (.array .int)) (C := RX10) (T := TX10) (N := 16) hx hb hts (fun _ h9 => List.mem_cons_of_mem _ (List.mem_append_right _ h9)) tyX10 tyX10_ok nmX10 hown hK hP hD hS 0 rfl rfl 0 (by decide) (hts _ (List.mem_cons_of_mem _ (List.mem_append_left _ (List.mem_of_getElem? (i := 5) rfl)))) (fun _ h9 => h9) rfl hin rfl (by decide +kernel) rfl rfl (Nat.le_of_ble_eq_true rfl) dX10_init_9 ?_
  clear hP hD hS
  intro H locs hP hD hS
  replace hP : va_P (dC, dI) vwCl [(h0, .inr (10, [.ref i_left, .null, .null, .null, .null, .null, .null, .null, .null, .null, .null, .int 0, .int 0, .int 0, .int 0, .int 0])), (i_left, .inl (cI 0, 212992, .inl (fun _ => 0)))] H := hP
  replace hD : va_D A [(h0, .inr (10, [.ref i_left, .null, .null, .null, .null, .null, .null, .null, .null, .null, .null, .int 0, .int 0, .int 0, .int 0, .int 0])), (i_left, .inl (cI 0, 212992, .inl (fun _ => 0)))] := hD
  refine lv_aload_n hx hb dX10_init_12 rfl (lv_at hl 0 rfl) ?_
  refine lv_ldc (v := 212992) hx hb hown (hts _ (List.mem_cons_of_mem _ (List.mem_append_left _ (List.mem_of_getElem? (i := 3) rfl)))) dX10_init_13 ?_
  refine va_newa (atype := .int) (ty := .int) (N' := 212992) (a0 := (212992, .inl (fun _ => 0))) hx hb (hts _ (List.mem_cons_of_mem _ (List.mem_append_left _ (List.mem_of_getElem? (i := 4) rfl)))) rfl hK hP hD hS hA (fun _ => rfl) (by decide) (by decide) (Nat.le_of_ble_eq_true rfl) (Nat.le_of_ble_eq_true rfl) (Nat.le_of_ble_eq_true rfl) dX10_init_15 ?_
  clear hK hP hD hS
  intro i_right i_rightc H hK hP hD hS
  replace hK : va_K (dC, dI) vwCl [(cI 0, .int), (cI 1, .byte), (cI 2, .long), (i_rightc, .int)] s := hK
  obtain rfl : i_rightc = cI 0 := k_one hK 3 0 rfl rfl (fun _ z => by cases z)
  replace hK := hK.sub (tys' := [(cI 0, .int), (cI 1, .byte), (cI 2, .long)]) [0, 1, 2] rfl
  replace hP : va_P (dC, dI) vwCl [(h0, .inr (10, [.ref i_left, .null, .null, .null, .null, .null, .null, .null, .null, .null, .null, .int 0, .int 0, .int 0, .int 0, .int 0])), (i_left, .inl (cI 0, 212992, .inl (fun _ => 0))), (i_right, .inl (cI 0, 212992, .inl (fun _ => 0)))] H := hP
  replace hD : va_D A [(h0, .inr (10, [.ref i_left, .null, .null, .null, .null, .null, .null, .null, .null, .null, .null, .int 0, .int 0, .int 0, .int 0, .int 0])), (i_left, .inl (cI 0, 212992, .inl (fun _ => 0))), (i_right, .inl (cI 0, 212992, .inl (fun _ => 0)))] := hD
  refine va_putF (D := (dC, dI)) (ci := 10) (v := .ref i_right) (ty := (.array .int)) (C := RX10) (T := TX10) (N := 16) hx hb hts (fun _ h9 => List.mem_cons_of_mem _ (List.mem_append_right _ h9)) tyX10 tyX10_ok nmX10 hown hK hP hD hS 0 rfl rfl 1 (by decide) (hts _ (List.mem_cons_of_mem _ (List.mem_append_left _ (List.mem_of_getElem? (i := 6) rfl)))) (fun _ h9 => h9) rfl hin rfl (by decide +kernel) rfl rfl (Nat.le_of_ble_eq_true rfl) dX10_init_17 ?_
  clear hP hD hS
  intro H locs hP hD hS
  replace hP : va_P (dC, dI) vwCl [(h0, .inr (10, [.ref i_left, .ref i_right, .null, .null, .null, .null, .null, .null, .null, .null, .null, .int 0, .int 0, .int 0, .int 0, .int 0])), (i_left, .inl (cI 0, 212992, .inl (fun _ => 0))), (i_right, .inl (cI 0, 212992, .inl (fun _ => 0)))] H := hP
  replace hD : va_D A [(h0, .inr (10, [.ref i_left, .ref i_right, .null, .null, .null, .null, .null, .null, .null, .null, .null, .int 0, .int 0, .int 0, .int 0, .int 0])), (i_left, .inl (cI 0, 212992, .inl (fun _ => 0))), (i_right, .inl (cI 0, 212992, .inl (fun _ => 0)))] := hD
  refine lv_aload_n hx hb dX10_init_20 rfl (lv_at hl 0 rfl) ?_
  refine lv_ldc (v := 212992) hx hb hown (hts _ (List.mem_cons_of_mem _ (List.mem_append_left _ (List.mem_of_getElem? (i := 3) rfl)))) dX10_init_21 ?_
  refine va_newa (atype := .int) (ty := .int) (N' := 212992) (a0 := (212992, .inl (fun _ => 0))) hx hb (hts _ (List.mem_cons_of_mem _ (List.mem_append_left _ (List.mem_of_getElem? (i := 4) rfl)))) rfl hK hP hD hS hA (fun _ => rfl) (by decide) (by decide) (Nat.le_of_ble_eq_true rfl) (Nat.le_of_ble_eq_true rfl) (Nat.le_of_ble_eq_true rfl) dX10_init_23 ?_
  clear hK hP hD hS
  intro i_kind i_kindc H hK hP hD hS
  replace hK : va_K (dC, dI) vwCl [(cI 0, .int), (cI 1, .byte), (cI 2, .long), (i_kindc, .int)] s := hK
  obtain rfl : i_kindc = cI 0 := k_one hK 3 0 rfl rfl (fun _ z => by cases z)
  replace hK := hK.sub (tys' := [(cI 0, .int), (cI 1, .byte), (cI 2, .long)]) [0, 1, 2] rfl
  replace hP : va_P (dC, dI) vwCl [(h0, .inr (10, [.ref i_left, .ref i_right, .null, .null, .null, .null, .null, .null, .null, .null, .null, .int 0, .int 0, .int 0, .int 0, .int 0])), (i_left, .inl (cI 0, 212992, .inl (fun _ => 0))), (i_right, .inl (cI 0, 212992, .inl (fun _ => 0))), (i_kind, .inl (cI 0, 212992, .inl (fun _ => 0)))] H := hP
  replace hD : va_D A [(h0, .inr (10, [.ref i_left, .ref i_right, .null, .null, .null, .null, .null, .null, .null, .null, .null, .int 0, .int 0, .int 0, .int 0, .int 0])), (i_left, .inl (cI 0, 212992, .inl (fun _ => 0))), (i_right, .inl (cI 0, 212992, .inl (fun _ => 0))), (i_kind, .inl (cI 0, 212992, .inl (fun _ => 0)))] := hD
  refine va_putF (D := (dC, dI)) (ci := 10) (v := .ref i_kind) (ty := (.array .int)) (C := RX10) (T := TX10) (N := 16) hx hb hts (fun _ h9 => List.mem_cons_of_mem _ (List.mem_append_right _ h9)) tyX10 tyX10_ok nmX10 hown hK hP hD hS 0 rfl rfl 2 (by decide) (hts _ (List.mem_cons_of_mem _ (List.mem_append_left _ (List.mem_of_getElem? (i := 7) rfl)))) (fun _ h9 => h9) rfl hin rfl (by decide +kernel) rfl rfl (Nat.le_of_ble_eq_true rfl) dX10_init_25 ?_
  clear hP hD hS
  intro H locs hP hD hS
  replace hP : va_P (dC, dI) vwCl [(h0, .inr (10, [.ref i_left, .ref i_right, .ref i_kind, .null, .null, .null, .null, .null, .null, .null, .null, .int 0, .int 0, .int 0, .int 0, .int 0])), (i_left, .inl (cI 0, 212992, .inl (fun _ => 0))), (i_right, .inl (cI 0, 212992, .inl (fun _ => 0))), (i_kind, .inl (cI 0, 212992, .inl (fun _ => 0)))] H := hP
  replace hD : va_D A [(h0, .inr (10, [.ref i_left, .ref i_right, .ref i_kind, .null, .null, .null, .null, .null, .null, .null, .null, .int 0, .int 0, .int 0, .int 0, .int 0])), (i_left, .inl (cI 0, 212992, .inl (fun _ => 0))), (i_right, .inl (cI 0, 212992, .inl (fun _ => 0))), (i_kind, .inl (cI 0, 212992, .inl (fun _ => 0)))] := hD
  refine lv_aload_n hx hb dX10_init_28 rfl (lv_at hl 0 rfl) ?_
  refine lv_ldc (v := 212992) hx hb hown (hts _ (List.mem_cons_of_mem _ (List.mem_append_left _ (List.mem_of_getElem? (i := 3) rfl)))) dX10_init_29 ?_
  refine va_newa (atype := .int) (ty := .int) (N' := 212992) (a0 := (212992, .inl (fun _ => 0))) hx hb (hts _ (List.mem_cons_of_mem _ (List.mem_append_left _ (List.mem_of_getElem? (i := 4) rfl)))) rfl hK hP hD hS hA (fun _ => rfl) (by decide) (by decide) (Nat.le_of_ble_eq_true rfl) (Nat.le_of_ble_eq_true rfl) (Nat.le_of_ble_eq_true rfl) dX10_init_31 ?_
  clear hK hP hD hS
  intro i_says i_saysc H hK hP hD hS
  replace hK : va_K (dC, dI) vwCl [(cI 0, .int), (cI 1, .byte), (cI 2, .long), (i_saysc, .int)] s := hK
  obtain rfl : i_saysc = cI 0 := k_one hK 3 0 rfl rfl (fun _ z => by cases z)
  replace hK := hK.sub (tys' := [(cI 0, .int), (cI 1, .byte), (cI 2, .long)]) [0, 1, 2] rfl
  replace hP : va_P (dC, dI) vwCl [(h0, .inr (10, [.ref i_left, .ref i_right, .ref i_kind, .null, .null, .null, .null, .null, .null, .null, .null, .int 0, .int 0, .int 0, .int 0, .int 0])), (i_left, .inl (cI 0, 212992, .inl (fun _ => 0))), (i_right, .inl (cI 0, 212992, .inl (fun _ => 0))), (i_kind, .inl (cI 0, 212992, .inl (fun _ => 0))), (i_says, .inl (cI 0, 212992, .inl (fun _ => 0)))] H := hP
  replace hD : va_D A [(h0, .inr (10, [.ref i_left, .ref i_right, .ref i_kind, .null, .null, .null, .null, .null, .null, .null, .null, .int 0, .int 0, .int 0, .int 0, .int 0])), (i_left, .inl (cI 0, 212992, .inl (fun _ => 0))), (i_right, .inl (cI 0, 212992, .inl (fun _ => 0))), (i_kind, .inl (cI 0, 212992, .inl (fun _ => 0))), (i_says, .inl (cI 0, 212992, .inl (fun _ => 0)))] := hD
  refine va_putF (D := (dC, dI)) (ci := 10) (v := .ref i_says) (ty := (.array .int)) (C := RX10) (T := TX10) (N := 16) hx hb hts (fun _ h9 => List.mem_cons_of_mem _ (List.mem_append_right _ h9)) tyX10 tyX10_ok nmX10 hown hK hP hD hS 0 rfl rfl 3 (by decide) (hts _ (List.mem_cons_of_mem _ (List.mem_append_left _ (List.mem_of_getElem? (i := 8) rfl)))) (fun _ h9 => h9) rfl hin rfl (by decide +kernel) rfl rfl (Nat.le_of_ble_eq_true rfl) dX10_init_33 ?_
  clear hP hD hS
  intro H locs hP hD hS
  replace hP : va_P (dC, dI) vwCl [(h0, .inr (10, [.ref i_left, .ref i_right, .ref i_kind, .ref i_says, .null, .null, .null, .null, .null, .null, .null, .int 0, .int 0, .int 0, .int 0, .int 0])), (i_left, .inl (cI 0, 212992, .inl (fun _ => 0))), (i_right, .inl (cI 0, 212992, .inl (fun _ => 0))), (i_kind, .inl (cI 0, 212992, .inl (fun _ => 0))), (i_says, .inl (cI 0, 212992, .inl (fun _ => 0)))] H := hP
  replace hD : va_D A [(h0, .inr (10, [.ref i_left, .ref i_right, .ref i_kind, .ref i_says, .null, .null, .null, .null, .null, .null, .null, .int 0, .int 0, .int 0, .int 0, .int 0])), (i_left, .inl (cI 0, 212992, .inl (fun _ => 0))), (i_right, .inl (cI 0, 212992, .inl (fun _ => 0))), (i_kind, .inl (cI 0, 212992, .inl (fun _ => 0))), (i_says, .inl (cI 0, 212992, .inl (fun _ => 0)))] := hD
  refine lv_aload_n hx hb dX10_init_36 rfl (lv_at hl 0 rfl) ?_
  refine lv_ldc (v := 212992) hx hb hown (hts _ (List.mem_cons_of_mem _ (List.mem_append_left _ (List.mem_of_getElem? (i := 3) rfl)))) dX10_init_37 ?_
  refine va_newa (atype := .int) (ty := .int) (N' := 212992) (a0 := (212992, .inl (fun _ => 0))) hx hb (hts _ (List.mem_cons_of_mem _ (List.mem_append_left _ (List.mem_of_getElem? (i := 4) rfl)))) rfl hK hP hD hS hA (fun _ => rfl) (by decide) (by decide) (Nat.le_of_ble_eq_true rfl) (Nat.le_of_ble_eq_true rfl) (Nat.le_of_ble_eq_true rfl) dX10_init_39 ?_
  clear hK hP hD hS
  intro i_parts i_partsc H hK hP hD hS
  replace hK : va_K (dC, dI) vwCl [(cI 0, .int), (cI 1, .byte), (cI 2, .long), (i_partsc, .int)] s := hK
  obtain rfl : i_partsc = cI 0 := k_one hK 3 0 rfl rfl (fun _ z => by cases z)
  replace hK := hK.sub (tys' := [(cI 0, .int), (cI 1, .byte), (cI 2, .long)]) [0, 1, 2] rfl
  replace hP : va_P (dC, dI) vwCl [(h0, .inr (10, [.ref i_left, .ref i_right, .ref i_kind, .ref i_says, .null, .null, .null, .null, .null, .null, .null, .int 0, .int 0, .int 0, .int 0, .int 0])), (i_left, .inl (cI 0, 212992, .inl (fun _ => 0))), (i_right, .inl (cI 0, 212992, .inl (fun _ => 0))), (i_kind, .inl (cI 0, 212992, .inl (fun _ => 0))), (i_says, .inl (cI 0, 212992, .inl (fun _ => 0))), (i_parts, .inl (cI 0, 212992, .inl (fun _ => 0)))] H := hP
  replace hD : va_D A [(h0, .inr (10, [.ref i_left, .ref i_right, .ref i_kind, .ref i_says, .null, .null, .null, .null, .null, .null, .null, .int 0, .int 0, .int 0, .int 0, .int 0])), (i_left, .inl (cI 0, 212992, .inl (fun _ => 0))), (i_right, .inl (cI 0, 212992, .inl (fun _ => 0))), (i_kind, .inl (cI 0, 212992, .inl (fun _ => 0))), (i_says, .inl (cI 0, 212992, .inl (fun _ => 0))), (i_parts, .inl (cI 0, 212992, .inl (fun _ => 0)))] := hD
  refine va_putF (D := (dC, dI)) (ci := 10) (v := .ref i_parts) (ty := (.array .int)) (C := RX10) (T := TX10) (N := 16) hx hb hts (fun _ h9 => List.mem_cons_of_mem _ (List.mem_append_right _ h9)) tyX10 tyX10_ok nmX10 hown hK hP hD hS 0 rfl rfl 4 (by decide) (hts _ (List.mem_cons_of_mem _ (List.mem_append_left _ (List.mem_of_getElem? (i := 9) rfl)))) (fun _ h9 => h9) rfl hin rfl (by decide +kernel) rfl rfl (Nat.le_of_ble_eq_true rfl) dX10_init_41 ?_
  clear hP hD hS
  intro H locs hP hD hS
  replace hP : va_P (dC, dI) vwCl [(h0, .inr (10, [.ref i_left, .ref i_right, .ref i_kind, .ref i_says, .ref i_parts, .null, .null, .null, .null, .null, .null, .int 0, .int 0, .int 0, .int 0, .int 0])), (i_left, .inl (cI 0, 212992, .inl (fun _ => 0))), (i_right, .inl (cI 0, 212992, .inl (fun _ => 0))), (i_kind, .inl (cI 0, 212992, .inl (fun _ => 0))), (i_says, .inl (cI 0, 212992, .inl (fun _ => 0))), (i_parts, .inl (cI 0, 212992, .inl (fun _ => 0)))] H := hP
  replace hD : va_D A [(h0, .inr (10, [.ref i_left, .ref i_right, .ref i_kind, .ref i_says, .ref i_parts, .null, .null, .null, .null, .null, .null, .int 0, .int 0, .int 0, .int 0, .int 0])), (i_left, .inl (cI 0, 212992, .inl (fun _ => 0))), (i_right, .inl (cI 0, 212992, .inl (fun _ => 0))), (i_kind, .inl (cI 0, 212992, .inl (fun _ => 0))), (i_says, .inl (cI 0, 212992, .inl (fun _ => 0))), (i_parts, .inl (cI 0, 212992, .inl (fun _ => 0)))] := hD
  refine lv_aload_n hx hb dX10_init_44 rfl (lv_at hl 0 rfl) ?_
  refine lv_ldc (v := 212992) hx hb hown (hts _ (List.mem_cons_of_mem _ (List.mem_append_left _ (List.mem_of_getElem? (i := 3) rfl)))) dX10_init_45 ?_
  refine va_newa (atype := .int) (ty := .int) (N' := 212992) (a0 := (212992, .inl (fun _ => 0))) hx hb (hts _ (List.mem_cons_of_mem _ (List.mem_append_left _ (List.mem_of_getElem? (i := 4) rfl)))) rfl hK hP hD hS hA (fun _ => rfl) (by decide) (by decide) (Nat.le_of_ble_eq_true rfl) (Nat.le_of_ble_eq_true rfl) (Nat.le_of_ble_eq_true rfl) dX10_init_47 ?_
  clear hK hP hD hS
  intro i_mark i_markc H hK hP hD hS
  replace hK : va_K (dC, dI) vwCl [(cI 0, .int), (cI 1, .byte), (cI 2, .long), (i_markc, .int)] s := hK
  obtain rfl : i_markc = cI 0 := k_one hK 3 0 rfl rfl (fun _ z => by cases z)
  replace hK := hK.sub (tys' := [(cI 0, .int), (cI 1, .byte), (cI 2, .long)]) [0, 1, 2] rfl
  replace hP : va_P (dC, dI) vwCl [(h0, .inr (10, [.ref i_left, .ref i_right, .ref i_kind, .ref i_says, .ref i_parts, .null, .null, .null, .null, .null, .null, .int 0, .int 0, .int 0, .int 0, .int 0])), (i_left, .inl (cI 0, 212992, .inl (fun _ => 0))), (i_right, .inl (cI 0, 212992, .inl (fun _ => 0))), (i_kind, .inl (cI 0, 212992, .inl (fun _ => 0))), (i_says, .inl (cI 0, 212992, .inl (fun _ => 0))), (i_parts, .inl (cI 0, 212992, .inl (fun _ => 0))), (i_mark, .inl (cI 0, 212992, .inl (fun _ => 0)))] H := hP
  replace hD : va_D A [(h0, .inr (10, [.ref i_left, .ref i_right, .ref i_kind, .ref i_says, .ref i_parts, .null, .null, .null, .null, .null, .null, .int 0, .int 0, .int 0, .int 0, .int 0])), (i_left, .inl (cI 0, 212992, .inl (fun _ => 0))), (i_right, .inl (cI 0, 212992, .inl (fun _ => 0))), (i_kind, .inl (cI 0, 212992, .inl (fun _ => 0))), (i_says, .inl (cI 0, 212992, .inl (fun _ => 0))), (i_parts, .inl (cI 0, 212992, .inl (fun _ => 0))), (i_mark, .inl (cI 0, 212992, .inl (fun _ => 0)))] := hD
  refine va_putF (D := (dC, dI)) (ci := 10) (v := .ref i_mark) (ty := (.array .int)) (C := RX10) (T := TX10) (N := 16) hx hb hts (fun _ h9 => List.mem_cons_of_mem _ (List.mem_append_right _ h9)) tyX10 tyX10_ok nmX10 hown hK hP hD hS 0 rfl rfl 5 (by decide) (hts _ (List.mem_cons_of_mem _ (List.mem_append_left _ (List.mem_of_getElem? (i := 10) rfl)))) (fun _ h9 => h9) rfl hin rfl (by decide +kernel) rfl rfl (Nat.le_of_ble_eq_true rfl) dX10_init_49 ?_
  clear hP hD hS
  intro H locs hP hD hS
  replace hP : va_P (dC, dI) vwCl [(h0, .inr (10, [.ref i_left, .ref i_right, .ref i_kind, .ref i_says, .ref i_parts, .ref i_mark, .null, .null, .null, .null, .null, .int 0, .int 0, .int 0, .int 0, .int 0])), (i_left, .inl (cI 0, 212992, .inl (fun _ => 0))), (i_right, .inl (cI 0, 212992, .inl (fun _ => 0))), (i_kind, .inl (cI 0, 212992, .inl (fun _ => 0))), (i_says, .inl (cI 0, 212992, .inl (fun _ => 0))), (i_parts, .inl (cI 0, 212992, .inl (fun _ => 0))), (i_mark, .inl (cI 0, 212992, .inl (fun _ => 0)))] H := hP
  replace hD : va_D A [(h0, .inr (10, [.ref i_left, .ref i_right, .ref i_kind, .ref i_says, .ref i_parts, .ref i_mark, .null, .null, .null, .null, .null, .int 0, .int 0, .int 0, .int 0, .int 0])), (i_left, .inl (cI 0, 212992, .inl (fun _ => 0))), (i_right, .inl (cI 0, 212992, .inl (fun _ => 0))), (i_kind, .inl (cI 0, 212992, .inl (fun _ => 0))), (i_says, .inl (cI 0, 212992, .inl (fun _ => 0))), (i_parts, .inl (cI 0, 212992, .inl (fun _ => 0))), (i_mark, .inl (cI 0, 212992, .inl (fun _ => 0)))] := hD
  refine lv_aload_n hx hb dX10_init_52 rfl (lv_at hl 0 rfl) ?_
  refine lv_ldc (v := 212992) hx hb hown (hts _ (List.mem_cons_of_mem _ (List.mem_append_left _ (List.mem_of_getElem? (i := 3) rfl)))) dX10_init_53 ?_
  refine va_newa (atype := .int) (ty := .int) (N' := 212992) (a0 := (212992, .inl (fun _ => 0))) hx hb (hts _ (List.mem_cons_of_mem _ (List.mem_append_left _ (List.mem_of_getElem? (i := 4) rfl)))) rfl hK hP hD hS hA (fun _ => rfl) (by decide) (by decide) (Nat.le_of_ble_eq_true rfl) (Nat.le_of_ble_eq_true rfl) (Nat.le_of_ble_eq_true rfl) dX10_init_55 ?_
  clear hK hP hD hS
  intro i_path i_pathc H hK hP hD hS
  replace hK : va_K (dC, dI) vwCl [(cI 0, .int), (cI 1, .byte), (cI 2, .long), (i_pathc, .int)] s := hK
  obtain rfl : i_pathc = cI 0 := k_one hK 3 0 rfl rfl (fun _ z => by cases z)
  replace hK := hK.sub (tys' := [(cI 0, .int), (cI 1, .byte), (cI 2, .long)]) [0, 1, 2] rfl
  replace hP : va_P (dC, dI) vwCl [(h0, .inr (10, [.ref i_left, .ref i_right, .ref i_kind, .ref i_says, .ref i_parts, .ref i_mark, .null, .null, .null, .null, .null, .int 0, .int 0, .int 0, .int 0, .int 0])), (i_left, .inl (cI 0, 212992, .inl (fun _ => 0))), (i_right, .inl (cI 0, 212992, .inl (fun _ => 0))), (i_kind, .inl (cI 0, 212992, .inl (fun _ => 0))), (i_says, .inl (cI 0, 212992, .inl (fun _ => 0))), (i_parts, .inl (cI 0, 212992, .inl (fun _ => 0))), (i_mark, .inl (cI 0, 212992, .inl (fun _ => 0))), (i_path, .inl (cI 0, 212992, .inl (fun _ => 0)))] H := hP
  replace hD : va_D A [(h0, .inr (10, [.ref i_left, .ref i_right, .ref i_kind, .ref i_says, .ref i_parts, .ref i_mark, .null, .null, .null, .null, .null, .int 0, .int 0, .int 0, .int 0, .int 0])), (i_left, .inl (cI 0, 212992, .inl (fun _ => 0))), (i_right, .inl (cI 0, 212992, .inl (fun _ => 0))), (i_kind, .inl (cI 0, 212992, .inl (fun _ => 0))), (i_says, .inl (cI 0, 212992, .inl (fun _ => 0))), (i_parts, .inl (cI 0, 212992, .inl (fun _ => 0))), (i_mark, .inl (cI 0, 212992, .inl (fun _ => 0))), (i_path, .inl (cI 0, 212992, .inl (fun _ => 0)))] := hD
  refine va_putF (D := (dC, dI)) (ci := 10) (v := .ref i_path) (ty := (.array .int)) (C := RX10) (T := TX10) (N := 16) hx hb hts (fun _ h9 => List.mem_cons_of_mem _ (List.mem_append_right _ h9)) tyX10 tyX10_ok nmX10 hown hK hP hD hS 0 rfl rfl 6 (by decide) (hts _ (List.mem_cons_of_mem _ (List.mem_append_left _ (List.mem_of_getElem? (i := 11) rfl)))) (fun _ h9 => h9) rfl hin rfl (by decide +kernel) rfl rfl (Nat.le_of_ble_eq_true rfl) dX10_init_57 ?_
  clear hP hD hS
  intro H locs hP hD hS
  replace hP : va_P (dC, dI) vwCl [(h0, .inr (10, [.ref i_left, .ref i_right, .ref i_kind, .ref i_says, .ref i_parts, .ref i_mark, .ref i_path, .null, .null, .null, .null, .int 0, .int 0, .int 0, .int 0, .int 0])), (i_left, .inl (cI 0, 212992, .inl (fun _ => 0))), (i_right, .inl (cI 0, 212992, .inl (fun _ => 0))), (i_kind, .inl (cI 0, 212992, .inl (fun _ => 0))), (i_says, .inl (cI 0, 212992, .inl (fun _ => 0))), (i_parts, .inl (cI 0, 212992, .inl (fun _ => 0))), (i_mark, .inl (cI 0, 212992, .inl (fun _ => 0))), (i_path, .inl (cI 0, 212992, .inl (fun _ => 0)))] H := hP
  replace hD : va_D A [(h0, .inr (10, [.ref i_left, .ref i_right, .ref i_kind, .ref i_says, .ref i_parts, .ref i_mark, .ref i_path, .null, .null, .null, .null, .int 0, .int 0, .int 0, .int 0, .int 0])), (i_left, .inl (cI 0, 212992, .inl (fun _ => 0))), (i_right, .inl (cI 0, 212992, .inl (fun _ => 0))), (i_kind, .inl (cI 0, 212992, .inl (fun _ => 0))), (i_says, .inl (cI 0, 212992, .inl (fun _ => 0))), (i_parts, .inl (cI 0, 212992, .inl (fun _ => 0))), (i_mark, .inl (cI 0, 212992, .inl (fun _ => 0))), (i_path, .inl (cI 0, 212992, .inl (fun _ => 0)))] := hD
  refine lv_aload_n hx hb dX10_init_60 rfl (lv_at hl 0 rfl) ?_
  refine lv_ldc (v := 212992) hx hb hown (hts _ (List.mem_cons_of_mem _ (List.mem_append_left _ (List.mem_of_getElem? (i := 3) rfl)))) dX10_init_61 ?_
  refine va_newa (atype := .int) (ty := .int) (N' := 212992) (a0 := (212992, .inl (fun _ => 0))) hx hb (hts _ (List.mem_cons_of_mem _ (List.mem_append_left _ (List.mem_of_getElem? (i := 4) rfl)))) rfl hK hP hD hS hA (fun _ => rfl) (by decide) (by decide) (Nat.le_of_ble_eq_true rfl) (Nat.le_of_ble_eq_true rfl) (Nat.le_of_ble_eq_true rfl) dX10_init_63 ?_
  clear hK hP hD hS
  intro i_turn i_turnc H hK hP hD hS
  replace hK : va_K (dC, dI) vwCl [(cI 0, .int), (cI 1, .byte), (cI 2, .long), (i_turnc, .int)] s := hK
  obtain rfl : i_turnc = cI 0 := k_one hK 3 0 rfl rfl (fun _ z => by cases z)
  replace hK := hK.sub (tys' := [(cI 0, .int), (cI 1, .byte), (cI 2, .long)]) [0, 1, 2] rfl
  replace hP : va_P (dC, dI) vwCl [(h0, .inr (10, [.ref i_left, .ref i_right, .ref i_kind, .ref i_says, .ref i_parts, .ref i_mark, .ref i_path, .null, .null, .null, .null, .int 0, .int 0, .int 0, .int 0, .int 0])), (i_left, .inl (cI 0, 212992, .inl (fun _ => 0))), (i_right, .inl (cI 0, 212992, .inl (fun _ => 0))), (i_kind, .inl (cI 0, 212992, .inl (fun _ => 0))), (i_says, .inl (cI 0, 212992, .inl (fun _ => 0))), (i_parts, .inl (cI 0, 212992, .inl (fun _ => 0))), (i_mark, .inl (cI 0, 212992, .inl (fun _ => 0))), (i_path, .inl (cI 0, 212992, .inl (fun _ => 0))), (i_turn, .inl (cI 0, 212992, .inl (fun _ => 0)))] H := hP
  replace hD : va_D A [(h0, .inr (10, [.ref i_left, .ref i_right, .ref i_kind, .ref i_says, .ref i_parts, .ref i_mark, .ref i_path, .null, .null, .null, .null, .int 0, .int 0, .int 0, .int 0, .int 0])), (i_left, .inl (cI 0, 212992, .inl (fun _ => 0))), (i_right, .inl (cI 0, 212992, .inl (fun _ => 0))), (i_kind, .inl (cI 0, 212992, .inl (fun _ => 0))), (i_says, .inl (cI 0, 212992, .inl (fun _ => 0))), (i_parts, .inl (cI 0, 212992, .inl (fun _ => 0))), (i_mark, .inl (cI 0, 212992, .inl (fun _ => 0))), (i_path, .inl (cI 0, 212992, .inl (fun _ => 0))), (i_turn, .inl (cI 0, 212992, .inl (fun _ => 0)))] := hD
  refine va_putF (D := (dC, dI)) (ci := 10) (v := .ref i_turn) (ty := (.array .int)) (C := RX10) (T := TX10) (N := 16) hx hb hts (fun _ h9 => List.mem_cons_of_mem _ (List.mem_append_right _ h9)) tyX10 tyX10_ok nmX10 hown hK hP hD hS 0 rfl rfl 7 (by decide) (hts _ (List.mem_cons_of_mem _ (List.mem_append_left _ (List.mem_of_getElem? (i := 12) rfl)))) (fun _ h9 => h9) rfl hin rfl (by decide +kernel) rfl rfl (Nat.le_of_ble_eq_true rfl) dX10_init_65 ?_
  clear hP hD hS
  intro H locs hP hD hS
  replace hP : va_P (dC, dI) vwCl [(h0, .inr (10, [.ref i_left, .ref i_right, .ref i_kind, .ref i_says, .ref i_parts, .ref i_mark, .ref i_path, .ref i_turn, .null, .null, .null, .int 0, .int 0, .int 0, .int 0, .int 0])), (i_left, .inl (cI 0, 212992, .inl (fun _ => 0))), (i_right, .inl (cI 0, 212992, .inl (fun _ => 0))), (i_kind, .inl (cI 0, 212992, .inl (fun _ => 0))), (i_says, .inl (cI 0, 212992, .inl (fun _ => 0))), (i_parts, .inl (cI 0, 212992, .inl (fun _ => 0))), (i_mark, .inl (cI 0, 212992, .inl (fun _ => 0))), (i_path, .inl (cI 0, 212992, .inl (fun _ => 0))), (i_turn, .inl (cI 0, 212992, .inl (fun _ => 0)))] H := hP
  replace hD : va_D A [(h0, .inr (10, [.ref i_left, .ref i_right, .ref i_kind, .ref i_says, .ref i_parts, .ref i_mark, .ref i_path, .ref i_turn, .null, .null, .null, .int 0, .int 0, .int 0, .int 0, .int 0])), (i_left, .inl (cI 0, 212992, .inl (fun _ => 0))), (i_right, .inl (cI 0, 212992, .inl (fun _ => 0))), (i_kind, .inl (cI 0, 212992, .inl (fun _ => 0))), (i_says, .inl (cI 0, 212992, .inl (fun _ => 0))), (i_parts, .inl (cI 0, 212992, .inl (fun _ => 0))), (i_mark, .inl (cI 0, 212992, .inl (fun _ => 0))), (i_path, .inl (cI 0, 212992, .inl (fun _ => 0))), (i_turn, .inl (cI 0, 212992, .inl (fun _ => 0)))] := hD
  refine lv_aload_n hx hb dX10_init_68 rfl (lv_at hl 0 rfl) ?_
  refine lv_bipush (v := 95) hx hb dX10_init_69 (by decide) ?_
  refine va_newa (atype := .int) (ty := .int) (N' := 95) (a0 := (95, .inl (fun _ => 0))) hx hb (hts _ (List.mem_cons_of_mem _ (List.mem_append_left _ (List.mem_of_getElem? (i := 4) rfl)))) rfl hK hP hD hS hA (fun _ => rfl) (by decide) (by decide) (Nat.le_of_ble_eq_true rfl) (Nat.le_of_ble_eq_true rfl) (Nat.le_of_ble_eq_true rfl) dX10_init_71 ?_
  clear hK hP hD hS
  intro i_arity i_arityc H hK hP hD hS
  replace hK : va_K (dC, dI) vwCl [(cI 0, .int), (cI 1, .byte), (cI 2, .long), (i_arityc, .int)] s := hK
  obtain rfl : i_arityc = cI 0 := k_one hK 3 0 rfl rfl (fun _ z => by cases z)
  replace hK := hK.sub (tys' := [(cI 0, .int), (cI 1, .byte), (cI 2, .long)]) [0, 1, 2] rfl
  replace hP : va_P (dC, dI) vwCl [(h0, .inr (10, [.ref i_left, .ref i_right, .ref i_kind, .ref i_says, .ref i_parts, .ref i_mark, .ref i_path, .ref i_turn, .null, .null, .null, .int 0, .int 0, .int 0, .int 0, .int 0])), (i_left, .inl (cI 0, 212992, .inl (fun _ => 0))), (i_right, .inl (cI 0, 212992, .inl (fun _ => 0))), (i_kind, .inl (cI 0, 212992, .inl (fun _ => 0))), (i_says, .inl (cI 0, 212992, .inl (fun _ => 0))), (i_parts, .inl (cI 0, 212992, .inl (fun _ => 0))), (i_mark, .inl (cI 0, 212992, .inl (fun _ => 0))), (i_path, .inl (cI 0, 212992, .inl (fun _ => 0))), (i_turn, .inl (cI 0, 212992, .inl (fun _ => 0))), (i_arity, .inl (cI 0, 95, .inl (fun _ => 0)))] H := hP
  replace hD : va_D A [(h0, .inr (10, [.ref i_left, .ref i_right, .ref i_kind, .ref i_says, .ref i_parts, .ref i_mark, .ref i_path, .ref i_turn, .null, .null, .null, .int 0, .int 0, .int 0, .int 0, .int 0])), (i_left, .inl (cI 0, 212992, .inl (fun _ => 0))), (i_right, .inl (cI 0, 212992, .inl (fun _ => 0))), (i_kind, .inl (cI 0, 212992, .inl (fun _ => 0))), (i_says, .inl (cI 0, 212992, .inl (fun _ => 0))), (i_parts, .inl (cI 0, 212992, .inl (fun _ => 0))), (i_mark, .inl (cI 0, 212992, .inl (fun _ => 0))), (i_path, .inl (cI 0, 212992, .inl (fun _ => 0))), (i_turn, .inl (cI 0, 212992, .inl (fun _ => 0))), (i_arity, .inl (cI 0, 95, .inl (fun _ => 0)))] := hD
  refine va_putF (D := (dC, dI)) (ci := 10) (v := .ref i_arity) (ty := (.array .int)) (C := RX10) (T := TX10) (N := 16) hx hb hts (fun _ h9 => List.mem_cons_of_mem _ (List.mem_append_right _ h9)) tyX10 tyX10_ok nmX10 hown hK hP hD hS 0 rfl rfl 8 (by decide) (hts _ (List.mem_cons_of_mem _ (List.mem_append_left _ (List.mem_of_getElem? (i := 13) rfl)))) (fun _ h9 => h9) rfl hin rfl (by decide +kernel) rfl rfl (Nat.le_of_ble_eq_true rfl) dX10_init_73 ?_
  clear hP hD hS
  intro H locs hP hD hS
  replace hP : va_P (dC, dI) vwCl [(h0, .inr (10, [.ref i_left, .ref i_right, .ref i_kind, .ref i_says, .ref i_parts, .ref i_mark, .ref i_path, .ref i_turn, .ref i_arity, .null, .null, .int 0, .int 0, .int 0, .int 0, .int 0])), (i_left, .inl (cI 0, 212992, .inl (fun _ => 0))), (i_right, .inl (cI 0, 212992, .inl (fun _ => 0))), (i_kind, .inl (cI 0, 212992, .inl (fun _ => 0))), (i_says, .inl (cI 0, 212992, .inl (fun _ => 0))), (i_parts, .inl (cI 0, 212992, .inl (fun _ => 0))), (i_mark, .inl (cI 0, 212992, .inl (fun _ => 0))), (i_path, .inl (cI 0, 212992, .inl (fun _ => 0))), (i_turn, .inl (cI 0, 212992, .inl (fun _ => 0))), (i_arity, .inl (cI 0, 95, .inl (fun _ => 0)))] H := hP
  replace hD : va_D A [(h0, .inr (10, [.ref i_left, .ref i_right, .ref i_kind, .ref i_says, .ref i_parts, .ref i_mark, .ref i_path, .ref i_turn, .ref i_arity, .null, .null, .int 0, .int 0, .int 0, .int 0, .int 0])), (i_left, .inl (cI 0, 212992, .inl (fun _ => 0))), (i_right, .inl (cI 0, 212992, .inl (fun _ => 0))), (i_kind, .inl (cI 0, 212992, .inl (fun _ => 0))), (i_says, .inl (cI 0, 212992, .inl (fun _ => 0))), (i_parts, .inl (cI 0, 212992, .inl (fun _ => 0))), (i_mark, .inl (cI 0, 212992, .inl (fun _ => 0))), (i_path, .inl (cI 0, 212992, .inl (fun _ => 0))), (i_turn, .inl (cI 0, 212992, .inl (fun _ => 0))), (i_arity, .inl (cI 0, 95, .inl (fun _ => 0)))] := hD
  refine lv_aload_n hx hb dX10_init_76 rfl (lv_at hl 0 rfl) ?_
  refine lv_bipush (v := 101) hx hb dX10_init_77 (by decide) ?_
  refine va_newa (atype := .int) (ty := .int) (N' := 101) (a0 := (101, .inl (fun _ => 0))) hx hb (hts _ (List.mem_cons_of_mem _ (List.mem_append_left _ (List.mem_of_getElem? (i := 4) rfl)))) rfl hK hP hD hS hA (fun _ => rfl) (by decide) (by decide) (Nat.le_of_ble_eq_true rfl) (Nat.le_of_ble_eq_true rfl) (Nat.le_of_ble_eq_true rfl) dX10_init_79 ?_
  clear hK hP hD hS
  intro i_general i_generalc H hK hP hD hS
  replace hK : va_K (dC, dI) vwCl [(cI 0, .int), (cI 1, .byte), (cI 2, .long), (i_generalc, .int)] s := hK
  obtain rfl : i_generalc = cI 0 := k_one hK 3 0 rfl rfl (fun _ z => by cases z)
  replace hK := hK.sub (tys' := [(cI 0, .int), (cI 1, .byte), (cI 2, .long)]) [0, 1, 2] rfl
  replace hP : va_P (dC, dI) vwCl [(h0, .inr (10, [.ref i_left, .ref i_right, .ref i_kind, .ref i_says, .ref i_parts, .ref i_mark, .ref i_path, .ref i_turn, .ref i_arity, .null, .null, .int 0, .int 0, .int 0, .int 0, .int 0])), (i_left, .inl (cI 0, 212992, .inl (fun _ => 0))), (i_right, .inl (cI 0, 212992, .inl (fun _ => 0))), (i_kind, .inl (cI 0, 212992, .inl (fun _ => 0))), (i_says, .inl (cI 0, 212992, .inl (fun _ => 0))), (i_parts, .inl (cI 0, 212992, .inl (fun _ => 0))), (i_mark, .inl (cI 0, 212992, .inl (fun _ => 0))), (i_path, .inl (cI 0, 212992, .inl (fun _ => 0))), (i_turn, .inl (cI 0, 212992, .inl (fun _ => 0))), (i_arity, .inl (cI 0, 95, .inl (fun _ => 0))), (i_general, .inl (cI 0, 101, .inl (fun _ => 0)))] H := hP
  replace hD : va_D A [(h0, .inr (10, [.ref i_left, .ref i_right, .ref i_kind, .ref i_says, .ref i_parts, .ref i_mark, .ref i_path, .ref i_turn, .ref i_arity, .null, .null, .int 0, .int 0, .int 0, .int 0, .int 0])), (i_left, .inl (cI 0, 212992, .inl (fun _ => 0))), (i_right, .inl (cI 0, 212992, .inl (fun _ => 0))), (i_kind, .inl (cI 0, 212992, .inl (fun _ => 0))), (i_says, .inl (cI 0, 212992, .inl (fun _ => 0))), (i_parts, .inl (cI 0, 212992, .inl (fun _ => 0))), (i_mark, .inl (cI 0, 212992, .inl (fun _ => 0))), (i_path, .inl (cI 0, 212992, .inl (fun _ => 0))), (i_turn, .inl (cI 0, 212992, .inl (fun _ => 0))), (i_arity, .inl (cI 0, 95, .inl (fun _ => 0))), (i_general, .inl (cI 0, 101, .inl (fun _ => 0)))] := hD
  refine va_putF (D := (dC, dI)) (ci := 10) (v := .ref i_general) (ty := (.array .int)) (C := RX10) (T := TX10) (N := 16) hx hb hts (fun _ h9 => List.mem_cons_of_mem _ (List.mem_append_right _ h9)) tyX10 tyX10_ok nmX10 hown hK hP hD hS 0 rfl rfl 9 (by decide) (hts _ (List.mem_cons_of_mem _ (List.mem_append_left _ (List.mem_of_getElem? (i := 14) rfl)))) (fun _ h9 => h9) rfl hin rfl (by decide +kernel) rfl rfl (Nat.le_of_ble_eq_true rfl) dX10_init_81 ?_
  clear hP hD hS
  intro H locs hP hD hS
  replace hP : va_P (dC, dI) vwCl [(h0, .inr (10, [.ref i_left, .ref i_right, .ref i_kind, .ref i_says, .ref i_parts, .ref i_mark, .ref i_path, .ref i_turn, .ref i_arity, .ref i_general, .null, .int 0, .int 0, .int 0, .int 0, .int 0])), (i_left, .inl (cI 0, 212992, .inl (fun _ => 0))), (i_right, .inl (cI 0, 212992, .inl (fun _ => 0))), (i_kind, .inl (cI 0, 212992, .inl (fun _ => 0))), (i_says, .inl (cI 0, 212992, .inl (fun _ => 0))), (i_parts, .inl (cI 0, 212992, .inl (fun _ => 0))), (i_mark, .inl (cI 0, 212992, .inl (fun _ => 0))), (i_path, .inl (cI 0, 212992, .inl (fun _ => 0))), (i_turn, .inl (cI 0, 212992, .inl (fun _ => 0))), (i_arity, .inl (cI 0, 95, .inl (fun _ => 0))), (i_general, .inl (cI 0, 101, .inl (fun _ => 0)))] H := hP
  replace hD : va_D A [(h0, .inr (10, [.ref i_left, .ref i_right, .ref i_kind, .ref i_says, .ref i_parts, .ref i_mark, .ref i_path, .ref i_turn, .ref i_arity, .ref i_general, .null, .int 0, .int 0, .int 0, .int 0, .int 0])), (i_left, .inl (cI 0, 212992, .inl (fun _ => 0))), (i_right, .inl (cI 0, 212992, .inl (fun _ => 0))), (i_kind, .inl (cI 0, 212992, .inl (fun _ => 0))), (i_says, .inl (cI 0, 212992, .inl (fun _ => 0))), (i_parts, .inl (cI 0, 212992, .inl (fun _ => 0))), (i_mark, .inl (cI 0, 212992, .inl (fun _ => 0))), (i_path, .inl (cI 0, 212992, .inl (fun _ => 0))), (i_turn, .inl (cI 0, 212992, .inl (fun _ => 0))), (i_arity, .inl (cI 0, 95, .inl (fun _ => 0))), (i_general, .inl (cI 0, 101, .inl (fun _ => 0)))] := hD
  refine lv_aload_n hx hb dX10_init_84 rfl (lv_at hl 0 rfl) ?_
  refine lv_bipush (v := 101) hx hb dX10_init_85 (by decide) ?_
  refine va_newa (atype := .int) (ty := .int) (N' := 101) (a0 := (101, .inl (fun _ => 0))) hx hb (hts _ (List.mem_cons_of_mem _ (List.mem_append_left _ (List.mem_of_getElem? (i := 4) rfl)))) rfl hK hP hD hS hA (fun _ => rfl) (by decide) (by decide) (Nat.le_of_ble_eq_true rfl) (Nat.le_of_ble_eq_true rfl) (Nat.le_of_ble_eq_true rfl) dX10_init_87 ?_
  clear hK hP hD hS
  intro i_row i_rowc H hK hP hD hS
  replace hK : va_K (dC, dI) vwCl [(cI 0, .int), (cI 1, .byte), (cI 2, .long), (i_rowc, .int)] s := hK
  obtain rfl : i_rowc = cI 0 := k_one hK 3 0 rfl rfl (fun _ z => by cases z)
  replace hK := hK.sub (tys' := [(cI 0, .int), (cI 1, .byte), (cI 2, .long)]) [0, 1, 2] rfl
  replace hP : va_P (dC, dI) vwCl [(h0, .inr (10, [.ref i_left, .ref i_right, .ref i_kind, .ref i_says, .ref i_parts, .ref i_mark, .ref i_path, .ref i_turn, .ref i_arity, .ref i_general, .null, .int 0, .int 0, .int 0, .int 0, .int 0])), (i_left, .inl (cI 0, 212992, .inl (fun _ => 0))), (i_right, .inl (cI 0, 212992, .inl (fun _ => 0))), (i_kind, .inl (cI 0, 212992, .inl (fun _ => 0))), (i_says, .inl (cI 0, 212992, .inl (fun _ => 0))), (i_parts, .inl (cI 0, 212992, .inl (fun _ => 0))), (i_mark, .inl (cI 0, 212992, .inl (fun _ => 0))), (i_path, .inl (cI 0, 212992, .inl (fun _ => 0))), (i_turn, .inl (cI 0, 212992, .inl (fun _ => 0))), (i_arity, .inl (cI 0, 95, .inl (fun _ => 0))), (i_general, .inl (cI 0, 101, .inl (fun _ => 0))), (i_row, .inl (cI 0, 101, .inl (fun _ => 0)))] H := hP
  replace hD : va_D A [(h0, .inr (10, [.ref i_left, .ref i_right, .ref i_kind, .ref i_says, .ref i_parts, .ref i_mark, .ref i_path, .ref i_turn, .ref i_arity, .ref i_general, .null, .int 0, .int 0, .int 0, .int 0, .int 0])), (i_left, .inl (cI 0, 212992, .inl (fun _ => 0))), (i_right, .inl (cI 0, 212992, .inl (fun _ => 0))), (i_kind, .inl (cI 0, 212992, .inl (fun _ => 0))), (i_says, .inl (cI 0, 212992, .inl (fun _ => 0))), (i_parts, .inl (cI 0, 212992, .inl (fun _ => 0))), (i_mark, .inl (cI 0, 212992, .inl (fun _ => 0))), (i_path, .inl (cI 0, 212992, .inl (fun _ => 0))), (i_turn, .inl (cI 0, 212992, .inl (fun _ => 0))), (i_arity, .inl (cI 0, 95, .inl (fun _ => 0))), (i_general, .inl (cI 0, 101, .inl (fun _ => 0))), (i_row, .inl (cI 0, 101, .inl (fun _ => 0)))] := hD
  refine va_putF (D := (dC, dI)) (ci := 10) (v := .ref i_row) (ty := (.array .int)) (C := RX10) (T := TX10) (N := 16) hx hb hts (fun _ h9 => List.mem_cons_of_mem _ (List.mem_append_right _ h9)) tyX10 tyX10_ok nmX10 hown hK hP hD hS 0 rfl rfl 10 (by decide) (hts _ (List.mem_cons_of_mem _ (List.mem_append_left _ (List.mem_of_getElem? (i := 15) rfl)))) (fun _ h9 => h9) rfl hin rfl (by decide +kernel) rfl rfl (Nat.le_of_ble_eq_true rfl) dX10_init_89 ?_
  clear hP hD hS
  intro H locs hP hD hS
  replace hP : va_P (dC, dI) vwCl [(h0, .inr (10, [.ref i_left, .ref i_right, .ref i_kind, .ref i_says, .ref i_parts, .ref i_mark, .ref i_path, .ref i_turn, .ref i_arity, .ref i_general, .ref i_row, .int 0, .int 0, .int 0, .int 0, .int 0])), (i_left, .inl (cI 0, 212992, .inl (fun _ => 0))), (i_right, .inl (cI 0, 212992, .inl (fun _ => 0))), (i_kind, .inl (cI 0, 212992, .inl (fun _ => 0))), (i_says, .inl (cI 0, 212992, .inl (fun _ => 0))), (i_parts, .inl (cI 0, 212992, .inl (fun _ => 0))), (i_mark, .inl (cI 0, 212992, .inl (fun _ => 0))), (i_path, .inl (cI 0, 212992, .inl (fun _ => 0))), (i_turn, .inl (cI 0, 212992, .inl (fun _ => 0))), (i_arity, .inl (cI 0, 95, .inl (fun _ => 0))), (i_general, .inl (cI 0, 101, .inl (fun _ => 0))), (i_row, .inl (cI 0, 101, .inl (fun _ => 0)))] H := hP
  replace hD : va_D A [(h0, .inr (10, [.ref i_left, .ref i_right, .ref i_kind, .ref i_says, .ref i_parts, .ref i_mark, .ref i_path, .ref i_turn, .ref i_arity, .ref i_general, .ref i_row, .int 0, .int 0, .int 0, .int 0, .int 0])), (i_left, .inl (cI 0, 212992, .inl (fun _ => 0))), (i_right, .inl (cI 0, 212992, .inl (fun _ => 0))), (i_kind, .inl (cI 0, 212992, .inl (fun _ => 0))), (i_says, .inl (cI 0, 212992, .inl (fun _ => 0))), (i_parts, .inl (cI 0, 212992, .inl (fun _ => 0))), (i_mark, .inl (cI 0, 212992, .inl (fun _ => 0))), (i_path, .inl (cI 0, 212992, .inl (fun _ => 0))), (i_turn, .inl (cI 0, 212992, .inl (fun _ => 0))), (i_arity, .inl (cI 0, 95, .inl (fun _ => 0))), (i_general, .inl (cI 0, 101, .inl (fun _ => 0))), (i_row, .inl (cI 0, 101, .inl (fun _ => 0)))] := hD
  refine lv_aload_n hx hb dX10_init_92 rfl (lv_at hl 0 rfl) ?_
  refine lv_iconst (v := 2) hx hb dX10_init_93 (by decide) ?_
  refine va_put (D := (dC, dI)) (ci := 10) (v := .int 2) (ty := .int) (C := RX10) (T := TX10) (N := 16) hx hb hts (fun _ h9 => List.mem_cons_of_mem _ (List.mem_append_right _ h9)) tyX10 tyX10_ok nmX10 hown hK hP hD hS 0 rfl rfl 13 (by decide) (hts _ (List.mem_cons_of_mem _ (List.mem_append_left _ (List.mem_of_getElem? (i := 16) rfl)))) (fun _ h9 => h9) rfl (by decide +kernel) rfl rfl (Nat.le_of_ble_eq_true rfl) dX10_init_94 ?_
  clear hP hD hS
  intro H locs hP hD hS
  replace hP : va_P (dC, dI) vwCl [(h0, .inr (10, [.ref i_left, .ref i_right, .ref i_kind, .ref i_says, .ref i_parts, .ref i_mark, .ref i_path, .ref i_turn, .ref i_arity, .ref i_general, .ref i_row, .int 0, .int 0, .int 2, .int 0, .int 0])), (i_left, .inl (cI 0, 212992, .inl (fun _ => 0))), (i_right, .inl (cI 0, 212992, .inl (fun _ => 0))), (i_kind, .inl (cI 0, 212992, .inl (fun _ => 0))), (i_says, .inl (cI 0, 212992, .inl (fun _ => 0))), (i_parts, .inl (cI 0, 212992, .inl (fun _ => 0))), (i_mark, .inl (cI 0, 212992, .inl (fun _ => 0))), (i_path, .inl (cI 0, 212992, .inl (fun _ => 0))), (i_turn, .inl (cI 0, 212992, .inl (fun _ => 0))), (i_arity, .inl (cI 0, 95, .inl (fun _ => 0))), (i_general, .inl (cI 0, 101, .inl (fun _ => 0))), (i_row, .inl (cI 0, 101, .inl (fun _ => 0)))] H := hP
  replace hD : va_D A [(h0, .inr (10, [.ref i_left, .ref i_right, .ref i_kind, .ref i_says, .ref i_parts, .ref i_mark, .ref i_path, .ref i_turn, .ref i_arity, .ref i_general, .ref i_row, .int 0, .int 0, .int 2, .int 0, .int 0])), (i_left, .inl (cI 0, 212992, .inl (fun _ => 0))), (i_right, .inl (cI 0, 212992, .inl (fun _ => 0))), (i_kind, .inl (cI 0, 212992, .inl (fun _ => 0))), (i_says, .inl (cI 0, 212992, .inl (fun _ => 0))), (i_parts, .inl (cI 0, 212992, .inl (fun _ => 0))), (i_mark, .inl (cI 0, 212992, .inl (fun _ => 0))), (i_path, .inl (cI 0, 212992, .inl (fun _ => 0))), (i_turn, .inl (cI 0, 212992, .inl (fun _ => 0))), (i_arity, .inl (cI 0, 95, .inl (fun _ => 0))), (i_general, .inl (cI 0, 101, .inl (fun _ => 0))), (i_row, .inl (cI 0, 101, .inl (fun _ => 0)))] := hD
  have hP9 := hP.sub (ws' := [(h0, .inr (10, [.ref i_left, .ref i_right, .ref i_kind, .ref i_says, .ref i_parts, .ref i_mark, .ref i_path, .ref i_turn, .ref i_arity, .ref i_general, .ref i_row, .int 0, .int 0, .int 2, .int 0, .int 0])), (i_left, .inl (cI 0, 212992, .inl (fun _ => 0))), (i_right, .inl (cI 0, 212992, .inl (fun _ => 0))), (i_kind, .inl (cI 0, 212992, .inl (fun _ => 0))), (i_says, .inl (cI 0, 212992, .inl (fun _ => 0))), (i_parts, .inl (cI 0, 212992, .inl (fun _ => 0))), (i_mark, .inl (cI 0, 212992, .inl (fun _ => 0))), (i_path, .inl (cI 0, 212992, .inl (fun _ => 0))), (i_turn, .inl (cI 0, 212992, .inl (fun _ => 0))), (i_arity, .inl (cI 0, 95, .inl (fun _ => 0))), (i_general, .inl (cI 0, 101, .inl (fun _ => 0))), (i_row, .inl (cI 0, 101, .inl (fun _ => 0)))]) [0, 1, 2, 3, 4, 5, 6, 7, 8, 9, 10, 11] rfl
  have hD9 := hD.sub (ws' := [(h0, .inr (10, [.ref i_left, .ref i_right, .ref i_kind, .ref i_says, .ref i_parts, .ref i_mark, .ref i_path, .ref i_turn, .ref i_arity, .ref i_general, .ref i_row, .int 0, .int 0, .int 2, .int 0, .int 0])), (i_left, .inl (cI 0, 212992, .inl (fun _ => 0))), (i_right, .inl (cI 0, 212992, .inl (fun _ => 0))), (i_kind, .inl (cI 0, 212992, .inl (fun _ => 0))), (i_says, .inl (cI 0, 212992, .inl (fun _ => 0))), (i_parts, .inl (cI 0, 212992, .inl (fun _ => 0))), (i_mark, .inl (cI 0, 212992, .inl (fun _ => 0))), (i_path, .inl (cI 0, 212992, .inl (fun _ => 0))), (i_turn, .inl (cI 0, 212992, .inl (fun _ => 0))), (i_arity, .inl (cI 0, 95, .inl (fun _ => 0))), (i_general, .inl (cI 0, 101, .inl (fun _ => 0))), (i_row, .inl (cI 0, 101, .inl (fun _ => 0)))]) [0, 1, 2, 3, 4, 5, 6, 7, 8, 9, 10, 11] (by decide) rfl
  have hK9 := hK.sub (tys' := [(cI 0, .int), (cI 1, .byte), (cI 2, .long)]) [0, 1, 2] rfl
  exact W.vret hx hb hr (fun t ht hW => ⟨⟨(i_left, i_right, i_kind, i_says, i_parts, i_mark, i_path, i_turn, i_arity, i_general, i_row), rfl, trivial, wE.of ht hW hP9 hK9 hD9⟩, hS.F ht⟩) hS.2.2 dX10_init_97

theorem dX11_init_0 : decode cX11_init 0 = .ok (.aload_n 0, 1) := by decide +kernel
theorem dX11_init_1 : decode cX11_init 1 = .ok (.invokespecial 3, 3) := by decide +kernel
theorem dX11_init_4 : decode cX11_init 4 = .ok (.aload_n 0, 1) := by decide +kernel
theorem dX11_init_5 : decode cX11_init 5 = .ok (.sipush 1902, 3) := by decide +kernel
theorem dX11_init_8 : decode cX11_init 8 = .ok (.newarray .byte, 2) := by decide +kernel
theorem dX11_init_10 : decode cX11_init 10 = .ok (.putfield 9, 3) := by decide +kernel
theorem dX11_init_13 : decode cX11_init 13 = .ok (.aload_n 0, 1) := by decide +kernel
theorem dX11_init_14 : decode cX11_init 14 = .ok (.sipush 2048, 3) := by decide +kernel
theorem dX11_init_17 : decode cX11_init 17 = .ok (.newarray .int, 2) := by decide +kernel
theorem dX11_init_19 : decode cX11_init 19 = .ok (.putfield 15, 3) := by decide +kernel
theorem dX11_init_22 : decode cX11_init 22 = .ok (.aload_n 0, 1) := by decide +kernel
theorem dX11_init_23 : decode cX11_init 23 = .ok (.aload_n 1, 1) := by decide +kernel
theorem dX11_init_24 : decode cX11_init 24 = .ok (.putfield 19, 3) := by decide +kernel
theorem dX11_init_27 : decode cX11_init 27 = .ok (.aload_n 0, 1) := by decide +kernel
theorem dX11_init_28 : decode cX11_init 28 = .ok (.aload_n 2, 1) := by decide +kernel
theorem dX11_init_29 : decode cX11_init 29 = .ok (.putfield 23, 3) := by decide +kernel
theorem dX11_init_32 : decode cX11_init 32 = .ok (.aload_n 0, 1) := by decide +kernel
theorem dX11_init_33 : decode cX11_init 33 = .ok (.aload_n 3, 1) := by decide +kernel
theorem dX11_init_34 : decode cX11_init 34 = .ok (.putfield 27, 3) := by decide +kernel
theorem dX11_init_37 : decode cX11_init 37 = .ok (.aload_n 0, 1) := by decide +kernel
theorem dX11_init_38 : decode cX11_init 38 = .ok (.aload 4, 2) := by decide +kernel
theorem dX11_init_40 : decode cX11_init 40 = .ok (.putfield 31, 3) := by decide +kernel
theorem dX11_init_43 : decode cX11_init 43 = .ok (.return_, 1) := by decide +kernel
def zlX11_init : List Cond := [.methodLink RX11 3 objectInit, .instanceMethod objectInit, .code objectInit ⟨#[0xb1]⟩ 1 none, .arrayClass .byte, .fieldLink RX11 9 "LeanHouse$Writer" "bytes" "[B", .arrayClass .int, .fieldLink RX11 15 "LeanHouse$Writer" "variables" "[I", .fieldLink RX11 19 "LeanHouse$Writer" "types" "LLeanHouse$Types;", .fieldLink RX11 23 "LeanHouse$Writer" "scope" "LLeanHouse$Scope;", .fieldLink RX11 27 "LeanHouse$Writer" "lexer" "LLeanHouse$Lexer;", .fieldLink RX11 31 "LeanHouse$Writer" "memory" "[I"]
def zsX11_init : List Cond := .code yX11_init cX11_init 5 none :: (zlX11_init ++ (wsX110))
set_option maxHeartbeats 8000000 in
set_option maxRecDepth 100000 in
theorem c_X11_init (l : Launch) (dC : Nat → ClassId) (dI : Nat → Nat → Nat) (sz : Nat) (cI : Nat → ClassId) (h0 : Nat) (m0 : Nat) (m1 : Nat) (m2 : Nat) (m3 : Nat) : Met l yX11_init zsX11_init ({ frames := 2, cells := 2, slots := 3950, locals := 20 } : Jvm.Room) (va_Pc [.ref h0, .ref m0, .ref m1, .ref m2, .ref m3] (wB (dC, dI) vwCl nestM [(cI 0, .int), (cI 1, .byte), (cI 2, .long)] [(h0, .inr (11, [.null, .null, .null, .null, .null, .null, .int 0, .int 0, .int 0, .int 0, .int 0]))] sz)) (va_Qv (fun (u : Nat × Nat) => True) (fun (u : Nat × Nat) (t : State) => wE (dC, dI) vwCl [(cI 0, .int), (cI 1, .byte), (cI 2, .long)] [(h0, .inr (11, [.ref m0, .ref m1, .ref m2, .ref m3, .ref u.1, .ref u.2, .int 0, .int 0, .int 0, .int 0, .int 0])), (u.1, .inl (cI 1, 1902, .inl (fun _ => 0))), (u.2, .inl (cI 0, 2048, .inl (fun _ => 0)))] (va_A [(h0, .inr (11, [.null, .null, .null, .null, .null, .null, .int 0, .int 0, .int 0, .int 0, .int 0]))] sz) t) (va_A [(h0, .inr (11, [.null, .null, .null, .null, .null, .null, .int 0, .int 0, .int 0, .int 0, .int 0]))] sz)) 2 3950 (va_A [(h0, .inr (11, [.null, .null, .null, .null, .null, .null, .int 0, .int 0, .int 0, .int 0, .int 0]))] sz) := by
  refine Met.ofW (cc := cX11_init) (maxL := 5) (ret := none) (by decide) rfl ?_
  intro p e s m args below meth c s₁ B hml hv
  obtain ⟨rfl, hsz, hP, hK, hD0, hN⟩ := hv
  have hx := B.exec
  have hb := B.bytes
  have hr := B.returns
  have hts := atoms_spec (ws := zsX11_init) B.pre
  have hown : s.vm.findClass RX11 = some m.cls := findClass_of_methodNamed B.named
  have hlocks := B.notSynchronized
  have hin : meth.name = "<init>" := (name_of_methodNamed B.named B.method).1
  subst hsz
  have hD := hD0.self (sz := s.heap.size)
  generalize hAe : va_A [(h0, .inr (11, [.null, .null, .null, .null, .null, .null, .int 0, .int 0, .int 0, .int 0, .int 0]))] s.heap.size = A at hD ⊢
  have hA : ∀ q : Nat, s.heap.size ≤ q → A q := fun q h => by rw [← hAe]; exact Or.inr h
  have hS : va_S A s.heap s.heap [] := va_S.rf
  have hP : va_P (dC, dI) vwCl [(h0, .inr (11, [.null, .null, .null, .null, .null, .null, .int 0, .int 0, .int 0, .int 0, .int 0]))] s.heap := hP
  have hl := lv_entry ([.ref h0, .ref m0, .ref m1, .ref m2, .ref m3]) (n := 5) (Nat.le_of_ble_eq_true rfl)
  rw [lg_entry_eq]
  generalize (lg_sl ([.ref h0, .ref m0, .ref m1, .ref m2, .ref m3]) ++ List.replicate (5 - (lg_sl ([.ref h0, .ref m0, .ref m1, .ref m2, .ref m3])).length) Slot.unset).toArray = ls at hl ⊢
  have hl : lv_has ls 5 [(0, .ref h0), (1, .ref m0), (2, .ref m1), (3, .ref m2), (4, .ref m3)] := hl
  refine lv_aload_n hx hb dX11_init_0 rfl (lv_at hl 0 rfl) ?_
  refine W.objInit hx hb hown (hts _ (List.mem_cons_of_mem _ (List.mem_append_left _ (List.mem_of_getElem? (i := 0) rfl)))) (hts _ (List.mem_cons_of_mem _ (List.mem_append_left _ (List.mem_of_getElem? (i := 1) rfl)))) (hts _ (List.mem_cons_of_mem _ (List.mem_append_left _ (List.mem_of_getElem? (i := 2) rfl)))) rfl (by rw [hml]; exact hl.1) rfl dX11_init_1 (Nat.le_of_ble_eq_true rfl) (Nat.le_of_ble_eq_true rfl) ?_
  refine lv_aload_n hx hb dX11_init_4 rfl (lv_at hl 0 rfl) ?_
  refine lv_sipush (v := 1902) hx hb dX11_init_5 (by decide) ?_
  refine va_newa (atype := .byte) (ty := .byte) (N' := 1902) (a0 := (1902, .inl (fun _ => 0))) hx hb (hts _ (List.mem_cons_of_mem _ (List.mem_append_left _ (List.mem_of_getElem? (i := 3) rfl)))) rfl hK hP hD hS hA (fun _ => rfl) (by decide) (by decide) (Nat.le_of_ble_eq_true rfl) (Nat.le_of_ble_eq_true rfl) (Nat.le_of_ble_eq_true rfl) dX11_init_8 ?_
  clear hK hP hD hS
  intro j_bytes j_bytesc H hK hP hD hS
  replace hK : va_K (dC, dI) vwCl [(cI 0, .int), (cI 1, .byte), (cI 2, .long), (j_bytesc, .byte)] s := hK
  obtain rfl : j_bytesc = cI 1 := k_one hK 3 1 rfl rfl (fun _ z => by cases z)
  replace hK := hK.sub (tys' := [(cI 0, .int), (cI 1, .byte), (cI 2, .long)]) [0, 1, 2] rfl
  replace hP : va_P (dC, dI) vwCl [(h0, .inr (11, [.null, .null, .null, .null, .null, .null, .int 0, .int 0, .int 0, .int 0, .int 0])), (j_bytes, .inl (cI 1, 1902, .inl (fun _ => 0)))] H := hP
  replace hD : va_D A [(h0, .inr (11, [.null, .null, .null, .null, .null, .null, .int 0, .int 0, .int 0, .int 0, .int 0])), (j_bytes, .inl (cI 1, 1902, .inl (fun _ => 0)))] := hD
  refine va_putF (D := (dC, dI)) (ci := 11) (v := .ref j_bytes) (ty := (.array .byte)) (C := RX11) (T := TX11) (N := 11) hx hb hts (fun _ h9 => List.mem_cons_of_mem _ (List.mem_append_right _ h9)) tyX11 tyX11_ok nmX11 hown hK hP hD hS 0 rfl rfl 4 (by decide) (hts _ (List.mem_cons_of_mem _ (List.mem_append_left _ (List.mem_of_getElem? (i := 4) rfl)))) (fun _ h9 => h9) rfl hin rfl (by decide +kernel) rfl rfl (Nat.le_of_ble_eq_true rfl) dX11_init_10 ?_
  clear hP hD hS
  intro H locs hP hD hS
  replace hP : va_P (dC, dI) vwCl [(h0, .inr (11, [.null, .null, .null, .null, .ref j_bytes, .null, .int 0, .int 0, .int 0, .int 0, .int 0])), (j_bytes, .inl (cI 1, 1902, .inl (fun _ => 0)))] H := hP
  replace hD : va_D A [(h0, .inr (11, [.null, .null, .null, .null, .ref j_bytes, .null, .int 0, .int 0, .int 0, .int 0, .int 0])), (j_bytes, .inl (cI 1, 1902, .inl (fun _ => 0)))] := hD
  refine lv_aload_n hx hb dX11_init_13 rfl (lv_at hl 0 rfl) ?_
  refine lv_sipush (v := 2048) hx hb dX11_init_14 (by decide) ?_
  refine va_newa (atype := .int) (ty := .int) (N' := 2048) (a0 := (2048, .inl (fun _ => 0))) hx hb (hts _ (List.mem_cons_of_mem _ (List.mem_append_left _ (List.mem_of_getElem? (i := 5) rfl)))) rfl hK hP hD hS hA (fun _ => rfl) (by decide) (by decide) (Nat.le_of_ble_eq_true rfl) (Nat.le_of_ble_eq_true rfl) (Nat.le_of_ble_eq_true rfl) dX11_init_17 ?_
  clear hK hP hD hS
  intro j_variables j_variablesc H hK hP hD hS
  replace hK : va_K (dC, dI) vwCl [(cI 0, .int), (cI 1, .byte), (cI 2, .long), (j_variablesc, .int)] s := hK
  obtain rfl : j_variablesc = cI 0 := k_one hK 3 0 rfl rfl (fun _ z => by cases z)
  replace hK := hK.sub (tys' := [(cI 0, .int), (cI 1, .byte), (cI 2, .long)]) [0, 1, 2] rfl
  replace hP : va_P (dC, dI) vwCl [(h0, .inr (11, [.null, .null, .null, .null, .ref j_bytes, .null, .int 0, .int 0, .int 0, .int 0, .int 0])), (j_bytes, .inl (cI 1, 1902, .inl (fun _ => 0))), (j_variables, .inl (cI 0, 2048, .inl (fun _ => 0)))] H := hP
  replace hD : va_D A [(h0, .inr (11, [.null, .null, .null, .null, .ref j_bytes, .null, .int 0, .int 0, .int 0, .int 0, .int 0])), (j_bytes, .inl (cI 1, 1902, .inl (fun _ => 0))), (j_variables, .inl (cI 0, 2048, .inl (fun _ => 0)))] := hD
  refine va_putF (D := (dC, dI)) (ci := 11) (v := .ref j_variables) (ty := (.array .int)) (C := RX11) (T := TX11) (N := 11) hx hb hts (fun _ h9 => List.mem_cons_of_mem _ (List.mem_append_right _ h9)) tyX11 tyX11_ok nmX11 hown hK hP hD hS 0 rfl rfl 5 (by decide) (hts _ (List.mem_cons_of_mem _ (List.mem_append_left _ (List.mem_of_getElem? (i := 6) rfl)))) (fun _ h9 => h9) rfl hin rfl (by decide +kernel) rfl rfl (Nat.le_of_ble_eq_true rfl) dX11_init_19 ?_
  clear hP hD hS
  intro H locs hP hD hS
  replace hP : va_P (dC, dI) vwCl [(h0, .inr (11, [.null, .null, .null, .null, .ref j_bytes, .ref j_variables, .int 0, .int 0, .int 0, .int 0, .int 0])), (j_bytes, .inl (cI 1, 1902, .inl (fun _ => 0))), (j_variables, .inl (cI 0, 2048, .inl (fun _ => 0)))] H := hP
  replace hD : va_D A [(h0, .inr (11, [.null, .null, .null, .null, .ref j_bytes, .ref j_variables, .int 0, .int 0, .int 0, .int 0, .int 0])), (j_bytes, .inl (cI 1, 1902, .inl (fun _ => 0))), (j_variables, .inl (cI 0, 2048, .inl (fun _ => 0)))] := hD
  refine lv_aload_n hx hb dX11_init_22 rfl (lv_at hl 0 rfl) ?_
  refine lv_aload_n hx hb dX11_init_23 rfl (lv_at hl 1 rfl) ?_
  refine va_putF (D := (dC, dI)) (ci := 11) (v := .ref m0) (ty := (.object "LeanHouse$Types")) (C := RX11) (T := TX11) (N := 11) hx hb hts (fun _ h9 => List.mem_cons_of_mem _ (List.mem_append_right _ h9)) tyX11 tyX11_ok nmX11 hown hK hP hD hS 0 rfl rfl 0 (by decide) (hts _ (List.mem_cons_of_mem _ (List.mem_append_left _ (List.mem_of_getElem? (i := 7) rfl)))) (fun _ h9 => h9) rfl hin rfl (by decide +kernel) rfl rfl (Nat.le_of_ble_eq_true rfl) dX11_init_24 ?_
  clear hP hD hS
  intro H locs hP hD hS
  replace hP : va_P (dC, dI) vwCl [(h0, .inr (11, [.ref m0, .null, .null, .null, .ref j_bytes, .ref j_variables, .int 0, .int 0, .int 0, .int 0, .int 0])), (j_bytes, .inl (cI 1, 1902, .inl (fun _ => 0))), (j_variables, .inl (cI 0, 2048, .inl (fun _ => 0)))] H := hP
  replace hD : va_D A [(h0, .inr (11, [.ref m0, .null, .null, .null, .ref j_bytes, .ref j_variables, .int 0, .int 0, .int 0, .int 0, .int 0])), (j_bytes, .inl (cI 1, 1902, .inl (fun _ => 0))), (j_variables, .inl (cI 0, 2048, .inl (fun _ => 0)))] := hD
  refine lv_aload_n hx hb dX11_init_27 rfl (lv_at hl 0 rfl) ?_
  refine lv_aload_n hx hb dX11_init_28 rfl (lv_at hl 2 rfl) ?_
  refine va_putF (D := (dC, dI)) (ci := 11) (v := .ref m1) (ty := (.object "LeanHouse$Scope")) (C := RX11) (T := TX11) (N := 11) hx hb hts (fun _ h9 => List.mem_cons_of_mem _ (List.mem_append_right _ h9)) tyX11 tyX11_ok nmX11 hown hK hP hD hS 0 rfl rfl 1 (by decide) (hts _ (List.mem_cons_of_mem _ (List.mem_append_left _ (List.mem_of_getElem? (i := 8) rfl)))) (fun _ h9 => h9) rfl hin rfl (by decide +kernel) rfl rfl (Nat.le_of_ble_eq_true rfl) dX11_init_29 ?_
  clear hP hD hS
  intro H locs hP hD hS
  replace hP : va_P (dC, dI) vwCl [(h0, .inr (11, [.ref m0, .ref m1, .null, .null, .ref j_bytes, .ref j_variables, .int 0, .int 0, .int 0, .int 0, .int 0])), (j_bytes, .inl (cI 1, 1902, .inl (fun _ => 0))), (j_variables, .inl (cI 0, 2048, .inl (fun _ => 0)))] H := hP
  replace hD : va_D A [(h0, .inr (11, [.ref m0, .ref m1, .null, .null, .ref j_bytes, .ref j_variables, .int 0, .int 0, .int 0, .int 0, .int 0])), (j_bytes, .inl (cI 1, 1902, .inl (fun _ => 0))), (j_variables, .inl (cI 0, 2048, .inl (fun _ => 0)))] := hD
  refine lv_aload_n hx hb dX11_init_32 rfl (lv_at hl 0 rfl) ?_
  refine lv_aload_n hx hb dX11_init_33 rfl (lv_at hl 3 rfl) ?_
  refine va_putF (D := (dC, dI)) (ci := 11) (v := .ref m2) (ty := (.object "LeanHouse$Lexer")) (C := RX11) (T := TX11) (N := 11) hx hb hts (fun _ h9 => List.mem_cons_of_mem _ (List.mem_append_right _ h9)) tyX11 tyX11_ok nmX11 hown hK hP hD hS 0 rfl rfl 2 (by decide) (hts _ (List.mem_cons_of_mem _ (List.mem_append_left _ (List.mem_of_getElem? (i := 9) rfl)))) (fun _ h9 => h9) rfl hin rfl (by decide +kernel) rfl rfl (Nat.le_of_ble_eq_true rfl) dX11_init_34 ?_
  clear hP hD hS
  intro H locs hP hD hS
  replace hP : va_P (dC, dI) vwCl [(h0, .inr (11, [.ref m0, .ref m1, .ref m2, .null, .ref j_bytes, .ref j_variables, .int 0, .int 0, .int 0, .int 0, .int 0])), (j_bytes, .inl (cI 1, 1902, .inl (fun _ => 0))), (j_variables, .inl (cI 0, 2048, .inl (fun _ => 0)))] H := hP
  replace hD : va_D A [(h0, .inr (11, [.ref m0, .ref m1, .ref m2, .null, .ref j_bytes, .ref j_variables, .int 0, .int 0, .int 0, .int 0, .int 0])), (j_bytes, .inl (cI 1, 1902, .inl (fun _ => 0))), (j_variables, .inl (cI 0, 2048, .inl (fun _ => 0)))] := hD
  refine lv_aload_n hx hb dX11_init_37 rfl (lv_at hl 0 rfl) ?_
  refine lv_aload hx hb dX11_init_38 (lv_at hl 4 rfl) ?_
  refine va_putF (D := (dC, dI)) (ci := 11) (v := .ref m3) (ty := (.array .int)) (C := RX11) (T := TX11) (N := 11) hx hb hts (fun _ h9 => List.mem_cons_of_mem _ (List.mem_append_right _ h9)) tyX11 tyX11_ok nmX11 hown hK hP hD hS 0 rfl rfl 3 (by decide) (hts _ (List.mem_cons_of_mem _ (List.mem_append_left _ (List.mem_of_getElem? (i := 10) rfl)))) (fun _ h9 => h9) rfl hin rfl (by decide +kernel) rfl rfl (Nat.le_of_ble_eq_true rfl) dX11_init_40 ?_
  clear hP hD hS
  intro H locs hP hD hS
  replace hP : va_P (dC, dI) vwCl [(h0, .inr (11, [.ref m0, .ref m1, .ref m2, .ref m3, .ref j_bytes, .ref j_variables, .int 0, .int 0, .int 0, .int 0, .int 0])), (j_bytes, .inl (cI 1, 1902, .inl (fun _ => 0))), (j_variables, .inl (cI 0, 2048, .inl (fun _ => 0)))] H := hP
  replace hD : va_D A [(h0, .inr (11, [.ref m0, .ref m1, .ref m2, .ref m3, .ref j_bytes, .ref j_variables, .int 0, .int 0, .int 0, .int 0, .int 0])), (j_bytes, .inl (cI 1, 1902, .inl (fun _ => 0))), (j_variables, .inl (cI 0, 2048, .inl (fun _ => 0)))] := hD
  have hP9 := hP.sub (ws' := [(h0, .inr (11, [.ref m0, .ref m1, .ref m2, .ref m3, .ref j_bytes, .ref j_variables, .int 0, .int 0, .int 0, .int 0, .int 0])), (j_bytes, .inl (cI 1, 1902, .inl (fun _ => 0))), (j_variables, .inl (cI 0, 2048, .inl (fun _ => 0)))]) [0, 1, 2] rfl
  have hD9 := hD.sub (ws' := [(h0, .inr (11, [.ref m0, .ref m1, .ref m2, .ref m3, .ref j_bytes, .ref j_variables, .int 0, .int 0, .int 0, .int 0, .int 0])), (j_bytes, .inl (cI 1, 1902, .inl (fun _ => 0))), (j_variables, .inl (cI 0, 2048, .inl (fun _ => 0)))]) [0, 1, 2] (by decide) rfl
  have hK9 := hK.sub (tys' := [(cI 0, .int), (cI 1, .byte), (cI 2, .long)]) [0, 1, 2] rfl
  exact W.vret hx hb hr (fun t ht hW => ⟨⟨(j_bytes, j_variables), rfl, trivial, wE.of ht hW hP9 hK9 hD9⟩, hS.F ht⟩) hS.2.2 dX11_init_43

theorem dX7_init_0 : decode cX7_init 0 = .ok (.aload_n 0, 1) := by decide +kernel
theorem dX7_init_1 : decode cX7_init 1 = .ok (.invokespecial 3, 3) := by decide +kernel
theorem dX7_init_4 : decode cX7_init 4 = .ok (.aload_n 0, 1) := by decide +kernel
theorem dX7_init_5 : decode cX7_init 5 = .ok (.sipush 10240, 3) := by decide +kernel
theorem dX7_init_8 : decode cX7_init 8 = .ok (.newarray .int, 2) := by decide +kernel
theorem dX7_init_10 : decode cX7_init 10 = .ok (.putfield 11, 3) := by decide +kernel
theorem dX7_init_13 : decode cX7_init 13 = .ok (.aload_n 0, 1) := by decide +kernel
theorem dX7_init_14 : decode cX7_init 14 = .ok (.sipush 10240, 3) := by decide +kernel
theorem dX7_init_17 : decode cX7_init 17 = .ok (.newarray .int, 2) := by decide +kernel
theorem dX7_init_19 : decode cX7_init 19 = .ok (.putfield 15, 3) := by decide +kernel
theorem dX7_init_22 : decode cX7_init 22 = .ok (.aload_n 0, 1) := by decide +kernel
theorem dX7_init_23 : decode cX7_init 23 = .ok (.sipush 10240, 3) := by decide +kernel
theorem dX7_init_26 : decode cX7_init 26 = .ok (.newarray .int, 2) := by decide +kernel
theorem dX7_init_28 : decode cX7_init 28 = .ok (.putfield 18, 3) := by decide +kernel
theorem dX7_init_31 : decode cX7_init 31 = .ok (.aload_n 0, 1) := by decide +kernel
theorem dX7_init_32 : decode cX7_init 32 = .ok (.sipush 10240, 3) := by decide +kernel
theorem dX7_init_35 : decode cX7_init 35 = .ok (.newarray .int, 2) := by decide +kernel
theorem dX7_init_37 : decode cX7_init 37 = .ok (.putfield 21, 3) := by decide +kernel
theorem dX7_init_40 : decode cX7_init 40 = .ok (.aload_n 0, 1) := by decide +kernel
theorem dX7_init_41 : decode cX7_init 41 = .ok (.sipush 10240, 3) := by decide +kernel
theorem dX7_init_44 : decode cX7_init 44 = .ok (.newarray .int, 2) := by decide +kernel
theorem dX7_init_46 : decode cX7_init 46 = .ok (.putfield 24, 3) := by decide +kernel
theorem dX7_init_49 : decode cX7_init 49 = .ok (.aload_n 0, 1) := by decide +kernel
theorem dX7_init_50 : decode cX7_init 50 = .ok (.sipush 1024, 3) := by decide +kernel
theorem dX7_init_53 : decode cX7_init 53 = .ok (.newarray .int, 2) := by decide +kernel
theorem dX7_init_55 : decode cX7_init 55 = .ok (.putfield 27, 3) := by decide +kernel
theorem dX7_init_58 : decode cX7_init 58 = .ok (.aload_n 0, 1) := by decide +kernel
theorem dX7_init_59 : decode cX7_init 59 = .ok (.sipush 1024, 3) := by decide +kernel
theorem dX7_init_62 : decode cX7_init 62 = .ok (.newarray .int, 2) := by decide +kernel
theorem dX7_init_64 : decode cX7_init 64 = .ok (.putfield 30, 3) := by decide +kernel
theorem dX7_init_67 : decode cX7_init 67 = .ok (.aload_n 0, 1) := by decide +kernel
theorem dX7_init_68 : decode cX7_init 68 = .ok (.aload_n 1, 1) := by decide +kernel
theorem dX7_init_69 : decode cX7_init 69 = .ok (.putfield 33, 3) := by decide +kernel
theorem dX7_init_72 : decode cX7_init 72 = .ok (.return_, 1) := by decide +kernel
def zlX7_init : List Cond := [.methodLink RX7 3 objectInit, .instanceMethod objectInit, .code objectInit ⟨#[0xb1]⟩ 1 none, .arrayClass .int, .fieldLink RX7 11 "LeanHouse$Parser" "op" "[I", .fieldLink RX7 15 "LeanHouse$Parser" "says" "[I", .fieldLink RX7 18 "LeanHouse$Parser" "places" "[I", .fieldLink RX7 21 "LeanHouse$Parser" "link" "[I", .fieldLink RX7 24 "LeanHouse$Parser" "home" "[I", .fieldLink RX7 27 "LeanHouse$Parser" "waiting" "[I", .fieldLink RX7 30 "LeanHouse$Parser" "waitingAt" "[I", .fieldLink RX7 33 "LeanHouse$Parser" "lexer" "LLeanHouse$Lexer;"]
def zsX7_init : List Cond := .code yX7_init cX7_init 2 none :: (zlX7_init ++ (wsX70))
set_option maxHeartbeats 8000000 in
set_option maxRecDepth 100000 in
theorem c_X7_init (l : Launch) (dC : Nat → ClassId) (dI : Nat → Nat → Nat) (sz : Nat) (cI : Nat → ClassId) (h0 : Nat) (m0 : Nat) : Met l yX7_init zsX7_init ({ frames := 2, cells := 7, slots := 53248, locals := 20 } : Jvm.Room) (va_Pc [.ref h0, .ref m0] (wB (dC, dI) vwCl nestM [(cI 0, .int), (cI 1, .byte), (cI 2, .long)] [(h0, .inr (7, [.null, .null, .null, .null, .null, .int 0, .null, .null, .null, .int 0, .int 0, .int 0, .int 0]))] sz)) (va_Qv (fun (u : Nat × Nat × Nat × Nat × Nat × Nat × Nat) => True) (fun (u : Nat × Nat × Nat × Nat × Nat × Nat × Nat) (t : State) => wE (dC, dI) vwCl [(cI 0, .int), (cI 1, .byte), (cI 2, .long)] [(h0, .inr (7, [.ref u.1, .ref u.2.1, .ref u.2.2.1, .ref u.2.2.2.1, .ref u.2.2.2.2.1, .int 0, .ref m0, .ref u.2.2.2.2.2.1, .ref u.2.2.2.2.2.2, .int 0, .int 0, .int 0, .int 0])), (u.1, .inl (cI 0, 10240, .inl (fun _ => 0))), (u.2.1, .inl (cI 0, 10240, .inl (fun _ => 0))), (u.2.2.1, .inl (cI 0, 10240, .inl (fun _ => 0))), (u.2.2.2.1, .inl (cI 0, 10240, .inl (fun _ => 0))), (u.2.2.2.2.1, .inl (cI 0, 10240, .inl (fun _ => 0))), (u.2.2.2.2.2.1, .inl (cI 0, 1024, .inl (fun _ => 0))), (u.2.2.2.2.2.2, .inl (cI 0, 1024, .inl (fun _ => 0)))] (va_A [(h0, .inr (7, [.null, .null, .null, .null, .null, .int 0, .null, .null, .null, .int 0, .int 0, .int 0, .int 0]))] sz) t) (va_A [(h0, .inr (7, [.null, .null, .null, .null, .null, .int 0, .null, .null, .null, .int 0, .int 0, .int 0, .int 0]))] sz)) 7 53248 (va_A [(h0, .inr (7, [.null, .null, .null, .null, .null, .int 0, .null, .null, .null, .int 0, .int 0, .int 0, .int 0]))] sz) := by
  refine Met.ofW (cc := cX7_init) (maxL := 2) (ret := none) (by decide) rfl ?_
  intro p e s m args below meth c s₁ B hml hv
  obtain ⟨rfl, hsz, hP, hK, hD0, hN⟩ := hv
  have hx := B.exec
  have hb := B.bytes
  have hr := B.returns
  have hts := atoms_spec (ws := zsX7_init) B.pre
  have hown : s.vm.findClass RX7 = some m.cls := findClass_of_methodNamed B.named
  have hlocks := B.notSynchronized
  have hin : meth.name = "<init>" := (name_of_methodNamed B.named B.method).1
  subst hsz
  have hD := hD0.self (sz := s.heap.size)
  generalize hAe : va_A [(h0, .inr (7, [.null, .null, .null, .null, .null, .int 0, .null, .null, .null, .int 0, .int 0, .int 0, .int 0]))] s.heap.size = A at hD ⊢
  have hA : ∀ q : Nat, s.heap.size ≤ q → A q := fun q h => by rw [← hAe]; exact Or.inr h
  have hS : va_S A s.heap s.heap [] := va_S.rf
  have hP : va_P (dC, dI) vwCl [(h0, .inr (7, [.null, .null, .null, .null, .null, .int 0, .null, .null, .null, .int 0, .int 0, .int 0, .int 0]))] s.heap := hP
  have hl := lv_entry ([.ref h0, .ref m0]) (n := 2) (Nat.le_of_ble_eq_true rfl)
  rw [lg_entry_eq]
  generalize (lg_sl ([.ref h0, .ref m0]) ++ List.replicate (2 - (lg_sl ([.ref h0, .ref m0])).length) Slot.unset).toArray = ls at hl ⊢
  have hl : lv_has ls 2 [(0, .ref h0), (1, .ref m0)] := hl
  refine lv_aload_n hx hb dX7_init_0 rfl (lv_at hl 0 rfl) ?_
  refine W.objInit hx hb hown (hts _ (List.mem_cons_of_mem _ (List.mem_append_left _ (List.mem_of_getElem? (i := 0) rfl)))) (hts _ (List.mem_cons_of_mem _ (List.mem_append_left _ (List.mem_of_getElem? (i := 1) rfl)))) (hts _ (List.mem_cons_of_mem _ (List.mem_append_left _ (List.mem_of_getElem? (i := 2) rfl)))) rfl (by rw [hml]; exact hl.1) rfl dX7_init_1 (Nat.le_of_ble_eq_true rfl) (Nat.le_of_ble_eq_true rfl) ?_
  refine lv_aload_n hx hb dX7_init_4 rfl (lv_at hl 0 rfl) ?_
  refine lv_sipush (v := 10240) hx hb dX7_init_5 (by decide) ?_
  refine va_newa (atype := .int) (ty := .int) (N' := 10240) (a0 := (10240, .inl (fun _ => 0))) hx hb (hts _ (List.mem_cons_of_mem _ (List.mem_append_left _ (List.mem_of_getElem? (i := 3) rfl)))) rfl hK hP hD hS hA (fun _ => rfl) (by decide) (by decide) (Nat.le_of_ble_eq_true rfl) (Nat.le_of_ble_eq_true rfl) (Nat.le_of_ble_eq_true rfl) dX7_init_8 ?_
  clear hK hP hD hS
  intro k_op k_opc H hK hP hD hS
  replace hK : va_K (dC, dI) vwCl [(cI 0, .int), (cI 1, .byte), (cI 2, .long), (k_opc, .int)] s := hK
  obtain rfl : k_opc = cI 0 := k_one hK 3 0 rfl rfl (fun _ z => by cases z)
  replace hK := hK.sub (tys' := [(cI 0, .int), (cI 1, .byte), (cI 2, .long)]) [0, 1, 2] rfl
  replace hP : va_P (dC, dI) vwCl [(h0, .inr (7, [.null, .null, .null, .null, .null, .int 0, .null, .null, .null, .int 0, .int 0, .int 0, .int 0])), (k_op, .inl (cI 0, 10240, .inl (fun _ => 0)))] H := hP
  replace hD : va_D A [(h0, .inr (7, [.null, .null, .null, .null, .null, .int 0, .null, .null, .null, .int 0, .int 0, .int 0, .int 0])), (k_op, .inl (cI 0, 10240, .inl (fun _ => 0)))] := hD
  refine va_putF (D := (dC, dI)) (ci := 7) (v := .ref k_op) (ty := (.array .int)) (C := RX7) (T := TX7) (N := 13) hx hb hts (fun _ h9 => List.mem_cons_of_mem _ (List.mem_append_right _ h9)) tyX7 tyX7_ok nmX7 hown hK hP hD hS 0 rfl rfl 0 (by decide) (hts _ (List.mem_cons_of_mem _ (List.mem_append_left _ (List.mem_of_getElem? (i := 4) rfl)))) (fun _ h9 => h9) rfl hin rfl (by decide +kernel) rfl rfl (Nat.le_of_ble_eq_true rfl) dX7_init_10 ?_
  clear hP hD hS
  intro H locs hP hD hS
  replace hP : va_P (dC, dI) vwCl [(h0, .inr (7, [.ref k_op, .null, .null, .null, .null, .int 0, .null, .null, .null, .int 0, .int 0, .int 0, .int 0])), (k_op, .inl (cI 0, 10240, .inl (fun _ => 0)))] H := hP
  replace hD : va_D A [(h0, .inr (7, [.ref k_op, .null, .null, .null, .null, .int 0, .null, .null, .null, .int 0, .int 0, .int 0, .int 0])), (k_op, .inl (cI 0, 10240, .inl (fun _ => 0)))] := hD
  refine lv_aload_n hx hb dX7_init_13 rfl (lv_at hl 0 rfl) ?_
  refine lv_sipush (v := 10240) hx hb dX7_init_14 (by decide) ?_
  refine va_newa (atype := .int) (ty := .int) (N' := 10240) (a0 := (10240, .inl (fun _ => 0))) hx hb (hts _ (List.mem_cons_of_mem _ (List.mem_append_left _ (List.mem_of_getElem? (i := 3) rfl)))) rfl hK hP hD hS hA (fun _ => rfl) (by decide) (by decide) (Nat.le_of_ble_eq_true rfl) (Nat.le_of_ble_eq_true rfl) (Nat.le_of_ble_eq_true rfl) dX7_init_17 ?_
  clear hK hP hD hS
  intro k_says k_saysc H hK hP hD hS
  replace hK : va_K (dC, dI) vwCl [(cI 0, .int), (cI 1, .byte), (cI 2, .long), (k_saysc, .int)] s := hK
  obtain rfl : k_saysc = cI 0 := k_one hK 3 0 rfl rfl (fun _ z => by cases z)
  replace hK := hK.sub (tys' := [(cI 0, .int), (cI 1, .byte), (cI 2, .long)]) [0, 1, 2] rfl
  replace hP : va_P (dC, dI) vwCl [(h0, .inr (7, [.ref k_op, .null, .null, .null, .null, .int 0, .null, .null, .null, .int 0, .int 0, .int 0, .int 0])), (k_op, .inl (cI 0, 10240, .inl (fun _ => 0))), (k_says, .inl (cI 0, 10240, .inl (fun _ => 0)))] H := hP
  replace hD : va_D A [(h0, .inr (7, [.ref k_op, .null, .null, .null, .null, .int 0, .null, .null, .null, .int 0, .int 0, .int 0, .int 0])), (k_op, .inl (cI 0, 10240, .inl (fun _ => 0))), (k_says, .inl (cI 0, 10240, .inl (fun _ => 0)))] := hD
  refine va_putF (D := (dC, dI)) (ci := 7) (v := .ref k_says) (ty := (.array .int)) (C := RX7) (T := TX7) (N := 13) hx hb hts (fun _ h9 => List.mem_cons_of_mem _ (List.mem_append_right _ h9)) tyX7 tyX7_ok nmX7 hown hK hP hD hS 0 rfl rfl 1 (by decide) (hts _ (List.mem_cons_of_mem _ (List.mem_append_left _ (List.mem_of_getElem? (i := 5) rfl)))) (fun _ h9 => h9) rfl hin rfl (by decide +kernel) rfl rfl (Nat.le_of_ble_eq_true rfl) dX7_init_19 ?_
  clear hP hD hS
  intro H locs hP hD hS
  replace hP : va_P (dC, dI) vwCl [(h0, .inr (7, [.ref k_op, .ref k_says, .null, .null, .null, .int 0, .null, .null, .null, .int 0, .int 0, .int 0, .int 0])), (k_op, .inl (cI 0, 10240, .inl (fun _ => 0))), (k_says, .inl (cI 0, 10240, .inl (fun _ => 0)))] H := hP
  replace hD : va_D A [(h0, .inr (7, [.ref k_op, .ref k_says, .null, .null, .null, .int 0, .null, .null, .null, .int 0, .int 0, .int 0, .int 0])), (k_op, .inl (cI 0, 10240, .inl (fun _ => 0))), (k_says, .inl (cI 0, 10240, .inl (fun _ => 0)))] := hD
  refine lv_aload_n hx hb dX7_init_22 rfl (lv_at hl 0 rfl) ?_
  refine lv_sipush (v := 10240) hx hb dX7_init_23 (by decide) ?_
  refine va_newa (atype := .int) (ty := .int) (N' := 10240) (a0 := (10240, .inl (fun _ => 0))) hx hb (hts _ (List.mem_cons_of_mem _ (List.mem_append_left _ (List.mem_of_getElem? (i := 3) rfl)))) rfl hK hP hD hS hA (fun _ => rfl) (by decide) (by decide) (Nat.le_of_ble_eq_true rfl) (Nat.le_of_ble_eq_true rfl) (Nat.le_of_ble_eq_true rfl) dX7_init_26 ?_
  clear hK hP hD hS
  intro k_places k_placesc H hK hP hD hS
  replace hK : va_K (dC, dI) vwCl [(cI 0, .int), (cI 1, .byte), (cI 2, .long), (k_placesc, .int)] s := hK
  obtain rfl : k_placesc = cI 0 := k_one hK 3 0 rfl rfl (fun _ z => by cases z)
  replace hK := hK.sub (tys' := [(cI 0, .int), (cI 1, .byte), (cI 2, .long)]) [0, 1, 2] rfl
  replace hP : va_P (dC, dI) vwCl [(h0, .inr (7, [.ref k_op, .ref k_says, .null, .null, .null, .int 0, .null, .null, .null, .int 0, .int 0, .int 0, .int 0])), (k_op, .inl (cI 0, 10240, .inl (fun _ => 0))), (k_says, .inl (cI 0, 10240, .inl (fun _ => 0))), (k_places, .inl (cI 0, 10240, .inl (fun _ => 0)))] H := hP
  replace hD : va_D A [(h0, .inr (7, [.ref k_op, .ref k_says, .null, .null, .null, .int 0, .null, .null, .null, .int 0, .int 0, .int 0, .int 0])), (k_op, .inl (cI 0, 10240, .inl (fun _ => 0))), (k_says, .inl (cI 0, 10240, .inl (fun _ => 0))), (k_places, .inl (cI 0, 10240, .inl (fun _ => 0)))] := hD
  refine va_putF (D := (dC, dI)) (ci := 7) (v := .ref k_places) (ty := (.array .int)) (C := RX7) (T := TX7) (N := 13) hx hb hts (fun _ h9 => List.mem_cons_of_mem _ (List.mem_append_right _ h9)) tyX7 tyX7_ok nmX7 hown hK hP hD hS 0 rfl rfl 2 (by decide) (hts _ (List.mem_cons_of_mem _ (List.mem_append_left _ (List.mem_of_getElem? (i := 6) rfl)))) (fun _ h9 => h9) rfl hin rfl (by decide +kernel) rfl rfl (Nat.le_of_ble_eq_true rfl) dX7_init_28 ?_
  clear hP hD hS
  intro H locs hP hD hS
  replace hP : va_P (dC, dI) vwCl [(h0, .inr (7, [.ref k_op, .ref k_says, .ref k_places, .null, .null, .int 0, .null, .null, .null, .int 0, .int 0, .int 0, .int 0])), (k_op, .inl (cI 0, 10240, .inl (fun _ => 0))), (k_says, .inl (cI 0, 10240, .inl (fun _ => 0))), (k_places, .inl (cI 0, 10240, .inl (fun _ => 0)))] H := hP
  replace hD : va_D A [(h0, .inr (7, [.ref k_op, .ref k_says, .ref k_places, .null, .null, .int 0, .null, .null, .null, .int 0, .int 0, .int 0, .int 0])), (k_op, .inl (cI 0, 10240, .inl (fun _ => 0))), (k_says, .inl (cI 0, 10240, .inl (fun _ => 0))), (k_places, .inl (cI 0, 10240, .inl (fun _ => 0)))] := hD
  refine lv_aload_n hx hb dX7_init_31 rfl (lv_at hl 0 rfl) ?_
  refine lv_sipush (v := 10240) hx hb dX7_init_32 (by decide) ?_
  refine va_newa (atype := .int) (ty := .int) (N' := 10240) (a0 := (10240, .inl (fun _ => 0))) hx hb (hts _ (List.mem_cons_of_mem _ (List.mem_append_left _ (List.mem_of_getElem? (i := 3) rfl)))) rfl hK hP hD hS hA (fun _ => rfl) (by decide) (by decide) (Nat.le_of_ble_eq_true rfl) (Nat.le_of_ble_eq_true rfl) (Nat.le_of_ble_eq_true rfl) dX7_init_35 ?_
  clear hK hP hD hS
  intro k_link k_linkc H hK hP hD hS
  replace hK : va_K (dC, dI) vwCl [(cI 0, .int), (cI 1, .byte), (cI 2, .long), (k_linkc, .int)] s := hK
  obtain rfl : k_linkc = cI 0 := k_one hK 3 0 rfl rfl (fun _ z => by cases z)
  replace hK := hK.sub (tys' := [(cI 0, .int), (cI 1, .byte), (cI 2, .long)]) [0, 1, 2] rfl
  replace hP : va_P (dC, dI) vwCl [(h0, .inr (7, [.ref k_op, .ref k_says, .ref k_places, .null, .null, .int 0, .null, .null, .null, .int 0, .int 0, .int 0, .int 0])), (k_op, .inl (cI 0, 10240, .inl (fun _ => 0))), (k_says, .inl (cI 0, 10240, .inl (fun _ => 0))), (k_places, .inl (cI 0, 10240, .inl (fun _ => 0))), (k_link, .inl (cI 0, 10240, .inl (fun _ => 0)))] H := hP
  replace hD : va_D A [(h0, .inr (7, [.ref k_op, .ref k_says, .ref k_places, .null, .null, .int 0, .null, .null, .null, .int 0, .int 0, .int 0, .int 0])), (k_op, .inl (cI 0, 10240, .inl (fun _ => 0))), (k_says, .inl (cI 0, 10240, .inl (fun _ => 0))), (k_places, .inl (cI 0, 10240, .inl (fun _ => 0))), (k_link, .inl (cI 0, 10240, .inl (fun _ => 0)))] := hD
  refine va_putF (D := (dC, dI)) (ci := 7) (v := .ref k_link) (ty := (.array .int)) (C := RX7) (T := TX7) (N := 13) hx hb hts (fun _ h9 => List.mem_cons_of_mem _ (List.mem_append_right _ h9)) tyX7 tyX7_ok nmX7 hown hK hP hD hS 0 rfl rfl 3 (by decide) (hts _ (List.mem_cons_of_mem _ (List.mem_append_left _ (List.mem_of_getElem? (i := 7) rfl)))) (fun _ h9 => h9) rfl hin rfl (by decide +kernel) rfl rfl (Nat.le_of_ble_eq_true rfl) dX7_init_37 ?_
  clear hP hD hS
  intro H locs hP hD hS
  replace hP : va_P (dC, dI) vwCl [(h0, .inr (7, [.ref k_op, .ref k_says, .ref k_places, .ref k_link, .null, .int 0, .null, .null, .null, .int 0, .int 0, .int 0, .int 0])), (k_op, .inl (cI 0, 10240, .inl (fun _ => 0))), (k_says, .inl (cI 0, 10240, .inl (fun _ => 0))), (k_places, .inl (cI 0, 10240, .inl (fun _ => 0))), (k_link, .inl (cI 0, 10240, .inl (fun _ => 0)))] H := hP
  replace hD : va_D A [(h0, .inr (7, [.ref k_op, .ref k_says, .ref k_places, .ref k_link, .null, .int 0, .null, .null, .null, .int 0, .int 0, .int 0, .int 0])), (k_op, .inl (cI 0, 10240, .inl (fun _ => 0))), (k_says, .inl (cI 0, 10240, .inl (fun _ => 0))), (k_places, .inl (cI 0, 10240, .inl (fun _ => 0))), (k_link, .inl (cI 0, 10240, .inl (fun _ => 0)))] := hD
  refine lv_aload_n hx hb dX7_init_40 rfl (lv_at hl 0 rfl) ?_
  refine lv_sipush (v := 10240) hx hb dX7_init_41 (by decide) ?_
  refine va_newa (atype := .int) (ty := .int) (N' := 10240) (a0 := (10240, .inl (fun _ => 0))) hx hb (hts _ (List.mem_cons_of_mem _ (List.mem_append_left _ (List.mem_of_getElem? (i := 3) rfl)))) rfl hK hP hD hS hA (fun _ => rfl) (by decide) (by decide) (Nat.le_of_ble_eq_true rfl) (Nat.le_of_ble_eq_true rfl) (Nat.le_of_ble_eq_true rfl) dX7_init_44 ?_
  clear hK hP hD hS
  intro k_home k_homec H hK hP hD hS
  replace hK : va_K (dC, dI) vwCl [(cI 0, .int), (cI 1, .byte), (cI 2, .long), (k_homec, .int)] s := hK
  obtain rfl : k_homec = cI 0 := k_one hK 3 0 rfl rfl (fun _ z => by cases z)
  replace hK := hK.sub (tys' := [(cI 0, .int), (cI 1, .byte), (cI 2, .long)]) [0, 1, 2] rfl
  replace hP : va_P (dC, dI) vwCl [(h0, .inr (7, [.ref k_op, .ref k_says, .ref k_places, .ref k_link, .null, .int 0, .null, .null, .null, .int 0, .int 0, .int 0, .int 0])), (k_op, .inl (cI 0, 10240, .inl (fun _ => 0))), (k_says, .inl (cI 0, 10240, .inl (fun _ => 0))), (k_places, .inl (cI 0, 10240, .inl (fun _ => 0))), (k_link, .inl (cI 0, 10240, .inl (fun _ => 0))), (k_home, .inl (cI 0, 10240, .inl (fun _ => 0)))] H := hP
  replace hD : va_D A [(h0, .inr (7, [.ref k_op, .ref k_says, .ref k_places, .ref k_link, .null, .int 0, .null, .null, .null, .int 0, .int 0, .int 0, .int 0])), (k_op, .inl (cI 0, 10240, .inl (fun _ => 0))), (k_says, .inl (cI 0, 10240, .inl (fun _ => 0))), (k_places, .inl (cI 0, 10240, .inl (fun _ => 0))), (k_link, .inl (cI 0, 10240, .inl (fun _ => 0))), (k_home, .inl (cI 0, 10240, .inl (fun _ => 0)))] := hD
  refine va_putF (D := (dC, dI)) (ci := 7) (v := .ref k_home) (ty := (.array .int)) (C := RX7) (T := TX7) (N := 13) hx hb hts (fun _ h9 => List.mem_cons_of_mem _ (List.mem_append_right _ h9)) tyX7 tyX7_ok nmX7 hown hK hP hD hS 0 rfl rfl 4 (by decide) (hts _ (List.mem_cons_of_mem _ (List.mem_append_left _ (List.mem_of_getElem? (i := 8) rfl)))) (fun _ h9 => h9) rfl hin rfl (by decide +kernel) rfl rfl (Nat.le_of_ble_eq_true rfl) dX7_init_46 ?_
  clear hP hD hS
  intro H locs hP hD hS
  replace hP : va_P (dC, dI) vwCl [(h0, .inr (7, [.ref k_op, .ref k_says, .ref k_places, .ref k_link, .ref k_home, .int 0, .null, .null, .null, .int 0, .int 0, .int 0, .int 0])), (k_op, .inl (cI 0, 10240, .inl (fun _ => 0))), (k_says, .inl (cI 0, 10240, .inl (fun _ => 0))), (k_places, .inl (cI 0, 10240, .inl (fun _ => 0))), (k_link, .inl (cI 0, 10240, .inl (fun _ => 0))), (k_home, .inl (cI 0, 10240, .inl (fun _ => 0)))] H := hP
  replace hD : va_D A [(h0, .inr (7, [.ref k_op, .ref k_says, .ref k_places, .ref k_link, .ref k_home, .int 0, .null, .null, .null, .int 0, .int 0, .int 0, .int 0])), (k_op, .inl (cI 0, 10240, .inl (fun _ => 0))), (k_says, .inl (cI 0, 10240, .inl (fun _ => 0))), (k_places, .inl (cI 0, 10240, .inl (fun _ => 0))), (k_link, .inl (cI 0, 10240, .inl (fun _ => 0))), (k_home, .inl (cI 0, 10240, .inl (fun _ => 0)))] := hD
  refine lv_aload_n hx hb dX7_init_49 rfl (lv_at hl 0 rfl) ?_
  refine lv_sipush (v := 1024) hx hb dX7_init_50 (by decide) ?_
  refine va_newa (atype := .int) (ty := .int) (N' := 1024) (a0 := (1024, .inl (fun _ => 0))) hx hb (hts _ (List.mem_cons_of_mem _ (List.mem_append_left _ (List.mem_of_getElem? (i := 3) rfl)))) rfl hK hP hD hS hA (fun _ => rfl) (by decide) (by decide) (Nat.le_of_ble_eq_true rfl) (Nat.le_of_ble_eq_true rfl) (Nat.le_of_ble_eq_true rfl) dX7_init_53 ?_
  clear hK hP hD hS
  intro k_waiting k_waitingc H hK hP hD hS
  replace hK : va_K (dC, dI) vwCl [(cI 0, .int), (cI 1, .byte), (cI 2, .long), (k_waitingc, .int)] s := hK
  obtain rfl : k_waitingc = cI 0 := k_one hK 3 0 rfl rfl (fun _ z => by cases z)
  replace hK := hK.sub (tys' := [(cI 0, .int), (cI 1, .byte), (cI 2, .long)]) [0, 1, 2] rfl
  replace hP : va_P (dC, dI) vwCl [(h0, .inr (7, [.ref k_op, .ref k_says, .ref k_places, .ref k_link, .ref k_home, .int 0, .null, .null, .null, .int 0, .int 0, .int 0, .int 0])), (k_op, .inl (cI 0, 10240, .inl (fun _ => 0))), (k_says, .inl (cI 0, 10240, .inl (fun _ => 0))), (k_places, .inl (cI 0, 10240, .inl (fun _ => 0))), (k_link, .inl (cI 0, 10240, .inl (fun _ => 0))), (k_home, .inl (cI 0, 10240, .inl (fun _ => 0))), (k_waiting, .inl (cI 0, 1024, .inl (fun _ => 0)))] H := hP
  replace hD : va_D A [(h0, .inr (7, [.ref k_op, .ref k_says, .ref k_places, .ref k_link, .ref k_home, .int 0, .null, .null, .null, .int 0, .int 0, .int 0, .int 0])), (k_op, .inl (cI 0, 10240, .inl (fun _ => 0))), (k_says, .inl (cI 0, 10240, .inl (fun _ => 0))), (k_places, .inl (cI 0, 10240, .inl (fun _ => 0))), (k_link, .inl (cI 0, 10240, .inl (fun _ => 0))), (k_home, .inl (cI 0, 10240, .inl (fun _ => 0))), (k_waiting, .inl (cI 0, 1024, .inl (fun _ => 0)))] := hD
  refine va_putF (D := (dC, dI)) (ci := 7) (v := .ref k_waiting) (ty := (.array .int)) (C := RX7) (T := TX7) (N := 13) hx hb hts (fun _ h9 => List.mem_cons_of_mem _ (List.mem_append_right _ h9)) tyX7 tyX7_ok nmX7 hown hK hP hD hS 0 rfl rfl 7 (by decide) (hts _ (List.mem_cons_of_mem _ (List.mem_append_left _ (List.mem_of_getElem? (i := 9) rfl)))) (fun _ h9 => h9) rfl hin rfl (by decide +kernel) rfl rfl (Nat.le_of_ble_eq_true rfl) dX7_init_55 ?_
  clear hP hD hS
  intro H locs hP hD hS
  replace hP : va_P (dC, dI) vwCl [(h0, .inr (7, [.ref k_op, .ref k_says, .ref k_places, .ref k_link, .ref k_home, .int 0, .null, .ref k_waiting, .null, .int 0, .int 0, .int 0, .int 0])), (k_op, .inl (cI 0, 10240, .inl (fun _ => 0))), (k_says, .inl (cI 0, 10240, .inl (fun _ => 0))), (k_places, .inl (cI 0, 10240, .inl (fun _ => 0))), (k_link, .inl (cI 0, 10240, .inl (fun _ => 0))), (k_home, .inl (cI 0, 10240, .inl (fun _ => 0))), (k_waiting, .inl (cI 0, 1024, .inl (fun _ => 0)))] H := hP
  replace hD : va_D A [(h0, .inr (7, [.ref k_op, .ref k_says, .ref k_places, .ref k_link, .ref k_home, .int 0, .null, .ref k_waiting, .null, .int 0, .int 0, .int 0, .int 0])), (k_op, .inl (cI 0, 10240, .inl (fun _ => 0))), (k_says, .inl (cI 0, 10240, .inl (fun _ => 0))), (k_places, .inl (cI 0, 10240, .inl (fun _ => 0))), (k_link, .inl (cI 0, 10240, .inl (fun _ => 0))), (k_home, .inl (cI 0, 10240, .inl (fun _ => 0))), (k_waiting, .inl (cI 0, 1024, .inl (fun _ => 0)))] := hD
  refine lv_aload_n hx hb dX7_init_58 rfl (lv_at hl 0 rfl) ?_
  refine lv_sipush (v := 1024) hx hb dX7_init_59 (by decide) ?_
  refine va_newa (atype := .int) (ty := .int) (N' := 1024) (a0 := (1024, .inl (fun _ => 0))) hx hb (hts _ (List.mem_cons_of_mem _ (List.mem_append_left _ (List.mem_of_getElem? (i := 3) rfl)))) rfl hK hP hD hS hA (fun _ => rfl) (by decide) (by decide) (Nat.le_of_ble_eq_true rfl) (Nat.le_of_ble_eq_true rfl) (Nat.le_of_ble_eq_true rfl) dX7_init_62 ?_
  clear hK hP hD hS
  intro k_waitingAt k_waitingAtc H hK hP hD hS
  replace hK : va_K (dC, dI) vwCl [(cI 0, .int), (cI 1, .byte), (cI 2, .long), (k_waitingAtc, .int)] s := hK
  obtain rfl : k_waitingAtc = cI 0 := k_one hK 3 0 rfl rfl (fun _ z => by cases z)
  replace hK := hK.sub (tys' := [(cI 0, .int), (cI 1, .byte), (cI 2, .long)]) [0, 1, 2] rfl
  replace hP : va_P (dC, dI) vwCl [(h0, .inr (7, [.ref k_op, .ref k_says, .ref k_places, .ref k_link, .ref k_home, .int 0, .null, .ref k_waiting, .null, .int 0, .int 0, .int 0, .int 0])), (k_op, .inl (cI 0, 10240, .inl (fun _ => 0))), (k_says, .inl (cI 0, 10240, .inl (fun _ => 0))), (k_places, .inl (cI 0, 10240, .inl (fun _ => 0))), (k_link, .inl (cI 0, 10240, .inl (fun _ => 0))), (k_home, .inl (cI 0, 10240, .inl (fun _ => 0))), (k_waiting, .inl (cI 0, 1024, .inl (fun _ => 0))), (k_waitingAt, .inl (cI 0, 1024, .inl (fun _ => 0)))] H := hP
  replace hD : va_D A [(h0, .inr (7, [.ref k_op, .ref k_says, .ref k_places, .ref k_link, .ref k_home, .int 0, .null, .ref k_waiting, .null, .int 0, .int 0, .int 0, .int 0])), (k_op, .inl (cI 0, 10240, .inl (fun _ => 0))), (k_says, .inl (cI 0, 10240, .inl (fun _ => 0))), (k_places, .inl (cI 0, 10240, .inl (fun _ => 0))), (k_link, .inl (cI 0, 10240, .inl (fun _ => 0))), (k_home, .inl (cI 0, 10240, .inl (fun _ => 0))), (k_waiting, .inl (cI 0, 1024, .inl (fun _ => 0))), (k_waitingAt, .inl (cI 0, 1024, .inl (fun _ => 0)))] := hD
  refine va_putF (D := (dC, dI)) (ci := 7) (v := .ref k_waitingAt) (ty := (.array .int)) (C := RX7) (T := TX7) (N := 13) hx hb hts (fun _ h9 => List.mem_cons_of_mem _ (List.mem_append_right _ h9)) tyX7 tyX7_ok nmX7 hown hK hP hD hS 0 rfl rfl 8 (by decide) (hts _ (List.mem_cons_of_mem _ (List.mem_append_left _ (List.mem_of_getElem? (i := 10) rfl)))) (fun _ h9 => h9) rfl hin rfl (by decide +kernel) rfl rfl (Nat.le_of_ble_eq_true rfl) dX7_init_64 ?_
  clear hP hD hS
  intro H locs hP hD hS
  replace hP : va_P (dC, dI) vwCl [(h0, .inr (7, [.ref k_op, .ref k_says, .ref k_places, .ref k_link, .ref k_home, .int 0, .null, .ref k_waiting, .ref k_waitingAt, .int 0, .int 0, .int 0, .int 0])), (k_op, .inl (cI 0, 10240, .inl (fun _ => 0))), (k_says, .inl (cI 0, 10240, .inl (fun _ => 0))), (k_places, .inl (cI 0, 10240, .inl (fun _ => 0))), (k_link, .inl (cI 0, 10240, .inl (fun _ => 0))), (k_home, .inl (cI 0, 10240, .inl (fun _ => 0))), (k_waiting, .inl (cI 0, 1024, .inl (fun _ => 0))), (k_waitingAt, .inl (cI 0, 1024, .inl (fun _ => 0)))] H := hP
  replace hD : va_D A [(h0, .inr (7, [.ref k_op, .ref k_says, .ref k_places, .ref k_link, .ref k_home, .int 0, .null, .ref k_waiting, .ref k_waitingAt, .int 0, .int 0, .int 0, .int 0])), (k_op, .inl (cI 0, 10240, .inl (fun _ => 0))), (k_says, .inl (cI 0, 10240, .inl (fun _ => 0))), (k_places, .inl (cI 0, 10240, .inl (fun _ => 0))), (k_link, .inl (cI 0, 10240, .inl (fun _ => 0))), (k_home, .inl (cI 0, 10240, .inl (fun _ => 0))), (k_waiting, .inl (cI 0, 1024, .inl (fun _ => 0))), (k_waitingAt, .inl (cI 0, 1024, .inl (fun _ => 0)))] := hD
  refine lv_aload_n hx hb dX7_init_67 rfl (lv_at hl 0 rfl) ?_
  refine lv_aload_n hx hb dX7_init_68 rfl (lv_at hl 1 rfl) ?_
  refine va_putF (D := (dC, dI)) (ci := 7) (v := .ref m0) (ty := (.object "LeanHouse$Lexer")) (C := RX7) (T := TX7) (N := 13) hx hb hts (fun _ h9 => List.mem_cons_of_mem _ (List.mem_append_right _ h9)) tyX7 tyX7_ok nmX7 hown hK hP hD hS 0 rfl rfl 6 (by decide) (hts _ (List.mem_cons_of_mem _ (List.mem_append_left _ (List.mem_of_getElem? (i := 11) rfl)))) (fun _ h9 => h9) rfl hin rfl (by decide +kernel) rfl rfl (Nat.le_of_ble_eq_true rfl) dX7_init_69 ?_
  clear hP hD hS
  intro H locs hP hD hS
  replace hP : va_P (dC, dI) vwCl [(h0, .inr (7, [.ref k_op, .ref k_says, .ref k_places, .ref k_link, .ref k_home, .int 0, .ref m0, .ref k_waiting, .ref k_waitingAt, .int 0, .int 0, .int 0, .int 0])), (k_op, .inl (cI 0, 10240, .inl (fun _ => 0))), (k_says, .inl (cI 0, 10240, .inl (fun _ => 0))), (k_places, .inl (cI 0, 10240, .inl (fun _ => 0))), (k_link, .inl (cI 0, 10240, .inl (fun _ => 0))), (k_home, .inl (cI 0, 10240, .inl (fun _ => 0))), (k_waiting, .inl (cI 0, 1024, .inl (fun _ => 0))), (k_waitingAt, .inl (cI 0, 1024, .inl (fun _ => 0)))] H := hP
  replace hD : va_D A [(h0, .inr (7, [.ref k_op, .ref k_says, .ref k_places, .ref k_link, .ref k_home, .int 0, .ref m0, .ref k_waiting, .ref k_waitingAt, .int 0, .int 0, .int 0, .int 0])), (k_op, .inl (cI 0, 10240, .inl (fun _ => 0))), (k_says, .inl (cI 0, 10240, .inl (fun _ => 0))), (k_places, .inl (cI 0, 10240, .inl (fun _ => 0))), (k_link, .inl (cI 0, 10240, .inl (fun _ => 0))), (k_home, .inl (cI 0, 10240, .inl (fun _ => 0))), (k_waiting, .inl (cI 0, 1024, .inl (fun _ => 0))), (k_waitingAt, .inl (cI 0, 1024, .inl (fun _ => 0)))] := hD
  have hP9 := hP.sub (ws' := [(h0, .inr (7, [.ref k_op, .ref k_says, .ref k_places, .ref k_link, .ref k_home, .int 0, .ref m0, .ref k_waiting, .ref k_waitingAt, .int 0, .int 0, .int 0, .int 0])), (k_op, .inl (cI 0, 10240, .inl (fun _ => 0))), (k_says, .inl (cI 0, 10240, .inl (fun _ => 0))), (k_places, .inl (cI 0, 10240, .inl (fun _ => 0))), (k_link, .inl (cI 0, 10240, .inl (fun _ => 0))), (k_home, .inl (cI 0, 10240, .inl (fun _ => 0))), (k_waiting, .inl (cI 0, 1024, .inl (fun _ => 0))), (k_waitingAt, .inl (cI 0, 1024, .inl (fun _ => 0)))]) [0, 1, 2, 3, 4, 5, 6, 7] rfl
  have hD9 := hD.sub (ws' := [(h0, .inr (7, [.ref k_op, .ref k_says, .ref k_places, .ref k_link, .ref k_home, .int 0, .ref m0, .ref k_waiting, .ref k_waitingAt, .int 0, .int 0, .int 0, .int 0])), (k_op, .inl (cI 0, 10240, .inl (fun _ => 0))), (k_says, .inl (cI 0, 10240, .inl (fun _ => 0))), (k_places, .inl (cI 0, 10240, .inl (fun _ => 0))), (k_link, .inl (cI 0, 10240, .inl (fun _ => 0))), (k_home, .inl (cI 0, 10240, .inl (fun _ => 0))), (k_waiting, .inl (cI 0, 1024, .inl (fun _ => 0))), (k_waitingAt, .inl (cI 0, 1024, .inl (fun _ => 0)))]) [0, 1, 2, 3, 4, 5, 6, 7] (by decide) rfl
  have hK9 := hK.sub (tys' := [(cI 0, .int), (cI 1, .byte), (cI 2, .long)]) [0, 1, 2] rfl
  exact W.vret hx hb hr (fun t ht hW => ⟨⟨(k_op, k_says, k_places, k_link, k_home, k_waiting, k_waitingAt), rfl, trivial, wE.of ht hW hP9 hK9 hD9⟩, hS.F ht⟩) hS.2.2 dX7_init_72

def zlX12_put_v2 : List Cond := []
def zsX12_put_v2 : List Cond := .code yX12_put cX12_put 3 none :: zlX12_put_v2
set_option maxHeartbeats 8000000 in
set_option maxRecDepth 100000 in
theorem c_X12_putX (l : Launch) (dC : Nat → ClassId) (dI : Nat → Nat → Nat) (sz : Nat) (q : Nat) (cA : ClassId) (n : Nat) (f : Nat → Int32) (k : Int32) (v : Int32) (hn : n < 2 ^ 31) (h0 : ¬ k < 0) (h1 : ¬ nI n ≤ k) : Met l yX12_put zsX12_put_v2 ({ frames := 1, cells := 0, slots := 0, locals := 12 } : Jvm.Room) (va_Pc [.ref q, .int k, .int v] (wB (dC, dI) vwCl nestM [(cA, .int)] [(q, .inl (cA, n, .inl f))] sz)) (va_Qv (fun (u : (Nat → Int32)) => u = upd f (Int32.toNatClampNeg k) v) (fun (u : (Nat → Int32)) (t : State) => wE (dC, dI) vwCl [(cA, .int)] [(q, .inl (cA, n, .inl u))] (va_A [(q, .inl (cA, n, .inl f))] sz) t) (va_A [(q, .inl (cA, n, .inl f))] sz)) 0 0 (va_A [(q, .inl (cA, n, .inl f))] sz) := by
  refine Met.ofW (cc := cX12_put) (maxL := 3) (ret := none) (by decide) rfl ?_
  intro p e s m args below meth c s₁ B hml hv
  obtain ⟨rfl, hsz, hP, hK, hD0, hN⟩ := hv
  have hx := B.exec
  have hb := B.bytes
  have hr := B.returns
  have hts := atoms_spec (ws := zsX12_put_v2) B.pre
  have hown : s.vm.findClass RX12 = some m.cls := findClass_of_methodNamed B.named
  have hlocks := B.notSynchronized
  subst hsz
  have hD := hD0.self (sz := s.heap.size)
  generalize hAe : va_A [(q, .inl (cA, n, .inl f))] s.heap.size = A at hD ⊢
  have hA : ∀ q : Nat, s.heap.size ≤ q → A q := fun q h => by rw [← hAe]; exact Or.inr h
  have hS : va_S A s.heap s.heap [] := va_S.rf
  have hP : va_P (dC, dI) vwCl [(q, .inl (cA, n, .inl f))] s.heap := hP
  have hl := lv_entry ([.ref q, .int k, .int v]) (n := 3) (Nat.le_of_ble_eq_true rfl)
  rw [lg_entry_eq]
  generalize (lg_sl ([.ref q, .int k, .int v]) ++ List.replicate (3 - (lg_sl ([.ref q, .int k, .int v])).length) Slot.unset).toArray = ls at hl ⊢
  have hl : lv_has ls 3 [(0, .ref q), (1, .int k), (2, .int v)] := hl
  refine lv_iload_n hx hb dX12_put_0 rfl (lv_at hl 1 rfl) ?_
  refine lv_if_lt (tgt := 14) hx hb dX12_put_1 (by decide) (fun c_1 => absurd c_1 h0) (fun c_1 => ?_)
  refine lv_iload_n hx hb dX12_put_4 rfl (lv_at hl 1 rfl) ?_
  refine lv_aload_n hx hb dX12_put_5 rfl (lv_at hl 0 rfl) ?_
  refine va_alen (D := (dC, dI)) (v := nI n) hx hb hK hP 0 0 rfl rfl rfl dX12_put_6 ?_
  refine lv_icmp_ge (tgt := 14) hx hb dX12_put_7 (by decide) (fun c_2 => absurd c_2 h1) (fun c_2 => ?_)
  refine lv_aload_n hx hb dX12_put_10 rfl (lv_at hl 0 rfl) ?_
  refine lv_iload_n hx hb dX12_put_11 rfl (lv_at hl 1 rfl) ?_
  refine lv_iload_n hx hb dX12_put_12 rfl (lv_at hl 2 rfl) ?_
  refine va_iast (D := (dC, dI)) (i := k) hx hb hK hP hD hS 0 0 rfl rfl (in_of h0 h1 hn) dX12_put_13 ?_
  clear hP hD hS
  intro H locs hP hD hS
  obtain ⟨f_3, ef_3⟩ : ∃ g : Nat → Int32, g = (upd f (Int32.toNatClampNeg (k)) v) := ⟨_, rfl⟩
  replace hP : va_P (dC, dI) vwCl [(q, .inl (cA, n, .inl f_3))] H := by rw [ef_3]; exact hP
  replace hD : va_D A [(q, .inl (cA, n, .inl f_3))] := by rw [ef_3]; exact hD
  have hP9 := hP.sub (ws' := [(q, .inl (cA, n, .inl f_3))]) [0] rfl
  have hD9 := hD.sub (ws' := [(q, .inl (cA, n, .inl f_3))]) [0] (by decide) rfl
  have hK9 := hK.sub (tys' := [(cA, .int)]) [0] rfl
  exact W.vret hx hb hr (fun t ht hW => ⟨⟨f_3, rfl, ef_3, wE.of ht hW hP9 hK9 hD9⟩, hS.F ht⟩) hS.2.2 dX12_put_14

theorem dX9_init_0 : decode cX9_init 0 = .ok (.aload_n 0, 1) := by decide +kernel
theorem dX9_init_1 : decode cX9_init 1 = .ok (.invokespecial 3, 3) := by decide +kernel
theorem dX9_init_4 : decode cX9_init 4 = .ok (.aload_n 0, 1) := by decide +kernel
theorem dX9_init_5 : decode cX9_init 5 = .ok (.ldc 11, 2) := by decide +kernel
theorem dX9_init_7 : decode cX9_init 7 = .ok (.newarray .int, 2) := by decide +kernel
theorem dX9_init_9 : decode cX9_init 9 = .ok (.putfield 12, 3) := by decide +kernel
theorem dX9_init_12 : decode cX9_init 12 = .ok (.aload_n 0, 1) := by decide +kernel
theorem dX9_init_13 : decode cX9_init 13 = .ok (.sipush 24576, 3) := by decide +kernel
theorem dX9_init_16 : decode cX9_init 16 = .ok (.newarray .int, 2) := by decide +kernel
theorem dX9_init_18 : decode cX9_init 18 = .ok (.putfield 16, 3) := by decide +kernel
theorem dX9_init_21 : decode cX9_init 21 = .ok (.aload_n 0, 1) := by decide +kernel
theorem dX9_init_22 : decode cX9_init 22 = .ok (.sipush 350, 3) := by decide +kernel
theorem dX9_init_25 : decode cX9_init 25 = .ok (.newarray .int, 2) := by decide +kernel
theorem dX9_init_27 : decode cX9_init 27 = .ok (.putfield 19, 3) := by decide +kernel
theorem dX9_init_30 : decode cX9_init 30 = .ok (.aload_n 0, 1) := by decide +kernel
theorem dX9_init_31 : decode cX9_init 31 = .ok (.sipush 2176, 3) := by decide +kernel
theorem dX9_init_34 : decode cX9_init 34 = .ok (.newarray .int, 2) := by decide +kernel
theorem dX9_init_36 : decode cX9_init 36 = .ok (.putfield 22, 3) := by decide +kernel
theorem dX9_init_39 : decode cX9_init 39 = .ok (.aload_n 0, 1) := by decide +kernel
theorem dX9_init_40 : decode cX9_init 40 = .ok (.bipush 40, 2) := by decide +kernel
theorem dX9_init_42 : decode cX9_init 42 = .ok (.newarray .int, 2) := by decide +kernel
theorem dX9_init_44 : decode cX9_init 44 = .ok (.putfield 25, 3) := by decide +kernel
theorem dX9_init_47 : decode cX9_init 47 = .ok (.aload_n 0, 1) := by decide +kernel
theorem dX9_init_48 : decode cX9_init 48 = .ok (.sipush 5120, 3) := by decide +kernel
theorem dX9_init_51 : decode cX9_init 51 = .ok (.newarray .int, 2) := by decide +kernel
theorem dX9_init_53 : decode cX9_init 53 = .ok (.putfield 28, 3) := by decide +kernel
theorem dX9_init_56 : decode cX9_init 56 = .ok (.aload_n 0, 1) := by decide +kernel
theorem dX9_init_57 : decode cX9_init 57 = .ok (.ldc 31, 2) := by decide +kernel
theorem dX9_init_59 : decode cX9_init 59 = .ok (.newarray .int, 2) := by decide +kernel
theorem dX9_init_61 : decode cX9_init 61 = .ok (.putfield 32, 3) := by decide +kernel
theorem dX9_init_64 : decode cX9_init 64 = .ok (.aload_n 0, 1) := by decide +kernel
theorem dX9_init_65 : decode cX9_init 65 = .ok (.bipush 82, 2) := by decide +kernel
theorem dX9_init_67 : decode cX9_init 67 = .ok (.newarray .int, 2) := by decide +kernel
theorem dX9_init_69 : decode cX9_init 69 = .ok (.putfield 35, 3) := by decide +kernel
theorem dX9_init_72 : decode cX9_init 72 = .ok (.aload_n 0, 1) := by decide +kernel
theorem dX9_init_73 : decode cX9_init 73 = .ok (.aload_n 1, 1) := by decide +kernel
theorem dX9_init_74 : decode cX9_init 74 = .ok (.putfield 38, 3) := by decide +kernel
theorem dX9_init_77 : decode cX9_init 77 = .ok (.iconst 0, 1) := by decide +kernel
theorem dX9_init_78 : decode cX9_init 78 = .ok (.istore_n 2, 1) := by decide +kernel
theorem dX9_init_79 : decode cX9_init 79 = .ok (.iload_n 2, 1) := by decide +kernel
theorem dX9_init_80 : decode cX9_init 80 = .ok (.sipush 2176, 3) := by decide +kernel
theorem dX9_init_83 : decode cX9_init 83 = .ok (.if_icmp .ge 18, 3) := by decide +kernel
theorem dX9_init_86 : decode cX9_init 86 = .ok (.aload_n 0, 1) := by decide +kernel
theorem dX9_init_87 : decode cX9_init 87 = .ok (.getfield 22, 3) := by decide +kernel
theorem dX9_init_90 : decode cX9_init 90 = .ok (.iload_n 2, 1) := by decide +kernel
theorem dX9_init_91 : decode cX9_init 91 = .ok (.iconst (-1), 1) := by decide +kernel
theorem dX9_init_92 : decode cX9_init 92 = .ok (.invokestatic 42, 3) := by decide +kernel
theorem dX9_init_95 : decode cX9_init 95 = .ok (.iinc 2 1, 3) := by decide +kernel
theorem dX9_init_98 : decode cX9_init 98 = .ok (.goto (-19), 3) := by decide +kernel
theorem dX9_init_101 : decode cX9_init 101 = .ok (.return_, 1) := by decide +kernel
def zlX9_init : List Cond := [.methodLink RX9 3 objectInit, .instanceMethod objectInit, .code objectInit ⟨#[0xb1]⟩ 1 none, .constant RX9 11 (49152), .arrayClass .int, .fieldLink RX9 12 "LeanHouse$Scope" "variables" "[I", .fieldLink RX9 16 "LeanHouse$Scope" "schemes" "[I", .fieldLink RX9 19 "LeanHouse$Scope" "cons" "[I", .fieldLink RX9 22 "LeanHouse$Scope" "conOf" "[I", .fieldLink RX9 25 "LeanHouse$Scope" "typeNames" "[I", .fieldLink RX9 28 "LeanHouse$Scope" "functions" "[I", .constant RX9 31 (81920), .fieldLink RX9 32 "LeanHouse$Scope" "held" "[I", .fieldLink RX9 35 "LeanHouse$Scope" "around" "[I", .fieldLink RX9 38 "LeanHouse$Scope" "types" "LLeanHouse$Types;", .code yX12_put cX12_put 3 none, .initialized RX12, .static yX12_put]
def zsX9_init : List Cond := .code yX9_init cX9_init 3 none :: (zlX9_init ++ (wsX90))
set_option maxRecDepth 20000 in
theorem gzX9_init_X12_put_v2_42 : GoodIn zsX9_init zsX12_put_v2 := (goodIn_r _ [16] (by decide +kernel) (by decide +kernel))
set_option maxHeartbeats 8000000 in
set_option maxRecDepth 100000 in
theorem c_X9_init (l : Launch) (dC : Nat → ClassId) (dI : Nat → Nat → Nat) (sz : Nat) (cI : Nat → ClassId) (h0 : Nat) (m0 : Nat) : Met l yX9_init zsX9_init ({ frames := 2, cells := 8, slots := 163416, locals := 34 } : Jvm.Room) (va_Pc [.ref h0, .ref m0] (wB (dC, dI) vwCl nestM [(cI 0, .int), (cI 1, .byte), (cI 2, .long)] [(h0, .inr (9, [.null, .null, .null, .null, .null, .null, .null, .null, .null, .int 0, .int 0, .int 0, .int 0, .int 0, .int 0, .int 0, .int 0]))] sz)) (va_Qv (fun (u : Nat × Nat × Nat × Nat × Nat × Nat × Nat × Nat × (Nat → Int32)) => ∀ j, j < 2176 → u.2.2.2.2.2.2.2.2 j = -1) (fun (u : Nat × Nat × Nat × Nat × Nat × Nat × Nat × Nat × (Nat → Int32)) (t : State) => wE (dC, dI) vwCl [(cI 0, .int), (cI 1, .byte), (cI 2, .long)] [(h0, .inr (9, [.ref m0, .ref u.1, .ref u.2.1, .ref u.2.2.1, .ref u.2.2.2.1, .ref u.2.2.2.2.1, .ref u.2.2.2.2.2.1, .ref u.2.2.2.2.2.2.1, .ref u.2.2.2.2.2.2.2.1, .int 0, .int 0, .int 0, .int 0, .int 0, .int 0, .int 0, .int 0])), (u.1, .inl (cI 0, 49152, .inl (fun _ => 0))), (u.2.1, .inl (cI 0, 24576, .inl (fun _ => 0))), (u.2.2.1, .inl (cI 0, 350, .inl (fun _ => 0))), (u.2.2.2.1, .inl (cI 0, 2176, .inl u.2.2.2.2.2.2.2.2)), (u.2.2.2.2.1, .inl (cI 0, 40, .inl (fun _ => 0))), (u.2.2.2.2.2.1, .inl (cI 0, 5120, .inl (fun _ => 0))), (u.2.2.2.2.2.2.1, .inl (cI 0, 81920, .inl (fun _ => 0))), (u.2.2.2.2.2.2.2.1, .inl (cI 0, 82, .inl (fun _ => 0)))] (va_A [(h0, .inr (9, [.null, .null, .null, .null, .null, .null, .null, .null, .null, .int 0, .int 0, .int 0, .int 0, .int 0, .int 0, .int 0, .int 0]))] sz) t) (va_A [(h0, .inr (9, [.null, .null, .null, .null, .null, .null, .null, .null, .null, .int 0, .int 0, .int 0, .int 0, .int 0, .int 0, .int 0, .int 0]))] sz)) 8 163416 (va_A [(h0, .inr (9, [.null, .null, .null, .null, .null, .null, .null, .null, .null, .int 0, .int 0, .int 0, .int 0, .int 0, .int 0, .int 0, .int 0]))] sz) := by
  refine Met.ofW (cc := cX9_init) (maxL := 3) (ret := none) (by decide) rfl ?_
  intro p e s m args below meth c s₁ B hml hv
  obtain ⟨rfl, hsz, hP, hK, hD0, hN⟩ := hv
  have hx := B.exec
  have hb := B.bytes
  have hr := B.returns
  have hts := atoms_spec (ws := zsX9_init) B.pre
  have hown : s.vm.findClass RX9 = some m.cls := findClass_of_methodNamed B.named
  have hlocks := B.notSynchronized
  have hin : meth.name = "<init>" := (name_of_methodNamed B.named B.method).1
  subst hsz
  have hD := hD0.self (sz := s.heap.size)
  generalize hAe : va_A [(h0, .inr (9, [.null, .null, .null, .null, .null, .null, .null, .null, .null, .int 0, .int 0, .int 0, .int 0, .int 0, .int 0, .int 0, .int 0]))] s.heap.size = A at hD ⊢
  have hA : ∀ q : Nat, s.heap.size ≤ q → A q := fun q h => by rw [← hAe]; exact Or.inr h
  have hS : va_S A s.heap s.heap [] := va_S.rf
  have hP : va_P (dC, dI) vwCl [(h0, .inr (9, [.null, .null, .null, .null, .null, .null, .null, .null, .null, .int 0, .int 0, .int 0, .int 0, .int 0, .int 0, .int 0, .int 0]))] s.heap := hP
  have hl := lv_entry ([.ref h0, .ref m0]) (n := 3) (Nat.le_of_ble_eq_true rfl)
  rw [lg_entry_eq]
  generalize (lg_sl ([.ref h0, .ref m0]) ++ List.replicate (3 - (lg_sl ([.ref h0, .ref m0])).length) Slot.unset).toArray = ls at hl ⊢
  have hl : lv_has ls 3 [(0, .ref h0), (1, .ref m0)] := hl
  refine lv_aload_n hx hb dX9_init_0 rfl (lv_at hl 0 rfl) ?_
  refine W.objInit hx hb hown (hts _ (List.mem_cons_of_mem _ (List.mem_append_left _ (List.mem_of_getElem? (i := 0) rfl)))) (hts _ (List.mem_cons_of_mem _ (List.mem_append_left _ (List.mem_of_getElem? (i := 1) rfl)))) (hts _ (List.mem_cons_of_mem _ (List.mem_append_left _ (List.mem_of_getElem? (i := 2) rfl)))) rfl (by rw [hml]; exact hl.1) rfl dX9_init_1 (Nat.le_of_ble_eq_true rfl) (Nat.le_of_ble_eq_true rfl) ?_
  refine lv_aload_n hx hb dX9_init_4 rfl (lv_at hl 0 rfl) ?_
  refine lv_ldc (v := 49152) hx hb hown (hts _ (List.mem_cons_of_mem _ (List.mem_append_left _ (List.mem_of_getElem? (i := 3) rfl)))) dX9_init_5 ?_
  refine va_newa (atype := .int) (ty := .int) (N' := 49152) (a0 := (49152, .inl (fun _ => 0))) hx hb (hts _ (List.mem_cons_of_mem _ (List.mem_append_left _ (List.mem_of_getElem? (i := 4) rfl)))) rfl hK hP hD hS hA (fun _ => rfl) (by decide) (by decide) (Nat.le_of_ble_eq_true rfl) (Nat.le_of_ble_eq_true rfl) (Nat.le_of_ble_eq_true rfl) dX9_init_7 ?_
  clear hK hP hD hS
  intro l_variables l_variablesc H hK hP hD hS
  replace hK : va_K (dC, dI) vwCl [(cI 0, .int), (cI 1, .byte), (cI 2, .long), (l_variablesc, .int)] s := hK
  obtain rfl : l_variablesc = cI 0 := k_one hK 3 0 rfl rfl (fun _ z => by cases z)
  replace hK := hK.sub (tys' := [(cI 0, .int), (cI 1, .byte), (cI 2, .long)]) [0, 1, 2] rfl
  replace hP : va_P (dC, dI) vwCl [(h0, .inr (9, [.null, .null, .null, .null, .null, .null, .null, .null, .null, .int 0, .int 0, .int 0, .int 0, .int 0, .int 0, .int 0, .int 0])), (l_variables, .inl (cI 0, 49152, .inl (fun _ => 0)))] H := hP
  replace hD : va_D A [(h0, .inr (9, [.null, .null, .null, .null, .null, .null, .null, .null, .null, .int 0, .int 0, .int 0, .int 0, .int 0, .int 0, .int 0, .int 0])), (l_variables, .inl (cI 0, 49152, .inl (fun _ => 0)))] := hD
  refine va_putF (D := (dC, dI)) (ci := 9) (v := .ref l_variables) (ty := (.array .int)) (C := RX9) (T := TX9) (N := 17) hx hb hts (fun _ h9 => List.mem_cons_of_mem _ (List.mem_append_right _ h9)) tyX9 tyX9_ok nmX9 hown hK hP hD hS 0 rfl rfl 1 (by decide) (hts _ (List.mem_cons_of_mem _ (List.mem_append_left _ (List.mem_of_getElem? (i := 5) rfl)))) (fun _ h9 => h9) rfl hin rfl (by decide +kernel) rfl rfl (Nat.le_of_ble_eq_true rfl) dX9_init_9 ?_
  clear hP hD hS
  intro H locs hP hD hS
  replace hP : va_P (dC, dI) vwCl [(h0, .inr (9, [.null, .ref l_variables, .null, .null, .null, .null, .null, .null, .null, .int 0, .int 0, .int 0, .int 0, .int 0, .int 0, .int 0, .int 0])), (l_variables, .inl (cI 0, 49152, .inl (fun _ => 0)))] H := hP
  replace hD : va_D A [(h0, .inr (9, [.null, .ref l_variables, .null, .null, .null, .null, .null, .null, .null, .int 0, .int 0, .int 0, .int 0, .int 0, .int 0, .int 0, .int 0])), (l_variables, .inl (cI 0, 49152, .inl (fun _ => 0)))] := hD
  refine lv_aload_n hx hb dX9_init_12 rfl (lv_at hl 0 rfl) ?_
  refine lv_sipush (v := 24576) hx hb dX9_init_13 (by decide) ?_
  refine va_newa (atype := .int) (ty := .int) (N' := 24576) (a0 := (24576, .inl (fun _ => 0))) hx hb (hts _ (List.mem_cons_of_mem _ (List.mem_append_left _ (List.mem_of_getElem? (i := 4) rfl)))) rfl hK hP hD hS hA (fun _ => rfl) (by decide) (by decide) (Nat.le_of_ble_eq_true rfl) (Nat.le_of_ble_eq_true rfl) (Nat.le_of_ble_eq_true rfl) dX9_init_16 ?_
  clear hK hP hD hS
  intro l_schemes l_schemesc H hK hP hD hS
  replace hK : va_K (dC, dI) vwCl [(cI 0, .int), (cI 1, .byte), (cI 2, .long), (l_schemesc, .int)] s := hK
  obtain rfl : l_schemesc = cI 0 := k_one hK 3 0 rfl rfl (fun _ z => by cases z)
  replace hK := hK.sub (tys' := [(cI 0, .int), (cI 1, .byte), (cI 2, .long)]) [0, 1, 2] rfl
  replace hP : va_P (dC, dI) vwCl [(h0, .inr (9, [.null, .ref l_variables, .null, .null, .null, .null, .null, .null, .null, .int 0, .int 0, .int 0, .int 0, .int 0, .int 0, .int 0, .int 0])), (l_variables, .inl (cI 0, 49152, .inl (fun _ => 0))), (l_schemes, .inl (cI 0, 24576, .inl (fun _ => 0)))] H := hP
  replace hD : va_D A [(h0, .inr (9, [.null, .ref l_variables, .null, .null, .null, .null, .null, .null, .null, .int 0, .int 0, .int 0, .int 0, .int 0, .int 0, .int 0, .int 0])), (l_variables, .inl (cI 0, 49152, .inl (fun _ => 0))), (l_schemes, .inl (cI 0, 24576, .inl (fun _ => 0)))] := hD
  refine va_putF (D := (dC, dI)) (ci := 9) (v := .ref l_schemes) (ty := (.array .int)) (C := RX9) (T := TX9) (N := 17) hx hb hts (fun _ h9 => List.mem_cons_of_mem _ (List.mem_append_right _ h9)) tyX9 tyX9_ok nmX9 hown hK hP hD hS 0 rfl rfl 2 (by decide) (hts _ (List.mem_cons_of_mem _ (List.mem_append_left _ (List.mem_of_getElem? (i := 6) rfl)))) (fun _ h9 => h9) rfl hin rfl (by decide +kernel) rfl rfl (Nat.le_of_ble_eq_true rfl) dX9_init_18 ?_
  clear hP hD hS
  intro H locs hP hD hS
  replace hP : va_P (dC, dI) vwCl [(h0, .inr (9, [.null, .ref l_variables, .ref l_schemes, .null, .null, .null, .null, .null, .null, .int 0, .int 0, .int 0, .int 0, .int 0, .int 0, .int 0, .int 0])), (l_variables, .inl (cI 0, 49152, .inl (fun _ => 0))), (l_schemes, .inl (cI 0, 24576, .inl (fun _ => 0)))] H := hP
  replace hD : va_D A [(h0, .inr (9, [.null, .ref l_variables, .ref l_schemes, .null, .null, .null, .null, .null, .null, .int 0, .int 0, .int 0, .int 0, .int 0, .int 0, .int 0, .int 0])), (l_variables, .inl (cI 0, 49152, .inl (fun _ => 0))), (l_schemes, .inl (cI 0, 24576, .inl (fun _ => 0)))] := hD
  refine lv_aload_n hx hb dX9_init_21 rfl (lv_at hl 0 rfl) ?_
  refine lv_sipush (v := 350) hx hb dX9_init_22 (by decide) ?_
  refine va_newa (atype := .int) (ty := .int) (N' := 350) (a0 := (350, .inl (fun _ => 0))) hx hb (hts _ (List.mem_cons_of_mem _ (List.mem_append_left _ (List.mem_of_getElem? (i := 4) rfl)))) rfl hK hP hD hS hA (fun _ => rfl) (by decide) (by decide) (Nat.le_of_ble_eq_true rfl) (Nat.le_of_ble_eq_true rfl) (Nat.le_of_ble_eq_true rfl) dX9_init_25 ?_
  clear hK hP hD hS
  intro l_cons l_consc H hK hP hD hS
  replace hK : va_K (dC, dI) vwCl [(cI 0, .int), (cI 1, .byte), (cI 2, .long), (l_consc, .int)] s := hK
  obtain rfl : l_consc = cI 0 := k_one hK 3 0 rfl rfl (fun _ z => by cases z)
  replace hK := hK.sub (tys' := [(cI 0, .int), (cI 1, .byte), (cI 2, .long)]) [0, 1, 2] rfl
  replace hP : va_P (dC, dI) vwCl [(h0, .inr (9, [.null, .ref l_variables, .ref l_schemes, .null, .null, .null, .null, .null, .null, .int 0, .int 0, .int 0, .int 0, .int 0, .int 0, .int 0, .int 0])), (l_variables, .inl (cI 0, 49152, .inl (fun _ => 0))), (l_schemes, .inl (cI 0, 24576, .inl (fun _ => 0))), (l_cons, .inl (cI 0, 350, .inl (fun _ => 0)))] H := hP
  replace hD : va_D A [(h0, .inr (9, [.null, .ref l_variables, .ref l_schemes, .null, .null, .null, .null, .null, .null, .int 0, .int 0, .int 0, .int 0, .int 0, .int 0, .int 0, .int 0])), (l_variables, .inl (cI 0, 49152, .inl (fun _ => 0))), (l_schemes, .inl (cI 0, 24576, .inl (fun _ => 0))), (l_cons, .inl (cI 0, 350, .inl (fun _ => 0)))] := hD
  refine va_putF (D := (dC, dI)) (ci := 9) (v := .ref l_cons) (ty := (.array .int)) (C := RX9) (T := TX9) (N := 17) hx hb hts (fun _ h9 => List.mem_cons_of_mem _ (List.mem_append_right _ h9)) tyX9 tyX9_ok nmX9 hown hK hP hD hS 0 rfl rfl 3 (by decide) (hts _ (List.mem_cons_of_mem _ (List.mem_append_left _ (List.mem_of_getElem? (i := 7) rfl)))) (fun _ h9 => h9) rfl hin rfl (by decide +kernel) rfl rfl (Nat.le_of_ble_eq_true rfl) dX9_init_27 ?_
  clear hP hD hS
  intro H locs hP hD hS
  replace hP : va_P (dC, dI) vwCl [(h0, .inr (9, [.null, .ref l_variables, .ref l_schemes, .ref l_cons, .null, .null, .null, .null, .null, .int 0, .int 0, .int 0, .int 0, .int 0, .int 0, .int 0, .int 0])), (l_variables, .inl (cI 0, 49152, .inl (fun _ => 0))), (l_schemes, .inl (cI 0, 24576, .inl (fun _ => 0))), (l_cons, .inl (cI 0, 350, .inl (fun _ => 0)))] H := hP
  replace hD : va_D A [(h0, .inr (9, [.null, .ref l_variables, .ref l_schemes, .ref l_cons, .null, .null, .null, .null, .null, .int 0, .int 0, .int 0, .int 0, .int 0, .int 0, .int 0, .int 0])), (l_variables, .inl (cI 0, 49152, .inl (fun _ => 0))), (l_schemes, .inl (cI 0, 24576, .inl (fun _ => 0))), (l_cons, .inl (cI 0, 350, .inl (fun _ => 0)))] := hD
  refine lv_aload_n hx hb dX9_init_30 rfl (lv_at hl 0 rfl) ?_
  refine lv_sipush (v := 2176) hx hb dX9_init_31 (by decide) ?_
  refine va_newa (atype := .int) (ty := .int) (N' := 2176) (a0 := (2176, .inl (fun _ => 0))) hx hb (hts _ (List.mem_cons_of_mem _ (List.mem_append_left _ (List.mem_of_getElem? (i := 4) rfl)))) rfl hK hP hD hS hA (fun _ => rfl) (by decide) (by decide) (Nat.le_of_ble_eq_true rfl) (Nat.le_of_ble_eq_true rfl) (Nat.le_of_ble_eq_true rfl) dX9_init_34 ?_
  clear hK hP hD hS
  intro l_conOf l_conOfc H hK hP hD hS
  replace hK : va_K (dC, dI) vwCl [(cI 0, .int), (cI 1, .byte), (cI 2, .long), (l_conOfc, .int)] s := hK
  obtain rfl : l_conOfc = cI 0 := k_one hK 3 0 rfl rfl (fun _ z => by cases z)
  replace hK := hK.sub (tys' := [(cI 0, .int), (cI 1, .byte), (cI 2, .long)]) [0, 1, 2] rfl
  replace hP : va_P (dC, dI) vwCl [(h0, .inr (9, [.null, .ref l_variables, .ref l_schemes, .ref l_cons, .null, .null, .null, .null, .null, .int 0, .int 0, .int 0, .int 0, .int 0, .int 0, .int 0, .int 0])), (l_variables, .inl (cI 0, 49152, .inl (fun _ => 0))), (l_schemes, .inl (cI 0, 24576, .inl (fun _ => 0))), (l_cons, .inl (cI 0, 350, .inl (fun _ => 0))), (l_conOf, .inl (cI 0, 2176, .inl (fun _ => 0)))] H := hP
  replace hD : va_D A [(h0, .inr (9, [.null, .ref l_variables, .ref l_schemes, .ref l_cons, .null, .null, .null, .null, .null, .int 0, .int 0, .int 0, .int 0, .int 0, .int 0, .int 0, .int 0])), (l_variables, .inl (cI 0, 49152, .inl (fun _ => 0))), (l_schemes, .inl (cI 0, 24576, .inl (fun _ => 0))), (l_cons, .inl (cI 0, 350, .inl (fun _ => 0))), (l_conOf, .inl (cI 0, 2176, .inl (fun _ => 0)))] := hD
  refine va_putF (D := (dC, dI)) (ci := 9) (v := .ref l_conOf) (ty := (.array .int)) (C := RX9) (T := TX9) (N := 17) hx hb hts (fun _ h9 => List.mem_cons_of_mem _ (List.mem_append_right _ h9)) tyX9 tyX9_ok nmX9 hown hK hP hD hS 0 rfl rfl 4 (by decide) (hts _ (List.mem_cons_of_mem _ (List.mem_append_left _ (List.mem_of_getElem? (i := 8) rfl)))) (fun _ h9 => h9) rfl hin rfl (by decide +kernel) rfl rfl (Nat.le_of_ble_eq_true rfl) dX9_init_36 ?_
  clear hP hD hS
  intro H locs hP hD hS
  replace hP : va_P (dC, dI) vwCl [(h0, .inr (9, [.null, .ref l_variables, .ref l_schemes, .ref l_cons, .ref l_conOf, .null, .null, .null, .null, .int 0, .int 0, .int 0, .int 0, .int 0, .int 0, .int 0, .int 0])), (l_variables, .inl (cI 0, 49152, .inl (fun _ => 0))), (l_schemes, .inl (cI 0, 24576, .inl (fun _ => 0))), (l_cons, .inl (cI 0, 350, .inl (fun _ => 0))), (l_conOf, .inl (cI 0, 2176, .inl (fun _ => 0)))] H := hP
  replace hD : va_D A [(h0, .inr (9, [.null, .ref l_variables, .ref l_schemes, .ref l_cons, .ref l_conOf, .null, .null, .null, .null, .int 0, .int 0, .int 0, .int 0, .int 0, .int 0, .int 0, .int 0])), (l_variables, .inl (cI 0, 49152, .inl (fun _ => 0))), (l_schemes, .inl (cI 0, 24576, .inl (fun _ => 0))), (l_cons, .inl (cI 0, 350, .inl (fun _ => 0))), (l_conOf, .inl (cI 0, 2176, .inl (fun _ => 0)))] := hD
  refine lv_aload_n hx hb dX9_init_39 rfl (lv_at hl 0 rfl) ?_
  refine lv_bipush (v := 40) hx hb dX9_init_40 (by decide) ?_
  refine va_newa (atype := .int) (ty := .int) (N' := 40) (a0 := (40, .inl (fun _ => 0))) hx hb (hts _ (List.mem_cons_of_mem _ (List.mem_append_left _ (List.mem_of_getElem? (i := 4) rfl)))) rfl hK hP hD hS hA (fun _ => rfl) (by decide) (by decide) (Nat.le_of_ble_eq_true rfl) (Nat.le_of_ble_eq_true rfl) (Nat.le_of_ble_eq_true rfl) dX9_init_42 ?_
  clear hK hP hD hS
  intro l_typeNames l_typeNamesc H hK hP hD hS
  replace hK : va_K (dC, dI) vwCl [(cI 0, .int), (cI 1, .byte), (cI 2, .long), (l_typeNamesc, .int)] s := hK
  obtain rfl : l_typeNamesc = cI 0 := k_one hK 3 0 rfl rfl (fun _ z => by cases z)
  replace hK := hK.sub (tys' := [(cI 0, .int), (cI 1, .byte), (cI 2, .long)]) [0, 1, 2] rfl
  replace hP : va_P (dC, dI) vwCl [(h0, .inr (9, [.null, .ref l_variables, .ref l_schemes, .ref l_cons, .ref l_conOf, .null, .null, .null, .null, .int 0, .int 0, .int 0, .int 0, .int 0, .int 0, .int 0, .int 0])), (l_variables, .inl (cI 0, 49152, .inl (fun _ => 0))), (l_schemes, .inl (cI 0, 24576, .inl (fun _ => 0))), (l_cons, .inl (cI 0, 350, .inl (fun _ => 0))), (l_conOf, .inl (cI 0, 2176, .inl (fun _ => 0))), (l_typeNames, .inl (cI 0, 40, .inl (fun _ => 0)))] H := hP
  replace hD : va_D A [(h0, .inr (9, [.null, .ref l_variables, .ref l_schemes, .ref l_cons, .ref l_conOf, .null, .null, .null, .null, .int 0, .int 0, .int 0, .int 0, .int 0, .int 0, .int 0, .int 0])), (l_variables, .inl (cI 0, 49152, .inl (fun _ => 0))), (l_schemes, .inl (cI 0, 24576, .inl (fun _ => 0))), (l_cons, .inl (cI 0, 350, .inl (fun _ => 0))), (l_conOf, .inl (cI 0, 2176, .inl (fun _ => 0))), (l_typeNames, .inl (cI 0, 40, .inl (fun _ => 0)))] := hD
  refine va_putF (D := (dC, dI)) (ci := 9) (v := .ref l_typeNames) (ty := (.array .int)) (C := RX9) (T := TX9) (N := 17) hx hb hts (fun _ h9 => List.mem_cons_of_mem _ (List.mem_append_right _ h9)) tyX9 tyX9_ok nmX9 hown hK hP hD hS 0 rfl rfl 5 (by decide) (hts _ (List.mem_cons_of_mem _ (List.mem_append_left _ (List.mem_of_getElem? (i := 9) rfl)))) (fun _ h9 => h9) rfl hin rfl (by decide +kernel) rfl rfl (Nat.le_of_ble_eq_true rfl) dX9_init_44 ?_
  clear hP hD hS
  intro H locs hP hD hS
  replace hP : va_P (dC, dI) vwCl [(h0, .inr (9, [.null, .ref l_variables, .ref l_schemes, .ref l_cons, .ref l_conOf, .ref l_typeNames, .null, .null, .null, .int 0, .int 0, .int 0, .int 0, .int 0, .int 0, .int 0, .int 0])), (l_variables, .inl (cI 0, 49152, .inl (fun _ => 0))), (l_schemes, .inl (cI 0, 24576, .inl (fun _ => 0))), (l_cons, .inl (cI 0, 350, .inl (fun _ => 0))), (l_conOf, .inl (cI 0, 2176, .inl (fun _ => 0))), (l_typeNames, .inl (cI 0, 40, .inl (fun _ => 0)))] H := hP
  replace hD : va_D A [(h0, .inr (9, [.null, .ref l_variables, .ref l_schemes, .ref l_cons, .ref l_conOf, .ref l_typeNames, .null, .null, .null, .int 0, .int 0, .int 0, .int 0, .int 0, .int 0, .int 0, .int 0])), (l_variables, .inl (cI 0, 49152, .inl (fun _ => 0))), (l_schemes, .inl (cI 0, 24576, .inl (fun _ => 0))), (l_cons, .inl (cI 0, 350, .inl (fun _ => 0))), (l_conOf, .inl (cI 0, 2176, .inl (fun _ => 0))), (l_typeNames, .inl (cI 0, 40, .inl (fun _ => 0)))] := hD
  refine lv_aload_n hx hb dX9_init_47 rfl (lv_at hl 0 rfl) ?_
  refine lv_sipush (v := 5120) hx hb dX9_init_48 (by decide) ?_
  refine va_newa (atype := .int) (ty := .int) (N' := 5120) (a0 := (5120, .inl (fun _ => 0))) hx hb (hts _ (List.mem_cons_of_mem _ (List.mem_append_left _ (List.mem_of_getElem? (i := 4) rfl)))) rfl hK hP hD hS hA (fun _ => rfl) (by decide) (by decide) (Nat.le_of_ble_eq_true rfl) (Nat.le_of_ble_eq_true rfl) (Nat.le_of_ble_eq_true rfl) dX9_init_51 ?_
  clear hK hP hD hS
  intro l_functions l_functionsc H hK hP hD hS
  replace hK : va_K (dC, dI) vwCl [(cI 0, .int), (cI 1, .byte), (cI 2, .long), (l_functionsc, .int)] s := hK
  obtain rfl : l_functionsc = cI 0 := k_one hK 3 0 rfl rfl (fun _ z => by cases z)
  replace hK := hK.sub (tys' := [(cI 0, .int), (cI 1, .byte), (cI 2, .long)]) [0, 1, 2] rfl
  replace hP : va_P (dC, dI) vwCl [(h0, .inr (9, [.null, .ref l_variables, .ref l_schemes, .ref l_cons, .ref l_conOf, .ref l_typeNames, .null, .null, .null, .int 0, .int 0, .int 0, .int 0, .int 0, .int 0, .int 0, .int 0])), (l_variables, .inl (cI 0, 49152, .inl (fun _ => 0))), (l_schemes, .inl (cI 0, 24576, .inl (fun _ => 0))), (l_cons, .inl (cI 0, 350, .inl (fun _ => 0))), (l_conOf, .inl (cI 0, 2176, .inl (fun _ => 0))), (l_typeNames, .inl (cI 0, 40, .inl (fun _ => 0))), (l_functions, .inl (cI 0, 5120, .inl (fun _ => 0)))] H := hP
  replace hD : va_D A [(h0, .inr (9, [.null, .ref l_variables, .ref l_schemes, .ref l_cons, .ref l_conOf, .ref l_typeNames, .null, .null, .null, .int 0, .int 0, .int 0, .int 0, .int 0, .int 0, .int 0, .int 0])), (l_variables, .inl (cI 0, 49152, .inl (fun _ => 0))), (l_schemes, .inl (cI 0, 24576, .inl (fun _ => 0))), (l_cons, .inl (cI 0, 350, .inl (fun _ => 0))), (l_conOf, .inl (cI 0, 2176, .inl (fun _ => 0))), (l_typeNames, .inl (cI 0, 40, .inl (fun _ => 0))), (l_functions, .inl (cI 0, 5120, .inl (fun _ => 0)))] := hD
  refine va_putF (D := (dC, dI)) (ci := 9) (v := .ref l_functions) (ty := (.array .int)) (C := RX9) (T := TX9) (N := 17) hx hb hts (fun _ h9 => List.mem_cons_of_mem _ (List.mem_append_right _ h9)) tyX9 tyX9_ok nmX9 hown hK hP hD hS 0 rfl rfl 6 (by decide) (hts _ (List.mem_cons_of_mem _ (List.mem_append_left _ (List.mem_of_getElem? (i := 10) rfl)))) (fun _ h9 => h9) rfl hin rfl (by decide +kernel) rfl rfl (Nat.le_of_ble_eq_true rfl) dX9_init_53 ?_
  clear hP hD hS
  intro H locs hP hD hS
  replace hP : va_P (dC, dI) vwCl [(h0, .inr (9, [.null, .ref l_variables, .ref l_schemes, .ref l_cons, .ref l_conOf, .ref l_typeNames, .ref l_functions, .null, .null, .int 0, .int 0, .int 0, .int 0, .int 0, .int 0, .int 0, .int 0])), (l_variables, .inl (cI 0, 49152, .inl (fun _ => 0))), (l_schemes, .inl (cI 0, 24576, .inl (fun _ => 0))), (l_cons, .inl (cI 0, 350, .inl (fun _ => 0))), (l_conOf, .inl (cI 0, 2176, .inl (fun _ => 0))), (l_typeNames, .inl (cI 0, 40, .inl (fun _ => 0))), (l_functions, .inl (cI 0, 5120, .inl (fun _ => 0)))] H := hP
  replace hD : va_D A [(h0, .inr (9, [.null, .ref l_variables, .ref l_schemes, .ref l_cons, .ref l_conOf, .ref l_typeNames, .ref l_functions, .null, .null, .int 0, .int 0, .int 0, .int 0, .int 0, .int 0, .int 0, .int 0])), (l_variables, .inl (cI 0, 49152, .inl (fun _ => 0))), (l_schemes, .inl (cI 0, 24576, .inl (fun _ => 0))), (l_cons, .inl (cI 0, 350, .inl (fun _ => 0))), (l_conOf, .inl (cI 0, 2176, .inl (fun _ => 0))), (l_typeNames, .inl (cI 0, 40, .inl (fun _ => 0))), (l_functions, .inl (cI 0, 5120, .inl (fun _ => 0)))] := hD
  refine lv_aload_n hx hb dX9_init_56 rfl (lv_at hl 0 rfl) ?_
  refine lv_ldc (v := 81920) hx hb hown (hts _ (List.mem_cons_of_mem _ (List.mem_append_left _ (List.mem_of_getElem? (i := 11) rfl)))) dX9_init_57 ?_
  refine va_newa (atype := .int) (ty := .int) (N' := 81920) (a0 := (81920, .inl (fun _ => 0))) hx hb (hts _ (List.mem_cons_of_mem _ (List.mem_append_left _ (List.mem_of_getElem? (i := 4) rfl)))) rfl hK hP hD hS hA (fun _ => rfl) (by decide) (by decide) (Nat.le_of_ble_eq_true rfl) (Nat.le_of_ble_eq_true rfl) (Nat.le_of_ble_eq_true rfl) dX9_init_59 ?_
  clear hK hP hD hS
  intro l_held l_heldc H hK hP hD hS
  replace hK : va_K (dC, dI) vwCl [(cI 0, .int), (cI 1, .byte), (cI 2, .long), (l_heldc, .int)] s := hK
  obtain rfl : l_heldc = cI 0 := k_one hK 3 0 rfl rfl (fun _ z => by cases z)
  replace hK := hK.sub (tys' := [(cI 0, .int), (cI 1, .byte), (cI 2, .long)]) [0, 1, 2] rfl
  replace hP : va_P (dC, dI) vwCl [(h0, .inr (9, [.null, .ref l_variables, .ref l_schemes, .ref l_cons, .ref l_conOf, .ref l_typeNames, .ref l_functions, .null, .null, .int 0, .int 0, .int 0, .int 0, .int 0, .int 0, .int 0, .int 0])), (l_variables, .inl (cI 0, 49152, .inl (fun _ => 0))), (l_schemes, .inl (cI 0, 24576, .inl (fun _ => 0))), (l_cons, .inl (cI 0, 350, .inl (fun _ => 0))), (l_conOf, .inl (cI 0, 2176, .inl (fun _ => 0))), (l_typeNames, .inl (cI 0, 40, .inl (fun _ => 0))), (l_functions, .inl (cI 0, 5120, .inl (fun _ => 0))), (l_held, .inl (cI 0, 81920, .inl (fun _ => 0)))] H := hP
  replace hD : va_D A [(h0, .inr (9, [.null, .ref l_variables, .ref l_schemes, .ref l_cons, .ref l_conOf, .ref l_typeNames, .ref l_functions, .null, .null, .int 0, .int 0, .int 0, .int 0, .int 0, .int 0, .int 0, .int 0])), (l_variables, .inl (cI 0, 49152, .inl (fun _ => 0))), (l_schemes, .inl (cI 0, 24576, .inl (fun _ => 0))), (l_cons, .inl (cI 0, 350, .inl (fun _ => 0))), (l_conOf, .inl (cI 0, 2176, .inl (fun _ => 0))), (l_typeNames, .inl (cI 0, 40, .inl (fun _ => 0))), (l_functions, .inl (cI 0, 5120, .inl (fun _ => 0))), (l_held, .inl (cI 0, 81920, .inl (fun _ => 0)))] := hD
  refine va_putF (D := (dC, dI)) (ci := 9) (v := .ref l_held) (ty := (.array .int)) (C := RX9) (T := TX9) (N := 17) hx hb hts (fun _ h9 => List.mem_cons_of_mem _ (List.mem_append_right _ h9)) tyX9 tyX9_ok nmX9 hown hK hP hD hS 0 rfl rfl 7 (by decide) (hts _ (List.mem_cons_of_mem _ (List.mem_append_left _ (List.mem_of_getElem? (i := 12) rfl)))) (fun _ h9 => h9) rfl hin rfl (by decide +kernel) rfl rfl (Nat.le_of_ble_eq_true rfl) dX9_init_61 ?_
  clear hP hD hS
  intro H locs hP hD hS
  replace hP : va_P (dC, dI) vwCl [(h0, .inr (9, [.null, .ref l_variables, .ref l_schemes, .ref l_cons, .ref l_conOf, .ref l_typeNames, .ref l_functions, .ref l_held, .null, .int 0, .int 0, .int 0, .int 0, .int 0, .int 0, .int 0, .int 0])), (l_variables, .inl (cI 0, 49152, .inl (fun _ => 0))), (l_schemes, .inl (cI 0, 24576, .inl (fun _ => 0))), (l_cons, .inl (cI 0, 350, .inl (fun _ => 0))), (l_conOf, .inl (cI 0, 2176, .inl (fun _ => 0))), (l_typeNames, .inl (cI 0, 40, .inl (fun _ => 0))), (l_functions, .inl (cI 0, 5120, .inl (fun _ => 0))), (l_held, .inl (cI 0, 81920, .inl (fun _ => 0)))] H := hP
  replace hD : va_D A [(h0, .inr (9, [.null, .ref l_variables, .ref l_schemes, .ref l_cons, .ref l_conOf, .ref l_typeNames, .ref l_functions, .ref l_held, .null, .int 0, .int 0, .int 0, .int 0, .int 0, .int 0, .int 0, .int 0])), (l_variables, .inl (cI 0, 49152, .inl (fun _ => 0))), (l_schemes, .inl (cI 0, 24576, .inl (fun _ => 0))), (l_cons, .inl (cI 0, 350, .inl (fun _ => 0))), (l_conOf, .inl (cI 0, 2176, .inl (fun _ => 0))), (l_typeNames, .inl (cI 0, 40, .inl (fun _ => 0))), (l_functions, .inl (cI 0, 5120, .inl (fun _ => 0))), (l_held, .inl (cI 0, 81920, .inl (fun _ => 0)))] := hD
  refine lv_aload_n hx hb dX9_init_64 rfl (lv_at hl 0 rfl) ?_
  refine lv_bipush (v := 82) hx hb dX9_init_65 (by decide) ?_
  refine va_newa (atype := .int) (ty := .int) (N' := 82) (a0 := (82, .inl (fun _ => 0))) hx hb (hts _ (List.mem_cons_of_mem _ (List.mem_append_left _ (List.mem_of_getElem? (i := 4) rfl)))) rfl hK hP hD hS hA (fun _ => rfl) (by decide) (by decide) (Nat.le_of_ble_eq_true rfl) (Nat.le_of_ble_eq_true rfl) (Nat.le_of_ble_eq_true rfl) dX9_init_67 ?_
  clear hK hP hD hS
  intro l_around l_aroundc H hK hP hD hS
  replace hK : va_K (dC, dI) vwCl [(cI 0, .int), (cI 1, .byte), (cI 2, .long), (l_aroundc, .int)] s := hK
  obtain rfl : l_aroundc = cI 0 := k_one hK 3 0 rfl rfl (fun _ z => by cases z)
  replace hK := hK.sub (tys' := [(cI 0, .int), (cI 1, .byte), (cI 2, .long)]) [0, 1, 2] rfl
  replace hP : va_P (dC, dI) vwCl [(h0, .inr (9, [.null, .ref l_variables, .ref l_schemes, .ref l_cons, .ref l_conOf, .ref l_typeNames, .ref l_functions, .ref l_held, .null, .int 0, .int 0, .int 0, .int 0, .int 0, .int 0, .int 0, .int 0])), (l_variables, .inl (cI 0, 49152, .inl (fun _ => 0))), (l_schemes, .inl (cI 0, 24576, .inl (fun _ => 0))), (l_cons, .inl (cI 0, 350, .inl (fun _ => 0))), (l_conOf, .inl (cI 0, 2176, .inl (fun _ => 0))), (l_typeNames, .inl (cI 0, 40, .inl (fun _ => 0))), (l_functions, .inl (cI 0, 5120, .inl (fun _ => 0))), (l_held, .inl (cI 0, 81920, .inl (fun _ => 0))), (l_around, .inl (cI 0, 82, .inl (fun _ => 0)))] H := hP
  replace hD : va_D A [(h0, .inr (9, [.null, .ref l_variables, .ref l_schemes, .ref l_cons, .ref l_conOf, .ref l_typeNames, .ref l_functions, .ref l_held, .null, .int 0, .int 0, .int 0, .int 0, .int 0, .int 0, .int 0, .int 0])), (l_variables, .inl (cI 0, 49152, .inl (fun _ => 0))), (l_schemes, .inl (cI 0, 24576, .inl (fun _ => 0))), (l_cons, .inl (cI 0, 350, .inl (fun _ => 0))), (l_conOf, .inl (cI 0, 2176, .inl (fun _ => 0))), (l_typeNames, .inl (cI 0, 40, .inl (fun _ => 0))), (l_functions, .inl (cI 0, 5120, .inl (fun _ => 0))), (l_held, .inl (cI 0, 81920, .inl (fun _ => 0))), (l_around, .inl (cI 0, 82, .inl (fun _ => 0)))] := hD
  refine va_putF (D := (dC, dI)) (ci := 9) (v := .ref l_around) (ty := (.array .int)) (C := RX9) (T := TX9) (N := 17) hx hb hts (fun _ h9 => List.mem_cons_of_mem _ (List.mem_append_right _ h9)) tyX9 tyX9_ok nmX9 hown hK hP hD hS 0 rfl rfl 8 (by decide) (hts _ (List.mem_cons_of_mem _ (List.mem_append_left _ (List.mem_of_getElem? (i := 13) rfl)))) (fun _ h9 => h9) rfl hin rfl (by decide +kernel) rfl rfl (Nat.le_of_ble_eq_true rfl) dX9_init_69 ?_
  clear hP hD hS
  intro H locs hP hD hS
  replace hP : va_P (dC, dI) vwCl [(h0, .inr (9, [.null, .ref l_variables, .ref l_schemes, .ref l_cons, .ref l_conOf, .ref l_typeNames, .ref l_functions, .ref l_held, .ref l_around, .int 0, .int 0, .int 0, .int 0, .int 0, .int 0, .int 0, .int 0])), (l_variables, .inl (cI 0, 49152, .inl (fun _ => 0))), (l_schemes, .inl (cI 0, 24576, .inl (fun _ => 0))), (l_cons, .inl (cI 0, 350, .inl (fun _ => 0))), (l_conOf, .inl (cI 0, 2176, .inl (fun _ => 0))), (l_typeNames, .inl (cI 0, 40, .inl (fun _ => 0))), (l_functions, .inl (cI 0, 5120, .inl (fun _ => 0))), (l_held, .inl (cI 0, 81920, .inl (fun _ => 0))), (l_around, .inl (cI 0, 82, .inl (fun _ => 0)))] H := hP
  replace hD : va_D A [(h0, .inr (9, [.null, .ref l_variables, .ref l_schemes, .ref l_cons, .ref l_conOf, .ref l_typeNames, .ref l_functions, .ref l_held, .ref l_around, .int 0, .int 0, .int 0, .int 0, .int 0, .int 0, .int 0, .int 0])), (l_variables, .inl (cI 0, 49152, .inl (fun _ => 0))), (l_schemes, .inl (cI 0, 24576, .inl (fun _ => 0))), (l_cons, .inl (cI 0, 350, .inl (fun _ => 0))), (l_conOf, .inl (cI 0, 2176, .inl (fun _ => 0))), (l_typeNames, .inl (cI 0, 40, .inl (fun _ => 0))), (l_functions, .inl (cI 0, 5120, .inl (fun _ => 0))), (l_held, .inl (cI 0, 81920, .inl (fun _ => 0))), (l_around, .inl (cI 0, 82, .inl (fun _ => 0)))] := hD
  refine lv_aload_n hx hb dX9_init_72 rfl (lv_at hl 0 rfl) ?_
  refine lv_aload_n hx hb dX9_init_73 rfl (lv_at hl 1 rfl) ?_
  refine va_putF (D := (dC, dI)) (ci := 9) (v := .ref m0) (ty := (.object "LeanHouse$Types")) (C := RX9) (T := TX9) (N := 17) hx hb hts (fun _ h9 => List.mem_cons_of_mem _ (List.mem_append_right _ h9)) tyX9 tyX9_ok nmX9 hown hK hP hD hS 0 rfl rfl 0 (by decide) (hts _ (List.mem_cons_of_mem _ (List.mem_append_left _ (List.mem_of_getElem? (i := 14) rfl)))) (fun _ h9 => h9) rfl hin rfl (by decide +kernel) rfl rfl (Nat.le_of_ble_eq_true rfl) dX9_init_74 ?_
  clear hP hD hS
  intro H locs hP hD hS
  replace hP : va_P (dC, dI) vwCl [(h0, .inr (9, [.ref m0, .ref l_variables, .ref l_schemes, .ref l_cons, .ref l_conOf, .ref l_typeNames, .ref l_functions, .ref l_held, .ref l_around, .int 0, .int 0, .int 0, .int 0, .int 0, .int 0, .int 0, .int 0])), (l_variables, .inl (cI 0, 49152, .inl (fun _ => 0))), (l_schemes, .inl (cI 0, 24576, .inl (fun _ => 0))), (l_cons, .inl (cI 0, 350, .inl (fun _ => 0))), (l_conOf, .inl (cI 0, 2176, .inl (fun _ => 0))), (l_typeNames, .inl (cI 0, 40, .inl (fun _ => 0))), (l_functions, .inl (cI 0, 5120, .inl (fun _ => 0))), (l_held, .inl (cI 0, 81920, .inl (fun _ => 0))), (l_around, .inl (cI 0, 82, .inl (fun _ => 0)))] H := hP
  replace hD : va_D A [(h0, .inr (9, [.ref m0, .ref l_variables, .ref l_schemes, .ref l_cons, .ref l_conOf, .ref l_typeNames, .ref l_functions, .ref l_held, .ref l_around, .int 0, .int 0, .int 0, .int 0, .int 0, .int 0, .int 0, .int 0])), (l_variables, .inl (cI 0, 49152, .inl (fun _ => 0))), (l_schemes, .inl (cI 0, 24576, .inl (fun _ => 0))), (l_cons, .inl (cI 0, 350, .inl (fun _ => 0))), (l_conOf, .inl (cI 0, 2176, .inl (fun _ => 0))), (l_typeNames, .inl (cI 0, 40, .inl (fun _ => 0))), (l_functions, .inl (cI 0, 5120, .inl (fun _ => 0))), (l_held, .inl (cI 0, 81920, .inl (fun _ => 0))), (l_around, .inl (cI 0, 82, .inl (fun _ => 0)))] := hD
  refine lv_iconst (v := 0) hx hb dX9_init_77 (by decide) ?_
  refine lv_istore_n (lv' := [(2, .int 0), (0, .ref h0), (1, .ref m0)]) hx hb dX9_init_78 rfl hl (by decide) rfl ?_
  clear hl
  intro ls hl
  have lp79 : ∀ (n : Nat) (k : Nat) (g9 : Nat → Int32) (H : Heap) (locs : List Loc) (ls : Array Slot), (k ≤ 2176) → (2177 ≤ k + n) → (∀ j, j < k → g9 j = -1) → va_P (dC, dI) vwCl [(h0, .inr (9, [.ref m0, .ref l_variables, .ref l_schemes, .ref l_cons, .ref l_conOf, .ref l_typeNames, .ref l_functions, .ref l_held, .ref l_around, .int 0, .int 0, .int 0, .int 0, .int 0, .int 0, .int 0, .int 0])), (l_variables, .inl (cI 0, 49152, .inl (fun _ => 0))), (l_schemes, .inl (cI 0, 24576, .inl (fun _ => 0))), (l_cons, .inl (cI 0, 350, .inl (fun _ => 0))), (l_conOf, .inl (cI 0, 2176, .inl g9)), (l_typeNames, .inl (cI 0, 40, .inl (fun _ => 0))), (l_functions, .inl (cI 0, 5120, .inl (fun _ => 0))), (l_held, .inl (cI 0, 81920, .inl (fun _ => 0))), (l_around, .inl (cI 0, 82, .inl (fun _ => 0)))] H → va_D A [(h0, .inr (9, [.ref m0, .ref l_variables, .ref l_schemes, .ref l_cons, .ref l_conOf, .ref l_typeNames, .ref l_functions, .ref l_held, .ref l_around, .int 0, .int 0, .int 0, .int 0, .int 0, .int 0, .int 0, .int 0])), (l_variables, .inl (cI 0, 49152, .inl (fun _ => 0))), (l_schemes, .inl (cI 0, 24576, .inl (fun _ => 0))), (l_cons, .inl (cI 0, 350, .inl (fun _ => 0))), (l_conOf, .inl (cI 0, 2176, .inl g9)), (l_typeNames, .inl (cI 0, 40, .inl (fun _ => 0))), (l_functions, .inl (cI 0, 5120, .inl (fun _ => 0))), (l_held, .inl (cI 0, 81920, .inl (fun _ => 0))), (l_around, .inl (cI 0, 82, .inl (fun _ => 0)))] → va_S A s.heap H locs → lv_has ls 3 [(2, .int (nI k)), (0, .ref h0), (1, .ref m0)] → W p l e ({ frames := 2, cells := 8, slots := 163416, locals := 34 } : Jvm.Room) s m ([.ref h0, .ref m0] : List Value).toArray below meth c H locs 8 163416 (MQ below (va_Qv (fun (u : Nat × Nat × Nat × Nat × Nat × Nat × Nat × Nat × (Nat → Int32)) => ∀ j, j < 2176 → u.2.2.2.2.2.2.2.2 j = -1) (fun (u : Nat × Nat × Nat × Nat × Nat × Nat × Nat × Nat × (Nat → Int32)) (t : State) => wE (dC, dI) vwCl [(cI 0, .int), (cI 1, .byte), (cI 2, .long)] [(h0, .inr (9, [.ref m0, .ref u.1, .ref u.2.1, .ref u.2.2.1, .ref u.2.2.2.1, .ref u.2.2.2.2.1, .ref u.2.2.2.2.2.1, .ref u.2.2.2.2.2.2.1, .ref u.2.2.2.2.2.2.2.1, .int 0, .int 0, .int 0, .int 0, .int 0, .int 0, .int 0, .int 0])), (u.1, .inl (cI 0, 49152, .inl (fun _ => 0))), (u.2.1, .inl (cI 0, 24576, .inl (fun _ => 0))), (u.2.2.1, .inl (cI 0, 350, .inl (fun _ => 0))), (u.2.2.2.1, .inl (cI 0, 2176, .inl u.2.2.2.2.2.2.2.2)), (u.2.2.2.2.1, .inl (cI 0, 40, .inl (fun _ => 0))), (u.2.2.2.2.2.1, .inl (cI 0, 5120, .inl (fun _ => 0))), (u.2.2.2.2.2.2.1, .inl (cI 0, 81920, .inl (fun _ => 0))), (u.2.2.2.2.2.2.2.1, .inl (cI 0, 82, .inl (fun _ => 0)))] A t) A) ([.ref h0, .ref m0] : List Value).toArray s 8 163416 A) (F0 m 79 ls []) := by
    intro n79
    induction n79 with
    | zero =>
      intro k g9 H locs ls hk hm hg hP hD hS hl
      omega
    | succ n79 ih79 =>
      intro k g9 H locs ls hk hm hg hP hD hS hl
      refine lv_iload_n hx hb dX9_init_79 rfl (lv_at hl 0 rfl) ?_
      refine lv_sipush (v := 2176) hx hb dX9_init_80 (by decide) ?_
      refine lv_icmp_ge (tgt := 101) hx hb dX9_init_83 (by decide) (fun c_1 => ?_) (fun c_1 => ?_)
      · have hP9 := hP.sub (ws' := [(h0, .inr (9, [.ref m0, .ref l_variables, .ref l_schemes, .ref l_cons, .ref l_conOf, .ref l_typeNames, .ref l_functions, .ref l_held, .ref l_around, .int 0, .int 0, .int 0, .int 0, .int 0, .int 0, .int 0, .int 0])), (l_variables, .inl (cI 0, 49152, .inl (fun _ => 0))), (l_schemes, .inl (cI 0, 24576, .inl (fun _ => 0))), (l_cons, .inl (cI 0, 350, .inl (fun _ => 0))), (l_conOf, .inl (cI 0, 2176, .inl g9)), (l_typeNames, .inl (cI 0, 40, .inl (fun _ => 0))), (l_functions, .inl (cI 0, 5120, .inl (fun _ => 0))), (l_held, .inl (cI 0, 81920, .inl (fun _ => 0))), (l_around, .inl (cI 0, 82, .inl (fun _ => 0)))]) [0, 1, 2, 3, 4, 5, 6, 7, 8] rfl
        have hD9 := hD.sub (ws' := [(h0, .inr (9, [.ref m0, .ref l_variables, .ref l_schemes, .ref l_cons, .ref l_conOf, .ref l_typeNames, .ref l_functions, .ref l_held, .ref l_around, .int 0, .int 0, .int 0, .int 0, .int 0, .int 0, .int 0, .int 0])), (l_variables, .inl (cI 0, 49152, .inl (fun _ => 0))), (l_schemes, .inl (cI 0, 24576, .inl (fun _ => 0))), (l_cons, .inl (cI 0, 350, .inl (fun _ => 0))), (l_conOf, .inl (cI 0, 2176, .inl g9)), (l_typeNames, .inl (cI 0, 40, .inl (fun _ => 0))), (l_functions, .inl (cI 0, 5120, .inl (fun _ => 0))), (l_held, .inl (cI 0, 81920, .inl (fun _ => 0))), (l_around, .inl (cI 0, 82, .inl (fun _ => 0)))]) [0, 1, 2, 3, 4, 5, 6, 7, 8] (by decide) rfl
        have hK9 := hK.sub (tys' := [(cI 0, .int), (cI 1, .byte), (cI 2, .long)]) [0, 1, 2] rfl
        exact W.vret hx hb hr (fun t ht hW => ⟨⟨(l_variables, l_schemes, l_cons, l_conOf, l_typeNames, l_functions, l_held, l_around, g9), rfl, (fun j hj => hg j (by have h9 : ¬ k < 2176 := fun z => nI_ge (b := 2176) z (by decide) ‹(2176 : Int32) ≤ nI k›; omega)), wE.of ht hW hP9 hK9 hD9⟩, hS.F ht⟩) hS.2.2 dX9_init_101
      · have hlt : k < 2176 := Nat.lt_of_not_le (fun q => c_1 (nI_le (a := 2176) q (by omega)))
        refine lv_aload_n hx hb dX9_init_86 rfl (lv_at hl 1 rfl) ?_
        refine va_get (D := (dC, dI)) (ci := 9) (v := .ref l_conOf) (C := RX9) (T := TX9) (N := 17) hx hb hts (fun _ h9 => List.mem_cons_of_mem _ (List.mem_append_right _ h9)) hown hK hP 0 rfl rfl 4 (by decide) (hts _ (List.mem_cons_of_mem _ (List.mem_append_left _ (List.mem_of_getElem? (i := 8) rfl)))) (fun _ h9 => h9) rfl dX9_init_87 ?_
        refine lv_iload_n hx hb dX9_init_90 rfl (lv_at hl 0 rfl) ?_
        refine lv_iconst (v := (-1)) hx hb dX9_init_91 (by decide) ?_
        refine aft_v (wr := [(h0, .inr (9, [.ref m0, .ref l_variables, .ref l_schemes, .ref l_cons, .ref l_conOf, .ref l_typeNames, .ref l_functions, .ref l_held, .ref l_around, .int 0, .int 0, .int 0, .int 0, .int 0, .int 0, .int 0, .int 0])), (l_variables, .inl (cI 0, 49152, .inl (fun _ => 0))), (l_schemes, .inl (cI 0, 24576, .inl (fun _ => 0))), (l_cons, .inl (cI 0, 350, .inl (fun _ => 0))), (l_typeNames, .inl (cI 0, 40, .inl (fun _ => 0))), (l_functions, .inl (cI 0, 5120, .inl (fun _ => 0))), (l_held, .inl (cI 0, 81920, .inl (fun _ => 0))), (l_around, .inl (cI 0, 82, .inl (fun _ => 0)))]) (va_runSN (As := [.ref l_conOf, .int (nI k), .int (-1)]) (rest := []) ⟨hx, hb, hml, hown, hts⟩ (c_X12_putX l dC dI H.size l_conOf (cI 0) 2176 g9 (nI k) (-1) (by decide) (nI_pos (by omega)) (nI_ge hlt (by decide))) ⟨va_cnB 3 hts gzX9_init_X12_put_v2_42 rfl rfl rfl (hN.at 22 rfl) (hts _ (List.mem_cons_of_mem _ (List.mem_append_left _ (List.mem_of_getElem? (i := 16) rfl)))) (by decide +kernel) ⟨Nat.le_of_ble_eq_true rfl, Nat.le_of_ble_eq_true rfl⟩, (hts _ (List.mem_cons_of_mem _ (List.mem_append_left _ (List.mem_of_getElem? (i := 17) rfl)))), trivial⟩ (wB.preS (hP.sub (ws' := [(l_conOf, .inl (cI 0, 2176, .inl g9))]) [4] rfl) (hK.sub (tys' := [(cI 0, .int)]) [0] rfl) (hD.sub (ws' := [(l_conOf, .inl (cI 0, 2176, .inl g9))]) [4] (by decide) rfl) hN) rfl rfl hl.1 rfl (lv_room (Nat.le_of_ble_eq_true rfl)) dX9_init_92 ⟨Nat.le_of_ble_eq_true rfl, Nat.le_of_ble_eq_true rfl⟩) hP hD hS hA [4] [0, 1, 2, 3, 5, 6, 7, 8] rfl rfl (by decide) (by decide) ?_
        clear hP hD hS
        intro u_2 H locs w_4 hK1 hP hD hS
        obtain ⟨g_5, rfl⟩ : ∃ z, z = u_2 := ⟨_, rfl⟩
        replace hP : va_P (dC, dI) vwCl [(h0, .inr (9, [.ref m0, .ref l_variables, .ref l_schemes, .ref l_cons, .ref l_conOf, .ref l_typeNames, .ref l_functions, .ref l_held, .ref l_around, .int 0, .int 0, .int 0, .int 0, .int 0, .int 0, .int 0, .int 0])), (l_variables, .inl (cI 0, 49152, .inl (fun _ => 0))), (l_schemes, .inl (cI 0, 24576, .inl (fun _ => 0))), (l_cons, .inl (cI 0, 350, .inl (fun _ => 0))), (l_typeNames, .inl (cI 0, 40, .inl (fun _ => 0))), (l_functions, .inl (cI 0, 5120, .inl (fun _ => 0))), (l_held, .inl (cI 0, 81920, .inl (fun _ => 0))), (l_around, .inl (cI 0, 82, .inl (fun _ => 0))), (l_conOf, .inl (cI 0, 2176, .inl g_5))] H := hP
        replace hD : va_D A [(h0, .inr (9, [.ref m0, .ref l_variables, .ref l_schemes, .ref l_cons, .ref l_conOf, .ref l_typeNames, .ref l_functions, .ref l_held, .ref l_around, .int 0, .int 0, .int 0, .int 0, .int 0, .int 0, .int 0, .int 0])), (l_variables, .inl (cI 0, 49152, .inl (fun _ => 0))), (l_schemes, .inl (cI 0, 24576, .inl (fun _ => 0))), (l_cons, .inl (cI 0, 350, .inl (fun _ => 0))), (l_typeNames, .inl (cI 0, 40, .inl (fun _ => 0))), (l_functions, .inl (cI 0, 5120, .inl (fun _ => 0))), (l_held, .inl (cI 0, 81920, .inl (fun _ => 0))), (l_around, .inl (cI 0, 82, .inl (fun _ => 0))), (l_conOf, .inl (cI 0, 2176, .inl g_5))] := hD
        clear hK1
        try dsimp only at w_4
        have w_fill := w_4
        refine lv_iinc (v := nI (k + 1)) (lv' := [(2, .int (nI (k + 1))), (0, .ref h0), (1, .ref m0)]) hx hb dX9_init_95 hl (k := 0) rfl (nI_1 _) (by decide) rfl ?_
        clear hl
        intro ls hl
        refine lv_goto (tgt := 79) hx hb dX9_init_98 (by decide) ?_
        exact ih79 (k + 1) g_5 _ _ _ (by omega) (by omega) (fun j hj => by rw [w_fill, nI_clamp (by omega)]; exact (show (if j = k then (-1 : Int32) else g9 j) = -1 from if hq : j = k then if_pos hq else (if_neg hq).trans (hg j (by omega)))) (hP.sub [0, 1, 2, 3, 8, 4, 5, 6, 7] rfl) (hD.sub [0, 1, 2, 3, 8, 4, 5, 6, 7] (by decide) rfl) hS (lv_sub hl [0, 1, 2] rfl)
  exact lp79 2177 0 (fun _ => 0) _ _ _ (by omega) (by omega) (fun j hj => absurd hj (Nat.not_lt_zero _)) (hP.sub [0, 1, 2, 3, 4, 5, 6, 7, 8] rfl) (hD.sub [0, 1, 2, 3, 4, 5, 6, 7, 8] (by decide) rfl) hS (lv_sub hl [0, 1, 2] rfl)

