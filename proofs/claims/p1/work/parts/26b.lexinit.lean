/-! Lexer(text): the known names are put in; then any state. -/
theorem dX4_init_0 : decode cX4_init 0 = .ok (.aload_n 0, 1) := by decide +kernel
theorem dX4_init_1 : decode cX4_init 1 = .ok (.invokespecial 3, 3) := by decide +kernel
theorem dX4_init_4 : decode cX4_init 4 = .ok (.aload_n 0, 1) := by decide +kernel
theorem dX4_init_5 : decode cX4_init 5 = .ok (.sipush 12288, 3) := by decide +kernel
theorem dX4_init_8 : decode cX4_init 8 = .ok (.newarray .byte, 2) := by decide +kernel
theorem dX4_init_10 : decode cX4_init 10 = .ok (.putfield 11, 3) := by decide +kernel
theorem dX4_init_13 : decode cX4_init 13 = .ok (.aload_n 0, 1) := by decide +kernel
theorem dX4_init_14 : decode cX4_init 14 = .ok (.sipush 201, 3) := by decide +kernel
theorem dX4_init_17 : decode cX4_init 17 = .ok (.newarray .byte, 2) := by decide +kernel
theorem dX4_init_19 : decode cX4_init 19 = .ok (.putfield 15, 3) := by decide +kernel
theorem dX4_init_22 : decode cX4_init 22 = .ok (.aload_n 0, 1) := by decide +kernel
theorem dX4_init_23 : decode cX4_init 23 = .ok (.sipush 2176, 3) := by decide +kernel
theorem dX4_init_26 : decode cX4_init 26 = .ok (.newarray .int, 2) := by decide +kernel
theorem dX4_init_28 : decode cX4_init 28 = .ok (.putfield 18, 3) := by decide +kernel
theorem dX4_init_31 : decode cX4_init 31 = .ok (.aload_n 0, 1) := by decide +kernel
theorem dX4_init_32 : decode cX4_init 32 = .ok (.sipush 2176, 3) := by decide +kernel
theorem dX4_init_35 : decode cX4_init 35 = .ok (.newarray .int, 2) := by decide +kernel
theorem dX4_init_37 : decode cX4_init 37 = .ok (.putfield 22, 3) := by decide +kernel
theorem dX4_init_40 : decode cX4_init 40 = .ok (.aload_n 0, 1) := by decide +kernel
theorem dX4_init_41 : decode cX4_init 41 = .ok (.sipush 512, 3) := by decide +kernel
theorem dX4_init_44 : decode cX4_init 44 = .ok (.newarray .int, 2) := by decide +kernel
theorem dX4_init_46 : decode cX4_init 46 = .ok (.putfield 25, 3) := by decide +kernel
theorem dX4_init_49 : decode cX4_init 49 = .ok (.aload_n 0, 1) := by decide +kernel
theorem dX4_init_50 : decode cX4_init 50 = .ok (.sipush 2176, 3) := by decide +kernel
theorem dX4_init_53 : decode cX4_init 53 = .ok (.newarray .int, 2) := by decide +kernel
theorem dX4_init_55 : decode cX4_init 55 = .ok (.putfield 28, 3) := by decide +kernel
theorem dX4_init_58 : decode cX4_init 58 = .ok (.aload_n 0, 1) := by decide +kernel
theorem dX4_init_59 : decode cX4_init 59 = .ok (.aload_n 1, 1) := by decide +kernel
theorem dX4_init_60 : decode cX4_init 60 = .ok (.putfield 31, 3) := by decide +kernel
theorem dX4_init_63 : decode cX4_init 63 = .ok (.iconst 0, 1) := by decide +kernel
theorem dX4_init_64 : decode cX4_init 64 = .ok (.istore_n 2, 1) := by decide +kernel
theorem dX4_init_65 : decode cX4_init 65 = .ok (.iload_n 2, 1) := by decide +kernel
theorem dX4_init_66 : decode cX4_init 66 = .ok (.sipush 512, 3) := by decide +kernel
theorem dX4_init_69 : decode cX4_init 69 = .ok (.if_icmp .ge 18, 3) := by decide +kernel
theorem dX4_init_72 : decode cX4_init 72 = .ok (.aload_n 0, 1) := by decide +kernel
theorem dX4_init_73 : decode cX4_init 73 = .ok (.getfield 25, 3) := by decide +kernel
theorem dX4_init_76 : decode cX4_init 76 = .ok (.iload_n 2, 1) := by decide +kernel
theorem dX4_init_77 : decode cX4_init 77 = .ok (.iconst (-1), 1) := by decide +kernel
theorem dX4_init_78 : decode cX4_init 78 = .ok (.invokestatic 34, 3) := by decide +kernel
theorem dX4_init_81 : decode cX4_init 81 = .ok (.iinc 2 1, 3) := by decide +kernel
theorem dX4_init_84 : decode cX4_init 84 = .ok (.goto (-19), 3) := by decide +kernel
theorem dX4_init_87 : decode cX4_init 87 = .ok (.iconst 0, 1) := by decide +kernel
theorem dX4_init_88 : decode cX4_init 88 = .ok (.istore_n 2, 1) := by decide +kernel
theorem dX4_init_89 : decode cX4_init 89 = .ok (.iconst 0, 1) := by decide +kernel
theorem dX4_init_90 : decode cX4_init 90 = .ok (.istore_n 3, 1) := by decide +kernel
theorem dX4_init_91 : decode cX4_init 91 = .ok (.iload_n 3, 1) := by decide +kernel
theorem dX4_init_92 : decode cX4_init 92 = .ok (.ldc 38, 2) := by decide +kernel
theorem dX4_init_94 : decode cX4_init 94 = .ok (.invokevirtual 40, 3) := by decide +kernel
theorem dX4_init_97 : decode cX4_init 97 = .ok (.if_icmp .ge 48, 3) := by decide +kernel
theorem dX4_init_100 : decode cX4_init 100 = .ok (.ldc 38, 2) := by decide +kernel
theorem dX4_init_102 : decode cX4_init 102 = .ok (.iload_n 3, 1) := by decide +kernel
theorem dX4_init_103 : decode cX4_init 103 = .ok (.invokevirtual 46, 3) := by decide +kernel
theorem dX4_init_106 : decode cX4_init 106 = .ok (.istore 4, 2) := by decide +kernel
theorem dX4_init_108 : decode cX4_init 108 = .ok (.iload 4, 2) := by decide +kernel
theorem dX4_init_110 : decode cX4_init 110 = .ok (.bipush 32, 2) := by decide +kernel
theorem dX4_init_112 : decode cX4_init 112 = .ok (.if_icmp .eq 19, 3) := by decide +kernel
theorem dX4_init_115 : decode cX4_init 115 = .ok (.aload_n 0, 1) := by decide +kernel
theorem dX4_init_116 : decode cX4_init 116 = .ok (.getfield 15, 3) := by decide +kernel
theorem dX4_init_119 : decode cX4_init 119 = .ok (.iload_n 2, 1) := by decide +kernel
theorem dX4_init_120 : decode cX4_init 120 = .ok (.iinc 2 1, 3) := by decide +kernel
theorem dX4_init_123 : decode cX4_init 123 = .ok (.iload 4, 2) := by decide +kernel
theorem dX4_init_125 : decode cX4_init 125 = .ok (.invokestatic 50, 3) := by decide +kernel
theorem dX4_init_128 : decode cX4_init 128 = .ok (.goto 11, 3) := by decide +kernel
theorem dX4_init_131 : decode cX4_init 131 = .ok (.aload_n 0, 1) := by decide +kernel
theorem dX4_init_132 : decode cX4_init 132 = .ok (.iload_n 2, 1) := by decide +kernel
theorem dX4_init_133 : decode cX4_init 133 = .ok (.invokevirtual 54, 3) := by decide +kernel
theorem dX4_init_136 : decode cX4_init 136 = .ok (.pop, 1) := by decide +kernel
theorem dX4_init_137 : decode cX4_init 137 = .ok (.iconst 0, 1) := by decide +kernel
theorem dX4_init_138 : decode cX4_init 138 = .ok (.istore_n 2, 1) := by decide +kernel
theorem dX4_init_139 : decode cX4_init 139 = .ok (.iinc 3 1, 3) := by decide +kernel
theorem dX4_init_142 : decode cX4_init 142 = .ok (.goto (-51), 3) := by decide +kernel
theorem dX4_init_145 : decode cX4_init 145 = .ok (.aload_n 0, 1) := by decide +kernel
theorem dX4_init_146 : decode cX4_init 146 = .ok (.aload_n 0, 1) := by decide +kernel
theorem dX4_init_147 : decode cX4_init 147 = .ok (.getfield 58, 3) := by decide +kernel
theorem dX4_init_150 : decode cX4_init 150 = .ok (.putfield 62, 3) := by decide +kernel
theorem dX4_init_153 : decode cX4_init 153 = .ok (.return_, 1) := by decide +kernel
def zlX4_init : List Cond := [.methodLink RX4 3 objectInit, .instanceMethod objectInit, .code objectInit ⟨#[0xb1]⟩ 1 none, .arrayClass .byte, .fieldLink RX4 11 "LeanHouse$Lexer" "pool" "[B", .fieldLink RX4 15 "LeanHouse$Lexer" "scratch" "[B", .arrayClass .int, .fieldLink RX4 18 "LeanHouse$Lexer" "nameAt" "[I", .fieldLink RX4 22 "LeanHouse$Lexer" "nameSize" "[I", .fieldLink RX4 25 "LeanHouse$Lexer" "heads" "[I", .fieldLink RX4 28 "LeanHouse$Lexer" "nexts" "[I", .fieldLink RX4 31 "LeanHouse$Lexer" "text" "[B", .methodLink RX4 40 yJ0_length_8abf5, .instanceMethod yJ0_length_8abf5, .selects RJ0 yJ0_length_8abf5 yJ0_length_8abf5, .initialized RJ0, .code yJ0_length_8abf5 cJ0_length_8abf5 1 (some .int), .fieldLink RJ0 9 "java/lang/String" "value" "[B", .methodLink RJ0 335 yJ0_coder_7d493, .instanceMethod yJ0_coder_7d493, .selects RJ0 yJ0_coder_7d493 yJ0_coder_7d493, .code yJ0_coder_7d493 cJ0_coder_7d493 1 (some .byte), .fieldLink RJ0 38 "java/lang/String" "COMPACT_STRINGS" "Z", .fieldLink RJ0 15 "java/lang/String" "coder" "B", .fieldLink RX4 58 "LeanHouse$Lexer" "poolSize" "I", .fieldLink RX4 62 "LeanHouse$Lexer" "knownSize" "I", .methodLink RX4 46 yJ0_charAt_5068e, .instanceMethod yJ0_charAt_5068e, .selects RJ0 yJ0_charAt_5068e yJ0_charAt_5068e, .code yJ0_charAt_5068e cJ0_charAt_5068e 2 (some .char), .methodLink RJ0 492 yJ0_isLatin1_aae02, .instanceMethod yJ0_isLatin1_aae02, .selects RJ0 yJ0_isLatin1_aae02 yJ0_isLatin1_aae02, .code yJ0_isLatin1_aae02 cJ0_isLatin1_aae02 1 (some .boolean), .methodLink RJ0 495 yJ1_charAt_3b067, .static yJ1_charAt_3b067, .initialized RJ1, .code yJ1_charAt_3b067 cJ1_charAt_3b067 2 (some .char), .methodLink RJ1 9 yJ0_checkIndex_df160, .static yJ0_checkIndex_df160, .code yJ0_checkIndex_df160 cJ0_checkIndex_df160 2 none, .fieldLink RJ0 1053 "jdk/internal/util/Preconditions" "SIOOBE_FORMATTER" "Ljava/util/function/BiFunction;", .methodLink RJ0 1059 yJ3_checkIndex_8e157, .static yJ3_checkIndex_8e157, .initialized RJ3, .code yJ3_checkIndex_8e157 cJ3_checkIndex_8e157 3 (some .int), .methodLink RX4 54 yX4_intern, .instanceMethod yX4_intern, .selects RX4 yX4_intern yX4_intern, .initialized RX4, .code yX4_intern cX4_intern 7 (some .int), .code yX12_at cX12_at 2 (some .int), .initialized RX12, .static yX12_at, .fieldLink RX4 86 "LeanHouse$Lexer" "names" "I", .code yX12_put cX12_put 3 none, .static yX12_put, .code yX12_byteIn cX12_byteIn 2 (some .int), .static yX12_byteIn, .code yX12_putByte cX12_putByte 3 none, .static yX12_putByte]
def zsX4_init : List Cond := .code yX4_init cX4_init 5 none :: (zlX4_init ++ (wsX40))
set_option maxRecDepth 20000 in
theorem gzX4_init_J0_length_8abf5_V40 : GoodIn zsX4_init (wsV RX4 40 RJ0 yJ0_length_8abf5 zsJ0_length_8abf5) := (goodIn_app (goodIn_r _ [13, 14, 15, 16] (by decide +kernel) (by decide +kernel)) (goodIn_r _ [17, 18, 19, 20, 21, 16, 22, 23, 24] (by decide +kernel) (by decide +kernel)))
set_option maxRecDepth 20000 in
theorem gzX4_init_J0_charAt_5068e_V46 : GoodIn zsX4_init (wsV RX4 46 RJ0 yJ0_charAt_5068e zsJ0_charAt_5068e) := (goodIn_app (goodIn_r _ [27, 28, 29, 16] (by decide +kernel) (by decide +kernel)) (goodIn_r _ [30, 31, 32, 33, 16, 34, 23, 24, 18, 35, 36, 37, 38, 39, 40, 41, 42, 43, 44, 45, 46] (by decide +kernel) (by decide +kernel)))
set_option maxRecDepth 20000 in
theorem gzX4_init_X4_intern_V54 : GoodIn zsX4_init (wsV RX4 54 RX4 yX4_intern zsX4_intern) := (goodIn_app (goodIn_r _ [47, 48, 49, 50] (by decide +kernel) (by decide +kernel)) (goodIn_ca (goodIn_r _ [51, 10, 52, 53, 54, 55, 8, 25, 56, 57, 9, 11, 5, 6, 58, 59, 60, 61] (by decide +kernel) (by decide +kernel)) (goodIn_sub (fun _ h9 => List.mem_cons_of_mem _ (List.mem_append_right _ h9)) gwX4)))
set_option maxRecDepth 20000 in
theorem gzX4_init_X12_putByte_50 : GoodIn zsX4_init zsX12_putByte := (goodIn_r _ [60] (by decide +kernel) (by decide +kernel))
set_option maxRecDepth 20000 in
theorem gzX4_init_X12_put_34 : GoodIn zsX4_init zsX12_put := (goodIn_r _ [56] (by decide +kernel) (by decide +kernel))
set_option maxHeartbeats 8000000 in
set_option maxRecDepth 100000 in
theorem c_X4_init (l : Launch) (dC : Nat → ClassId) (dI : Nat → Nat → Nat) (sz : Nat) (tx : String) (Ls : Nat) (byt : Nat → Int32) (ks : Nat) (vs : Nat) (h0 : Nat) (x_text : Nat) (hL : Ls ≤ 8192) : Met l yX4_init zsX4_init ({ frames := 6, cells := 6, slots := 19529, locals := 123 } : Room) (va_Pc [.ref h0, .ref x_text] (wBS (dC, dI) vwCl nestM [] [(h0, .inr (4, [.null, .null, .null, .null, .null, .null, .null, .int 0, .int 0, .int 0, .int 0, .int 0, .int 0, .int 0, .int 0, .int 0, .int 0, .int 0]))] tx Ls byt ks vs sz)) (va_Qv (fun (u : Nat × ClassId × (Nat → Int32) × Nat × ClassId × (Nat → Int32) × Nat × ClassId × (Nat → Int32) × Nat × ClassId × (Nat → Int32) × Nat × ClassId × (Nat → Int32) × Nat × ClassId × (Nat → Int32) × Int32 × Int32 × Int32) => True) (fun (u : Nat × ClassId × (Nat → Int32) × Nat × ClassId × (Nat → Int32) × Nat × ClassId × (Nat → Int32) × Nat × ClassId × (Nat → Int32) × Nat × ClassId × (Nat → Int32) × Nat × ClassId × (Nat → Int32) × Int32 × Int32 × Int32) (t : State) => wE (dC, dI) vwCl [(u.2.1, .byte), (u.2.2.2.2.1, .byte), (u.2.2.2.2.2.2.2.1, .int), (u.2.2.2.2.2.2.2.2.2.2.1, .int), (u.2.2.2.2.2.2.2.2.2.2.2.2.2.1, .int), (u.2.2.2.2.2.2.2.2.2.2.2.2.2.2.2.2.1, .int)] [(h0, .inr (4, [.ref x_text, .ref u.1, .ref u.2.2.2.1, .ref u.2.2.2.2.2.2.1, .ref u.2.2.2.2.2.2.2.2.2.1, .ref u.2.2.2.2.2.2.2.2.2.2.2.2.1, .ref u.2.2.2.2.2.2.2.2.2.2.2.2.2.2.2.1, .int u.2.2.2.2.2.2.2.2.2.2.2.2.2.2.2.2.2.2.1, .int u.2.2.2.2.2.2.2.2.2.2.2.2.2.2.2.2.2.2.2.1, .int u.2.2.2.2.2.2.2.2.2.2.2.2.2.2.2.2.2.2.2.2, .int 0, .int 0, .int 0, .int 0, .int 0, .int 0, .int 0, .int 0])), (u.1, .inl (u.2.1, 12288, .inl u.2.2.1)), (u.2.2.2.1, .inl (u.2.2.2.2.1, 201, .inl u.2.2.2.2.2.1)), (u.2.2.2.2.2.2.1, .inl (u.2.2.2.2.2.2.2.1, 2176, .inl u.2.2.2.2.2.2.2.2.1)), (u.2.2.2.2.2.2.2.2.2.1, .inl (u.2.2.2.2.2.2.2.2.2.2.1, 2176, .inl u.2.2.2.2.2.2.2.2.2.2.2.1)), (u.2.2.2.2.2.2.2.2.2.2.2.2.1, .inl (u.2.2.2.2.2.2.2.2.2.2.2.2.2.1, 512, .inl u.2.2.2.2.2.2.2.2.2.2.2.2.2.2.1)), (u.2.2.2.2.2.2.2.2.2.2.2.2.2.2.2.1, .inl (u.2.2.2.2.2.2.2.2.2.2.2.2.2.2.2.2.1, 2176, .inl u.2.2.2.2.2.2.2.2.2.2.2.2.2.2.2.2.2.1))] (va_A [(h0, .inr (4, [.null, .null, .null, .null, .null, .null, .null, .int 0, .int 0, .int 0, .int 0, .int 0, .int 0, .int 0, .int 0, .int 0, .int 0, .int 0]))] sz) t) (va_A [(h0, .inr (4, [.null, .null, .null, .null, .null, .null, .null, .int 0, .int 0, .int 0, .int 0, .int 0, .int 0, .int 0, .int 0, .int 0, .int 0, .int 0]))] sz)) 6 19529 (va_A [(h0, .inr (4, [.null, .null, .null, .null, .null, .null, .null, .int 0, .int 0, .int 0, .int 0, .int 0, .int 0, .int 0, .int 0, .int 0, .int 0, .int 0]))] sz) := by
  refine Met.ofW (cc := cX4_init) (maxL := 5) (ret := none) (by decide) rfl ?_
  intro p e s m args below meth c s₁ B hml hv
  obtain ⟨rfl, ⟨hsz, hP, hK, hD0, hN⟩, hSW⟩ := hv
  have hx := B.exec
  have hb := B.bytes
  have hr := B.returns
  have hts := atoms_spec (ws := zsX4_init) B.pre
  have hown : s.vm.findClass RX4 = some m.cls := findClass_of_methodNamed B.named
  have hlocks := B.notSynchronized
  have hin : meth.name = "<init>" := (name_of_methodNamed B.named B.method).1
  subst hsz
  have hD := hD0.self (sz := s.heap.size)
  generalize hAe : va_A [(h0, .inr (4, [.null, .null, .null, .null, .null, .null, .null, .int 0, .int 0, .int 0, .int 0, .int 0, .int 0, .int 0, .int 0, .int 0, .int 0, .int 0]))] s.heap.size = A at hD hSW ⊢
  have hA : ∀ q : Nat, s.heap.size ≤ q → A q := fun q h => by rw [← hAe]; exact Or.inr h
  have hS : va_S A s.heap s.heap [] := va_S.rf
  have hP : va_P (dC, dI) vwCl [(h0, .inr (4, [.null, .null, .null, .null, .null, .null, .null, .int 0, .int 0, .int 0, .int 0, .int 0, .int 0, .int 0, .int 0, .int 0, .int 0, .int 0]))] s.heap := hP
  have hl := lv_entry ([.ref h0, .ref x_text]) (n := 5) (Nat.le_of_ble_eq_true rfl)
  rw [lg_entry_eq]
  generalize (lg_sl ([.ref h0, .ref x_text]) ++ List.replicate (5 - (lg_sl ([.ref h0, .ref x_text])).length) Slot.unset).toArray = ls at hl ⊢
  have hl : lv_has ls 5 [(0, .ref h0), (1, .ref x_text)] := hl
  refine lv_aload_n hx hb dX4_init_0 rfl (lv_at hl 0 rfl) ?_
  refine W.objInit hx hb hown (hts _ (List.mem_cons_of_mem _ (List.mem_append_left _ (List.mem_of_getElem? (i := 0) rfl)))) (hts _ (List.mem_cons_of_mem _ (List.mem_append_left _ (List.mem_of_getElem? (i := 1) rfl)))) (hts _ (List.mem_cons_of_mem _ (List.mem_append_left _ (List.mem_of_getElem? (i := 2) rfl)))) rfl (by rw [hml]; exact hl.1) rfl dX4_init_1 (Nat.le_of_ble_eq_true rfl) (Nat.le_of_ble_eq_true rfl) ?_
  refine lv_aload_n hx hb dX4_init_4 rfl (lv_at hl 0 rfl) ?_
  refine lv_sipush (v := 12288) hx hb dX4_init_5 (by decide) ?_
  refine va_newa (atype := .byte) (ty := .byte) (N' := 12288) (a0 := (12288, .inl (fun _ => 0))) hx hb (hts _ (List.mem_cons_of_mem _ (List.mem_append_left _ (List.mem_of_getElem? (i := 3) rfl)))) rfl hK hP hD hS hA (fun _ => rfl) (by decide) (by decide) (Nat.le_of_ble_eq_true rfl) (Nat.le_of_ble_eq_true rfl) (Nat.le_of_ble_eq_true rfl) dX4_init_8 ?_
  clear hK hP hD hS
  intro x_pool x_poolc H hK hP hD hS
  replace hK : va_K (dC, dI) vwCl [(x_poolc, .byte)] s := hK
  replace hP : va_P (dC, dI) vwCl [(h0, .inr (4, [.null, .null, .null, .null, .null, .null, .null, .int 0, .int 0, .int 0, .int 0, .int 0, .int 0, .int 0, .int 0, .int 0, .int 0, .int 0])), (x_pool, .inl (x_poolc, 12288, .inl (fun _ => 0)))] H := hP
  replace hD : va_D A [(h0, .inr (4, [.null, .null, .null, .null, .null, .null, .null, .int 0, .int 0, .int 0, .int 0, .int 0, .int 0, .int 0, .int 0, .int 0, .int 0, .int 0])), (x_pool, .inl (x_poolc, 12288, .inl (fun _ => 0)))] := hD
  refine va_putF (D := (dC, dI)) (ci := 4) (v := .ref x_pool) (ty := (.array .byte)) (C := RX4) (T := TX4) (N := 18) hx hb hts (fun _ h9 => List.mem_cons_of_mem _ (List.mem_append_right _ h9)) tyX4 tyX4_ok nmX4 hown hK hP hD hS 0 rfl rfl 1 (by decide) (hts _ (List.mem_cons_of_mem _ (List.mem_append_left _ (List.mem_of_getElem? (i := 4) rfl)))) (fun _ h9 => h9) rfl hin rfl (by decide +kernel) rfl rfl (Nat.le_of_ble_eq_true rfl) dX4_init_10 ?_
  clear hP hD hS
  intro H locs hP hD hS
  replace hP : va_P (dC, dI) vwCl [(h0, .inr (4, [.null, .ref x_pool, .null, .null, .null, .null, .null, .int 0, .int 0, .int 0, .int 0, .int 0, .int 0, .int 0, .int 0, .int 0, .int 0, .int 0])), (x_pool, .inl (x_poolc, 12288, .inl (fun _ => 0)))] H := hP
  replace hD : va_D A [(h0, .inr (4, [.null, .ref x_pool, .null, .null, .null, .null, .null, .int 0, .int 0, .int 0, .int 0, .int 0, .int 0, .int 0, .int 0, .int 0, .int 0, .int 0])), (x_pool, .inl (x_poolc, 12288, .inl (fun _ => 0)))] := hD
  refine lv_aload_n hx hb dX4_init_13 rfl (lv_at hl 0 rfl) ?_
  refine lv_sipush (v := 201) hx hb dX4_init_14 (by decide) ?_
  refine va_newa (atype := .byte) (ty := .byte) (N' := 201) (a0 := (201, .inl (fun _ => 0))) hx hb (hts _ (List.mem_cons_of_mem _ (List.mem_append_left _ (List.mem_of_getElem? (i := 3) rfl)))) rfl hK hP hD hS hA (fun _ => rfl) (by decide) (by decide) (Nat.le_of_ble_eq_true rfl) (Nat.le_of_ble_eq_true rfl) (Nat.le_of_ble_eq_true rfl) dX4_init_17 ?_
  clear hK hP hD hS
  intro x_scratch x_scratchc H hK hP hD hS
  replace hK : va_K (dC, dI) vwCl [(x_poolc, .byte), (x_scratchc, .byte)] s := hK
  replace hP : va_P (dC, dI) vwCl [(h0, .inr (4, [.null, .ref x_pool, .null, .null, .null, .null, .null, .int 0, .int 0, .int 0, .int 0, .int 0, .int 0, .int 0, .int 0, .int 0, .int 0, .int 0])), (x_pool, .inl (x_poolc, 12288, .inl (fun _ => 0))), (x_scratch, .inl (x_scratchc, 201, .inl (fun _ => 0)))] H := hP
  replace hD : va_D A [(h0, .inr (4, [.null, .ref x_pool, .null, .null, .null, .null, .null, .int 0, .int 0, .int 0, .int 0, .int 0, .int 0, .int 0, .int 0, .int 0, .int 0, .int 0])), (x_pool, .inl (x_poolc, 12288, .inl (fun _ => 0))), (x_scratch, .inl (x_scratchc, 201, .inl (fun _ => 0)))] := hD
  refine va_putF (D := (dC, dI)) (ci := 4) (v := .ref x_scratch) (ty := (.array .byte)) (C := RX4) (T := TX4) (N := 18) hx hb hts (fun _ h9 => List.mem_cons_of_mem _ (List.mem_append_right _ h9)) tyX4 tyX4_ok nmX4 hown hK hP hD hS 0 rfl rfl 2 (by decide) (hts _ (List.mem_cons_of_mem _ (List.mem_append_left _ (List.mem_of_getElem? (i := 5) rfl)))) (fun _ h9 => h9) rfl hin rfl (by decide +kernel) rfl rfl (Nat.le_of_ble_eq_true rfl) dX4_init_19 ?_
  clear hP hD hS
  intro H locs hP hD hS
  replace hP : va_P (dC, dI) vwCl [(h0, .inr (4, [.null, .ref x_pool, .ref x_scratch, .null, .null, .null, .null, .int 0, .int 0, .int 0, .int 0, .int 0, .int 0, .int 0, .int 0, .int 0, .int 0, .int 0])), (x_pool, .inl (x_poolc, 12288, .inl (fun _ => 0))), (x_scratch, .inl (x_scratchc, 201, .inl (fun _ => 0)))] H := hP
  replace hD : va_D A [(h0, .inr (4, [.null, .ref x_pool, .ref x_scratch, .null, .null, .null, .null, .int 0, .int 0, .int 0, .int 0, .int 0, .int 0, .int 0, .int 0, .int 0, .int 0, .int 0])), (x_pool, .inl (x_poolc, 12288, .inl (fun _ => 0))), (x_scratch, .inl (x_scratchc, 201, .inl (fun _ => 0)))] := hD
  refine lv_aload_n hx hb dX4_init_22 rfl (lv_at hl 0 rfl) ?_
  refine lv_sipush (v := 2176) hx hb dX4_init_23 (by decide) ?_
  refine va_newa (atype := .int) (ty := .int) (N' := 2176) (a0 := (2176, .inl (fun _ => 0))) hx hb (hts _ (List.mem_cons_of_mem _ (List.mem_append_left _ (List.mem_of_getElem? (i := 6) rfl)))) rfl hK hP hD hS hA (fun _ => rfl) (by decide) (by decide) (Nat.le_of_ble_eq_true rfl) (Nat.le_of_ble_eq_true rfl) (Nat.le_of_ble_eq_true rfl) dX4_init_26 ?_
  clear hK hP hD hS
  intro x_nameAt x_nameAtc H hK hP hD hS
  replace hK : va_K (dC, dI) vwCl [(x_poolc, .byte), (x_scratchc, .byte), (x_nameAtc, .int)] s := hK
  replace hP : va_P (dC, dI) vwCl [(h0, .inr (4, [.null, .ref x_pool, .ref x_scratch, .null, .null, .null, .null, .int 0, .int 0, .int 0, .int 0, .int 0, .int 0, .int 0, .int 0, .int 0, .int 0, .int 0])), (x_pool, .inl (x_poolc, 12288, .inl (fun _ => 0))), (x_scratch, .inl (x_scratchc, 201, .inl (fun _ => 0))), (x_nameAt, .inl (x_nameAtc, 2176, .inl (fun _ => 0)))] H := hP
  replace hD : va_D A [(h0, .inr (4, [.null, .ref x_pool, .ref x_scratch, .null, .null, .null, .null, .int 0, .int 0, .int 0, .int 0, .int 0, .int 0, .int 0, .int 0, .int 0, .int 0, .int 0])), (x_pool, .inl (x_poolc, 12288, .inl (fun _ => 0))), (x_scratch, .inl (x_scratchc, 201, .inl (fun _ => 0))), (x_nameAt, .inl (x_nameAtc, 2176, .inl (fun _ => 0)))] := hD
  refine va_putF (D := (dC, dI)) (ci := 4) (v := .ref x_nameAt) (ty := (.array .int)) (C := RX4) (T := TX4) (N := 18) hx hb hts (fun _ h9 => List.mem_cons_of_mem _ (List.mem_append_right _ h9)) tyX4 tyX4_ok nmX4 hown hK hP hD hS 0 rfl rfl 3 (by decide) (hts _ (List.mem_cons_of_mem _ (List.mem_append_left _ (List.mem_of_getElem? (i := 7) rfl)))) (fun _ h9 => h9) rfl hin rfl (by decide +kernel) rfl rfl (Nat.le_of_ble_eq_true rfl) dX4_init_28 ?_
  clear hP hD hS
  intro H locs hP hD hS
  replace hP : va_P (dC, dI) vwCl [(h0, .inr (4, [.null, .ref x_pool, .ref x_scratch, .ref x_nameAt, .null, .null, .null, .int 0, .int 0, .int 0, .int 0, .int 0, .int 0, .int 0, .int 0, .int 0, .int 0, .int 0])), (x_pool, .inl (x_poolc, 12288, .inl (fun _ => 0))), (x_scratch, .inl (x_scratchc, 201, .inl (fun _ => 0))), (x_nameAt, .inl (x_nameAtc, 2176, .inl (fun _ => 0)))] H := hP
  replace hD : va_D A [(h0, .inr (4, [.null, .ref x_pool, .ref x_scratch, .ref x_nameAt, .null, .null, .null, .int 0, .int 0, .int 0, .int 0, .int 0, .int 0, .int 0, .int 0, .int 0, .int 0, .int 0])), (x_pool, .inl (x_poolc, 12288, .inl (fun _ => 0))), (x_scratch, .inl (x_scratchc, 201, .inl (fun _ => 0))), (x_nameAt, .inl (x_nameAtc, 2176, .inl (fun _ => 0)))] := hD
  refine lv_aload_n hx hb dX4_init_31 rfl (lv_at hl 0 rfl) ?_
  refine lv_sipush (v := 2176) hx hb dX4_init_32 (by decide) ?_
  refine va_newa (atype := .int) (ty := .int) (N' := 2176) (a0 := (2176, .inl (fun _ => 0))) hx hb (hts _ (List.mem_cons_of_mem _ (List.mem_append_left _ (List.mem_of_getElem? (i := 6) rfl)))) rfl hK hP hD hS hA (fun _ => rfl) (by decide) (by decide) (Nat.le_of_ble_eq_true rfl) (Nat.le_of_ble_eq_true rfl) (Nat.le_of_ble_eq_true rfl) dX4_init_35 ?_
  clear hK hP hD hS
  intro x_nameSize x_nameSizec H hK hP hD hS
  replace hK : va_K (dC, dI) vwCl [(x_poolc, .byte), (x_scratchc, .byte), (x_nameAtc, .int), (x_nameSizec, .int)] s := hK
  replace hP : va_P (dC, dI) vwCl [(h0, .inr (4, [.null, .ref x_pool, .ref x_scratch, .ref x_nameAt, .null, .null, .null, .int 0, .int 0, .int 0, .int 0, .int 0, .int 0, .int 0, .int 0, .int 0, .int 0, .int 0])), (x_pool, .inl (x_poolc, 12288, .inl (fun _ => 0))), (x_scratch, .inl (x_scratchc, 201, .inl (fun _ => 0))), (x_nameAt, .inl (x_nameAtc, 2176, .inl (fun _ => 0))), (x_nameSize, .inl (x_nameSizec, 2176, .inl (fun _ => 0)))] H := hP
  replace hD : va_D A [(h0, .inr (4, [.null, .ref x_pool, .ref x_scratch, .ref x_nameAt, .null, .null, .null, .int 0, .int 0, .int 0, .int 0, .int 0, .int 0, .int 0, .int 0, .int 0, .int 0, .int 0])), (x_pool, .inl (x_poolc, 12288, .inl (fun _ => 0))), (x_scratch, .inl (x_scratchc, 201, .inl (fun _ => 0))), (x_nameAt, .inl (x_nameAtc, 2176, .inl (fun _ => 0))), (x_nameSize, .inl (x_nameSizec, 2176, .inl (fun _ => 0)))] := hD
  refine va_putF (D := (dC, dI)) (ci := 4) (v := .ref x_nameSize) (ty := (.array .int)) (C := RX4) (T := TX4) (N := 18) hx hb hts (fun _ h9 => List.mem_cons_of_mem _ (List.mem_append_right _ h9)) tyX4 tyX4_ok nmX4 hown hK hP hD hS 0 rfl rfl 4 (by decide) (hts _ (List.mem_cons_of_mem _ (List.mem_append_left _ (List.mem_of_getElem? (i := 8) rfl)))) (fun _ h9 => h9) rfl hin rfl (by decide +kernel) rfl rfl (Nat.le_of_ble_eq_true rfl) dX4_init_37 ?_
  clear hP hD hS
  intro H locs hP hD hS
  replace hP : va_P (dC, dI) vwCl [(h0, .inr (4, [.null, .ref x_pool, .ref x_scratch, .ref x_nameAt, .ref x_nameSize, .null, .null, .int 0, .int 0, .int 0, .int 0, .int 0, .int 0, .int 0, .int 0, .int 0, .int 0, .int 0])), (x_pool, .inl (x_poolc, 12288, .inl (fun _ => 0))), (x_scratch, .inl (x_scratchc, 201, .inl (fun _ => 0))), (x_nameAt, .inl (x_nameAtc, 2176, .inl (fun _ => 0))), (x_nameSize, .inl (x_nameSizec, 2176, .inl (fun _ => 0)))] H := hP
  replace hD : va_D A [(h0, .inr (4, [.null, .ref x_pool, .ref x_scratch, .ref x_nameAt, .ref x_nameSize, .null, .null, .int 0, .int 0, .int 0, .int 0, .int 0, .int 0, .int 0, .int 0, .int 0, .int 0, .int 0])), (x_pool, .inl (x_poolc, 12288, .inl (fun _ => 0))), (x_scratch, .inl (x_scratchc, 201, .inl (fun _ => 0))), (x_nameAt, .inl (x_nameAtc, 2176, .inl (fun _ => 0))), (x_nameSize, .inl (x_nameSizec, 2176, .inl (fun _ => 0)))] := hD
  refine lv_aload_n hx hb dX4_init_40 rfl (lv_at hl 0 rfl) ?_
  refine lv_sipush (v := 512) hx hb dX4_init_41 (by decide) ?_
  refine va_newa (atype := .int) (ty := .int) (N' := 512) (a0 := (512, .inl (fun _ => 0))) hx hb (hts _ (List.mem_cons_of_mem _ (List.mem_append_left _ (List.mem_of_getElem? (i := 6) rfl)))) rfl hK hP hD hS hA (fun _ => rfl) (by decide) (by decide) (Nat.le_of_ble_eq_true rfl) (Nat.le_of_ble_eq_true rfl) (Nat.le_of_ble_eq_true rfl) dX4_init_44 ?_
  clear hK hP hD hS
  intro x_heads x_headsc H hK hP hD hS
  replace hK : va_K (dC, dI) vwCl [(x_poolc, .byte), (x_scratchc, .byte), (x_nameAtc, .int), (x_nameSizec, .int), (x_headsc, .int)] s := hK
  replace hP : va_P (dC, dI) vwCl [(h0, .inr (4, [.null, .ref x_pool, .ref x_scratch, .ref x_nameAt, .ref x_nameSize, .null, .null, .int 0, .int 0, .int 0, .int 0, .int 0, .int 0, .int 0, .int 0, .int 0, .int 0, .int 0])), (x_pool, .inl (x_poolc, 12288, .inl (fun _ => 0))), (x_scratch, .inl (x_scratchc, 201, .inl (fun _ => 0))), (x_nameAt, .inl (x_nameAtc, 2176, .inl (fun _ => 0))), (x_nameSize, .inl (x_nameSizec, 2176, .inl (fun _ => 0))), (x_heads, .inl (x_headsc, 512, .inl (fun _ => 0)))] H := hP
  replace hD : va_D A [(h0, .inr (4, [.null, .ref x_pool, .ref x_scratch, .ref x_nameAt, .ref x_nameSize, .null, .null, .int 0, .int 0, .int 0, .int 0, .int 0, .int 0, .int 0, .int 0, .int 0, .int 0, .int 0])), (x_pool, .inl (x_poolc, 12288, .inl (fun _ => 0))), (x_scratch, .inl (x_scratchc, 201, .inl (fun _ => 0))), (x_nameAt, .inl (x_nameAtc, 2176, .inl (fun _ => 0))), (x_nameSize, .inl (x_nameSizec, 2176, .inl (fun _ => 0))), (x_heads, .inl (x_headsc, 512, .inl (fun _ => 0)))] := hD
  refine va_putF (D := (dC, dI)) (ci := 4) (v := .ref x_heads) (ty := (.array .int)) (C := RX4) (T := TX4) (N := 18) hx hb hts (fun _ h9 => List.mem_cons_of_mem _ (List.mem_append_right _ h9)) tyX4 tyX4_ok nmX4 hown hK hP hD hS 0 rfl rfl 5 (by decide) (hts _ (List.mem_cons_of_mem _ (List.mem_append_left _ (List.mem_of_getElem? (i := 9) rfl)))) (fun _ h9 => h9) rfl hin rfl (by decide +kernel) rfl rfl (Nat.le_of_ble_eq_true rfl) dX4_init_46 ?_
  clear hP hD hS
  intro H locs hP hD hS
  replace hP : va_P (dC, dI) vwCl [(h0, .inr (4, [.null, .ref x_pool, .ref x_scratch, .ref x_nameAt, .ref x_nameSize, .ref x_heads, .null, .int 0, .int 0, .int 0, .int 0, .int 0, .int 0, .int 0, .int 0, .int 0, .int 0, .int 0])), (x_pool, .inl (x_poolc, 12288, .inl (fun _ => 0))), (x_scratch, .inl (x_scratchc, 201, .inl (fun _ => 0))), (x_nameAt, .inl (x_nameAtc, 2176, .inl (fun _ => 0))), (x_nameSize, .inl (x_nameSizec, 2176, .inl (fun _ => 0))), (x_heads, .inl (x_headsc, 512, .inl (fun _ => 0)))] H := hP
  replace hD : va_D A [(h0, .inr (4, [.null, .ref x_pool, .ref x_scratch, .ref x_nameAt, .ref x_nameSize, .ref x_heads, .null, .int 0, .int 0, .int 0, .int 0, .int 0, .int 0, .int 0, .int 0, .int 0, .int 0, .int 0])), (x_pool, .inl (x_poolc, 12288, .inl (fun _ => 0))), (x_scratch, .inl (x_scratchc, 201, .inl (fun _ => 0))), (x_nameAt, .inl (x_nameAtc, 2176, .inl (fun _ => 0))), (x_nameSize, .inl (x_nameSizec, 2176, .inl (fun _ => 0))), (x_heads, .inl (x_headsc, 512, .inl (fun _ => 0)))] := hD
  refine lv_aload_n hx hb dX4_init_49 rfl (lv_at hl 0 rfl) ?_
  refine lv_sipush (v := 2176) hx hb dX4_init_50 (by decide) ?_
  refine va_newa (atype := .int) (ty := .int) (N' := 2176) (a0 := (2176, .inl (fun _ => 0))) hx hb (hts _ (List.mem_cons_of_mem _ (List.mem_append_left _ (List.mem_of_getElem? (i := 6) rfl)))) rfl hK hP hD hS hA (fun _ => rfl) (by decide) (by decide) (Nat.le_of_ble_eq_true rfl) (Nat.le_of_ble_eq_true rfl) (Nat.le_of_ble_eq_true rfl) dX4_init_53 ?_
  clear hK hP hD hS
  intro x_nexts x_nextsc H hK hP hD hS
  replace hK : va_K (dC, dI) vwCl [(x_poolc, .byte), (x_scratchc, .byte), (x_nameAtc, .int), (x_nameSizec, .int), (x_headsc, .int), (x_nextsc, .int)] s := hK
  replace hP : va_P (dC, dI) vwCl [(h0, .inr (4, [.null, .ref x_pool, .ref x_scratch, .ref x_nameAt, .ref x_nameSize, .ref x_heads, .null, .int 0, .int 0, .int 0, .int 0, .int 0, .int 0, .int 0, .int 0, .int 0, .int 0, .int 0])), (x_pool, .inl (x_poolc, 12288, .inl (fun _ => 0))), (x_scratch, .inl (x_scratchc, 201, .inl (fun _ => 0))), (x_nameAt, .inl (x_nameAtc, 2176, .inl (fun _ => 0))), (x_nameSize, .inl (x_nameSizec, 2176, .inl (fun _ => 0))), (x_heads, .inl (x_headsc, 512, .inl (fun _ => 0))), (x_nexts, .inl (x_nextsc, 2176, .inl (fun _ => 0)))] H := hP
  replace hD : va_D A [(h0, .inr (4, [.null, .ref x_pool, .ref x_scratch, .ref x_nameAt, .ref x_nameSize, .ref x_heads, .null, .int 0, .int 0, .int 0, .int 0, .int 0, .int 0, .int 0, .int 0, .int 0, .int 0, .int 0])), (x_pool, .inl (x_poolc, 12288, .inl (fun _ => 0))), (x_scratch, .inl (x_scratchc, 201, .inl (fun _ => 0))), (x_nameAt, .inl (x_nameAtc, 2176, .inl (fun _ => 0))), (x_nameSize, .inl (x_nameSizec, 2176, .inl (fun _ => 0))), (x_heads, .inl (x_headsc, 512, .inl (fun _ => 0))), (x_nexts, .inl (x_nextsc, 2176, .inl (fun _ => 0)))] := hD
  refine va_putF (D := (dC, dI)) (ci := 4) (v := .ref x_nexts) (ty := (.array .int)) (C := RX4) (T := TX4) (N := 18) hx hb hts (fun _ h9 => List.mem_cons_of_mem _ (List.mem_append_right _ h9)) tyX4 tyX4_ok nmX4 hown hK hP hD hS 0 rfl rfl 6 (by decide) (hts _ (List.mem_cons_of_mem _ (List.mem_append_left _ (List.mem_of_getElem? (i := 10) rfl)))) (fun _ h9 => h9) rfl hin rfl (by decide +kernel) rfl rfl (Nat.le_of_ble_eq_true rfl) dX4_init_55 ?_
  clear hP hD hS
  intro H locs hP hD hS
  replace hP : va_P (dC, dI) vwCl [(h0, .inr (4, [.null, .ref x_pool, .ref x_scratch, .ref x_nameAt, .ref x_nameSize, .ref x_heads, .ref x_nexts, .int 0, .int 0, .int 0, .int 0, .int 0, .int 0, .int 0, .int 0, .int 0, .int 0, .int 0])), (x_pool, .inl (x_poolc, 12288, .inl (fun _ => 0))), (x_scratch, .inl (x_scratchc, 201, .inl (fun _ => 0))), (x_nameAt, .inl (x_nameAtc, 2176, .inl (fun _ => 0))), (x_nameSize, .inl (x_nameSizec, 2176, .inl (fun _ => 0))), (x_heads, .inl (x_headsc, 512, .inl (fun _ => 0))), (x_nexts, .inl (x_nextsc, 2176, .inl (fun _ => 0)))] H := hP
  replace hD : va_D A [(h0, .inr (4, [.null, .ref x_pool, .ref x_scratch, .ref x_nameAt, .ref x_nameSize, .ref x_heads, .ref x_nexts, .int 0, .int 0, .int 0, .int 0, .int 0, .int 0, .int 0, .int 0, .int 0, .int 0, .int 0])), (x_pool, .inl (x_poolc, 12288, .inl (fun _ => 0))), (x_scratch, .inl (x_scratchc, 201, .inl (fun _ => 0))), (x_nameAt, .inl (x_nameAtc, 2176, .inl (fun _ => 0))), (x_nameSize, .inl (x_nameSizec, 2176, .inl (fun _ => 0))), (x_heads, .inl (x_headsc, 512, .inl (fun _ => 0))), (x_nexts, .inl (x_nextsc, 2176, .inl (fun _ => 0)))] := hD
  refine lv_aload_n hx hb dX4_init_58 rfl (lv_at hl 0 rfl) ?_
  refine lv_aload_n hx hb dX4_init_59 rfl (lv_at hl 1 rfl) ?_
  refine va_putF (D := (dC, dI)) (ci := 4) (v := .ref x_text) (ty := (.array .byte)) (C := RX4) (T := TX4) (N := 18) hx hb hts (fun _ h9 => List.mem_cons_of_mem _ (List.mem_append_right _ h9)) tyX4 tyX4_ok nmX4 hown hK hP hD hS 0 rfl rfl 0 (by decide) (hts _ (List.mem_cons_of_mem _ (List.mem_append_left _ (List.mem_of_getElem? (i := 11) rfl)))) (fun _ h9 => h9) rfl hin rfl (by decide +kernel) rfl rfl (Nat.le_of_ble_eq_true rfl) dX4_init_60 ?_
  clear hP hD hS
  intro H locs hP hD hS
  replace hP : va_P (dC, dI) vwCl [(h0, .inr (4, [.ref x_text, .ref x_pool, .ref x_scratch, .ref x_nameAt, .ref x_nameSize, .ref x_heads, .ref x_nexts, .int 0, .int 0, .int 0, .int 0, .int 0, .int 0, .int 0, .int 0, .int 0, .int 0, .int 0])), (x_pool, .inl (x_poolc, 12288, .inl (fun _ => 0))), (x_scratch, .inl (x_scratchc, 201, .inl (fun _ => 0))), (x_nameAt, .inl (x_nameAtc, 2176, .inl (fun _ => 0))), (x_nameSize, .inl (x_nameSizec, 2176, .inl (fun _ => 0))), (x_heads, .inl (x_headsc, 512, .inl (fun _ => 0))), (x_nexts, .inl (x_nextsc, 2176, .inl (fun _ => 0)))] H := hP
  replace hD : va_D A [(h0, .inr (4, [.ref x_text, .ref x_pool, .ref x_scratch, .ref x_nameAt, .ref x_nameSize, .ref x_heads, .ref x_nexts, .int 0, .int 0, .int 0, .int 0, .int 0, .int 0, .int 0, .int 0, .int 0, .int 0, .int 0])), (x_pool, .inl (x_poolc, 12288, .inl (fun _ => 0))), (x_scratch, .inl (x_scratchc, 201, .inl (fun _ => 0))), (x_nameAt, .inl (x_nameAtc, 2176, .inl (fun _ => 0))), (x_nameSize, .inl (x_nameSizec, 2176, .inl (fun _ => 0))), (x_heads, .inl (x_headsc, 512, .inl (fun _ => 0))), (x_nexts, .inl (x_nextsc, 2176, .inl (fun _ => 0)))] := hD
  refine lv_iconst (v := 0) hx hb dX4_init_63 (by decide) ?_
  refine lv_istore_n (lv' := [(2, .int 0), (0, .ref h0), (1, .ref x_text)]) hx hb dX4_init_64 rfl hl (by decide) rfl ?_
  clear hl
  intro ls hl
  have lp65 : ∀ (n : Nat) (k : Nat) (g0 : Nat → Int32) (H : Heap) (locs : List Loc) (ls : Array Slot), (k ≤ 512) → (512 + 1 ≤ k + n) → va_P (dC, dI) vwCl [(h0, .inr (4, [.ref x_text, .ref x_pool, .ref x_scratch, .ref x_nameAt, .ref x_nameSize, .ref x_heads, .ref x_nexts, .int 0, .int 0, .int 0, .int 0, .int 0, .int 0, .int 0, .int 0, .int 0, .int 0, .int 0])), (x_pool, .inl (x_poolc, 12288, .inl (fun _ => 0))), (x_scratch, .inl (x_scratchc, 201, .inl (fun _ => 0))), (x_nameAt, .inl (x_nameAtc, 2176, .inl (fun _ => 0))), (x_nameSize, .inl (x_nameSizec, 2176, .inl (fun _ => 0))), (x_heads, .inl (x_headsc, 512, .inl g0)), (x_nexts, .inl (x_nextsc, 2176, .inl (fun _ => 0)))] H → va_D A [(h0, .inr (4, [.ref x_text, .ref x_pool, .ref x_scratch, .ref x_nameAt, .ref x_nameSize, .ref x_heads, .ref x_nexts, .int 0, .int 0, .int 0, .int 0, .int 0, .int 0, .int 0, .int 0, .int 0, .int 0, .int 0])), (x_pool, .inl (x_poolc, 12288, .inl (fun _ => 0))), (x_scratch, .inl (x_scratchc, 201, .inl (fun _ => 0))), (x_nameAt, .inl (x_nameAtc, 2176, .inl (fun _ => 0))), (x_nameSize, .inl (x_nameSizec, 2176, .inl (fun _ => 0))), (x_heads, .inl (x_headsc, 512, .inl g0)), (x_nexts, .inl (x_nextsc, 2176, .inl (fun _ => 0)))] → va_S A s.heap H locs → lv_has ls 5 [(2, .int (nI k)), (0, .ref h0), (1, .ref x_text)] → W p l e ({ frames := 6, cells := 6, slots := 19529, locals := 123 } : Room) s m ([.ref h0, .ref x_text] : List Value).toArray below meth c H locs 6 19529 (MQ below (va_Qv (fun (u : Nat × ClassId × (Nat → Int32) × Nat × ClassId × (Nat → Int32) × Nat × ClassId × (Nat → Int32) × Nat × ClassId × (Nat → Int32) × Nat × ClassId × (Nat → Int32) × Nat × ClassId × (Nat → Int32) × Int32 × Int32 × Int32) => True) (fun (u : Nat × ClassId × (Nat → Int32) × Nat × ClassId × (Nat → Int32) × Nat × ClassId × (Nat → Int32) × Nat × ClassId × (Nat → Int32) × Nat × ClassId × (Nat → Int32) × Nat × ClassId × (Nat → Int32) × Int32 × Int32 × Int32) (t : State) => wE (dC, dI) vwCl [(u.2.1, .byte), (u.2.2.2.2.1, .byte), (u.2.2.2.2.2.2.2.1, .int), (u.2.2.2.2.2.2.2.2.2.2.1, .int), (u.2.2.2.2.2.2.2.2.2.2.2.2.2.1, .int), (u.2.2.2.2.2.2.2.2.2.2.2.2.2.2.2.2.1, .int)] [(h0, .inr (4, [.ref x_text, .ref u.1, .ref u.2.2.2.1, .ref u.2.2.2.2.2.2.1, .ref u.2.2.2.2.2.2.2.2.2.1, .ref u.2.2.2.2.2.2.2.2.2.2.2.2.1, .ref u.2.2.2.2.2.2.2.2.2.2.2.2.2.2.2.1, .int u.2.2.2.2.2.2.2.2.2.2.2.2.2.2.2.2.2.2.1, .int u.2.2.2.2.2.2.2.2.2.2.2.2.2.2.2.2.2.2.2.1, .int u.2.2.2.2.2.2.2.2.2.2.2.2.2.2.2.2.2.2.2.2, .int 0, .int 0, .int 0, .int 0, .int 0, .int 0, .int 0, .int 0])), (u.1, .inl (u.2.1, 12288, .inl u.2.2.1)), (u.2.2.2.1, .inl (u.2.2.2.2.1, 201, .inl u.2.2.2.2.2.1)), (u.2.2.2.2.2.2.1, .inl (u.2.2.2.2.2.2.2.1, 2176, .inl u.2.2.2.2.2.2.2.2.1)), (u.2.2.2.2.2.2.2.2.2.1, .inl (u.2.2.2.2.2.2.2.2.2.2.1, 2176, .inl u.2.2.2.2.2.2.2.2.2.2.2.1)), (u.2.2.2.2.2.2.2.2.2.2.2.2.1, .inl (u.2.2.2.2.2.2.2.2.2.2.2.2.2.1, 512, .inl u.2.2.2.2.2.2.2.2.2.2.2.2.2.2.1)), (u.2.2.2.2.2.2.2.2.2.2.2.2.2.2.2.1, .inl (u.2.2.2.2.2.2.2.2.2.2.2.2.2.2.2.2.1, 2176, .inl u.2.2.2.2.2.2.2.2.2.2.2.2.2.2.2.2.2.1))] A t) A) ([.ref h0, .ref x_text] : List Value).toArray s 6 19529 A) (F0 m 65 ls []) := by
    intro n65
    induction n65 with
    | zero =>
      intro k g0 H locs ls le_k mm_k hP hD hS hl
      omega
    | succ n65 ih65 =>
      intro k g0 H locs ls le_k mm_k hP hD hS hl
      refine lv_iload_n hx hb dX4_init_65 rfl (lv_at hl 0 rfl) ?_
      refine lv_sipush (v := 512) hx hb dX4_init_66 (by decide) ?_
      refine lv_icmp_ge (tgt := 87) hx hb dX4_init_69 (by decide) (fun c_1 => ?_) (fun c_1 => ?_)
      · refine lv_iconst (v := 0) hx hb dX4_init_87 (by decide) ?_
        refine lv_istore_n (lv' := [(2, .int 0), (0, .ref h0), (1, .ref x_text)]) hx hb dX4_init_88 rfl hl (by decide) rfl ?_
        clear hl
        intro ls hl
        refine lv_iconst (v := 0) hx hb dX4_init_89 (by decide) ?_
        refine lv_istore_n (lv' := [(3, .int 0), (2, .int 0), (0, .ref h0), (1, .ref x_text)]) hx hb dX4_init_90 rfl hl (by decide) rfl ?_
        clear hl
        intro ls hl
        have lp91 : ∀ (n : Nat) (k : Nat) (z : Nat) (y_pool : Nat → Int32) (y_scratch : Nat → Int32) (y_nameAt : Nat → Int32) (y_nameSize : Nat → Int32) (y_heads : Nat → Int32) (y_nexts : Nat → Int32) (y_names : Int32) (y_poolSize : Int32) (H : Heap) (locs : List Loc) (ls : Array Slot), (k ≤ Ls) → (z ≤ k) → (Ls + 1 ≤ k + n) → va_P (dC, dI) vwCl [(h0, .inr (4, [.ref x_text, .ref x_pool, .ref x_scratch, .ref x_nameAt, .ref x_nameSize, .ref x_heads, .ref x_nexts, .int y_names, .int y_poolSize, .int 0, .int 0, .int 0, .int 0, .int 0, .int 0, .int 0, .int 0, .int 0])), (x_pool, .inl (x_poolc, 12288, .inl y_pool)), (x_scratch, .inl (x_scratchc, 201, .inl y_scratch)), (x_nameAt, .inl (x_nameAtc, 2176, .inl y_nameAt)), (x_nameSize, .inl (x_nameSizec, 2176, .inl y_nameSize)), (x_heads, .inl (x_headsc, 512, .inl y_heads)), (x_nexts, .inl (x_nextsc, 2176, .inl y_nexts))] H → va_D A [(h0, .inr (4, [.ref x_text, .ref x_pool, .ref x_scratch, .ref x_nameAt, .ref x_nameSize, .ref x_heads, .ref x_nexts, .int y_names, .int y_poolSize, .int 0, .int 0, .int 0, .int 0, .int 0, .int 0, .int 0, .int 0, .int 0])), (x_pool, .inl (x_poolc, 12288, .inl y_pool)), (x_scratch, .inl (x_scratchc, 201, .inl y_scratch)), (x_nameAt, .inl (x_nameAtc, 2176, .inl y_nameAt)), (x_nameSize, .inl (x_nameSizec, 2176, .inl y_nameSize)), (x_heads, .inl (x_headsc, 512, .inl y_heads)), (x_nexts, .inl (x_nextsc, 2176, .inl y_nexts))] → va_S A s.heap H locs → lv_has ls 5 [(3, .int (nI k)), (2, .int (nI z)), (0, .ref h0), (1, .ref x_text)] → W p l e ({ frames := 6, cells := 6, slots := 19529, locals := 123 } : Room) s m ([.ref h0, .ref x_text] : List Value).toArray below meth c H locs 6 19529 (MQ below (va_Qv (fun (u : Nat × ClassId × (Nat → Int32) × Nat × ClassId × (Nat → Int32) × Nat × ClassId × (Nat → Int32) × Nat × ClassId × (Nat → Int32) × Nat × ClassId × (Nat → Int32) × Nat × ClassId × (Nat → Int32) × Int32 × Int32 × Int32) => True) (fun (u : Nat × ClassId × (Nat → Int32) × Nat × ClassId × (Nat → Int32) × Nat × ClassId × (Nat → Int32) × Nat × ClassId × (Nat → Int32) × Nat × ClassId × (Nat → Int32) × Nat × ClassId × (Nat → Int32) × Int32 × Int32 × Int32) (t : State) => wE (dC, dI) vwCl [(u.2.1, .byte), (u.2.2.2.2.1, .byte), (u.2.2.2.2.2.2.2.1, .int), (u.2.2.2.2.2.2.2.2.2.2.1, .int), (u.2.2.2.2.2.2.2.2.2.2.2.2.2.1, .int), (u.2.2.2.2.2.2.2.2.2.2.2.2.2.2.2.2.1, .int)] [(h0, .inr (4, [.ref x_text, .ref u.1, .ref u.2.2.2.1, .ref u.2.2.2.2.2.2.1, .ref u.2.2.2.2.2.2.2.2.2.1, .ref u.2.2.2.2.2.2.2.2.2.2.2.2.1, .ref u.2.2.2.2.2.2.2.2.2.2.2.2.2.2.2.1, .int u.2.2.2.2.2.2.2.2.2.2.2.2.2.2.2.2.2.2.1, .int u.2.2.2.2.2.2.2.2.2.2.2.2.2.2.2.2.2.2.2.1, .int u.2.2.2.2.2.2.2.2.2.2.2.2.2.2.2.2.2.2.2.2, .int 0, .int 0, .int 0, .int 0, .int 0, .int 0, .int 0, .int 0])), (u.1, .inl (u.2.1, 12288, .inl u.2.2.1)), (u.2.2.2.1, .inl (u.2.2.2.2.1, 201, .inl u.2.2.2.2.2.1)), (u.2.2.2.2.2.2.1, .inl (u.2.2.2.2.2.2.2.1, 2176, .inl u.2.2.2.2.2.2.2.2.1)), (u.2.2.2.2.2.2.2.2.2.1, .inl (u.2.2.2.2.2.2.2.2.2.2.1, 2176, .inl u.2.2.2.2.2.2.2.2.2.2.2.1)), (u.2.2.2.2.2.2.2.2.2.2.2.2.1, .inl (u.2.2.2.2.2.2.2.2.2.2.2.2.2.1, 512, .inl u.2.2.2.2.2.2.2.2.2.2.2.2.2.2.1)), (u.2.2.2.2.2.2.2.2.2.2.2.2.2.2.2.1, .inl (u.2.2.2.2.2.2.2.2.2.2.2.2.2.2.2.2.1, 2176, .inl u.2.2.2.2.2.2.2.2.2.2.2.2.2.2.2.2.2.1))] A t) A) ([.ref h0, .ref x_text] : List Value).toArray s 6 19529 A) (F0 m 91 ls []) := by
          intro n91
          induction n91 with
          | zero =>
            intro k z y_pool y_scratch y_nameAt y_nameSize y_heads y_nexts y_names y_poolSize H locs ls le_k le_z mm_k hP hD hS hl
            omega
          | succ n91 ih91 =>
            intro k z y_pool y_scratch y_nameAt y_nameSize y_heads y_nexts y_names y_poolSize H locs ls le_k le_z mm_k hP hD hS hl
            refine lv_iload_n hx hb dX4_init_91 rfl (lv_at hl 0 rfl) ?_
            refine va_ldcS hx hb hown hSW.2.2.2.2.2.2 dX4_init_92 ?_
            refine aft_i (wr := [(h0, .inr (4, [.ref x_text, .ref x_pool, .ref x_scratch, .ref x_nameAt, .ref x_nameSize, .ref x_heads, .ref x_nexts, .int y_names, .int y_poolSize, .int 0, .int 0, .int 0, .int 0, .int 0, .int 0, .int 0, .int 0, .int 0])), (x_pool, .inl (x_poolc, 12288, .inl y_pool)), (x_scratch, .inl (x_scratchc, 201, .inl y_scratch)), (x_nameAt, .inl (x_nameAtc, 2176, .inl y_nameAt)), (x_nameSize, .inl (x_nameSizec, 2176, .inl y_nameSize)), (x_heads, .inl (x_headsc, 512, .inl y_heads)), (x_nexts, .inl (x_nextsc, 2176, .inl y_nexts))]) (va_runV (As := []) (rest := [.int (nI k)]) ⟨hx, hb, hml, hown, hts⟩ (c_J0_length_8abf5 l dC dI H.size tx Ls byt ks vs (by omega)) (cwV 0 hts gzX4_init_J0_length_8abf5_V40 rfl rfl rfl (by decide +kernel) ⟨Nat.le_of_ble_eq_true rfl, Nat.le_of_ble_eq_true rfl⟩) (wBS.preV (hP.sub (ws' := []) [] rfl) (hK.sub (tys' := []) [] rfl) (hD.sub (ws' := []) [] (by decide) rfl) hN hSW hS (va_free (wc := []) hD hS hA [] rfl)) rfl rfl hl.1 rfl (lv_room (Nat.le_of_ble_eq_true rfl)) dX4_init_94 ⟨Nat.le_of_ble_eq_true rfl, Nat.le_of_ble_eq_true rfl⟩) hP hD hS hA [] [0, 1, 2, 3, 4, 5, 6] rfl rfl (by decide) (by decide) ?_
            clear hP hD hS
            intro r_3 u_2 H locs w_4 hK1 hP hD hS
            replace hP : va_P (dC, dI) vwCl [(h0, .inr (4, [.ref x_text, .ref x_pool, .ref x_scratch, .ref x_nameAt, .ref x_nameSize, .ref x_heads, .ref x_nexts, .int y_names, .int y_poolSize, .int 0, .int 0, .int 0, .int 0, .int 0, .int 0, .int 0, .int 0, .int 0])), (x_pool, .inl (x_poolc, 12288, .inl y_pool)), (x_scratch, .inl (x_scratchc, 201, .inl y_scratch)), (x_nameAt, .inl (x_nameAtc, 2176, .inl y_nameAt)), (x_nameSize, .inl (x_nameSizec, 2176, .inl y_nameSize)), (x_heads, .inl (x_headsc, 512, .inl y_heads)), (x_nexts, .inl (x_nextsc, 2176, .inl y_nexts))] H := hP
            replace hD : va_D A [(h0, .inr (4, [.ref x_text, .ref x_pool, .ref x_scratch, .ref x_nameAt, .ref x_nameSize, .ref x_heads, .ref x_nexts, .int y_names, .int y_poolSize, .int 0, .int 0, .int 0, .int 0, .int 0, .int 0, .int 0, .int 0, .int 0])), (x_pool, .inl (x_poolc, 12288, .inl y_pool)), (x_scratch, .inl (x_scratchc, 201, .inl y_scratch)), (x_nameAt, .inl (x_nameAtc, 2176, .inl y_nameAt)), (x_nameSize, .inl (x_nameSizec, 2176, .inl y_nameSize)), (x_heads, .inl (x_headsc, 512, .inl y_heads)), (x_nexts, .inl (x_nextsc, 2176, .inl y_nexts))] := hD
            clear hK1
            try dsimp only at w_4
            obtain rfl : r_3 = nI Ls := w_4
            refine lv_icmp_ge (tgt := 145) hx hb dX4_init_97 (by decide) (fun c_5 => ?_) (fun c_5 => ?_)
            · refine lv_aload_n hx hb dX4_init_145 rfl (lv_at hl 2 rfl) ?_
              refine lv_aload_n hx hb dX4_init_146 rfl (lv_at hl 2 rfl) ?_
              refine va_get (D := (dC, dI)) (ci := 4) (v := .int y_poolSize) (C := RX4) (T := TX4) (N := 18) hx hb hts (fun _ h9 => List.mem_cons_of_mem _ (List.mem_append_right _ h9)) hown hK hP 0 rfl rfl 8 (by decide) (hts _ (List.mem_cons_of_mem _ (List.mem_append_left _ (List.mem_of_getElem? (i := 24) rfl)))) (fun _ h9 => h9) rfl dX4_init_147 ?_
              refine va_put (D := (dC, dI)) (ci := 4) (v := .int y_poolSize) (ty := .int) (C := RX4) (T := TX4) (N := 18) hx hb hts (fun _ h9 => List.mem_cons_of_mem _ (List.mem_append_right _ h9)) tyX4 tyX4_ok nmX4 hown hK hP hD hS 0 rfl rfl 9 (by decide) (hts _ (List.mem_cons_of_mem _ (List.mem_append_left _ (List.mem_of_getElem? (i := 25) rfl)))) (fun _ h9 => h9) rfl (by decide +kernel) rfl rfl (Nat.le_of_ble_eq_true rfl) dX4_init_150 ?_
              clear hP hD hS
              intro H locs hP hD hS
              replace hP : va_P (dC, dI) vwCl [(h0, .inr (4, [.ref x_text, .ref x_pool, .ref x_scratch, .ref x_nameAt, .ref x_nameSize, .ref x_heads, .ref x_nexts, .int y_names, .int y_poolSize, .int y_poolSize, .int 0, .int 0, .int 0, .int 0, .int 0, .int 0, .int 0, .int 0])), (x_pool, .inl (x_poolc, 12288, .inl y_pool)), (x_scratch, .inl (x_scratchc, 201, .inl y_scratch)), (x_nameAt, .inl (x_nameAtc, 2176, .inl y_nameAt)), (x_nameSize, .inl (x_nameSizec, 2176, .inl y_nameSize)), (x_heads, .inl (x_headsc, 512, .inl y_heads)), (x_nexts, .inl (x_nextsc, 2176, .inl y_nexts))] H := hP
              replace hD : va_D A [(h0, .inr (4, [.ref x_text, .ref x_pool, .ref x_scratch, .ref x_nameAt, .ref x_nameSize, .ref x_heads, .ref x_nexts, .int y_names, .int y_poolSize, .int y_poolSize, .int 0, .int 0, .int 0, .int 0, .int 0, .int 0, .int 0, .int 0])), (x_pool, .inl (x_poolc, 12288, .inl y_pool)), (x_scratch, .inl (x_scratchc, 201, .inl y_scratch)), (x_nameAt, .inl (x_nameAtc, 2176, .inl y_nameAt)), (x_nameSize, .inl (x_nameSizec, 2176, .inl y_nameSize)), (x_heads, .inl (x_headsc, 512, .inl y_heads)), (x_nexts, .inl (x_nextsc, 2176, .inl y_nexts))] := hD
              have hP9 := hP.sub (ws' := [(h0, .inr (4, [.ref x_text, .ref x_pool, .ref x_scratch, .ref x_nameAt, .ref x_nameSize, .ref x_heads, .ref x_nexts, .int y_names, .int y_poolSize, .int y_poolSize, .int 0, .int 0, .int 0, .int 0, .int 0, .int 0, .int 0, .int 0])), (x_pool, .inl (x_poolc, 12288, .inl y_pool)), (x_scratch, .inl (x_scratchc, 201, .inl y_scratch)), (x_nameAt, .inl (x_nameAtc, 2176, .inl y_nameAt)), (x_nameSize, .inl (x_nameSizec, 2176, .inl y_nameSize)), (x_heads, .inl (x_headsc, 512, .inl y_heads)), (x_nexts, .inl (x_nextsc, 2176, .inl y_nexts))]) [0, 1, 2, 3, 4, 5, 6] rfl
              have hD9 := hD.sub (ws' := [(h0, .inr (4, [.ref x_text, .ref x_pool, .ref x_scratch, .ref x_nameAt, .ref x_nameSize, .ref x_heads, .ref x_nexts, .int y_names, .int y_poolSize, .int y_poolSize, .int 0, .int 0, .int 0, .int 0, .int 0, .int 0, .int 0, .int 0])), (x_pool, .inl (x_poolc, 12288, .inl y_pool)), (x_scratch, .inl (x_scratchc, 201, .inl y_scratch)), (x_nameAt, .inl (x_nameAtc, 2176, .inl y_nameAt)), (x_nameSize, .inl (x_nameSizec, 2176, .inl y_nameSize)), (x_heads, .inl (x_headsc, 512, .inl y_heads)), (x_nexts, .inl (x_nextsc, 2176, .inl y_nexts))]) [0, 1, 2, 3, 4, 5, 6] (by decide) rfl
              have hK9 := hK.sub (tys' := [(x_poolc, .byte), (x_scratchc, .byte), (x_nameAtc, .int), (x_nameSizec, .int), (x_headsc, .int), (x_nextsc, .int)]) [0, 1, 2, 3, 4, 5] rfl
              exact W.vret hx hb hr (fun t ht hW => ⟨⟨(x_pool, x_poolc, y_pool, x_scratch, x_scratchc, y_scratch, x_nameAt, x_nameAtc, y_nameAt, x_nameSize, x_nameSizec, y_nameSize, x_heads, x_headsc, y_heads, x_nexts, x_nextsc, y_nexts, y_names, y_poolSize, y_poolSize), rfl, trivial, wE.of ht hW hP9 hK9 hD9⟩, hS.F ht⟩) hS.2.2 dX4_init_153
            · have lt_k : k < Ls := Nat.lt_of_not_le (fun q => c_5 (nI_le q (by omega)))
              refine va_ldcS hx hb hown hSW.2.2.2.2.2.2 dX4_init_100 ?_
              refine lv_iload_n hx hb dX4_init_102 rfl (lv_at hl 0 rfl) ?_
              refine aft_i (wr := [(h0, .inr (4, [.ref x_text, .ref x_pool, .ref x_scratch, .ref x_nameAt, .ref x_nameSize, .ref x_heads, .ref x_nexts, .int y_names, .int y_poolSize, .int 0, .int 0, .int 0, .int 0, .int 0, .int 0, .int 0, .int 0, .int 0])), (x_pool, .inl (x_poolc, 12288, .inl y_pool)), (x_scratch, .inl (x_scratchc, 201, .inl y_scratch)), (x_nameAt, .inl (x_nameAtc, 2176, .inl y_nameAt)), (x_nameSize, .inl (x_nameSizec, 2176, .inl y_nameSize)), (x_heads, .inl (x_headsc, 512, .inl y_heads)), (x_nexts, .inl (x_nextsc, 2176, .inl y_nexts))]) (va_runV (As := [.int (nI k)]) (rest := []) ⟨hx, hb, hml, hown, hts⟩ (c_J0_charAt_5068e l dC dI H.size tx Ls byt ks vs (nI k) (by omega) (nI_pos (by omega)) (nI_lt lt_k (by omega))) (cwV 1 hts gzX4_init_J0_charAt_5068e_V46 rfl rfl rfl (by decide +kernel) ⟨Nat.le_of_ble_eq_true rfl, Nat.le_of_ble_eq_true rfl⟩) (wBS.preV (hP.sub (ws' := []) [] rfl) (hK.sub (tys' := []) [] rfl) (hD.sub (ws' := []) [] (by decide) rfl) hN hSW hS (va_free (wc := []) hD hS hA [] rfl)) rfl rfl hl.1 rfl (lv_room (Nat.le_of_ble_eq_true rfl)) dX4_init_103 ⟨Nat.le_of_ble_eq_true rfl, Nat.le_of_ble_eq_true rfl⟩) hP hD hS hA [] [0, 1, 2, 3, 4, 5, 6] rfl rfl (by decide) (by decide) ?_
              clear hP hD hS
              intro r_7 u_6 H locs w_8 hK1 hP hD hS
              replace hP : va_P (dC, dI) vwCl [(h0, .inr (4, [.ref x_text, .ref x_pool, .ref x_scratch, .ref x_nameAt, .ref x_nameSize, .ref x_heads, .ref x_nexts, .int y_names, .int y_poolSize, .int 0, .int 0, .int 0, .int 0, .int 0, .int 0, .int 0, .int 0, .int 0])), (x_pool, .inl (x_poolc, 12288, .inl y_pool)), (x_scratch, .inl (x_scratchc, 201, .inl y_scratch)), (x_nameAt, .inl (x_nameAtc, 2176, .inl y_nameAt)), (x_nameSize, .inl (x_nameSizec, 2176, .inl y_nameSize)), (x_heads, .inl (x_headsc, 512, .inl y_heads)), (x_nexts, .inl (x_nextsc, 2176, .inl y_nexts))] H := hP
              replace hD : va_D A [(h0, .inr (4, [.ref x_text, .ref x_pool, .ref x_scratch, .ref x_nameAt, .ref x_nameSize, .ref x_heads, .ref x_nexts, .int y_names, .int y_poolSize, .int 0, .int 0, .int 0, .int 0, .int 0, .int 0, .int 0, .int 0, .int 0])), (x_pool, .inl (x_poolc, 12288, .inl y_pool)), (x_scratch, .inl (x_scratchc, 201, .inl y_scratch)), (x_nameAt, .inl (x_nameAtc, 2176, .inl y_nameAt)), (x_nameSize, .inl (x_nameSizec, 2176, .inl y_nameSize)), (x_heads, .inl (x_headsc, 512, .inl y_heads)), (x_nexts, .inl (x_nextsc, 2176, .inl y_nexts))] := hD
              clear hK1
              try dsimp only at w_8
              refine lv_istore (lv' := [(4, .int r_7), (3, .int (nI k)), (2, .int (nI z)), (0, .ref h0), (1, .ref x_text)]) hx hb dX4_init_106 hl (by decide) rfl ?_
              clear hl
              intro ls hl
              refine lv_iload hx hb dX4_init_108 (lv_at hl 0 rfl) ?_
              refine lv_bipush (v := 32) hx hb dX4_init_110 (by decide) ?_
              refine lv_icmp_eq (tgt := 131) hx hb dX4_init_112 (by decide) (fun c_9 => ?_) (fun c_9 => ?_)
              · refine lv_aload_n hx hb dX4_init_131 rfl (lv_at hl 3 rfl) ?_
                refine lv_iload_n hx hb dX4_init_132 rfl (lv_at hl 2 rfl) ?_
                refine aft_i (wr := []) (va_runV (As := [.int (nI z)]) (rest := []) ⟨hx, hb, hml, hown, hts⟩ (c_X4_intern l dC dI H.size h0 x_text x_pool x_scratch x_nameAt x_nameSize x_heads x_nexts y_names y_poolSize 0 0 0 0 0 0 0 0 0 x_poolc y_pool x_scratchc y_scratch x_nameAtc y_nameAt x_nameSizec y_nameSize x_headsc y_heads x_nextsc y_nexts z (by omega)) (cwV 1 hts gzX4_init_X4_intern_V54 rfl rfl rfl (by decide +kernel) ⟨Nat.le_of_ble_eq_true rfl, Nat.le_of_ble_eq_true rfl⟩) (wB.preV (hP.sub (ws' := [(h0, .inr (4, [.ref x_text, .ref x_pool, .ref x_scratch, .ref x_nameAt, .ref x_nameSize, .ref x_heads, .ref x_nexts, .int y_names, .int y_poolSize, .int 0, .int 0, .int 0, .int 0, .int 0, .int 0, .int 0, .int 0, .int 0])), (x_pool, .inl (x_poolc, 12288, .inl y_pool)), (x_scratch, .inl (x_scratchc, 201, .inl y_scratch)), (x_nameAt, .inl (x_nameAtc, 2176, .inl y_nameAt)), (x_nameSize, .inl (x_nameSizec, 2176, .inl y_nameSize)), (x_heads, .inl (x_headsc, 512, .inl y_heads)), (x_nexts, .inl (x_nextsc, 2176, .inl y_nexts))]) [0, 1, 2, 3, 4, 5, 6] rfl) (hK.sub (tys' := [(x_poolc, .byte), (x_scratchc, .byte), (x_nameAtc, .int), (x_nameSizec, .int), (x_headsc, .int), (x_nextsc, .int)]) [0, 1, 2, 3, 4, 5] rfl) (hD.sub (ws' := [(h0, .inr (4, [.ref x_text, .ref x_pool, .ref x_scratch, .ref x_nameAt, .ref x_nameSize, .ref x_heads, .ref x_nexts, .int y_names, .int y_poolSize, .int 0, .int 0, .int 0, .int 0, .int 0, .int 0, .int 0, .int 0, .int 0])), (x_pool, .inl (x_poolc, 12288, .inl y_pool)), (x_scratch, .inl (x_scratchc, 201, .inl y_scratch)), (x_nameAt, .inl (x_nameAtc, 2176, .inl y_nameAt)), (x_nameSize, .inl (x_nameSizec, 2176, .inl y_nameSize)), (x_heads, .inl (x_headsc, 512, .inl y_heads)), (x_nexts, .inl (x_nextsc, 2176, .inl y_nexts))]) [0, 1, 2, 3, 4, 5, 6] (by decide) rfl) hN 4 0 rfl rfl) rfl rfl hl.1 rfl (lv_room (Nat.le_of_ble_eq_true rfl)) dX4_init_133 ⟨Nat.le_of_ble_eq_true rfl, Nat.le_of_ble_eq_true rfl⟩) hP hD hS hA [0, 1, 2, 3, 4, 5, 6] [] rfl rfl (by decide) (by decide) ?_
                clear hP hD hS
                intro r_11 u_10 H locs w_12 hK1 hP hD hS
                obtain ⟨gpool_13, gnameAt_14, gnameSize_15, gheads_16, gnexts_17, gnames_18, gpoolSize_19⟩ := u_10
                replace hP : va_P (dC, dI) vwCl [(h0, .inr (4, [.ref x_text, .ref x_pool, .ref x_scratch, .ref x_nameAt, .ref x_nameSize, .ref x_heads, .ref x_nexts, .int gnames_18, .int gpoolSize_19, .int 0, .int 0, .int 0, .int 0, .int 0, .int 0, .int 0, .int 0, .int 0])), (x_pool, .inl (x_poolc, 12288, .inl gpool_13)), (x_scratch, .inl (x_scratchc, 201, .inl y_scratch)), (x_nameAt, .inl (x_nameAtc, 2176, .inl gnameAt_14)), (x_nameSize, .inl (x_nameSizec, 2176, .inl gnameSize_15)), (x_heads, .inl (x_headsc, 512, .inl gheads_16)), (x_nexts, .inl (x_nextsc, 2176, .inl gnexts_17))] H := hP
                replace hD : va_D A [(h0, .inr (4, [.ref x_text, .ref x_pool, .ref x_scratch, .ref x_nameAt, .ref x_nameSize, .ref x_heads, .ref x_nexts, .int gnames_18, .int gpoolSize_19, .int 0, .int 0, .int 0, .int 0, .int 0, .int 0, .int 0, .int 0, .int 0])), (x_pool, .inl (x_poolc, 12288, .inl gpool_13)), (x_scratch, .inl (x_scratchc, 201, .inl y_scratch)), (x_nameAt, .inl (x_nameAtc, 2176, .inl gnameAt_14)), (x_nameSize, .inl (x_nameSizec, 2176, .inl gnameSize_15)), (x_heads, .inl (x_headsc, 512, .inl gheads_16)), (x_nexts, .inl (x_nextsc, 2176, .inl gnexts_17))] := hD
                clear hK1
                try dsimp only at w_12
                refine lv_pop hx hb dX4_init_136 rfl ?_
                refine lv_iconst (v := 0) hx hb dX4_init_137 (by decide) ?_
                refine lv_istore_n (lv' := [(2, .int 0), (4, .int r_7), (3, .int (nI k)), (0, .ref h0), (1, .ref x_text)]) hx hb dX4_init_138 rfl hl (by decide) rfl ?_
                clear hl
                intro ls hl
                refine lv_iinc (v := nI (k + 1)) (lv' := [(3, .int (nI (k + 1))), (2, .int 0), (4, .int r_7), (0, .ref h0), (1, .ref x_text)]) hx hb dX4_init_139 hl (k := 2) rfl (nI_1 _) (by decide) rfl ?_
                clear hl
                intro ls hl
                refine lv_goto (tgt := 91) hx hb dX4_init_142 (by decide) ?_
                exact ih91 (k + 1) 0 gpool_13 y_scratch gnameAt_14 gnameSize_15 gheads_16 gnexts_17 gnames_18 gpoolSize_19 _ _ _ (by omega) (by omega) (by omega) (hP.sub [0, 1, 2, 3, 4, 5, 6] rfl) (hD.sub [0, 1, 2, 3, 4, 5, 6] (by decide) rfl) hS (lv_sub hl [0, 1, 3, 4] rfl)
              · refine lv_aload_n hx hb dX4_init_115 rfl (lv_at hl 3 rfl) ?_
                refine va_get (D := (dC, dI)) (ci := 4) (v := .ref x_scratch) (C := RX4) (T := TX4) (N := 18) hx hb hts (fun _ h9 => List.mem_cons_of_mem _ (List.mem_append_right _ h9)) hown hK hP 0 rfl rfl 2 (by decide) (hts _ (List.mem_cons_of_mem _ (List.mem_append_left _ (List.mem_of_getElem? (i := 5) rfl)))) (fun _ h9 => h9) rfl dX4_init_116 ?_
                refine lv_iload_n hx hb dX4_init_119 rfl (lv_at hl 2 rfl) ?_
                refine lv_iinc (v := nI (z + 1)) (lv' := [(2, .int (nI (z + 1))), (4, .int r_7), (3, .int (nI k)), (0, .ref h0), (1, .ref x_text)]) hx hb dX4_init_120 hl (k := 2) rfl (nI_1 _) (by decide) rfl ?_
                clear hl
                intro ls hl
                refine lv_iload hx hb dX4_init_123 (lv_at hl 1 rfl) ?_
                refine aft_v (wr := [(h0, .inr (4, [.ref x_text, .ref x_pool, .ref x_scratch, .ref x_nameAt, .ref x_nameSize, .ref x_heads, .ref x_nexts, .int y_names, .int y_poolSize, .int 0, .int 0, .int 0, .int 0, .int 0, .int 0, .int 0, .int 0, .int 0])), (x_pool, .inl (x_poolc, 12288, .inl y_pool)), (x_nameAt, .inl (x_nameAtc, 2176, .inl y_nameAt)), (x_nameSize, .inl (x_nameSizec, 2176, .inl y_nameSize)), (x_heads, .inl (x_headsc, 512, .inl y_heads)), (x_nexts, .inl (x_nextsc, 2176, .inl y_nexts))]) (va_runSN (As := [.ref x_scratch, .int (nI z), .int r_7]) (rest := []) ⟨hx, hb, hml, hown, hts⟩ (c_X12_putByte l dC dI H.size x_scratch x_scratchc 201 y_scratch (nI z) r_7 (by first | assumption | decide | omega)) ⟨va_cnB 3 hts gzX4_init_X12_putByte_50 rfl rfl rfl (hN.at 10 rfl) (hts _ (List.mem_cons_of_mem _ (List.mem_append_left _ (List.mem_of_getElem? (i := 52) rfl)))) (by decide +kernel) ⟨Nat.le_of_ble_eq_true rfl, Nat.le_of_ble_eq_true rfl⟩, (hts _ (List.mem_cons_of_mem _ (List.mem_append_left _ (List.mem_of_getElem? (i := 60) rfl)))), trivial⟩ (wB.preS (hP.sub (ws' := [(x_scratch, .inl (x_scratchc, 201, .inl y_scratch))]) [2] rfl) (hK.sub (tys' := [(x_scratchc, .byte)]) [1] rfl) (hD.sub (ws' := [(x_scratch, .inl (x_scratchc, 201, .inl y_scratch))]) [2] (by decide) rfl) hN) rfl rfl hl.1 rfl (lv_room (Nat.le_of_ble_eq_true rfl)) dX4_init_125 ⟨Nat.le_of_ble_eq_true rfl, Nat.le_of_ble_eq_true rfl⟩) hP hD hS hA [2] [0, 1, 3, 4, 5, 6] rfl rfl (by decide) (by decide) ?_
                clear hP hD hS
                intro u_20 H locs w_22 hK1 hP hD hS
                obtain ⟨g_23, rfl⟩ : ∃ z, z = u_20 := ⟨_, rfl⟩
                replace hP : va_P (dC, dI) vwCl [(h0, .inr (4, [.ref x_text, .ref x_pool, .ref x_scratch, .ref x_nameAt, .ref x_nameSize, .ref x_heads, .ref x_nexts, .int y_names, .int y_poolSize, .int 0, .int 0, .int 0, .int 0, .int 0, .int 0, .int 0, .int 0, .int 0])), (x_pool, .inl (x_poolc, 12288, .inl y_pool)), (x_nameAt, .inl (x_nameAtc, 2176, .inl y_nameAt)), (x_nameSize, .inl (x_nameSizec, 2176, .inl y_nameSize)), (x_heads, .inl (x_headsc, 512, .inl y_heads)), (x_nexts, .inl (x_nextsc, 2176, .inl y_nexts)), (x_scratch, .inl (x_scratchc, 201, .inl g_23))] H := hP
                replace hD : va_D A [(h0, .inr (4, [.ref x_text, .ref x_pool, .ref x_scratch, .ref x_nameAt, .ref x_nameSize, .ref x_heads, .ref x_nexts, .int y_names, .int y_poolSize, .int 0, .int 0, .int 0, .int 0, .int 0, .int 0, .int 0, .int 0, .int 0])), (x_pool, .inl (x_poolc, 12288, .inl y_pool)), (x_nameAt, .inl (x_nameAtc, 2176, .inl y_nameAt)), (x_nameSize, .inl (x_nameSizec, 2176, .inl y_nameSize)), (x_heads, .inl (x_headsc, 512, .inl y_heads)), (x_nexts, .inl (x_nextsc, 2176, .inl y_nexts)), (x_scratch, .inl (x_scratchc, 201, .inl g_23))] := hD
                clear hK1
                try dsimp only at w_22
                refine lv_goto (tgt := 139) hx hb dX4_init_128 (by decide) ?_
                refine lv_iinc (v := nI (k + 1)) (lv' := [(3, .int (nI (k + 1))), (2, .int (nI (z + 1))), (4, .int r_7), (0, .ref h0), (1, .ref x_text)]) hx hb dX4_init_139 hl (k := 2) rfl (nI_1 _) (by decide) rfl ?_
                clear hl
                intro ls hl
                refine lv_goto (tgt := 91) hx hb dX4_init_142 (by decide) ?_
                exact ih91 (k + 1) (z + 1) y_pool g_23 y_nameAt y_nameSize y_heads y_nexts y_names y_poolSize _ _ _ (by omega) (by omega) (by omega) (hP.sub [0, 1, 6, 2, 3, 4, 5] rfl) (hD.sub [0, 1, 6, 2, 3, 4, 5] (by decide) rfl) hS (lv_sub hl [0, 1, 3, 4] rfl)
        exact lp91 (Ls + 1) 0 0 (fun _ => 0) (fun _ => 0) (fun _ => 0) (fun _ => 0) g0 (fun _ => 0) 0 0 _ _ _ (by omega) (by omega) (by omega) (hP.sub [0, 1, 2, 3, 4, 5, 6] rfl) (hD.sub [0, 1, 2, 3, 4, 5, 6] (by decide) rfl) hS (lv_sub hl [0, 1, 2, 3] rfl)
      · have lt_k : k < 512 := Nat.lt_of_not_le (fun q => c_1 (nI_le (a := 512) q (by omega)))
        refine lv_aload_n hx hb dX4_init_72 rfl (lv_at hl 1 rfl) ?_
        refine va_get (D := (dC, dI)) (ci := 4) (v := .ref x_heads) (C := RX4) (T := TX4) (N := 18) hx hb hts (fun _ h9 => List.mem_cons_of_mem _ (List.mem_append_right _ h9)) hown hK hP 0 rfl rfl 5 (by decide) (hts _ (List.mem_cons_of_mem _ (List.mem_append_left _ (List.mem_of_getElem? (i := 9) rfl)))) (fun _ h9 => h9) rfl dX4_init_73 ?_
        refine lv_iload_n hx hb dX4_init_76 rfl (lv_at hl 0 rfl) ?_
        refine lv_iconst (v := (-1)) hx hb dX4_init_77 (by decide) ?_
        refine aft_v (wr := [(h0, .inr (4, [.ref x_text, .ref x_pool, .ref x_scratch, .ref x_nameAt, .ref x_nameSize, .ref x_heads, .ref x_nexts, .int 0, .int 0, .int 0, .int 0, .int 0, .int 0, .int 0, .int 0, .int 0, .int 0, .int 0])), (x_pool, .inl (x_poolc, 12288, .inl (fun _ => 0))), (x_scratch, .inl (x_scratchc, 201, .inl (fun _ => 0))), (x_nameAt, .inl (x_nameAtc, 2176, .inl (fun _ => 0))), (x_nameSize, .inl (x_nameSizec, 2176, .inl (fun _ => 0))), (x_nexts, .inl (x_nextsc, 2176, .inl (fun _ => 0)))]) (va_runSN (As := [.ref x_heads, .int (nI k), .int (-1)]) (rest := []) ⟨hx, hb, hml, hown, hts⟩ (c_X12_put l dC dI H.size x_heads x_headsc 512 g0 (nI k) (-1) (by first | assumption | decide | omega)) ⟨va_cnB 3 hts gzX4_init_X12_put_34 rfl rfl rfl (hN.at 9 rfl) (hts _ (List.mem_cons_of_mem _ (List.mem_append_left _ (List.mem_of_getElem? (i := 52) rfl)))) (by decide +kernel) ⟨Nat.le_of_ble_eq_true rfl, Nat.le_of_ble_eq_true rfl⟩, (hts _ (List.mem_cons_of_mem _ (List.mem_append_left _ (List.mem_of_getElem? (i := 56) rfl)))), trivial⟩ (wB.preS (hP.sub (ws' := [(x_heads, .inl (x_headsc, 512, .inl g0))]) [5] rfl) (hK.sub (tys' := [(x_headsc, .int)]) [4] rfl) (hD.sub (ws' := [(x_heads, .inl (x_headsc, 512, .inl g0))]) [5] (by decide) rfl) hN) rfl rfl hl.1 rfl (lv_room (Nat.le_of_ble_eq_true rfl)) dX4_init_78 ⟨Nat.le_of_ble_eq_true rfl, Nat.le_of_ble_eq_true rfl⟩) hP hD hS hA [5] [0, 1, 2, 3, 4, 6] rfl rfl (by decide) (by decide) ?_
        clear hP hD hS
        intro u_24 H locs w_26 hK1 hP hD hS
        obtain ⟨g_27, rfl⟩ : ∃ z, z = u_24 := ⟨_, rfl⟩
        replace hP : va_P (dC, dI) vwCl [(h0, .inr (4, [.ref x_text, .ref x_pool, .ref x_scratch, .ref x_nameAt, .ref x_nameSize, .ref x_heads, .ref x_nexts, .int 0, .int 0, .int 0, .int 0, .int 0, .int 0, .int 0, .int 0, .int 0, .int 0, .int 0])), (x_pool, .inl (x_poolc, 12288, .inl (fun _ => 0))), (x_scratch, .inl (x_scratchc, 201, .inl (fun _ => 0))), (x_nameAt, .inl (x_nameAtc, 2176, .inl (fun _ => 0))), (x_nameSize, .inl (x_nameSizec, 2176, .inl (fun _ => 0))), (x_nexts, .inl (x_nextsc, 2176, .inl (fun _ => 0))), (x_heads, .inl (x_headsc, 512, .inl g_27))] H := hP
        replace hD : va_D A [(h0, .inr (4, [.ref x_text, .ref x_pool, .ref x_scratch, .ref x_nameAt, .ref x_nameSize, .ref x_heads, .ref x_nexts, .int 0, .int 0, .int 0, .int 0, .int 0, .int 0, .int 0, .int 0, .int 0, .int 0, .int 0])), (x_pool, .inl (x_poolc, 12288, .inl (fun _ => 0))), (x_scratch, .inl (x_scratchc, 201, .inl (fun _ => 0))), (x_nameAt, .inl (x_nameAtc, 2176, .inl (fun _ => 0))), (x_nameSize, .inl (x_nameSizec, 2176, .inl (fun _ => 0))), (x_nexts, .inl (x_nextsc, 2176, .inl (fun _ => 0))), (x_heads, .inl (x_headsc, 512, .inl g_27))] := hD
        clear hK1
        try dsimp only at w_26
        refine lv_iinc (v := nI (k + 1)) (lv' := [(2, .int (nI (k + 1))), (0, .ref h0), (1, .ref x_text)]) hx hb dX4_init_81 hl (k := 0) rfl (nI_1 _) (by decide) rfl ?_
        clear hl
        intro ls hl
        refine lv_goto (tgt := 65) hx hb dX4_init_84 (by decide) ?_
        exact ih65 (k + 1) g_27 _ _ _ (by omega) (by omega) (hP.sub [0, 1, 2, 3, 4, 6, 5] rfl) (hD.sub [0, 1, 2, 3, 4, 6, 5] (by decide) rfl) hS (lv_sub hl [0, 1, 2] rfl)
  exact lp65 (512 + 1) 0 (fun _ => 0) _ _ _ (by omega) (by omega) (hP.sub [0, 1, 2, 3, 4, 5, 6] rfl) (hD.sub [0, 1, 2, 3, 4, 5, 6] (by decide) rfl) hS (lv_sub hl [0, 1, 2] rfl)

