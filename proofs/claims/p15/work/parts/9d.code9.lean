/-! XF: rows, then what is proved of them. -/
theorem rX4_named_0 {d : Nat} {lv : xLV} {st : List Value} {S : xS} {r : xO} : XL SK MT d 115 (0, lv, st, S) r ↔ xA (xlook lv 0) (fun x => XL SK MT d 115 (1, lv, .ref x :: st, S) r) := X_ldA rfl rfl (fun _ => rfl) rfl rfl rfl rfl
theorem rX4_named_1 {d : Nat} {lv : xLV} {st : List Value} {S : xS} {r : xO} : XL SK MT d 115 (1, lv, .ref 1 :: st, S) r ↔ XL SK MT d 115 (4, lv, .int (S.1 1 7) :: st, S) r := X_heap rfl rfl rfl rfl rfl
theorem rX4_named_4 {d : Nat} {lv : xLV} {S : xS} {r : xO} {x : Int32} : XL SK MT d 115 (4, lv, [.int x], S) r ↔ (some (.int x), S) = r := X_ret rfl rfl rfl rfl rfl rfl

theorem rX2_findTails_0 {d : Nat} {lv : xLV} {st : List Value} {S : xS} {r : xO} : XL SK MT d 75 (0, lv, st, S) r ↔ XL SK MT d 75 (1, lv, .int 0 :: st, S) r := X_pure rfl rfl rfl
theorem rX2_findTails_1 {d : Nat} {lv : xLV} {st : List Value} {S : xS} {r : xO} {x : Int32} : XL SK MT d 75 (1, lv, .int x :: st, S) r ↔ XL SK MT d 75 (2, xst1 lv 1 (.int x), st, S) r := X_pure rfl rfl rfl
theorem rX2_findTails_2 {d : Nat} {lv : xLV} {st : List Value} {S : xS} {r : xO} : XL SK MT d 75 (2, lv, st, S) r ↔ xI (xlook lv 1) (fun x => XL SK MT d 75 (3, lv, .int x :: st, S) r) := X_ldI rfl rfl (fun _ => rfl) rfl rfl rfl rfl
theorem rX2_findTails_3 {d : Nat} {lv : xLV} {st : List Value} {S : xS} {r : xO} : XL SK MT d 75 (3, lv, st, S) r ↔ xA (xlook lv 0) (fun x => XL SK MT d 75 (4, lv, .ref x :: st, S) r) := X_ldA rfl rfl (fun _ => rfl) rfl rfl rfl rfl
theorem rX2_findTails_4 {d : Nat} {lv : xLV} {st : List Value} {S : xS} {r : xO} : XL SK MT d 75 (4, lv, .ref 6 :: st, S) r ↔ XL SK MT d 75 (7, lv, .int (S.1 6 3) :: st, S) r := X_heap rfl rfl rfl rfl rfl
theorem rX2_findTails_7 {d : Nat} {lv : xLV} {st : List Value} {S : xS} {r : xO} {x z : Int32} : XL SK MT d 75 (7, lv, .int z :: .int x :: st, S) r ↔ if z ≤ x then XL SK MT d 75 (113, lv, st, S) r else XL SK MT d 75 (10, lv, st, S) r := (X_icmp rfl rfl).trans xc_ge
theorem rX2_findTails_10 {d : Nat} {lv : xLV} {st : List Value} {S : xS} {r : xO} : XL SK MT d 75 (10, lv, st, S) r ↔ xA (xlook lv 0) (fun x => XL SK MT d 75 (11, lv, .ref x :: st, S) r) := X_ldA rfl rfl (fun _ => rfl) rfl rfl rfl rfl
theorem rX2_findTails_11 {d : Nat} {lv : xLV} {st : List Value} {S : xS} {r : xO} : XL SK MT d 75 (11, lv, .ref 6 :: st, S) r ↔ XL SK MT d 75 (14, lv, .ref 53 :: st, S) r := X_heap rfl rfl rfl rfl rfl
theorem rX2_findTails_14 {d : Nat} {lv : xLV} {st : List Value} {S : xS} {r : xO} : XL SK MT d 75 (14, lv, st, S) r ↔ xI (xlook lv 1) (fun x => XL SK MT d 75 (15, lv, .int x :: st, S) r) := X_ldI rfl rfl (fun _ => rfl) rfl rfl rfl rfl
theorem rX2_findTails_15 {d : Nat} {lv : xLV} {S : xS} {r : xO} {x1 : Nat} {x2 : Int32} : XL SK MT d 75 (15, lv, [.int x2, .ref x1], S) r ↔ xK (XC SK MT d 303 [.ref x1, .int x2] S) (fun v S => XL SK MT d 75 (18, lv, v.toList ++ [], S) r) := X_inv (n := 2) (kd := 1) (st0 := [.int x2, .ref x1]) rfl (Or.inl ⟨rfl, rfl⟩) rfl (Nat.le_of_ble_eq_true rfl) (Nat.le_of_ble_eq_true rfl) (by decide) rfl
theorem rX2_findTails_18 {d : Nat} {lv : xLV} {st : List Value} {S : xS} {r : xO} : XL SK MT d 75 (18, lv, st, S) r ↔ XL SK MT d 75 (20, lv, .int 12 :: st, S) r := X_pure rfl rfl rfl
theorem rX2_findTails_20 {d : Nat} {lv : xLV} {st : List Value} {S : xS} {r : xO} {x z : Int32} : XL SK MT d 75 (20, lv, .int z :: .int x :: st, S) r ↔ if x = z then XL SK MT d 75 (26, lv, st, S) r else XL SK MT d 75 (23, lv, st, S) r := (X_icmp rfl rfl).trans xc_eq
theorem rX2_findTails_23 {d : Nat} {lv : xLV} {st : List Value} {S : xS} {r : xO} : XL SK MT d 75 (23, lv, st, S) r ↔ XL SK MT d 75 (107, lv, st, S) r := X_jump rfl rfl rfl
theorem rX2_findTails_26 {d : Nat} {lv : xLV} {st : List Value} {S : xS} {r : xO} : XL SK MT d 75 (26, lv, st, S) r ↔ xI (xlook lv 1) (fun x => XL SK MT d 75 (27, lv, .int x :: st, S) r) := X_ldI rfl rfl (fun _ => rfl) rfl rfl rfl rfl
theorem rX2_findTails_27 {d : Nat} {lv : xLV} {st : List Value} {S : xS} {r : xO} : XL SK MT d 75 (27, lv, st, S) r ↔ XL SK MT d 75 (28, lv, .int 1 :: st, S) r := X_pure rfl rfl rfl
theorem rX2_findTails_28 {d : Nat} {lv : xLV} {st : List Value} {S : xS} {r : xO} {x z : Int32} : XL SK MT d 75 (28, lv, .int z :: .int x :: st, S) r ↔ XL SK MT d 75 (29, lv, .int (x + z) :: st, S) r := X_pure rfl rfl rfl
theorem rX2_findTails_29 {d : Nat} {lv : xLV} {st : List Value} {S : xS} {r : xO} {x : Int32} : XL SK MT d 75 (29, lv, .int x :: st, S) r ↔ XL SK MT d 75 (30, xst1 lv 2 (.int x), st, S) r := X_pure rfl rfl rfl
theorem rX2_findTails_30 {d : Nat} {lv : xLV} {st : List Value} {S : xS} {r : xO} : XL SK MT d 75 (30, lv, st, S) r ↔ XL SK MT d 75 (31, lv, .int 0 :: st, S) r := X_pure rfl rfl rfl
theorem rX2_findTails_31 {d : Nat} {lv : xLV} {st : List Value} {S : xS} {r : xO} {x : Int32} : XL SK MT d 75 (31, lv, .int x :: st, S) r ↔ XL SK MT d 75 (32, xst1 lv 3 (.int x), st, S) r := X_pure rfl rfl rfl
theorem rX2_findTails_32 {d : Nat} {lv : xLV} {st : List Value} {S : xS} {r : xO} : XL SK MT d 75 (32, lv, st, S) r ↔ xI (xlook lv 3) (fun x => XL SK MT d 75 (33, lv, .int x :: st, S) r) := X_ldI rfl rfl (fun _ => rfl) rfl rfl rfl rfl
theorem rX2_findTails_33 {d : Nat} {lv : xLV} {st : List Value} {S : xS} {r : xO} : XL SK MT d 75 (33, lv, st, S) r ↔ xA (xlook lv 0) (fun x => XL SK MT d 75 (34, lv, .ref x :: st, S) r) := X_ldA rfl rfl (fun _ => rfl) rfl rfl rfl rfl
theorem rX2_findTails_34 {d : Nat} {lv : xLV} {st : List Value} {S : xS} {r : xO} : XL SK MT d 75 (34, lv, .ref 6 :: st, S) r ↔ XL SK MT d 75 (37, lv, .int (S.1 6 3) :: st, S) r := X_heap rfl rfl rfl rfl rfl
theorem rX2_findTails_37 {d : Nat} {lv : xLV} {st : List Value} {S : xS} {r : xO} {x z : Int32} : XL SK MT d 75 (37, lv, .int z :: .int x :: st, S) r ↔ if z ≤ x then XL SK MT d 75 (85, lv, st, S) r else XL SK MT d 75 (40, lv, st, S) r := (X_icmp rfl rfl).trans xc_ge
theorem rX2_findTails_40 {d : Nat} {lv : xLV} {st : List Value} {S : xS} {r : xO} : XL SK MT d 75 (40, lv, st, S) r ↔ xA (xlook lv 0) (fun x => XL SK MT d 75 (41, lv, .ref x :: st, S) r) := X_ldA rfl rfl (fun _ => rfl) rfl rfl rfl rfl
theorem rX2_findTails_41 {d : Nat} {lv : xLV} {st : List Value} {S : xS} {r : xO} : XL SK MT d 75 (41, lv, .ref 6 :: st, S) r ↔ XL SK MT d 75 (44, lv, .ref 53 :: st, S) r := X_heap rfl rfl rfl rfl rfl
theorem rX2_findTails_44 {d : Nat} {lv : xLV} {st : List Value} {S : xS} {r : xO} : XL SK MT d 75 (44, lv, st, S) r ↔ xI (xlook lv 2) (fun x => XL SK MT d 75 (45, lv, .int x :: st, S) r) := X_ldI rfl rfl (fun _ => rfl) rfl rfl rfl rfl
theorem rX2_findTails_45 {d : Nat} {lv : xLV} {S : xS} {r : xO} {x1 : Nat} {x2 : Int32} : XL SK MT d 75 (45, lv, [.int x2, .ref x1], S) r ↔ xK (XC SK MT d 303 [.ref x1, .int x2] S) (fun v S => XL SK MT d 75 (48, lv, v.toList ++ [], S) r) := X_inv (n := 2) (kd := 1) (st0 := [.int x2, .ref x1]) rfl (Or.inl ⟨rfl, rfl⟩) rfl (Nat.le_of_ble_eq_true rfl) (Nat.le_of_ble_eq_true rfl) (by decide) rfl
theorem rX2_findTails_48 {d : Nat} {lv : xLV} {st : List Value} {S : xS} {r : xO} {x : Int32} : XL SK MT d 75 (48, lv, .int x :: st, S) r ↔ XL SK MT d 75 (50, xst1 lv 4 (.int x), st, S) r := X_pure rfl rfl rfl
theorem rX2_findTails_50 {d : Nat} {lv : xLV} {st : List Value} {S : xS} {r : xO} : XL SK MT d 75 (50, lv, st, S) r ↔ xI (xlook lv 4) (fun x => XL SK MT d 75 (52, lv, .int x :: st, S) r) := X_ldI rfl rfl (fun _ => rfl) rfl rfl rfl rfl
theorem rX2_findTails_52 {d : Nat} {lv : xLV} {st : List Value} {S : xS} {r : xO} : XL SK MT d 75 (52, lv, st, S) r ↔ XL SK MT d 75 (54, lv, .int 8 :: st, S) r := X_pure rfl rfl rfl
theorem rX2_findTails_54 {d : Nat} {lv : xLV} {st : List Value} {S : xS} {r : xO} {x z : Int32} : XL SK MT d 75 (54, lv, .int z :: .int x :: st, S) r ↔ if ¬ x = z then XL SK MT d 75 (69, lv, st, S) r else XL SK MT d 75 (57, lv, st, S) r := (X_icmp rfl rfl).trans xc_ne
theorem rX2_findTails_57 {d : Nat} {lv : xLV} {st : List Value} {S : xS} {r : xO} : XL SK MT d 75 (57, lv, st, S) r ↔ xA (xlook lv 0) (fun x => XL SK MT d 75 (58, lv, .ref x :: st, S) r) := X_ldA rfl rfl (fun _ => rfl) rfl rfl rfl rfl
theorem rX2_findTails_58 {d : Nat} {lv : xLV} {st : List Value} {S : xS} {r : xO} : XL SK MT d 75 (58, lv, .ref 6 :: st, S) r ↔ XL SK MT d 75 (61, lv, .ref 54 :: st, S) r := X_heap rfl rfl rfl rfl rfl
theorem rX2_findTails_61 {d : Nat} {lv : xLV} {st : List Value} {S : xS} {r : xO} : XL SK MT d 75 (61, lv, st, S) r ↔ xI (xlook lv 2) (fun x => XL SK MT d 75 (62, lv, .int x :: st, S) r) := X_ldI rfl rfl (fun _ => rfl) rfl rfl rfl rfl
theorem rX2_findTails_62 {d : Nat} {lv : xLV} {S : xS} {r : xO} {x1 : Nat} {x2 : Int32} : XL SK MT d 75 (62, lv, [.int x2, .ref x1], S) r ↔ xK (XC SK MT d 303 [.ref x1, .int x2] S) (fun v S => XL SK MT d 75 (65, lv, v.toList ++ [], S) r) := X_inv (n := 2) (kd := 1) (st0 := [.int x2, .ref x1]) rfl (Or.inl ⟨rfl, rfl⟩) rfl (Nat.le_of_ble_eq_true rfl) (Nat.le_of_ble_eq_true rfl) (by decide) rfl
theorem rX2_findTails_65 {d : Nat} {lv : xLV} {st : List Value} {S : xS} {r : xO} {x : Int32} : XL SK MT d 75 (65, lv, .int x :: st, S) r ↔ XL SK MT d 75 (66, xst1 lv 2 (.int x), st, S) r := X_pure rfl rfl rfl
theorem rX2_findTails_66 {d : Nat} {lv : xLV} {st : List Value} {S : xS} {r : xO} : XL SK MT d 75 (66, lv, st, S) r ↔ XL SK MT d 75 (79, lv, st, S) r := X_jump rfl rfl rfl
theorem rX2_findTails_69 {d : Nat} {lv : xLV} {st : List Value} {S : xS} {r : xO} : XL SK MT d 75 (69, lv, st, S) r ↔ xI (xlook lv 4) (fun x => XL SK MT d 75 (71, lv, .int x :: st, S) r) := X_ldI rfl rfl (fun _ => rfl) rfl rfl rfl rfl
theorem rX2_findTails_71 {d : Nat} {lv : xLV} {st : List Value} {S : xS} {r : xO} : XL SK MT d 75 (71, lv, st, S) r ↔ XL SK MT d 75 (73, lv, .int 11 :: st, S) r := X_pure rfl rfl rfl
theorem rX2_findTails_73 {d : Nat} {lv : xLV} {st : List Value} {S : xS} {r : xO} {x z : Int32} : XL SK MT d 75 (73, lv, .int z :: .int x :: st, S) r ↔ if ¬ x = z then XL SK MT d 75 (85, lv, st, S) r else XL SK MT d 75 (76, lv, st, S) r := (X_icmp rfl rfl).trans xc_ne
theorem rX2_findTails_76 {d : Nat} {lv : xLV} {st : List Value} {S : xS} {r : xO} : XL SK MT d 75 (76, lv, st, S) r ↔ xI (xlook lv 2) (fun x => XL SK MT d 75 (79, xst1 lv 2 (.int (x + 1)), st, S) r) := X_inc (i := 2) (n := 1) rfl (Nat.le_of_ble_eq_true rfl)
theorem rX2_findTails_79 {d : Nat} {lv : xLV} {st : List Value} {S : xS} {r : xO} : XL SK MT d 75 (79, lv, st, S) r ↔ xI (xlook lv 3) (fun x => XL SK MT d 75 (82, xst1 lv 3 (.int (x + 1)), st, S) r) := X_inc (i := 3) (n := 1) rfl (Nat.le_of_ble_eq_true rfl)
theorem rX2_findTails_82 {d : Nat} {lv : xLV} {st : List Value} {S : xS} {r : xO} : XL SK MT d 75 (82, lv, st, S) r ↔ XL SK MT d 75 (32, lv, st, S) r := X_jump rfl rfl rfl
theorem rX2_findTails_85 {d : Nat} {lv : xLV} {st : List Value} {S : xS} {r : xO} : XL SK MT d 75 (85, lv, st, S) r ↔ xA (xlook lv 0) (fun x => XL SK MT d 75 (86, lv, .ref x :: st, S) r) := X_ldA rfl rfl (fun _ => rfl) rfl rfl rfl rfl
theorem rX2_findTails_86 {d : Nat} {lv : xLV} {st : List Value} {S : xS} {r : xO} : XL SK MT d 75 (86, lv, .ref 6 :: st, S) r ↔ XL SK MT d 75 (89, lv, .ref 53 :: st, S) r := X_heap rfl rfl rfl rfl rfl
theorem rX2_findTails_89 {d : Nat} {lv : xLV} {st : List Value} {S : xS} {r : xO} : XL SK MT d 75 (89, lv, st, S) r ↔ xI (xlook lv 2) (fun x => XL SK MT d 75 (90, lv, .int x :: st, S) r) := X_ldI rfl rfl (fun _ => rfl) rfl rfl rfl rfl
theorem rX2_findTails_90 {d : Nat} {lv : xLV} {S : xS} {r : xO} {x1 : Nat} {x2 : Int32} : XL SK MT d 75 (90, lv, [.int x2, .ref x1], S) r ↔ xK (XC SK MT d 303 [.ref x1, .int x2] S) (fun v S => XL SK MT d 75 (93, lv, v.toList ++ [], S) r) := X_inv (n := 2) (kd := 1) (st0 := [.int x2, .ref x1]) rfl (Or.inl ⟨rfl, rfl⟩) rfl (Nat.le_of_ble_eq_true rfl) (Nat.le_of_ble_eq_true rfl) (by decide) rfl
theorem rX2_findTails_93 {d : Nat} {lv : xLV} {st : List Value} {S : xS} {r : xO} : XL SK MT d 75 (93, lv, st, S) r ↔ XL SK MT d 75 (95, lv, .int 13 :: st, S) r := X_pure rfl rfl rfl
theorem rX2_findTails_95 {d : Nat} {lv : xLV} {st : List Value} {S : xS} {r : xO} {x z : Int32} : XL SK MT d 75 (95, lv, .int z :: .int x :: st, S) r ↔ if ¬ x = z then XL SK MT d 75 (107, lv, st, S) r else XL SK MT d 75 (98, lv, st, S) r := (X_icmp rfl rfl).trans xc_ne
theorem rX2_findTails_98 {d : Nat} {lv : xLV} {st : List Value} {S : xS} {r : xO} : XL SK MT d 75 (98, lv, st, S) r ↔ xA (xlook lv 0) (fun x => XL SK MT d 75 (99, lv, .ref x :: st, S) r) := X_ldA rfl rfl (fun _ => rfl) rfl rfl rfl rfl
theorem rX2_findTails_99 {d : Nat} {lv : xLV} {st : List Value} {S : xS} {r : xO} : XL SK MT d 75 (99, lv, .ref 6 :: st, S) r ↔ XL SK MT d 75 (102, lv, .ref 54 :: st, S) r := X_heap rfl rfl rfl rfl rfl
theorem rX2_findTails_102 {d : Nat} {lv : xLV} {st : List Value} {S : xS} {r : xO} : XL SK MT d 75 (102, lv, st, S) r ↔ xI (xlook lv 1) (fun x => XL SK MT d 75 (103, lv, .int x :: st, S) r) := X_ldI rfl rfl (fun _ => rfl) rfl rfl rfl rfl
theorem rX2_findTails_103 {d : Nat} {lv : xLV} {st : List Value} {S : xS} {r : xO} : XL SK MT d 75 (103, lv, st, S) r ↔ XL SK MT d 75 (104, lv, .int 1 :: st, S) r := X_pure rfl rfl rfl
theorem rX2_findTails_104 {d : Nat} {lv : xLV} {S : xS} {r : xO} {x1 : Nat} {x2 : Int32} {x3 : Int32} : XL SK MT d 75 (104, lv, [.int x3, .int x2, .ref x1], S) r ↔ xK (XC SK MT d 304 [.ref x1, .int x2, .int x3] S) (fun v S => XL SK MT d 75 (107, lv, v.toList ++ [], S) r) := X_inv (n := 3) (kd := 1) (st0 := [.int x3, .int x2, .ref x1]) rfl (Or.inl ⟨rfl, rfl⟩) rfl (Nat.le_of_ble_eq_true rfl) (Nat.le_of_ble_eq_true rfl) (by decide) rfl
theorem rX2_findTails_107 {d : Nat} {lv : xLV} {st : List Value} {S : xS} {r : xO} : XL SK MT d 75 (107, lv, st, S) r ↔ xI (xlook lv 1) (fun x => XL SK MT d 75 (110, xst1 lv 1 (.int (x + 1)), st, S) r) := X_inc (i := 1) (n := 1) rfl (Nat.le_of_ble_eq_true rfl)
theorem rX2_findTails_110 {d : Nat} {lv : xLV} {st : List Value} {S : xS} {r : xO} : XL SK MT d 75 (110, lv, st, S) r ↔ XL SK MT d 75 (2, lv, st, S) r := X_jump rfl rfl rfl
theorem rX2_findTails_113 {d : Nat} {lv : xLV} {S : xS} {r : xO} : XL SK MT d 75 (113, lv, [], S) r ↔ (none, S) = r := X_ret rfl rfl rfl rfl rfl rfl

/-! Coder: a program, from its first mark to its last order. -/
theorem cs_last {d k : Nat} {S : xS} : XC SK MT (d + 1) 84 [.ref 6, .int 35, .int (nI k)] S = some (none, S) := by
  rw [XC_iff]
  refine ⟨Nat.le_of_ble_eq_true rfl, ?_⟩
  show XL SK MT d 84 (0, [some (.ref 6), some (.int 35), some (.int (nI k)), none, none], [], S) _
  simp (config := { decide := true }) only [rX2_rules_0, rX2_rules_1k27, rX2_rules_1k28, rX2_rules_1k29, rX2_rules_1k30, rX2_rules_1k31, rX2_rules_1k32, rX2_rules_1k33, rX2_rules_1k34, rX2_rules_1k35, rX2_rules_1k36, rX2_rules_1k37, rX2_rules_1k38, rX2_rules_1km1, rX2_rules_1k0, rX2_rules_1k1, rX2_rules_1k2, rX2_rules_1k3, rX2_rules_1k4, rX2_rules_1k5, rX2_rules_1k6, rX2_rules_1k7, rX2_rules_1k8, rX2_rules_1k9, rX2_rules_1k10, rX2_rules_1k11, rX2_rules_1k12, rX2_rules_1k13, rX2_rules_1k14, rX2_rules_1k15, rX2_rules_1k16, rX2_rules_1k17, rX2_rules_1k18, rX2_rules_1k19, rX2_rules_1k20, rX2_rules_1k21, rX2_rules_1k22, rX2_rules_1k23, rX2_rules_1k24, rX2_rules_1k25, rX2_rules_1k26, rX2_rules_1k39, rX2_rules_1k40, rX2_rules_1k41, rX2_rules_1k42, rX2_rules_1k43, rX2_rules_1k44, rX2_rules_1k45, rX2_rules_1k46, rX2_rules_1k47, rX2_rules_1k48, rX2_rules_1k49, rX2_rules_1k50, rX2_rules_1k51, rX2_rules_1k52, rX2_rules_1k53, rX2_rules_1k54, rX2_rules_1k55, rX2_rules_1k56, rX2_rules_1k57, rX2_rules_1k58, rX2_rules_1k59, rX2_rules_1k60, rX2_rules_1k61, rX2_rules_1k62, rX2_rules_1k63, rX2_rules_1k64, rX2_rules_1k65, rX2_rules_1k66, rX2_rules_1k67, rX2_rules_1k68, rX2_rules_1k69, rX2_rules_1k70, rX2_rules_1k71, rX2_rules_64, rX2_rules_65, rX2_rules_66, rX2_rules_67, rX2_rules_70, rX2_rules_71, rX2_rules_72, rX2_rules_73, rX2_rules_76, rX2_rules_79, rX2_rules_80, rX2_rules_82, rX2_rules_83, rX2_rules_84, rX2_rules_87, rX2_rules_88, rX2_rules_89, rX2_rules_91, rX2_rules_92, rX2_rules_93, rX2_rules_96, rX2_rules_97, rX2_rules_98, rX2_rules_99, rX2_rules_102, rX2_rules_105, riX2_rules_106, rX2_rules_106, rX2_rules_107, rX2_rules_110, rX2_rules_111, rX2_rules_112, rX2_rules_115, rX2_rules_116, rX2_rules_117, rX2_rules_118, rX2_rules_121, rX2_rules_122, rX2_rules_123, rX2_rules_124, rX2_rules_127, rX2_rules_130, rX2_rules_131, rX2_rules_132, rX2_rules_135, rX2_rules_138, rX2_rules_139, rX2_rules_142, rX2_rules_143, rX2_rules_145, rX2_rules_146, rX2_rules_149, rX2_rules_150, rX2_rules_153, rX2_rules_154, rX2_rules_155, rX2_rules_158, rX2_rules_159, rX2_rules_162, rX2_rules_163, rX2_rules_166, rX2_rules_167, rX2_rules_170, rX2_rules_173, rX2_rules_174, rX2_rules_177, rX2_rules_180, rX2_rules_181, rX2_rules_183, rX2_rules_185, rX2_rules_186, rX2_rules_189, rX2_rules_190, rX2_rules_191, rX2_rules_194, rX2_rules_197, rX2_rules_198, rX2_rules_200, rX2_rules_201, rX2_rules_202, rX2_rules_205, rX2_rules_206, rX2_rules_207, rX2_rules_210, rX2_rules_213, rX2_rules_214, rX2_rules_215, rX2_rules_218, rX2_rules_221, rX2_rules_224, rX2_rules_225, rX2_rules_228, rX2_rules_230, rX2_rules_231, rX2_rules_234, rX2_rules_235, rX2_rules_236, rX2_rules_238, rX2_rules_241, rX2_rules_242, rX2_rules_244, rX2_rules_245, rX2_rules_248, rX2_rules_249, rX2_rules_250, rX2_rules_252, rX2_rules_253, rX2_rules_254, rX2_rules_257, rX2_rules_258, rX2_rules_259, rX2_rules_261, rX2_rules_262, rX2_rules_263, rX2_rules_266, rX2_rules_269, ↓reduceIte, m1_le, m1_lt, m1_eq, ofInt_m1, ex_ret, Int32.reduceAdd, Int32.reduceSub, Int32.reduceMul, Int32.reduceLT, Int32.reduceLE, xsI, Nat.reduceEqDiff, and_false, false_and, and_true, true_and, if_true, if_false, ite_true, ite_false, xlook_0, xlook_s, xI_int, xA_ref, xJ_long, xK_some, xRow_row, xTo_some, xst1, xclr, List.set_cons_zero, List.set_cons_succ, xsum_nil, xsum_int, xsum_ref, xsum_long, Option.toList_some, Option.toList_none, List.nil_append, List.cons_append]
theorem s_named {d : Nat} {S : xS} : XC SK MT (d + 1) 115 [.ref 1] S = some (some (.int (S.1 1 7)), S) := by
  rw [XC_iff]
  refine ⟨Nat.le_of_ble_eq_true rfl, ?_⟩
  show XL SK MT d 115 (0, [some (.ref 1)], [], S) _
  simp (config := { decide := true }) only [rX4_named_0, rX4_named_1, rX4_named_4, ↓reduceIte, m1_le, m1_lt, m1_eq, ofInt_m1, ex_ret, Int32.reduceAdd, Int32.reduceSub, Int32.reduceMul, Int32.reduceLT, Int32.reduceLE, xsI, Nat.reduceEqDiff, and_false, false_and, and_true, true_and, if_true, if_false, ite_true, ite_false, xlook_0, xlook_s, xI_int, xA_ref, xJ_long, xK_some, xRow_row, xTo_some, xst1, xclr, List.set_cons_zero, List.set_cons_succ, xsum_nil, xsum_int, xsum_ref, xsum_long, Option.toList_some, Option.toList_none, List.nil_append, List.cons_append]
set_option maxHeartbeats 4000000 in
set_option maxRecDepth 100000 in
theorem lit_loop {d N : Nat} {l2 : Option Value} (hN : N ≤ 2176) : ∀ k i, i + k = N → ∀ S : xS, S.1 1 7 = nI N → ∃ S1, (∀ r, XL SK MT (d + 1) 69 (57, [some (.ref 6), some (.int (nI 0)), l2], [], S1) r → XL SK MT (d + 1) 69 (29, [some (.ref 6), some (.int (nI i)), l2], [], S) r) ∧ S1.2 = S.2 ∧ ∀ a, ¬ a = 56 → S1.1 a = S.1 a := by
  intro k
  induction k with
  | zero =>
    intro i hi S hS
    obtain rfl : i = N := hi
    refine ⟨S, fun r hr => ?_, rfl, fun _ _ => rfl⟩
    rw [rX2_code_29]
    simp (config := { decide := true }) only [rX2_code_0, rX2_code_1, rX2_code_2, rX2_code_5, rX2_code_6, rX2_code_7, rX2_code_10, rX2_code_11, rX2_code_12, rX2_code_15, rX2_code_16, rX2_code_17, rX2_code_20, rX2_code_21, rX2_code_24, rX2_code_27, rX2_code_28, rX2_code_30, rX2_code_31, rX2_code_34, rX2_code_37, rX2_code_40, rX2_code_41, rX2_code_44, rX2_code_45, rX2_code_46, rX2_code_49, rX2_code_52, rX2_code_55, rX2_code_56, rX2_code_58, rX2_code_59, rX2_code_62, rX2_code_65, rX2_code_68, rX2_code_69, rX2_code_72, rX2_code_73, rX2_code_74, rX2_code_77, rX2_code_80, rX2_code_83, rX2_code_84, rX2_code_86, rX2_code_87, rX2_code_90, rX2_code_93, rX2_code_96, rX2_code_97, rX2_code_100, rX2_code_103, rX2_code_104, rX2_code_107, rX2_code_108, rX2_code_109, rX2_code_111, rX2_code_114, rX2_code_115, rX2_code_116, rX2_code_119, rX2_code_120, rX2_code_121, rX2_code_124, rX2_code_127, rX2_code_128, rX2_code_131, rX2_code_134, rX2_code_135, rX2_code_138, rX2_code_139, rX2_code_141, rX2_code_144, rX2_code_145, rX2_code_146, rX2_code_147, rX2_code_150, rX2_code_153, rX2_code_154, rX2_code_156, rX2_code_159, rX2_code_160, rX2_code_161, rX2_code_162, rX2_code_165, rX2_code_168, rX2_code_169, rX2_code_171, rX2_code_174, rX2_code_175, rX2_code_176, rX2_code_177, rX2_code_180, rX2_code_183, rX2_code_184, rX2_code_186, rX2_code_189, rX2_code_190, rX2_code_191, rX2_code_192, rX2_code_195, rX2_code_198, rX2_code_201, rX2_code_202, rX2_code_204, rX2_code_205, rX2_code_206, rX2_code_209, rX2_code_210, rX2_code_211, rX2_code_214, ↓reduceIte, m1_le, m1_lt, m1_eq, ofInt_m1, ex_ret, Int32.reduceAdd, Int32.reduceSub, Int32.reduceMul, Int32.reduceLT, Int32.reduceLE, xsI, Nat.reduceEqDiff, and_false, false_and, and_true, true_and, if_true, if_false, ite_true, ite_false, xlook_0, xlook_s, xI_int, xA_ref, xJ_long, xK_some, xRow_row, xTo_some, xst1, xclr, List.set_cons_zero, List.set_cons_succ, xsum_nil, xsum_int, xsum_ref, xsum_long, Option.toList_some, Option.toList_none, List.nil_append, List.cons_append, s_named, hS, Int32.le_refl]
    exact hr
  | succ k ih =>
    intro i hi S hS
    have h1 : ¬ nI N ≤ nI i := nI_ge (by omega) (by omega)
    obtain ⟨S1, g1, g2, g3⟩ := ih (i + 1) (by omega) (xsetI S 56 i (-1)) hS
    refine ⟨S1, fun r hr => ?_, g2, fun a ha => by rw [g3 a ha, xsR ha]⟩
    have h2 := g1 r hr
    rw [rX2_code_29]
    simp (config := { decide := true }) only [rX2_code_0, rX2_code_1, rX2_code_2, rX2_code_5, rX2_code_6, rX2_code_7, rX2_code_10, rX2_code_11, rX2_code_12, rX2_code_15, rX2_code_16, rX2_code_17, rX2_code_20, rX2_code_21, rX2_code_24, rX2_code_27, rX2_code_28, rX2_code_30, rX2_code_31, rX2_code_34, rX2_code_37, rX2_code_40, rX2_code_41, rX2_code_44, rX2_code_45, rX2_code_46, rX2_code_49, rX2_code_52, rX2_code_55, rX2_code_56, rX2_code_58, rX2_code_59, rX2_code_62, rX2_code_65, rX2_code_68, rX2_code_69, rX2_code_72, rX2_code_73, rX2_code_74, rX2_code_77, rX2_code_80, rX2_code_83, rX2_code_84, rX2_code_86, rX2_code_87, rX2_code_90, rX2_code_93, rX2_code_96, rX2_code_97, rX2_code_100, rX2_code_103, rX2_code_104, rX2_code_107, rX2_code_108, rX2_code_109, rX2_code_111, rX2_code_114, rX2_code_115, rX2_code_116, rX2_code_119, rX2_code_120, rX2_code_121, rX2_code_124, rX2_code_127, rX2_code_128, rX2_code_131, rX2_code_134, rX2_code_135, rX2_code_138, rX2_code_139, rX2_code_141, rX2_code_144, rX2_code_145, rX2_code_146, rX2_code_147, rX2_code_150, rX2_code_153, rX2_code_154, rX2_code_156, rX2_code_159, rX2_code_160, rX2_code_161, rX2_code_162, rX2_code_165, rX2_code_168, rX2_code_169, rX2_code_171, rX2_code_174, rX2_code_175, rX2_code_176, rX2_code_177, rX2_code_180, rX2_code_183, rX2_code_184, rX2_code_186, rX2_code_189, rX2_code_190, rX2_code_191, rX2_code_192, rX2_code_195, rX2_code_198, rX2_code_201, rX2_code_202, rX2_code_204, rX2_code_205, rX2_code_206, rX2_code_209, rX2_code_210, rX2_code_211, rX2_code_214, ↓reduceIte, m1_le, m1_lt, m1_eq, ofInt_m1, ex_ret, Int32.reduceAdd, Int32.reduceSub, Int32.reduceMul, Int32.reduceLT, Int32.reduceLE, xsI, Nat.reduceEqDiff, and_false, false_and, and_true, true_and, if_true, if_false, ite_true, ite_false, xlook_0, xlook_s, xI_int, xA_ref, xJ_long, xK_some, xRow_row, xTo_some, xst1, xclr, List.set_cons_zero, List.set_cons_succ, xsum_nil, xsum_int, xsum_ref, xsum_long, Option.toList_some, Option.toList_none, List.nil_append, List.cons_append, s_named, hS, h1, s_at (show SK[56]? = some (.inl (0, 2176)) from rfl) (by decide : 2176 < 2 ^ 31), s_put (show SK[56]? = some (.inl (0, 2176)) from rfl) (by decide : 2176 < 2 ^ 31), xput_in, show i < 2176 by omega, nI_1]
    exact h2
set_option maxHeartbeats 4000000 in
set_option maxRecDepth 100000 in
theorem own_loop {d N : Nat} {l2 : Option Value} (hN : N ≤ 10240) : ∀ k i, i + k = N → ∀ S : xS, S.1 2 5 = nI N → ∃ S1, (∀ r, XL SK MT (d + 1) 69 (85, [some (.ref 6), some (.int (nI 0)), l2], [], S1) r → XL SK MT (d + 1) 69 (57, [some (.ref 6), some (.int (nI i)), l2], [], S) r) ∧ S1.2 = S.2 ∧ ∀ a, ¬ a = 58 → S1.1 a = S.1 a := by
  intro k
  induction k with
  | zero =>
    intro i hi S hS
    obtain rfl : i = N := hi
    refine ⟨S, fun r hr => ?_, rfl, fun _ _ => rfl⟩
    rw [rX2_code_57]
    simp (config := { decide := true }) only [rX2_code_0, rX2_code_1, rX2_code_2, rX2_code_5, rX2_code_6, rX2_code_7, rX2_code_10, rX2_code_11, rX2_code_12, rX2_code_15, rX2_code_16, rX2_code_17, rX2_code_20, rX2_code_21, rX2_code_24, rX2_code_27, rX2_code_28, rX2_code_30, rX2_code_31, rX2_code_34, rX2_code_37, rX2_code_40, rX2_code_41, rX2_code_44, rX2_code_45, rX2_code_46, rX2_code_49, rX2_code_52, rX2_code_55, rX2_code_56, rX2_code_58, rX2_code_59, rX2_code_62, rX2_code_65, rX2_code_68, rX2_code_69, rX2_code_72, rX2_code_73, rX2_code_74, rX2_code_77, rX2_code_80, rX2_code_83, rX2_code_84, rX2_code_86, rX2_code_87, rX2_code_90, rX2_code_93, rX2_code_96, rX2_code_97, rX2_code_100, rX2_code_103, rX2_code_104, rX2_code_107, rX2_code_108, rX2_code_109, rX2_code_111, rX2_code_114, rX2_code_115, rX2_code_116, rX2_code_119, rX2_code_120, rX2_code_121, rX2_code_124, rX2_code_127, rX2_code_128, rX2_code_131, rX2_code_134, rX2_code_135, rX2_code_138, rX2_code_139, rX2_code_141, rX2_code_144, rX2_code_145, rX2_code_146, rX2_code_147, rX2_code_150, rX2_code_153, rX2_code_154, rX2_code_156, rX2_code_159, rX2_code_160, rX2_code_161, rX2_code_162, rX2_code_165, rX2_code_168, rX2_code_169, rX2_code_171, rX2_code_174, rX2_code_175, rX2_code_176, rX2_code_177, rX2_code_180, rX2_code_183, rX2_code_184, rX2_code_186, rX2_code_189, rX2_code_190, rX2_code_191, rX2_code_192, rX2_code_195, rX2_code_198, rX2_code_201, rX2_code_202, rX2_code_204, rX2_code_205, rX2_code_206, rX2_code_209, rX2_code_210, rX2_code_211, rX2_code_214, ↓reduceIte, m1_le, m1_lt, m1_eq, ofInt_m1, ex_ret, Int32.reduceAdd, Int32.reduceSub, Int32.reduceMul, Int32.reduceLT, Int32.reduceLE, xsI, Nat.reduceEqDiff, and_false, false_and, and_true, true_and, if_true, if_false, ite_true, ite_false, xlook_0, xlook_s, xI_int, xA_ref, xJ_long, xK_some, xRow_row, xTo_some, xst1, xclr, List.set_cons_zero, List.set_cons_succ, xsum_nil, xsum_int, xsum_ref, xsum_long, Option.toList_some, Option.toList_none, List.nil_append, List.cons_append, hS, Int32.le_refl]
    exact hr
  | succ k ih =>
    intro i hi S hS
    have h1 : ¬ nI N ≤ nI i := nI_ge (by omega) (by omega)
    obtain ⟨S1, g1, g2, g3⟩ := ih (i + 1) (by omega) (xsetI S 58 i (-1)) hS
    refine ⟨S1, fun r hr => ?_, g2, fun a ha => by rw [g3 a ha, xsR ha]⟩
    have h2 := g1 r hr
    rw [rX2_code_57]
    simp (config := { decide := true }) only [rX2_code_0, rX2_code_1, rX2_code_2, rX2_code_5, rX2_code_6, rX2_code_7, rX2_code_10, rX2_code_11, rX2_code_12, rX2_code_15, rX2_code_16, rX2_code_17, rX2_code_20, rX2_code_21, rX2_code_24, rX2_code_27, rX2_code_28, rX2_code_30, rX2_code_31, rX2_code_34, rX2_code_37, rX2_code_40, rX2_code_41, rX2_code_44, rX2_code_45, rX2_code_46, rX2_code_49, rX2_code_52, rX2_code_55, rX2_code_56, rX2_code_58, rX2_code_59, rX2_code_62, rX2_code_65, rX2_code_68, rX2_code_69, rX2_code_72, rX2_code_73, rX2_code_74, rX2_code_77, rX2_code_80, rX2_code_83, rX2_code_84, rX2_code_86, rX2_code_87, rX2_code_90, rX2_code_93, rX2_code_96, rX2_code_97, rX2_code_100, rX2_code_103, rX2_code_104, rX2_code_107, rX2_code_108, rX2_code_109, rX2_code_111, rX2_code_114, rX2_code_115, rX2_code_116, rX2_code_119, rX2_code_120, rX2_code_121, rX2_code_124, rX2_code_127, rX2_code_128, rX2_code_131, rX2_code_134, rX2_code_135, rX2_code_138, rX2_code_139, rX2_code_141, rX2_code_144, rX2_code_145, rX2_code_146, rX2_code_147, rX2_code_150, rX2_code_153, rX2_code_154, rX2_code_156, rX2_code_159, rX2_code_160, rX2_code_161, rX2_code_162, rX2_code_165, rX2_code_168, rX2_code_169, rX2_code_171, rX2_code_174, rX2_code_175, rX2_code_176, rX2_code_177, rX2_code_180, rX2_code_183, rX2_code_184, rX2_code_186, rX2_code_189, rX2_code_190, rX2_code_191, rX2_code_192, rX2_code_195, rX2_code_198, rX2_code_201, rX2_code_202, rX2_code_204, rX2_code_205, rX2_code_206, rX2_code_209, rX2_code_210, rX2_code_211, rX2_code_214, ↓reduceIte, m1_le, m1_lt, m1_eq, ofInt_m1, ex_ret, Int32.reduceAdd, Int32.reduceSub, Int32.reduceMul, Int32.reduceLT, Int32.reduceLE, xsI, Nat.reduceEqDiff, and_false, false_and, and_true, true_and, if_true, if_false, ite_true, ite_false, xlook_0, xlook_s, xI_int, xA_ref, xJ_long, xK_some, xRow_row, xTo_some, xst1, xclr, List.set_cons_zero, List.set_cons_succ, xsum_nil, xsum_int, xsum_ref, xsum_long, Option.toList_some, Option.toList_none, List.nil_append, List.cons_append, hS, h1, s_at (show SK[58]? = some (.inl (0, 10240)) from rfl) (by decide : 10240 < 2 ^ 31), s_put (show SK[58]? = some (.inl (0, 10240)) from rfl) (by decide : 10240 < 2 ^ 31), xput_in, show i < 10240 by omega, nI_1]
    exact h2
/-- no order is an application -/
def NoA (os : List Or3) : Prop := ∀ o ∈ os, ¬ o.1 = 12
set_option maxHeartbeats 4000000 in
set_option maxRecDepth 100000 in
theorem ft_loop {d : Nat} {S : xS} {os : List Or3} (h : CO S os) (hn : os.length < 60000) (ha : NoA os) : ∀ k i, i + k = os.length → ∀ l2 l3 l4, XL SK MT (d + 1) 75 (2, [some (.ref 6), some (.int (nI i)), l2, l3, l4], [], S) (none, S) := by
  intro k
  induction k with
  | zero =>
    intro i hi l2 l3 l4
    obtain rfl : i = os.length := hi
    rw [rX2_findTails_2]
    simp (config := { decide := true }) only [rX2_findTails_0, rX2_findTails_1, rX2_findTails_3, rX2_findTails_4, rX2_findTails_7, rX2_findTails_10, rX2_findTails_11, rX2_findTails_14, rX2_findTails_15, rX2_findTails_18, rX2_findTails_20, rX2_findTails_23, rX2_findTails_26, rX2_findTails_27, rX2_findTails_28, rX2_findTails_29, rX2_findTails_30, rX2_findTails_31, rX2_findTails_33, rX2_findTails_34, rX2_findTails_37, rX2_findTails_40, rX2_findTails_41, rX2_findTails_44, rX2_findTails_45, rX2_findTails_48, rX2_findTails_50, rX2_findTails_52, rX2_findTails_54, rX2_findTails_57, rX2_findTails_58, rX2_findTails_61, rX2_findTails_62, rX2_findTails_65, rX2_findTails_66, rX2_findTails_69, rX2_findTails_71, rX2_findTails_73, rX2_findTails_76, rX2_findTails_79, rX2_findTails_82, rX2_findTails_85, rX2_findTails_86, rX2_findTails_89, rX2_findTails_90, rX2_findTails_93, rX2_findTails_95, rX2_findTails_98, rX2_findTails_99, rX2_findTails_102, rX2_findTails_103, rX2_findTails_104, rX2_findTails_107, rX2_findTails_110, rX2_findTails_113, ↓reduceIte, m1_le, m1_lt, m1_eq, ofInt_m1, ex_ret, Int32.reduceAdd, Int32.reduceSub, Int32.reduceMul, Int32.reduceLT, Int32.reduceLE, xsI, Nat.reduceEqDiff, and_false, false_and, and_true, true_and, if_true, if_false, ite_true, ite_false, xlook_0, xlook_s, xI_int, xA_ref, xJ_long, xK_some, xRow_row, xTo_some, xst1, xclr, List.set_cons_zero, List.set_cons_succ, xsum_nil, xsum_int, xsum_ref, xsum_long, Option.toList_some, Option.toList_none, List.nil_append, List.cons_append, h.1, Int32.le_refl]
  | succ k ih =>
    intro i hi l2 l3 l4
    have hlt : i < os.length := by omega
    have h1 : ¬ nI os.length ≤ nI i := nI_ge hlt (by omega)
    have hw : os[i]? = some os[i] := List.getElem?_eq_getElem hlt
    have h2 := (h.2 i _ hw).1
    have h3 := ha _ (List.getElem_mem hlt)
    rw [rX2_findTails_2]
    simp (config := { decide := true }) only [rX2_findTails_0, rX2_findTails_1, rX2_findTails_3, rX2_findTails_4, rX2_findTails_7, rX2_findTails_10, rX2_findTails_11, rX2_findTails_14, rX2_findTails_15, rX2_findTails_18, rX2_findTails_20, rX2_findTails_23, rX2_findTails_26, rX2_findTails_27, rX2_findTails_28, rX2_findTails_29, rX2_findTails_30, rX2_findTails_31, rX2_findTails_33, rX2_findTails_34, rX2_findTails_37, rX2_findTails_40, rX2_findTails_41, rX2_findTails_44, rX2_findTails_45, rX2_findTails_48, rX2_findTails_50, rX2_findTails_52, rX2_findTails_54, rX2_findTails_57, rX2_findTails_58, rX2_findTails_61, rX2_findTails_62, rX2_findTails_65, rX2_findTails_66, rX2_findTails_69, rX2_findTails_71, rX2_findTails_73, rX2_findTails_76, rX2_findTails_79, rX2_findTails_82, rX2_findTails_85, rX2_findTails_86, rX2_findTails_89, rX2_findTails_90, rX2_findTails_93, rX2_findTails_95, rX2_findTails_98, rX2_findTails_99, rX2_findTails_102, rX2_findTails_103, rX2_findTails_104, rX2_findTails_107, rX2_findTails_110, rX2_findTails_113, ↓reduceIte, m1_le, m1_lt, m1_eq, ofInt_m1, ex_ret, Int32.reduceAdd, Int32.reduceSub, Int32.reduceMul, Int32.reduceLT, Int32.reduceLE, xsI, Nat.reduceEqDiff, and_false, false_and, and_true, true_and, if_true, if_false, ite_true, ite_false, xlook_0, xlook_s, xI_int, xA_ref, xJ_long, xK_some, xRow_row, xTo_some, xst1, xclr, List.set_cons_zero, List.set_cons_succ, xsum_nil, xsum_int, xsum_ref, xsum_long, Option.toList_some, Option.toList_none, List.nil_append, List.cons_append, h.1, h1, s_at (show SK[53]? = some (.inl (0, 65536)) from rfl) (by decide : 65536 < 2 ^ 31), s_put (show SK[53]? = some (.inl (0, 65536)) from rfl) (by decide : 65536 < 2 ^ 31), xat_in, show i < 65536 by omega, h2, h3, nI_1]
    exact ih (i + 1) (by omega) _ _ _
theorem s_findTails {d : Nat} {S : xS} {os : List Or3} (h : CO S os) (hn : os.length < 60000) (ha : NoA os) : XC SK MT (d + 2) 75 [.ref 6] S = some (none, S) := by
  rw [XC_iff]
  refine ⟨Nat.le_of_ble_eq_true rfl, ?_⟩
  show XL SK MT (d + 1) 75 (0, [some (.ref 6), none, none, none, none], [], S) _
  simp (config := { decide := true }) only [rX2_findTails_0, rX2_findTails_1, rX2_findTails_3, rX2_findTails_4, rX2_findTails_7, rX2_findTails_10, rX2_findTails_11, rX2_findTails_14, rX2_findTails_15, rX2_findTails_18, rX2_findTails_20, rX2_findTails_23, rX2_findTails_26, rX2_findTails_27, rX2_findTails_28, rX2_findTails_29, rX2_findTails_30, rX2_findTails_31, rX2_findTails_33, rX2_findTails_34, rX2_findTails_37, rX2_findTails_40, rX2_findTails_41, rX2_findTails_44, rX2_findTails_45, rX2_findTails_48, rX2_findTails_50, rX2_findTails_52, rX2_findTails_54, rX2_findTails_57, rX2_findTails_58, rX2_findTails_61, rX2_findTails_62, rX2_findTails_65, rX2_findTails_66, rX2_findTails_69, rX2_findTails_71, rX2_findTails_73, rX2_findTails_76, rX2_findTails_79, rX2_findTails_82, rX2_findTails_85, rX2_findTails_86, rX2_findTails_89, rX2_findTails_90, rX2_findTails_93, rX2_findTails_95, rX2_findTails_98, rX2_findTails_99, rX2_findTails_102, rX2_findTails_103, rX2_findTails_104, rX2_findTails_107, rX2_findTails_110, rX2_findTails_113, ↓reduceIte, m1_le, m1_lt, m1_eq, ofInt_m1, ex_ret, Int32.reduceAdd, Int32.reduceSub, Int32.reduceMul, Int32.reduceLT, Int32.reduceLE, xsI, Nat.reduceEqDiff, and_false, false_and, and_true, true_and, if_true, if_false, ite_true, ite_false, xlook_0, xlook_s, xI_int, xA_ref, xJ_long, xK_some, xRow_row, xTo_some, xst1, xclr, List.set_cons_zero, List.set_cons_succ, xsum_nil, xsum_int, xsum_ref, xsum_long, Option.toList_some, Option.toList_none, List.nil_append, List.cons_append]
  exact ft_loop h hn ha os.length 0 (by omega) _ _ _
theorem cd_exit {d : Nat} {S : xS} {ms : List Mk} {os : List Or3} {dep : Nat} {hl : List Int32} (hm : MK S ms) (h : CT S os dep hl) (hn : os.length < 50000) (ha : NoA os) : ∃ S1, (∀ l2, XL SK MT (d + 3) 69 (85, [some (.ref 6), some (.int (nI ms.length)), l2], [], S) (none, S1)) ∧ CO S1 (os ++ [(23, 0, 0)]) ∧ FrX S S1 := by
  obtain ⟨S1, p1, c1, f1⟩ := ct_add (d := d + 1) h (by omega) 23 0 0
  have ha1 : NoA (os ++ [(23, 0, 0)]) := fun o ho => by
    rcases List.mem_append.mp ho with ho | ho
    · exact ha o ho
    · obtain rfl := List.mem_singleton.mp ho; decide
  have p2 := s_findTails (d := d + 1) c1.1 (by rw [List.length_append, List.length_singleton]; omega) ha1
  refine ⟨S1, fun l2 => ?_, c1.1, f1.1⟩
  have h1 := hm.1
  rw [rX2_code_85]
  simp (config := { decide := true }) only [rX2_code_0, rX2_code_1, rX2_code_2, rX2_code_5, rX2_code_6, rX2_code_7, rX2_code_10, rX2_code_11, rX2_code_12, rX2_code_15, rX2_code_16, rX2_code_17, rX2_code_20, rX2_code_21, rX2_code_24, rX2_code_27, rX2_code_28, rX2_code_30, rX2_code_31, rX2_code_34, rX2_code_37, rX2_code_40, rX2_code_41, rX2_code_44, rX2_code_45, rX2_code_46, rX2_code_49, rX2_code_52, rX2_code_55, rX2_code_56, rX2_code_58, rX2_code_59, rX2_code_62, rX2_code_65, rX2_code_68, rX2_code_69, rX2_code_72, rX2_code_73, rX2_code_74, rX2_code_77, rX2_code_80, rX2_code_83, rX2_code_84, rX2_code_86, rX2_code_87, rX2_code_90, rX2_code_93, rX2_code_96, rX2_code_97, rX2_code_100, rX2_code_103, rX2_code_104, rX2_code_107, rX2_code_108, rX2_code_109, rX2_code_111, rX2_code_114, rX2_code_115, rX2_code_116, rX2_code_119, rX2_code_120, rX2_code_121, rX2_code_124, rX2_code_127, rX2_code_128, rX2_code_131, rX2_code_134, rX2_code_135, rX2_code_138, rX2_code_139, rX2_code_141, rX2_code_144, rX2_code_145, rX2_code_146, rX2_code_147, rX2_code_150, rX2_code_153, rX2_code_154, rX2_code_156, rX2_code_159, rX2_code_160, rX2_code_161, rX2_code_162, rX2_code_165, rX2_code_168, rX2_code_169, rX2_code_171, rX2_code_174, rX2_code_175, rX2_code_176, rX2_code_177, rX2_code_180, rX2_code_183, rX2_code_184, rX2_code_186, rX2_code_189, rX2_code_190, rX2_code_191, rX2_code_192, rX2_code_195, rX2_code_198, rX2_code_201, rX2_code_202, rX2_code_204, rX2_code_205, rX2_code_206, rX2_code_209, rX2_code_210, rX2_code_211, rX2_code_214, ↓reduceIte, m1_le, m1_lt, m1_eq, ofInt_m1, ex_ret, Int32.reduceAdd, Int32.reduceSub, Int32.reduceMul, Int32.reduceLT, Int32.reduceLE, xsI, Nat.reduceEqDiff, and_false, false_and, and_true, true_and, if_true, if_false, ite_true, ite_false, xlook_0, xlook_s, xI_int, xA_ref, xJ_long, xK_some, xRow_row, xTo_some, xst1, xclr, List.set_cons_zero, List.set_cons_succ, xsum_nil, xsum_int, xsum_ref, xsum_long, Option.toList_some, Option.toList_none, List.nil_append, List.cons_append, h1, Int32.le_refl, p1, p2]
theorem NoA.app {a b : List Or3} (h : NoA a) (h2 : NoA b) : NoA (a ++ b) := fun o ho => by
  rcases List.mem_append.mp ho with ho | ho
  · exact h o ho
  · exact h2 o ho
theorem NoA.cons {o : Or3} {b : List Or3} (h : ¬ o.1 = 12) (h2 : NoA b) : NoA (o :: b) := fun q hq => by
  rcases List.mem_cons.mp hq with rfl | hq
  · exact h
  · exact h2 q hq
theorem NoA_nil : NoA [] := fun o ho => by cases ho
theorem atO_A (px py : Nat) (a : Int32 × Int32) : ¬ (atO px py a).1 = 12 := by
  unfold atO
  by_cases h : a.1 = 27
  · rw [if_pos h]; show ¬ (1 : Int32) = 12; decide
  · rw [if_neg h]
    by_cases h2 : a.2 = 51
    · rw [if_pos h2]; show ¬ (3 : Int32) = 12; decide
    · rw [if_neg h2]; show ¬ (3 : Int32) = 12; decide
theorem oaO_A (px py : Nat) : ∀ (cs : List Oa) (w : Int32), NoA (oaO px py w cs)
  | [], w => NoA.cons (show ¬ (7 : Int32) = 12 by decide) NoA_nil
  | c :: cs, w => NoA.cons (show ¬ (7 : Int32) = 12 by decide) (NoA.cons (atO_A px py c.2) (oaO_A px py cs c.1.1))
theorem exE_A (px py : Nat) (a : Int32 × Int32) (cs : List Oa) : NoA (exE px py a cs) := by
  refine NoA.cons (atO_A px py a) ?_
  cases cs with
  | nil => exact NoA_nil
  | cons c cs => exact NoA.cons (atO_A px py c.2) (oaO_A px py cs c.1.1)
theorem exO_A (px py b dep : Nat) (e : Ex) : NoA (exO px py b dep e) := by
  match e with
  | .inl a => exact NoA.cons (atO_A px py a) NoA_nil
  | .inr (a, cs, none) => exact exE_A px py a cs
  | .inr (a, cs, some _) =>
    refine NoA.cons (by show ¬ (18 : Int32) = 12; decide) (NoA.app (exE_A px py a cs) ?_)
    unfold haO
    exact NoA.cons (show ¬ (19 : Int32) = 12 by decide) (NoA.cons (show ¬ (8 : Int32) = 12 by decide) (NoA.cons (show ¬ (25 : Int32) = 12 by decide) (NoA.cons (show ¬ (29 : Int32) = 12 by decide) (NoA.cons (show ¬ (3 : Int32) = 12 by decide) (NoA.cons (show ¬ (11 : Int32) = 12 by decide) (NoA.cons (show ¬ (8 : Int32) = 12 by decide) (NoA.cons (show ¬ (20 : Int32) = 12 by decide) NoA_nil)))))))
theorem lnO_A (px py b dep : Nat) (e : Ex) : NoA (lnO px py b dep e) := NoA.app (exO_A px py b dep e) (NoA.cons (show ¬ (25 : Int32) = 12 by decide) (NoA.cons (show ¬ (30 : Int32) = 12 by decide) (NoA.cons (show ¬ (31 : Int32) = 12 by decide) NoA_nil)))
theorem lnsO_A : ∀ (cs : List De) (px py b dep : Nat), NoA (lnsO px py b dep cs)
  | [], _, _, _, _ => NoA_nil
  | c :: cs, px, py, b, dep => NoA.app (lnO_A px py b dep c.2) (lnsO_A cs _ _ _ _)
theorem lnsO_le : ∀ (ls : List Ln) (px py b dep : Nat), (lnsO px py b dep (ls.map lnD)).length ≤ 23 * ls.length
  | [], _, _, _, _ => Nat.le_refl _
  | l :: ls, px, py, b, dep => by
    show (lnO px py b dep (lnD l).2 ++ lnsO _ _ _ _ (ls.map lnD)).length ≤ _
    have ih := lnsO_le ls (if (lnD l).1 = 51 then dep + 1 else px) (if (lnD l).1 = 51 then py else dep + 1) (b + (lnO px py b dep (lnD l).2).length) (dep + 2)
    have h1 : (lnO px py b dep (lnD l).2).length ≤ 23 := by
      unfold lnO
      rw [List.length_append]
      have h2 : (exO px py b dep (lnD l).2).length ≤ 20 := by
        obtain ⟨a, k, o, q⟩ := l
        obtain ⟨-, -, h3⟩ := opO_v k (laI_v o)
        cases q with
        | false =>
          show (chO px py (opO k (laI o).2)).length + 1 ≤ 20
          rw [chO_len]; omega
        | true =>
          have e9 : (exO px py b dep (.inr ((25, 51), opO k (laI o).2, some (37, 52)))).length = (chO px py (opO k (laI o).2)).length + 1 + 8 + 1 := by
            unfold exO exE haO
            simp only [List.length_append, List.length_cons, List.length_nil]
          show (exO px py b dep (.inr ((25, 51), opO k (laI o).2, some (37, 52)))).length ≤ 20
          rw [e9, chO_len]; omega
      show _ + 3 ≤ 23
      omega
    rw [List.length_append, List.length_cons]
    omega
