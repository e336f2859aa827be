/-! XF: rows, then what is proved of them. -/
theorem rX12_read_0 {d : Nat} {lv : xLV} {st : List Value} {S : xS} {r : xO} : XL SK MT d 310 (0, lv, st, S) r ↔ xA (xlook lv 0) (fun x => XL SK MT d 310 (1, lv, .ref x :: st, S) r) := X_ldA rfl rfl (fun _ => rfl) rfl rfl rfl rfl
theorem rX12_read_1 {d : Nat} {lv : xLV} {st : List Value} {S : xS} {r : xO} : XL SK MT d 310 (1, lv, .ref 0 :: st, S) r ↔ XL SK MT d 310 (4, lv, .int (S.1 0 12) :: st, S) r := X_heap rfl rfl rfl rfl rfl
theorem rX12_read_4 {d : Nat} {lv : xLV} {st : List Value} {S : xS} {r : xO} {x : Int32} : XL SK MT d 310 (4, lv, .int x :: st, S) r ↔ XL SK MT d 310 (5, xst1 lv 1 (.int x), st, S) r := X_pure rfl rfl rfl
theorem rX12_read_5 {d : Nat} {lv : xLV} {st : List Value} {S : xS} {r : xO} : XL SK MT d 310 (5, lv, st, S) r ↔ xA (xlook lv 0) (fun x => XL SK MT d 310 (6, lv, .ref x :: st, S) r) := X_ldA rfl rfl (fun _ => rfl) rfl rfl rfl rfl
theorem rX12_read_6 {d : Nat} {lv : xLV} {st : List Value} {S : xS} {r : xO} : XL SK MT d 310 (6, lv, st, S) r ↔ XL SK MT d 310 (7, lv, .int 0 :: st, S) r := X_pure rfl rfl rfl
theorem rX12_read_7 {d : Nat} {lv : xLV} {st : List Value} {S : xS} {r : xO} {x : Int32} : XL SK MT d 310 (7, lv, .int x :: .ref 0 :: st, S) r ↔ XL SK MT d 310 (10, lv, st, (xsetI S 0 12 x)) r := X_heap rfl rfl rfl rfl rfl
theorem rX12_read_10 {d : Nat} {lv : xLV} {st : List Value} {S : xS} {r : xO} : XL SK MT d 310 (10, lv, st, S) r ↔ xA (xlook lv 0) (fun x => XL SK MT d 310 (11, lv, .ref x :: st, S) r) := X_ldA rfl rfl (fun _ => rfl) rfl rfl rfl rfl
theorem rX12_read_11 {d : Nat} {lv : xLV} {st : List Value} {S : xS} {r : xO} : XL SK MT d 310 (11, lv, st, S) r ↔ XL SK MT d 310 (12, lv, .int 0 :: st, S) r := X_pure rfl rfl rfl
theorem r0X12_read_12 {d : Nat} {lv : xLV} {st : List Value} {S : xS} {r : xO} : XL SK MT d 310 (12, lv, .int 0 :: .ref 0 :: st, S) r ↔ XL SK MT d 310 (15, lv, st, (xsetI S 0 19 0)) r := X_heap rfl rfl rfl rfl rfl
theorem r1X12_read_12 {d : Nat} {lv : xLV} {st : List Value} {S : xS} {r : xO} : XL SK MT d 310 (12, lv, .int 1 :: .ref 0 :: st, S) r ↔ XL SK MT d 310 (15, lv, st, (xsetI S 0 19 1)) r := X_heap rfl rfl rfl rfl rfl
theorem rX12_read_12 {d : Nat} {lv : xLV} {st : List Value} {S : xS} {r : xO} {x : Int32} (hz : x = 0 ∨ x = 1) : XL SK MT d 310 (12, lv, .int x :: .ref 0 :: st, S) r ↔ XL SK MT d 310 (15, lv, st, (xsetI S 0 19 x)) r := X_heap rfl rfl rfl rfl (if_pos ⟨rfl, rfl, Or.inr ⟨rfl, hz⟩⟩)
theorem rX12_read_15 {d : Nat} {lv : xLV} {st : List Value} {S : xS} {r : xO} : XL SK MT d 310 (15, lv, st, S) r ↔ xA (xlook lv 0) (fun x => XL SK MT d 310 (16, lv, .ref x :: st, S) r) := X_ldA rfl rfl (fun _ => rfl) rfl rfl rfl rfl
theorem rX12_read_16 {d : Nat} {lv : xLV} {st : List Value} {S : xS} {r : xO} : XL SK MT d 310 (16, lv, st, S) r ↔ XL SK MT d 310 (17, lv, .int (-1) :: st, S) r := X_pure rfl rfl rfl
theorem rX12_read_17 {d : Nat} {lv : xLV} {st : List Value} {S : xS} {r : xO} {x : Int32} : XL SK MT d 310 (17, lv, .int x :: .ref 0 :: st, S) r ↔ XL SK MT d 310 (20, lv, st, (xsetI S 0 16 x)) r := X_heap rfl rfl rfl rfl rfl
theorem rX12_read_20 {d : Nat} {lv : xLV} {st : List Value} {S : xS} {r : xO} : XL SK MT d 310 (20, lv, st, S) r ↔ xA (xlook lv 0) (fun x => XL SK MT d 310 (21, lv, .ref x :: st, S) r) := X_ldA rfl rfl (fun _ => rfl) rfl rfl rfl rfl
theorem rX12_read_21 {d : Nat} {lv : xLV} {st : List Value} {S : xS} {r : xO} : XL SK MT d 310 (21, lv, st, S) r ↔ XL SK MT d 310 (22, lv, .int 0 :: st, S) r := X_pure rfl rfl rfl
theorem rX12_read_22 {d : Nat} {lv : xLV} {st : List Value} {S : xS} {r : xO} {x : Int32} : XL SK MT d 310 (22, lv, .int x :: .ref 0 :: st, S) r ↔ XL SK MT d 310 (25, lv, st, (xsetI S 0 14 x)) r := X_heap rfl rfl rfl rfl rfl
theorem rX12_read_25 {d : Nat} {lv : xLV} {st : List Value} {S : xS} {r : xO} : XL SK MT d 310 (25, lv, st, S) r ↔ xA (xlook lv 0) (fun x => XL SK MT d 310 (26, lv, .ref x :: st, S) r) := X_ldA rfl rfl (fun _ => rfl) rfl rfl rfl rfl
theorem rX12_read_26 {d : Nat} {lv : xLV} {st : List Value} {S : xS} {r : xO} : XL SK MT d 310 (26, lv, st, S) r ↔ XL SK MT d 310 (27, lv, .int (-1) :: st, S) r := X_pure rfl rfl rfl
theorem rX12_read_27 {d : Nat} {lv : xLV} {st : List Value} {S : xS} {r : xO} {x : Int32} : XL SK MT d 310 (27, lv, .int x :: .ref 0 :: st, S) r ↔ XL SK MT d 310 (30, lv, st, (xsetI S 0 15 x)) r := X_heap rfl rfl rfl rfl rfl
theorem rX12_read_30 {d : Nat} {lv : xLV} {st : List Value} {S : xS} {r : xO} : XL SK MT d 310 (30, lv, st, S) r ↔ xA (xlook lv 0) (fun x => XL SK MT d 310 (31, lv, .ref x :: st, S) r) := X_ldA rfl rfl (fun _ => rfl) rfl rfl rfl rfl
theorem rX12_read_31 {d : Nat} {lv : xLV} {st : List Value} {S : xS} {r : xO} : XL SK MT d 310 (31, lv, .ref 0 :: st, S) r ↔ XL SK MT d 310 (34, lv, .ref 2 :: st, S) r := X_heap rfl rfl rfl rfl rfl
theorem rX12_read_34 {d : Nat} {lv : xLV} {st : List Value} {S : xS} {r : xO} : XL SK MT d 310 (34, lv, st, S) r ↔ xI (xlook lv 1) (fun x => XL SK MT d 310 (35, lv, .int x :: st, S) r) := X_ldI rfl rfl (fun _ => rfl) rfl rfl rfl rfl
theorem rX12_read_35 {d : Nat} {lv : xLV} {S : xS} {r : xO} {x1 : Int32} : XL SK MT d 310 (35, lv, [.int x1, .ref 2], S) r ↔ xK (XC SK MT d 182 [.ref 2, .int x1] S) (fun v S => XL SK MT d 310 (38, lv, v.toList ++ [], S) r) := X_inv (n := 2) (kd := 9) (st0 := [.int x1, .ref 2]) rfl (Or.inr ⟨rfl, rfl⟩) rfl (Nat.le_of_ble_eq_true rfl) (Nat.le_of_ble_eq_true rfl) (by decide) rfl
theorem rX12_read_38 {d : Nat} {lv : xLV} {st : List Value} {S : xS} {r : xO} {x : Int32} : XL SK MT d 310 (38, lv, .int x :: st, S) r ↔ if ¬ x = 0 then XL SK MT d 310 (66, lv, st, S) r else XL SK MT d 310 (41, lv, st, S) r := (X_if rfl rfl).trans xc_ne
theorem rX12_read_41 {d : Nat} {lv : xLV} {st : List Value} {S : xS} {r : xO} : XL SK MT d 310 (41, lv, st, S) r ↔ xA (xlook lv 0) (fun x => XL SK MT d 310 (42, lv, .ref x :: st, S) r) := X_ldA rfl rfl (fun _ => rfl) rfl rfl rfl rfl
theorem rX12_read_42 {d : Nat} {lv : xLV} {st : List Value} {S : xS} {r : xO} : XL SK MT d 310 (42, lv, st, S) r ↔ xA (xlook lv 0) (fun x => XL SK MT d 310 (43, lv, .ref x :: st, S) r) := X_ldA rfl rfl (fun _ => rfl) rfl rfl rfl rfl
theorem rX12_read_43 {d : Nat} {lv : xLV} {st : List Value} {S : xS} {r : xO} : XL SK MT d 310 (43, lv, .ref 0 :: st, S) r ↔ XL SK MT d 310 (46, lv, .ref 1 :: st, S) r := X_heap rfl rfl rfl rfl rfl
theorem rX12_read_46 {d : Nat} {lv : xLV} {st : List Value} {S : xS} {r : xO} : XL SK MT d 310 (46, lv, .ref 1 :: st, S) r ↔ XL SK MT d 310 (49, lv, .int (S.1 1 16) :: st, S) r := X_heap rfl rfl rfl rfl rfl
theorem rX12_read_49 {d : Nat} {lv : xLV} {st : List Value} {S : xS} {r : xO} {x : Int32} : XL SK MT d 310 (49, lv, .int x :: .ref 0 :: st, S) r ↔ XL SK MT d 310 (52, lv, st, (xsetI S 0 14 x)) r := X_heap rfl rfl rfl rfl rfl
theorem rX12_read_52 {d : Nat} {lv : xLV} {st : List Value} {S : xS} {r : xO} : XL SK MT d 310 (52, lv, st, S) r ↔ xA (xlook lv 0) (fun x => XL SK MT d 310 (53, lv, .ref x :: st, S) r) := X_ldA rfl rfl (fun _ => rfl) rfl rfl rfl rfl
theorem rX12_read_53 {d : Nat} {lv : xLV} {st : List Value} {S : xS} {r : xO} : XL SK MT d 310 (53, lv, st, S) r ↔ xA (xlook lv 0) (fun x => XL SK MT d 310 (54, lv, .ref x :: st, S) r) := X_ldA rfl rfl (fun _ => rfl) rfl rfl rfl rfl
theorem rX12_read_54 {d : Nat} {lv : xLV} {st : List Value} {S : xS} {r : xO} : XL SK MT d 310 (54, lv, .ref 0 :: st, S) r ↔ XL SK MT d 310 (57, lv, .ref 1 :: st, S) r := X_heap rfl rfl rfl rfl rfl
theorem rX12_read_57 {d : Nat} {lv : xLV} {st : List Value} {S : xS} {r : xO} : XL SK MT d 310 (57, lv, .ref 1 :: st, S) r ↔ XL SK MT d 310 (60, lv, .int (S.1 1 14) :: st, S) r := X_heap rfl rfl rfl rfl rfl
theorem rX12_read_60 {d : Nat} {lv : xLV} {st : List Value} {S : xS} {r : xO} {x : Int32} : XL SK MT d 310 (60, lv, .int x :: .ref 0 :: st, S) r ↔ XL SK MT d 310 (63, lv, st, (xsetI S 0 15 x)) r := X_heap rfl rfl rfl rfl rfl
theorem rX12_read_63 {d : Nat} {lv : xLV} {st : List Value} {S : xS} {r : xO} : XL SK MT d 310 (63, lv, st, S) r ↔ XL SK MT d 310 (118, lv, st, S) r := X_jump rfl rfl rfl
theorem rX12_read_66 {d : Nat} {lv : xLV} {st : List Value} {S : xS} {r : xO} : XL SK MT d 310 (66, lv, st, S) r ↔ xA (xlook lv 0) (fun x => XL SK MT d 310 (67, lv, .ref x :: st, S) r) := X_ldA rfl rfl (fun _ => rfl) rfl rfl rfl rfl
theorem rX12_read_67 {d : Nat} {lv : xLV} {st : List Value} {S : xS} {r : xO} : XL SK MT d 310 (67, lv, .ref 0 :: st, S) r ↔ XL SK MT d 310 (70, lv, .ref 3 :: st, S) r := X_heap rfl rfl rfl rfl rfl
theorem rX12_read_70 {d : Nat} {lv : xLV} {S : xS} {r : xO} : XL SK MT d 310 (70, lv, [.ref 3], S) r ↔ xK (XC SK MT d 32 [.ref 3] S) (fun v S => XL SK MT d 310 (73, lv, v.toList ++ [], S) r) := X_inv (n := 1) (kd := 3) (st0 := [.ref 3]) rfl (Or.inr ⟨rfl, rfl⟩) rfl (Nat.le_of_ble_eq_true rfl) (Nat.le_of_ble_eq_true rfl) (by decide) rfl
theorem rX12_read_73 {d : Nat} {lv : xLV} {st : List Value} {S : xS} {r : xO} {x : Int32} : XL SK MT d 310 (73, lv, .int x :: st, S) r ↔ if ¬ x = 0 then XL SK MT d 310 (101, lv, st, S) r else XL SK MT d 310 (76, lv, st, S) r := (X_if rfl rfl).trans xc_ne
theorem rX12_read_76 {d : Nat} {lv : xLV} {st : List Value} {S : xS} {r : xO} : XL SK MT d 310 (76, lv, st, S) r ↔ xA (xlook lv 0) (fun x => XL SK MT d 310 (77, lv, .ref x :: st, S) r) := X_ldA rfl rfl (fun _ => rfl) rfl rfl rfl rfl
theorem rX12_read_77 {d : Nat} {lv : xLV} {st : List Value} {S : xS} {r : xO} : XL SK MT d 310 (77, lv, st, S) r ↔ xA (xlook lv 0) (fun x => XL SK MT d 310 (78, lv, .ref x :: st, S) r) := X_ldA rfl rfl (fun _ => rfl) rfl rfl rfl rfl
theorem rX12_read_78 {d : Nat} {lv : xLV} {st : List Value} {S : xS} {r : xO} : XL SK MT d 310 (78, lv, .ref 0 :: st, S) r ↔ XL SK MT d 310 (81, lv, .ref 3 :: st, S) r := X_heap rfl rfl rfl rfl rfl
theorem rX12_read_81 {d : Nat} {lv : xLV} {st : List Value} {S : xS} {r : xO} : XL SK MT d 310 (81, lv, .ref 3 :: st, S) r ↔ XL SK MT d 310 (84, lv, .int (S.1 3 16) :: st, S) r := X_heap rfl rfl rfl rfl rfl
theorem rX12_read_84 {d : Nat} {lv : xLV} {st : List Value} {S : xS} {r : xO} {x : Int32} : XL SK MT d 310 (84, lv, .int x :: .ref 0 :: st, S) r ↔ XL SK MT d 310 (87, lv, st, (xsetI S 0 14 x)) r := X_heap rfl rfl rfl rfl rfl
theorem rX12_read_87 {d : Nat} {lv : xLV} {st : List Value} {S : xS} {r : xO} : XL SK MT d 310 (87, lv, st, S) r ↔ xA (xlook lv 0) (fun x => XL SK MT d 310 (88, lv, .ref x :: st, S) r) := X_ldA rfl rfl (fun _ => rfl) rfl rfl rfl rfl
theorem rX12_read_88 {d : Nat} {lv : xLV} {st : List Value} {S : xS} {r : xO} : XL SK MT d 310 (88, lv, st, S) r ↔ xA (xlook lv 0) (fun x => XL SK MT d 310 (89, lv, .ref x :: st, S) r) := X_ldA rfl rfl (fun _ => rfl) rfl rfl rfl rfl
theorem rX12_read_89 {d : Nat} {lv : xLV} {st : List Value} {S : xS} {r : xO} : XL SK MT d 310 (89, lv, .ref 0 :: st, S) r ↔ XL SK MT d 310 (92, lv, .ref 3 :: st, S) r := X_heap rfl rfl rfl rfl rfl
theorem rX12_read_92 {d : Nat} {lv : xLV} {st : List Value} {S : xS} {r : xO} : XL SK MT d 310 (92, lv, .ref 3 :: st, S) r ↔ XL SK MT d 310 (95, lv, .int (S.1 3 17) :: st, S) r := X_heap rfl rfl rfl rfl rfl
theorem rX12_read_95 {d : Nat} {lv : xLV} {st : List Value} {S : xS} {r : xO} {x : Int32} : XL SK MT d 310 (95, lv, .int x :: .ref 0 :: st, S) r ↔ XL SK MT d 310 (98, lv, st, (xsetI S 0 15 x)) r := X_heap rfl rfl rfl rfl rfl
theorem rX12_read_98 {d : Nat} {lv : xLV} {st : List Value} {S : xS} {r : xO} : XL SK MT d 310 (98, lv, st, S) r ↔ XL SK MT d 310 (118, lv, st, S) r := X_jump rfl rfl rfl
theorem rX12_read_101 {d : Nat} {lv : xLV} {st : List Value} {S : xS} {r : xO} : XL SK MT d 310 (101, lv, st, S) r ↔ xA (xlook lv 0) (fun x => XL SK MT d 310 (102, lv, .ref x :: st, S) r) := X_ldA rfl rfl (fun _ => rfl) rfl rfl rfl rfl
theorem rX12_read_102 {d : Nat} {lv : xLV} {st : List Value} {S : xS} {r : xO} : XL SK MT d 310 (102, lv, .ref 0 :: st, S) r ↔ XL SK MT d 310 (105, lv, .ref 6 :: st, S) r := X_heap rfl rfl rfl rfl rfl
theorem rX12_read_105 {d : Nat} {lv : xLV} {S : xS} {r : xO} : XL SK MT d 310 (105, lv, [.ref 6], S) r ↔ xK (XC SK MT d 69 [.ref 6] S) (fun v S => XL SK MT d 310 (108, lv, v.toList ++ [], S) r) := X_inv (n := 1) (kd := 4) (st0 := [.ref 6]) rfl (Or.inr ⟨rfl, rfl⟩) rfl (Nat.le_of_ble_eq_true rfl) (Nat.le_of_ble_eq_true rfl) (by decide) rfl
theorem rX12_read_108 {d : Nat} {lv : xLV} {st : List Value} {S : xS} {r : xO} : XL SK MT d 310 (108, lv, st, S) r ↔ xA (xlook lv 0) (fun x => XL SK MT d 310 (109, lv, .ref x :: st, S) r) := X_ldA rfl rfl (fun _ => rfl) rfl rfl rfl rfl
theorem rX12_read_109 {d : Nat} {lv : xLV} {st : List Value} {S : xS} {r : xO} : XL SK MT d 310 (109, lv, st, S) r ↔ XL SK MT d 310 (110, lv, .int 0 :: st, S) r := X_pure rfl rfl rfl
theorem rX12_read_110 {d : Nat} {lv : xLV} {st : List Value} {S : xS} {r : xO} {x : Int32} : XL SK MT d 310 (110, lv, .int x :: .ref 0 :: st, S) r ↔ XL SK MT d 310 (113, lv, st, (xsetI S 0 18 x)) r := X_heap rfl rfl rfl rfl rfl
theorem rX12_read_113 {d : Nat} {lv : xLV} {st : List Value} {S : xS} {r : xO} : XL SK MT d 310 (113, lv, st, S) r ↔ xA (xlook lv 0) (fun x => XL SK MT d 310 (114, lv, .ref x :: st, S) r) := X_ldA rfl rfl (fun _ => rfl) rfl rfl rfl rfl
theorem rX12_read_114 {d : Nat} {lv : xLV} {st : List Value} {S : xS} {r : xO} : XL SK MT d 310 (114, lv, st, S) r ↔ XL SK MT d 310 (115, lv, .int 1 :: st, S) r := X_pure rfl rfl rfl
theorem r0X12_read_115 {d : Nat} {lv : xLV} {st : List Value} {S : xS} {r : xO} : XL SK MT d 310 (115, lv, .int 0 :: .ref 0 :: st, S) r ↔ XL SK MT d 310 (118, lv, st, (xsetI S 0 19 0)) r := X_heap rfl rfl rfl rfl rfl
theorem r1X12_read_115 {d : Nat} {lv : xLV} {st : List Value} {S : xS} {r : xO} : XL SK MT d 310 (115, lv, .int 1 :: .ref 0 :: st, S) r ↔ XL SK MT d 310 (118, lv, st, (xsetI S 0 19 1)) r := X_heap rfl rfl rfl rfl rfl
theorem rX12_read_115 {d : Nat} {lv : xLV} {st : List Value} {S : xS} {r : xO} {x : Int32} (hz : x = 0 ∨ x = 1) : XL SK MT d 310 (115, lv, .int x :: .ref 0 :: st, S) r ↔ XL SK MT d 310 (118, lv, st, (xsetI S 0 19 x)) r := X_heap rfl rfl rfl rfl (if_pos ⟨rfl, rfl, Or.inr ⟨rfl, hz⟩⟩)
theorem rX12_read_118 {d : Nat} {lv : xLV} {st : List Value} {S : xS} {r : xO} : XL SK MT d 310 (118, lv, st, S) r ↔ xA (xlook lv 0) (fun x => XL SK MT d 310 (119, lv, .ref x :: st, S) r) := X_ldA rfl rfl (fun _ => rfl) rfl rfl rfl rfl
theorem rX12_read_119 {d : Nat} {lv : xLV} {st : List Value} {S : xS} {r : xO} : XL SK MT d 310 (119, lv, .ref 0 :: st, S) r ↔ XL SK MT d 310 (122, lv, .int (S.1 0 19) :: st, S) r := X_heap rfl rfl rfl rfl rfl
theorem r0X12_read_122 {d : Nat} {lv : xLV} {S : xS} {r : xO} : XL SK MT d 310 (122, lv, [.int 0], S) r ↔ (some (.int 0), S) = r := X_ret rfl rfl rfl rfl rfl rfl
theorem r1X12_read_122 {d : Nat} {lv : xLV} {S : xS} {r : xO} : XL SK MT d 310 (122, lv, [.int 1], S) r ↔ (some (.int 1), S) = r := X_ret rfl rfl rfl rfl rfl rfl
theorem rX12_read_122 {d : Nat} {lv : xLV} {S : xS} {r : xO} {x : Int32} (hz : x = 0 ∨ x = 1) : XL SK MT d 310 (122, lv, [.int x], S) r ↔ (some (.int x), S) = r := X_ret rfl rfl rfl rfl rfl (if_pos (Or.inr ⟨rfl, hz⟩))

/-! The face: a program is read. -/
/-- the names of int and of Div, as they are written -/
def NWr (S : xS) (w : List Nat) (m a : Nat) : Prop := S.1 18 m = nI a ∧ S.1 19 m = nI w.length ∧ ∀ j b, w[j]? = some b → S.1 16 (a + j) = nI b
theorem Kat.nw {S : xS} {w : List Nat} {m hN a : Nat} (h : Kat S w m hN a) : NWr S w m a := ⟨h.2.2.2.2.1, h.2.2.2.2.2.2.1, h.2.2.2.2.2.2.2⟩
/-- a program that is ready to run -/
def RP (S : xS) (v0 v1 : Int) (ls : List Ln) : Prop := CO S (prO v0 v1 ls) ∧ (∃ n, S.1 3 18 = nI n ∧ Fi S n 2) ∧ TN S ∧ S.1 50 2 = 0 ∧ NWr S [105, 110, 116] 25 97 ∧ NWr S [68, 105, 118] 37 144 ∧ S.1 0 19 = 1 ∧ S.1 0 18 = 0 ∧ S.1 0 14 = 0
/-- what reading leaves as it is -/
def FrRd (S S1 : xS) : Prop := S1.2 = S.2 ∧ ∀ a, ¬ a = 0 → ¬ (1 ≤ a ∧ a ≤ 6) → ¬ a = 13 → ¬ (16 ≤ a ∧ a ≤ 60) → S1.1 a = S.1 a
set_option maxHeartbeats 4000000 in
set_option maxRecDepth 100000 in
theorem s_read {d : Nat} {S : xS} {v0 v1 : Int} {ls : List Ln} (hK : KnC S) (h0 : inR v0) (h1 : inR v1) (hl : ∀ l ∈ ls, lnOk l) (hn : ls.length ≤ 60) (hb : ∀ j b, (prB v0 v1 ls)[j]? = some b → S.1 13 j = nI b ∧ b < 128) (hz : (prB v0 v1 ls).length ≤ 8192) (hts : S.1 0 12 = nI (prB v0 v1 ls).length) (hst : S.1 5 13 = 2) (hcc : S.1 4 15 = 0) (h51 : S.1 37 51 = -1) (h52 : S.1 37 52 = -1) :
    ∃ S1, XC SK MT (d + 18) 310 [.ref 0] S = some (some (.int 1), S1) ∧ RP S1 v0 v1 ls ∧ FrRd S S1 := by
  generalize hSa : xsetI (xsetI (xsetI (xsetI (xsetI S 0 12 0) 0 19 0) 0 16 (-1)) 0 14 0) 0 15 (-1) = Sa
  have ra : ∀ a, ¬ a = 0 → Sa.1 a = S.1 a := fun a ha => by rw [← hSa, xsR ha, xsR ha, xsR ha, xsR ha, xsR ha]
  have Ka : KnC Sa := by rw [← hSa]; exact hK
  obtain ⟨Sb, b1, b2, b3, b4, b5⟩ := s_prog (d := d) (S := Sa) Ka h0 h1 hl (by omega) (fun j b hj => by rw [ra _ (by decide)]; exact hb j b hj) hz
  have rb : ∀ a, ¬ lxC a → ¬ paC a → ¬ a = 27 → ¬ a = 28 → Sb.1 a = Sa.1 a := b3.2
  obtain ⟨Sc, c1, c2, c3, c4, c5, c6⟩ := s_check (d := d + 10) (S := Sb) b2 (by omega) (by rw [rb 5 (by unfold lxC; decide) (by unfold paC; decide) (by decide) (by decide), ra 5 (by decide)]; exact hst) (by rw [rb 4 (by unfold lxC; decide) (by unfold paC; decide) (by decide) (by decide), ra 4 (by decide)]; exact hcc) (by rw [rb _ (by unfold lxC; decide) (by unfold paC; decide) (by decide) (by decide), ra _ (by decide)]; exact h51) (by rw [rb _ (by unfold lxC; decide) (by unfold paC; decide) (by decide) (by decide), ra _ (by decide)]; exact h52)
  have nb : Sb.1 1 7 = nI 53 := by
    rw [b5.2 _ (by decide)]
    unfold S2x ineS
    simp (config := { decide := true }) only [xsI, and_self, and_false, false_and, if_true, if_false]
  have nc : Sc.1 1 7 = nI 53 := by rw [c3.2 1 (by decide)]; exact nb
  obtain ⟨Sd, d1, d2, d3⟩ := s_code (d := d + 10) (S := Sc) c2 hn nc (by decide)
  have hd : ∀ a, ¬ (a = 6 ∨ (53 ≤ a ∧ a ≤ 60)) → Sd.1 a = Sc.1 a := d3.2
  have K2 : ∀ {w : List Nat} {m g a : Nat}, Kat Sa w m g a → ¬ g = 120 → ¬ g = 121 → ¬ m = 51 → ¬ m = 52 → a + w.length ≤ 194 → NWr Sd w m a := fun {w m g a} hk g1 g2 g3 g4 g5 => by
    have k1 : Kat (opS (paS Sa) (nI (prB v0 v1 ls).length)) w m g a := hk.of (fun a q1 q2 => bg_row (by omega) (by omega))
    have k2 : Kat (S2x (opS (paS Sa) (nI (prB v0 v1 ls).length))) w m g a := (k1.ine g1 g3 g5).ine g2 g4 (by omega)
    have k3 := k2.nw
    refine ⟨?_, ?_, fun j b hj => ?_⟩
    · rw [hd _ (by decide), c3.2 _ (by decide), b5.1 _ (by unfold lxC; decide) (by decide) (by decide)]; exact k3.1
    · rw [hd _ (by decide), c3.2 _ (by decide), b5.1 _ (by unfold lxC; decide) (by decide) (by decide)]; exact k3.2.1
    · rw [hd _ (by decide), c3.2 _ (by decide), b5.1 _ (by unfold lxC; decide) (by decide) (by decide)]; exact k3.2.2 j b hj
  obtain ⟨n, n1, n2⟩ := c4
  refine ⟨xsetI (xsetI Sd 0 18 0) 0 19 1, ?_, ⟨d2, ⟨n, ?_, ?_⟩, ⟨?_, ?_⟩, ?_, K2 Ka.2.2.2.2.2.2.1 (by decide) (by decide) (by decide) (by decide) (by decide), K2 Ka.2.2.2.2.2.1 (by decide) (by decide) (by decide) (by decide) (by decide), rfl, rfl, ?_⟩, ?_, fun a q0 q1 q2 q3 => ?_⟩
  · have b1' : XC SK MT (d + 17) 182 [.ref 2, .int (S.1 0 12)] Sa = some (some (.int 1), Sb) := by rw [hts]; exact b1
    have c1' : XC SK MT (d + 17) 32 [.ref 3] Sb = some (some (.int 1), Sc) := c1
    have d1' : XC SK MT (d + 17) 69 [.ref 6] Sc = some (none, Sd) := d1
    rw [XC_iff]
    refine ⟨Nat.le_of_ble_eq_true rfl, ?_⟩
    show XL SK MT (d + 17) 310 (0, [some (.ref 0), none], [], S) _
    simp (config := { decide := true }) only [rX12_read_0, rX12_read_1, rX12_read_4, rX12_read_5, rX12_read_6, rX12_read_7, rX12_read_10, rX12_read_11, r0X12_read_12, r1X12_read_12, rX12_read_12, rX12_read_15, rX12_read_16, rX12_read_17, rX12_read_20, rX12_read_21, rX12_read_22, rX12_read_25, rX12_read_26, rX12_read_27, rX12_read_30, rX12_read_31, rX12_read_34, rX12_read_35, rX12_read_38, rX12_read_41, rX12_read_42, rX12_read_43, rX12_read_46, rX12_read_49, rX12_read_52, rX12_read_53, rX12_read_54, rX12_read_57, rX12_read_60, rX12_read_63, rX12_read_66, rX12_read_67, rX12_read_70, rX12_read_73, rX12_read_76, rX12_read_77, rX12_read_78, rX12_read_81, rX12_read_84, rX12_read_87, rX12_read_88, rX12_read_89, rX12_read_92, rX12_read_95, rX12_read_98, rX12_read_101, rX12_read_102, rX12_read_105, rX12_read_108, rX12_read_109, rX12_read_110, rX12_read_113, rX12_read_114, r0X12_read_115, r1X12_read_115, rX12_read_115, rX12_read_118, rX12_read_119, r0X12_read_122, r1X12_read_122, rX12_read_122, ↓reduceIte, m1_le, m1_lt, m1_eq, ofInt_m1, ex_ret, Int32.reduceAdd, Int32.reduceSub, Int32.reduceMul, Int32.reduceLT, Int32.reduceLE, xsI, Nat.reduceEqDiff, and_false, false_and, and_true, true_and, if_true, if_false, ite_true, ite_false, xlook_0, xlook_s, xI_int, xA_ref, xJ_long, xK_some, xRow_row, xTo_some, xst1, xclr, List.set_cons_zero, List.set_cons_succ, xsum_nil, xsum_int, xsum_ref, xsum_long, Option.toList_some, Option.toList_none, List.nil_append, List.cons_append, hSa, b1', c1', d1']
  · show Sd.1 3 18 = nI n; rw [hd 3 (by decide)]; exact n1
  · show Fi Sd n 2
    obtain ⟨f1, f2, f3, f4⟩ := n2
    exact ⟨f1, f2, by rw [hd _ (by decide)]; exact f3, by rw [hd 44 (by decide), hd 45 (by decide)]; exact f4⟩
  · show Sd.1 38 2 = 25; rw [hd _ (by decide)]; exact c5.1
  · show Sd.1 36 30 = nI 37; rw [hd _ (by decide)]; exact c5.2
  · show Sd.1 50 2 = 0; rw [hd _ (by decide)]; exact c6
  · show Sd.1 0 14 = 0
    rw [hd 0 (by decide), c3.2 0 (by decide), rb 0 (by unfold lxC; decide) (by unfold paC; decide) (by decide) (by decide), ← hSa]; rfl
  · show Sd.2 = S.2
    rw [d3.1, c3.1, b3.1, ← hSa]; rfl
  · rw [xsR q0, xsR q0, hd a (by omega), c3.2 a (by omega), rb a (by unfold lxC; omega) (by unfold paC; omega) (by omega) (by omega), ra a q0]
