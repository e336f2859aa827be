/-! XF: rows, then what is proved of them. -/
theorem rX5_layMoved_0 {d : Nat} {lv : xLV} {st : List Value} {S : xS} {r : xO} : XL SK MT d 138 (0, lv, st, S) r ↔ xA (xlook lv 0) (fun x => XL SK MT d 138 (1, lv, .ref x :: st, S) r) := X_ldA rfl rfl (fun _ => rfl) rfl rfl rfl rfl
theorem rX5_layMoved_1 {d : Nat} {lv : xLV} {st : List Value} {S : xS} {r : xO} : XL SK MT d 138 (1, lv, .ref 10 :: st, S) r ↔ XL SK MT d 138 (4, lv, .ref 9 :: st, S) r := X_heap rfl rfl rfl rfl rfl
theorem rX5_layMoved_4 {d : Nat} {lv : xLV} {S : xS} {r : xO} : XL SK MT d 138 (4, lv, [.ref 9], S) r ↔ xK (XC SK MT d 1 [.ref 9] S) (fun v S => XL SK MT d 138 (7, lv, v.toList ++ [], S) r) := X_inv (n := 1) (kd := 2) (st0 := [.ref 9]) rfl (Or.inr ⟨rfl, rfl⟩) rfl (Nat.le_of_ble_eq_true rfl) (Nat.le_of_ble_eq_true rfl) (by decide) rfl
theorem rX5_layMoved_7 {d : Nat} {lv : xLV} {st : List Value} {S : xS} {r : xO} {x : Int32} : XL SK MT d 138 (7, lv, .int x :: st, S) r ↔ XL SK MT d 138 (8, xst1 lv 1 (.int x), st, S) r := X_pure rfl rfl rfl
theorem rX5_layMoved_8 {d : Nat} {lv : xLV} {st : List Value} {S : xS} {r : xO} : XL SK MT d 138 (8, lv, st, S) r ↔ xA (xlook lv 0) (fun x => XL SK MT d 138 (9, lv, .ref x :: st, S) r) := X_ldA rfl rfl (fun _ => rfl) rfl rfl rfl rfl
theorem rX5_layMoved_9 {d : Nat} {lv : xLV} {st : List Value} {S : xS} {r : xO} : XL SK MT d 138 (9, lv, .ref 10 :: st, S) r ↔ XL SK MT d 138 (12, lv, .ref 9 :: st, S) r := X_heap rfl rfl rfl rfl rfl
theorem rX5_layMoved_12 {d : Nat} {lv : xLV} {S : xS} {r : xO} : XL SK MT d 138 (12, lv, [.ref 9], S) r ↔ xK (XC SK MT d 1 [.ref 9] S) (fun v S => XL SK MT d 138 (15, lv, v.toList ++ [], S) r) := X_inv (n := 1) (kd := 2) (st0 := [.ref 9]) rfl (Or.inr ⟨rfl, rfl⟩) rfl (Nat.le_of_ble_eq_true rfl) (Nat.le_of_ble_eq_true rfl) (by decide) rfl
theorem rX5_layMoved_15 {d : Nat} {lv : xLV} {st : List Value} {S : xS} {r : xO} {x : Int32} : XL SK MT d 138 (15, lv, .int x :: st, S) r ↔ XL SK MT d 138 (16, xst1 lv 2 (.int x), st, S) r := X_pure rfl rfl rfl
theorem rX5_layMoved_16 {d : Nat} {lv : xLV} {st : List Value} {S : xS} {r : xO} : XL SK MT d 138 (16, lv, st, S) r ↔ xA (xlook lv 0) (fun x => XL SK MT d 138 (17, lv, .ref x :: st, S) r) := X_ldA rfl rfl (fun _ => rfl) rfl rfl rfl rfl
theorem rX5_layMoved_17 {d : Nat} {lv : xLV} {st : List Value} {S : xS} {r : xO} : XL SK MT d 138 (17, lv, .ref 10 :: st, S) r ↔ XL SK MT d 138 (20, lv, .ref 9 :: st, S) r := X_heap rfl rfl rfl rfl rfl
theorem rX5_layMoved_20 {d : Nat} {lv : xLV} {st : List Value} {S : xS} {r : xO} : XL SK MT d 138 (20, lv, st, S) r ↔ XL SK MT d 138 (22, lv, .int 65538 :: st, S) r := X_pure rfl rfl rfl
theorem rX5_layMoved_22 {d : Nat} {lv : xLV} {S : xS} {r : xO} {x1 : Int32} : XL SK MT d 138 (22, lv, [.int x1, .ref 9], S) r ↔ xK (XC SK MT d 3 [.ref 9, .int x1] S) (fun v S => XL SK MT d 138 (25, lv, v.toList ++ [], S) r) := X_inv (n := 2) (kd := 2) (st0 := [.int x1, .ref 9]) rfl (Or.inr ⟨rfl, rfl⟩) rfl (Nat.le_of_ble_eq_true rfl) (Nat.le_of_ble_eq_true rfl) (by decide) rfl
theorem rX5_layMoved_25 {d : Nat} {lv : xLV} {st : List Value} {S : xS} {r : xO} : XL SK MT d 138 (25, lv, st, S) r ↔ xA (xlook lv 0) (fun x => XL SK MT d 138 (26, lv, .ref x :: st, S) r) := X_ldA rfl rfl (fun _ => rfl) rfl rfl rfl rfl
theorem rX5_layMoved_26 {d : Nat} {lv : xLV} {st : List Value} {S : xS} {r : xO} : XL SK MT d 138 (26, lv, .ref 10 :: st, S) r ↔ XL SK MT d 138 (29, lv, .ref 9 :: st, S) r := X_heap rfl rfl rfl rfl rfl
theorem rX5_layMoved_29 {d : Nat} {lv : xLV} {st : List Value} {S : xS} {r : xO} : XL SK MT d 138 (29, lv, st, S) r ↔ XL SK MT d 138 (31, lv, .int 12 :: st, S) r := X_pure rfl rfl rfl
theorem rX5_layMoved_31 {d : Nat} {lv : xLV} {st : List Value} {S : xS} {r : xO} : XL SK MT d 138 (31, lv, st, S) r ↔ XL SK MT d 138 (33, lv, .int 8 :: st, S) r := X_pure rfl rfl rfl
theorem rX5_layMoved_33 {d : Nat} {lv : xLV} {st : List Value} {S : xS} {r : xO} : XL SK MT d 138 (33, lv, st, S) r ↔ XL SK MT d 138 (35, lv, .int 6 :: st, S) r := X_pure rfl rfl rfl
theorem rX5_layMoved_35 {d : Nat} {lv : xLV} {st : List Value} {S : xS} {r : xO} : XL SK MT d 138 (35, lv, st, S) r ↔ XL SK MT d 138 (36, lv, .int 3 :: st, S) r := X_pure rfl rfl rfl
theorem rX5_layMoved_36 {d : Nat} {lv : xLV} {S : xS} {r : xO} {x1 : Int32} {x2 : Int32} {x3 : Int32} {x4 : Int32} : XL SK MT d 138 (36, lv, [.int x4, .int x3, .int x2, .int x1, .ref 9], S) r ↔ xK (XC SK MT d 17 [.ref 9, .int x1, .int x2, .int x3, .int x4] S) (fun v S => XL SK MT d 138 (39, lv, v.toList ++ [], S) r) := X_inv (n := 5) (kd := 2) (st0 := [.int x4, .int x3, .int x2, .int x1, .ref 9]) rfl (Or.inr ⟨rfl, rfl⟩) rfl (Nat.le_of_ble_eq_true rfl) (Nat.le_of_ble_eq_true rfl) (by decide) rfl
theorem rX5_layMoved_39 {d : Nat} {lv : xLV} {st : List Value} {S : xS} {r : xO} : XL SK MT d 138 (39, lv, st, S) r ↔ xA (xlook lv 0) (fun x => XL SK MT d 138 (40, lv, .ref x :: st, S) r) := X_ldA rfl rfl (fun _ => rfl) rfl rfl rfl rfl
theorem rX5_layMoved_40 {d : Nat} {lv : xLV} {st : List Value} {S : xS} {r : xO} : XL SK MT d 138 (40, lv, .ref 10 :: st, S) r ↔ XL SK MT d 138 (43, lv, .ref 9 :: st, S) r := X_heap rfl rfl rfl rfl rfl
theorem rX5_layMoved_43 {d : Nat} {lv : xLV} {st : List Value} {S : xS} {r : xO} : XL SK MT d 138 (43, lv, st, S) r ↔ XL SK MT d 138 (44, lv, .int 3 :: st, S) r := X_pure rfl rfl rfl
theorem rX5_layMoved_44 {d : Nat} {lv : xLV} {st : List Value} {S : xS} {r : xO} : XL SK MT d 138 (44, lv, st, S) r ↔ XL SK MT d 138 (46, lv, .int 6 :: st, S) r := X_pure rfl rfl rfl
theorem rX5_layMoved_46 {d : Nat} {lv : xLV} {S : xS} {r : xO} {x1 : Int32} {x2 : Int32} : XL SK MT d 138 (46, lv, [.int x2, .int x1, .ref 9], S) r ↔ xK (XC SK MT d 21 [.ref 9, .int x1, .int x2] S) (fun v S => XL SK MT d 138 (49, lv, v.toList ++ [], S) r) := X_inv (n := 3) (kd := 2) (st0 := [.int x2, .int x1, .ref 9]) rfl (Or.inr ⟨rfl, rfl⟩) rfl (Nat.le_of_ble_eq_true rfl) (Nat.le_of_ble_eq_true rfl) (by decide) rfl
theorem rX5_layMoved_49 {d : Nat} {lv : xLV} {st : List Value} {S : xS} {r : xO} : XL SK MT d 138 (49, lv, st, S) r ↔ xA (xlook lv 0) (fun x => XL SK MT d 138 (50, lv, .ref x :: st, S) r) := X_ldA rfl rfl (fun _ => rfl) rfl rfl rfl rfl
theorem rX5_layMoved_50 {d : Nat} {lv : xLV} {st : List Value} {S : xS} {r : xO} : XL SK MT d 138 (50, lv, .ref 10 :: st, S) r ↔ XL SK MT d 138 (53, lv, .ref 9 :: st, S) r := X_heap rfl rfl rfl rfl rfl
theorem rX5_layMoved_53 {d : Nat} {lv : xLV} {st : List Value} {S : xS} {r : xO} : XL SK MT d 138 (53, lv, st, S) r ↔ XL SK MT d 138 (54, lv, .int 5 :: st, S) r := X_pure rfl rfl rfl
theorem rX5_layMoved_54 {d : Nat} {lv : xLV} {st : List Value} {S : xS} {r : xO} : XL SK MT d 138 (54, lv, st, S) r ↔ XL SK MT d 138 (56, lv, .int 8 :: st, S) r := X_pure rfl rfl rfl
theorem rX5_layMoved_56 {d : Nat} {lv : xLV} {st : List Value} {S : xS} {r : xO} : XL SK MT d 138 (56, lv, st, S) r ↔ XL SK MT d 138 (57, lv, .int 0 :: st, S) r := X_pure rfl rfl rfl
theorem rX5_layMoved_57 {d : Nat} {lv : xLV} {st : List Value} {S : xS} {r : xO} : XL SK MT d 138 (57, lv, st, S) r ↔ xI (xlook lv 1) (fun x => XL SK MT d 138 (58, lv, .int x :: st, S) r) := X_ldI rfl rfl (fun _ => rfl) rfl rfl rfl rfl
theorem rX5_layMoved_58 {d : Nat} {lv : xLV} {S : xS} {r : xO} {x1 : Int32} {x2 : Int32} {x3 : Int32} {x4 : Int32} : XL SK MT d 138 (58, lv, [.int x4, .int x3, .int x2, .int x1, .ref 9], S) r ↔ xK (XC SK MT d 24 [.ref 9, .int x1, .int x2, .int x3, .int x4] S) (fun v S => XL SK MT d 138 (61, lv, v.toList ++ [], S) r) := X_inv (n := 5) (kd := 2) (st0 := [.int x4, .int x3, .int x2, .int x1, .ref 9]) rfl (Or.inr ⟨rfl, rfl⟩) rfl (Nat.le_of_ble_eq_true rfl) (Nat.le_of_ble_eq_true rfl) (by decide) rfl
theorem rX5_layMoved_61 {d : Nat} {lv : xLV} {st : List Value} {S : xS} {r : xO} : XL SK MT d 138 (61, lv, st, S) r ↔ xA (xlook lv 0) (fun x => XL SK MT d 138 (62, lv, .ref x :: st, S) r) := X_ldA rfl rfl (fun _ => rfl) rfl rfl rfl rfl
theorem rX5_layMoved_62 {d : Nat} {lv : xLV} {st : List Value} {S : xS} {r : xO} : XL SK MT d 138 (62, lv, .ref 10 :: st, S) r ↔ XL SK MT d 138 (65, lv, .ref 9 :: st, S) r := X_heap rfl rfl rfl rfl rfl
theorem rX5_layMoved_65 {d : Nat} {lv : xLV} {st : List Value} {S : xS} {r : xO} : XL SK MT d 138 (65, lv, st, S) r ↔ XL SK MT d 138 (67, lv, .int 14 :: st, S) r := X_pure rfl rfl rfl
theorem rX5_layMoved_67 {d : Nat} {lv : xLV} {st : List Value} {S : xS} {r : xO} : XL SK MT d 138 (67, lv, st, S) r ↔ XL SK MT d 138 (68, lv, .int 0 :: st, S) r := X_pure rfl rfl rfl
theorem rX5_layMoved_68 {d : Nat} {lv : xLV} {st : List Value} {S : xS} {r : xO} : XL SK MT d 138 (68, lv, st, S) r ↔ XL SK MT d 138 (70, lv, .int 6 :: st, S) r := X_pure rfl rfl rfl
theorem rX5_layMoved_70 {d : Nat} {lv : xLV} {S : xS} {r : xO} {x1 : Int32} {x2 : Int32} {x3 : Int32} : XL SK MT d 138 (70, lv, [.int x3, .int x2, .int x1, .ref 9], S) r ↔ xK (XC SK MT d 18 [.ref 9, .int x1, .int x2, .int x3] S) (fun v S => XL SK MT d 138 (73, lv, v.toList ++ [], S) r) := X_inv (n := 4) (kd := 2) (st0 := [.int x3, .int x2, .int x1, .ref 9]) rfl (Or.inr ⟨rfl, rfl⟩) rfl (Nat.le_of_ble_eq_true rfl) (Nat.le_of_ble_eq_true rfl) (by decide) rfl
theorem rX5_layMoved_73 {d : Nat} {lv : xLV} {st : List Value} {S : xS} {r : xO} : XL SK MT d 138 (73, lv, st, S) r ↔ xA (xlook lv 0) (fun x => XL SK MT d 138 (74, lv, .ref x :: st, S) r) := X_ldA rfl rfl (fun _ => rfl) rfl rfl rfl rfl
theorem rX5_layMoved_74 {d : Nat} {lv : xLV} {st : List Value} {S : xS} {r : xO} : XL SK MT d 138 (74, lv, .ref 10 :: st, S) r ↔ XL SK MT d 138 (77, lv, .ref 9 :: st, S) r := X_heap rfl rfl rfl rfl rfl
theorem rX5_layMoved_77 {d : Nat} {lv : xLV} {st : List Value} {S : xS} {r : xO} : XL SK MT d 138 (77, lv, st, S) r ↔ XL SK MT d 138 (79, lv, .int 12 :: st, S) r := X_pure rfl rfl rfl
theorem rX5_layMoved_79 {d : Nat} {lv : xLV} {st : List Value} {S : xS} {r : xO} : XL SK MT d 138 (79, lv, st, S) r ↔ XL SK MT d 138 (81, lv, .int 8 :: st, S) r := X_pure rfl rfl rfl
theorem rX5_layMoved_81 {d : Nat} {lv : xLV} {st : List Value} {S : xS} {r : xO} : XL SK MT d 138 (81, lv, st, S) r ↔ XL SK MT d 138 (83, lv, .int 14 :: st, S) r := X_pure rfl rfl rfl
theorem rX5_layMoved_83 {d : Nat} {lv : xLV} {st : List Value} {S : xS} {r : xO} : XL SK MT d 138 (83, lv, st, S) r ↔ XL SK MT d 138 (84, lv, .int 1 :: st, S) r := X_pure rfl rfl rfl
theorem rX5_layMoved_84 {d : Nat} {lv : xLV} {S : xS} {r : xO} {x1 : Int32} {x2 : Int32} {x3 : Int32} {x4 : Int32} : XL SK MT d 138 (84, lv, [.int x4, .int x3, .int x2, .int x1, .ref 9], S) r ↔ xK (XC SK MT d 17 [.ref 9, .int x1, .int x2, .int x3, .int x4] S) (fun v S => XL SK MT d 138 (87, lv, v.toList ++ [], S) r) := X_inv (n := 5) (kd := 2) (st0 := [.int x4, .int x3, .int x2, .int x1, .ref 9]) rfl (Or.inr ⟨rfl, rfl⟩) rfl (Nat.le_of_ble_eq_true rfl) (Nat.le_of_ble_eq_true rfl) (by decide) rfl
theorem rX5_layMoved_87 {d : Nat} {lv : xLV} {st : List Value} {S : xS} {r : xO} : XL SK MT d 138 (87, lv, st, S) r ↔ xA (xlook lv 0) (fun x => XL SK MT d 138 (88, lv, .ref x :: st, S) r) := X_ldA rfl rfl (fun _ => rfl) rfl rfl rfl rfl
theorem rX5_layMoved_88 {d : Nat} {lv : xLV} {st : List Value} {S : xS} {r : xO} : XL SK MT d 138 (88, lv, .ref 10 :: st, S) r ↔ XL SK MT d 138 (91, lv, .ref 9 :: st, S) r := X_heap rfl rfl rfl rfl rfl
theorem rX5_layMoved_91 {d : Nat} {lv : xLV} {st : List Value} {S : xS} {r : xO} : XL SK MT d 138 (91, lv, st, S) r ↔ XL SK MT d 138 (92, lv, .int 5 :: st, S) r := X_pure rfl rfl rfl
theorem rX5_layMoved_92 {d : Nat} {lv : xLV} {st : List Value} {S : xS} {r : xO} : XL SK MT d 138 (92, lv, st, S) r ↔ XL SK MT d 138 (94, lv, .int 8 :: st, S) r := X_pure rfl rfl rfl
theorem rX5_layMoved_94 {d : Nat} {lv : xLV} {st : List Value} {S : xS} {r : xO} : XL SK MT d 138 (94, lv, st, S) r ↔ XL SK MT d 138 (95, lv, .int 0 :: st, S) r := X_pure rfl rfl rfl
theorem rX5_layMoved_95 {d : Nat} {lv : xLV} {st : List Value} {S : xS} {r : xO} : XL SK MT d 138 (95, lv, st, S) r ↔ xI (xlook lv 2) (fun x => XL SK MT d 138 (96, lv, .int x :: st, S) r) := X_ldI rfl rfl (fun _ => rfl) rfl rfl rfl rfl
theorem rX5_layMoved_96 {d : Nat} {lv : xLV} {S : xS} {r : xO} {x1 : Int32} {x2 : Int32} {x3 : Int32} {x4 : Int32} : XL SK MT d 138 (96, lv, [.int x4, .int x3, .int x2, .int x1, .ref 9], S) r ↔ xK (XC SK MT d 24 [.ref 9, .int x1, .int x2, .int x3, .int x4] S) (fun v S => XL SK MT d 138 (99, lv, v.toList ++ [], S) r) := X_inv (n := 5) (kd := 2) (st0 := [.int x4, .int x3, .int x2, .int x1, .ref 9]) rfl (Or.inr ⟨rfl, rfl⟩) rfl (Nat.le_of_ble_eq_true rfl) (Nat.le_of_ble_eq_true rfl) (by decide) rfl
theorem rX5_layMoved_99 {d : Nat} {lv : xLV} {st : List Value} {S : xS} {r : xO} : XL SK MT d 138 (99, lv, st, S) r ↔ xA (xlook lv 0) (fun x => XL SK MT d 138 (100, lv, .ref x :: st, S) r) := X_ldA rfl rfl (fun _ => rfl) rfl rfl rfl rfl
theorem rX5_layMoved_100 {d : Nat} {lv : xLV} {st : List Value} {S : xS} {r : xO} : XL SK MT d 138 (100, lv, .ref 10 :: st, S) r ↔ XL SK MT d 138 (103, lv, .ref 9 :: st, S) r := X_heap rfl rfl rfl rfl rfl
theorem rX5_layMoved_103 {d : Nat} {lv : xLV} {st : List Value} {S : xS} {r : xO} : XL SK MT d 138 (103, lv, st, S) r ↔ XL SK MT d 138 (104, lv, .int 3 :: st, S) r := X_pure rfl rfl rfl
theorem rX5_layMoved_104 {d : Nat} {lv : xLV} {st : List Value} {S : xS} {r : xO} : XL SK MT d 138 (104, lv, st, S) r ↔ XL SK MT d 138 (106, lv, .int 14 :: st, S) r := X_pure rfl rfl rfl
theorem rX5_layMoved_106 {d : Nat} {lv : xLV} {S : xS} {r : xO} {x1 : Int32} {x2 : Int32} : XL SK MT d 138 (106, lv, [.int x2, .int x1, .ref 9], S) r ↔ xK (XC SK MT d 21 [.ref 9, .int x1, .int x2] S) (fun v S => XL SK MT d 138 (109, lv, v.toList ++ [], S) r) := X_inv (n := 3) (kd := 2) (st0 := [.int x2, .int x1, .ref 9]) rfl (Or.inr ⟨rfl, rfl⟩) rfl (Nat.le_of_ble_eq_true rfl) (Nat.le_of_ble_eq_true rfl) (by decide) rfl
theorem rX5_layMoved_109 {d : Nat} {lv : xLV} {st : List Value} {S : xS} {r : xO} : XL SK MT d 138 (109, lv, st, S) r ↔ xA (xlook lv 0) (fun x => XL SK MT d 138 (110, lv, .ref x :: st, S) r) := X_ldA rfl rfl (fun _ => rfl) rfl rfl rfl rfl
theorem rX5_layMoved_110 {d : Nat} {lv : xLV} {st : List Value} {S : xS} {r : xO} : XL SK MT d 138 (110, lv, .ref 10 :: st, S) r ↔ XL SK MT d 138 (113, lv, .ref 9 :: st, S) r := X_heap rfl rfl rfl rfl rfl
theorem rX5_layMoved_113 {d : Nat} {lv : xLV} {st : List Value} {S : xS} {r : xO} : XL SK MT d 138 (113, lv, st, S) r ↔ xI (xlook lv 1) (fun x => XL SK MT d 138 (114, lv, .int x :: st, S) r) := X_ldI rfl rfl (fun _ => rfl) rfl rfl rfl rfl
theorem rX5_layMoved_114 {d : Nat} {lv : xLV} {S : xS} {r : xO} {x1 : Int32} : XL SK MT d 138 (114, lv, [.int x1, .ref 9], S) r ↔ xK (XC SK MT d 27 [.ref 9, .int x1] S) (fun v S => XL SK MT d 138 (117, lv, v.toList ++ [], S) r) := X_inv (n := 2) (kd := 2) (st0 := [.int x1, .ref 9]) rfl (Or.inr ⟨rfl, rfl⟩) rfl (Nat.le_of_ble_eq_true rfl) (Nat.le_of_ble_eq_true rfl) (by decide) rfl
theorem rX5_layMoved_117 {d : Nat} {lv : xLV} {st : List Value} {S : xS} {r : xO} : XL SK MT d 138 (117, lv, st, S) r ↔ xA (xlook lv 0) (fun x => XL SK MT d 138 (118, lv, .ref x :: st, S) r) := X_ldA rfl rfl (fun _ => rfl) rfl rfl rfl rfl
theorem rX5_layMoved_118 {d : Nat} {lv : xLV} {st : List Value} {S : xS} {r : xO} : XL SK MT d 138 (118, lv, .ref 10 :: st, S) r ↔ XL SK MT d 138 (121, lv, .ref 9 :: st, S) r := X_heap rfl rfl rfl rfl rfl
theorem rX5_layMoved_121 {d : Nat} {lv : xLV} {st : List Value} {S : xS} {r : xO} : XL SK MT d 138 (121, lv, st, S) r ↔ xI (xlook lv 2) (fun x => XL SK MT d 138 (122, lv, .int x :: st, S) r) := X_ldI rfl rfl (fun _ => rfl) rfl rfl rfl rfl
theorem rX5_layMoved_122 {d : Nat} {lv : xLV} {S : xS} {r : xO} {x1 : Int32} : XL SK MT d 138 (122, lv, [.int x1, .ref 9], S) r ↔ xK (XC SK MT d 3 [.ref 9, .int x1] S) (fun v S => XL SK MT d 138 (125, lv, v.toList ++ [], S) r) := X_inv (n := 2) (kd := 2) (st0 := [.int x1, .ref 9]) rfl (Or.inr ⟨rfl, rfl⟩) rfl (Nat.le_of_ble_eq_true rfl) (Nat.le_of_ble_eq_true rfl) (by decide) rfl
theorem rX5_layMoved_125 {d : Nat} {lv : xLV} {st : List Value} {S : xS} {r : xO} : XL SK MT d 138 (125, lv, st, S) r ↔ xA (xlook lv 0) (fun x => XL SK MT d 138 (126, lv, .ref x :: st, S) r) := X_ldA rfl rfl (fun _ => rfl) rfl rfl rfl rfl
theorem rX5_layMoved_126 {d : Nat} {lv : xLV} {S : xS} {r : xO} : XL SK MT d 138 (126, lv, [.ref 10], S) r ↔ xK (XC SK MT d 137 [.ref 10] S) (fun v S => XL SK MT d 138 (129, lv, v.toList ++ [], S) r) := X_inv (n := 1) (kd := 7) (st0 := [.ref 10]) rfl (Or.inr ⟨rfl, rfl⟩) rfl (Nat.le_of_ble_eq_true rfl) (Nat.le_of_ble_eq_true rfl) (by decide) rfl
theorem rX5_layMoved_129 {d : Nat} {lv : xLV} {st : List Value} {S : xS} {r : xO} : XL SK MT d 138 (129, lv, st, S) r ↔ xA (xlook lv 0) (fun x => XL SK MT d 138 (130, lv, .ref x :: st, S) r) := X_ldA rfl rfl (fun _ => rfl) rfl rfl rfl rfl
theorem rX5_layMoved_130 {d : Nat} {lv : xLV} {st : List Value} {S : xS} {r : xO} : XL SK MT d 138 (130, lv, .ref 10 :: st, S) r ↔ XL SK MT d 138 (133, lv, .ref 9 :: st, S) r := X_heap rfl rfl rfl rfl rfl
theorem rX5_layMoved_133 {d : Nat} {lv : xLV} {st : List Value} {S : xS} {r : xO} : XL SK MT d 138 (133, lv, st, S) r ↔ XL SK MT d 138 (134, lv, .int 3 :: st, S) r := X_pure rfl rfl rfl
theorem rX5_layMoved_134 {d : Nat} {lv : xLV} {st : List Value} {S : xS} {r : xO} : XL SK MT d 138 (134, lv, st, S) r ↔ XL SK MT d 138 (136, lv, .int 18 :: st, S) r := X_pure rfl rfl rfl
theorem rX5_layMoved_136 {d : Nat} {lv : xLV} {S : xS} {r : xO} {x1 : Int32} {x2 : Int32} : XL SK MT d 138 (136, lv, [.int x2, .int x1, .ref 9], S) r ↔ xK (XC SK MT d 21 [.ref 9, .int x1, .int x2] S) (fun v S => XL SK MT d 138 (139, lv, v.toList ++ [], S) r) := X_inv (n := 3) (kd := 2) (st0 := [.int x2, .int x1, .ref 9]) rfl (Or.inr ⟨rfl, rfl⟩) rfl (Nat.le_of_ble_eq_true rfl) (Nat.le_of_ble_eq_true rfl) (by decide) rfl
theorem rX5_layMoved_139 {d : Nat} {lv : xLV} {st : List Value} {S : xS} {r : xO} : XL SK MT d 138 (139, lv, st, S) r ↔ xA (xlook lv 0) (fun x => XL SK MT d 138 (140, lv, .ref x :: st, S) r) := X_ldA rfl rfl (fun _ => rfl) rfl rfl rfl rfl
theorem rX5_layMoved_140 {d : Nat} {lv : xLV} {st : List Value} {S : xS} {r : xO} : XL SK MT d 138 (140, lv, .ref 10 :: st, S) r ↔ XL SK MT d 138 (143, lv, .ref 9 :: st, S) r := X_heap rfl rfl rfl rfl rfl
theorem rX5_layMoved_143 {d : Nat} {lv : xLV} {st : List Value} {S : xS} {r : xO} : XL SK MT d 138 (143, lv, st, S) r ↔ XL SK MT d 138 (145, lv, .int 33 :: st, S) r := X_pure rfl rfl rfl
theorem rX5_layMoved_145 {d : Nat} {lv : xLV} {st : List Value} {S : xS} {r : xO} : XL SK MT d 138 (145, lv, st, S) r ↔ XL SK MT d 138 (147, lv, .int 12 :: st, S) r := X_pure rfl rfl rfl
theorem rX5_layMoved_147 {d : Nat} {lv : xLV} {st : List Value} {S : xS} {r : xO} : XL SK MT d 138 (147, lv, st, S) r ↔ XL SK MT d 138 (149, lv, .int 18 :: st, S) r := X_pure rfl rfl rfl
theorem rX5_layMoved_149 {d : Nat} {lv : xLV} {st : List Value} {S : xS} {r : xO} : XL SK MT d 138 (149, lv, st, S) r ↔ XL SK MT d 138 (151, lv, .int 13 :: st, S) r := X_pure rfl rfl rfl
theorem rX5_layMoved_151 {d : Nat} {lv : xLV} {S : xS} {r : xO} {x1 : Int32} {x2 : Int32} {x3 : Int32} {x4 : Int32} : XL SK MT d 138 (151, lv, [.int x4, .int x3, .int x2, .int x1, .ref 9], S) r ↔ xK (XC SK MT d 15 [.ref 9, .int x1, .int x2, .int x3, .int x4] S) (fun v S => XL SK MT d 138 (154, lv, v.toList ++ [], S) r) := X_inv (n := 5) (kd := 2) (st0 := [.int x4, .int x3, .int x2, .int x1, .ref 9]) rfl (Or.inr ⟨rfl, rfl⟩) rfl (Nat.le_of_ble_eq_true rfl) (Nat.le_of_ble_eq_true rfl) (by decide) rfl
theorem rX5_layMoved_154 {d : Nat} {lv : xLV} {st : List Value} {S : xS} {r : xO} : XL SK MT d 138 (154, lv, st, S) r ↔ xA (xlook lv 0) (fun x => XL SK MT d 138 (155, lv, .ref x :: st, S) r) := X_ldA rfl rfl (fun _ => rfl) rfl rfl rfl rfl
theorem rX5_layMoved_155 {d : Nat} {lv : xLV} {st : List Value} {S : xS} {r : xO} : XL SK MT d 138 (155, lv, .ref 10 :: st, S) r ↔ XL SK MT d 138 (158, lv, .ref 9 :: st, S) r := X_heap rfl rfl rfl rfl rfl
theorem rX5_layMoved_158 {d : Nat} {lv : xLV} {st : List Value} {S : xS} {r : xO} : XL SK MT d 138 (158, lv, st, S) r ↔ XL SK MT d 138 (160, lv, .int 11 :: st, S) r := X_pure rfl rfl rfl
theorem rX5_layMoved_160 {d : Nat} {lv : xLV} {st : List Value} {S : xS} {r : xO} : XL SK MT d 138 (160, lv, st, S) r ↔ XL SK MT d 138 (162, lv, .int 6 :: st, S) r := X_pure rfl rfl rfl
theorem rX5_layMoved_162 {d : Nat} {lv : xLV} {S : xS} {r : xO} {x1 : Int32} {x2 : Int32} : XL SK MT d 138 (162, lv, [.int x2, .int x1, .ref 9], S) r ↔ xK (XC SK MT d 21 [.ref 9, .int x1, .int x2] S) (fun v S => XL SK MT d 138 (165, lv, v.toList ++ [], S) r) := X_inv (n := 3) (kd := 2) (st0 := [.int x2, .int x1, .ref 9]) rfl (Or.inr ⟨rfl, rfl⟩) rfl (Nat.le_of_ble_eq_true rfl) (Nat.le_of_ble_eq_true rfl) (by decide) rfl
theorem rX5_layMoved_165 {d : Nat} {lv : xLV} {st : List Value} {S : xS} {r : xO} : XL SK MT d 138 (165, lv, st, S) r ↔ xA (xlook lv 0) (fun x => XL SK MT d 138 (166, lv, .ref x :: st, S) r) := X_ldA rfl rfl (fun _ => rfl) rfl rfl rfl rfl
theorem rX5_layMoved_166 {d : Nat} {lv : xLV} {st : List Value} {S : xS} {r : xO} : XL SK MT d 138 (166, lv, .ref 10 :: st, S) r ↔ XL SK MT d 138 (169, lv, .ref 9 :: st, S) r := X_heap rfl rfl rfl rfl rfl
theorem rX5_layMoved_169 {d : Nat} {lv : xLV} {S : xS} {r : xO} : XL SK MT d 138 (169, lv, [.ref 9], S) r ↔ xK (XC SK MT d 2 [.ref 9] S) (fun v S => XL SK MT d 138 (172, lv, v.toList ++ [], S) r) := X_inv (n := 1) (kd := 2) (st0 := [.ref 9]) rfl (Or.inr ⟨rfl, rfl⟩) rfl (Nat.le_of_ble_eq_true rfl) (Nat.le_of_ble_eq_true rfl) (by decide) rfl
theorem rX5_layMoved_172 {d : Nat} {lv : xLV} {st : List Value} {S : xS} {r : xO} {x : Int32} : XL SK MT d 138 (172, lv, .int x :: st, S) r ↔ XL SK MT d 138 (173, xst1 lv 3 (.int x), st, S) r := X_pure rfl rfl rfl
theorem rX5_layMoved_173 {d : Nat} {lv : xLV} {st : List Value} {S : xS} {r : xO} : XL SK MT d 138 (173, lv, st, S) r ↔ xA (xlook lv 0) (fun x => XL SK MT d 138 (174, lv, .ref x :: st, S) r) := X_ldA rfl rfl (fun _ => rfl) rfl rfl rfl rfl
theorem rX5_layMoved_174 {d : Nat} {lv : xLV} {st : List Value} {S : xS} {r : xO} : XL SK MT d 138 (174, lv, .ref 10 :: st, S) r ↔ XL SK MT d 138 (177, lv, .ref 9 :: st, S) r := X_heap rfl rfl rfl rfl rfl
theorem rX5_layMoved_177 {d : Nat} {lv : xLV} {st : List Value} {S : xS} {r : xO} : XL SK MT d 138 (177, lv, st, S) r ↔ XL SK MT d 138 (179, lv, .int 8 :: st, S) r := X_pure rfl rfl rfl
theorem rX5_layMoved_179 {d : Nat} {lv : xLV} {st : List Value} {S : xS} {r : xO} : XL SK MT d 138 (179, lv, st, S) r ↔ XL SK MT d 138 (180, lv, .int 0 :: st, S) r := X_pure rfl rfl rfl
theorem rX5_layMoved_180 {d : Nat} {lv : xLV} {st : List Value} {S : xS} {r : xO} : XL SK MT d 138 (180, lv, st, S) r ↔ XL SK MT d 138 (182, lv, .int 11 :: st, S) r := X_pure rfl rfl rfl
theorem rX5_layMoved_182 {d : Nat} {lv : xLV} {S : xS} {r : xO} {x1 : Int32} {x2 : Int32} {x3 : Int32} : XL SK MT d 138 (182, lv, [.int x3, .int x2, .int x1, .ref 9], S) r ↔ xK (XC SK MT d 18 [.ref 9, .int x1, .int x2, .int x3] S) (fun v S => XL SK MT d 138 (185, lv, v.toList ++ [], S) r) := X_inv (n := 4) (kd := 2) (st0 := [.int x3, .int x2, .int x1, .ref 9]) rfl (Or.inr ⟨rfl, rfl⟩) rfl (Nat.le_of_ble_eq_true rfl) (Nat.le_of_ble_eq_true rfl) (by decide) rfl
theorem rX5_layMoved_185 {d : Nat} {lv : xLV} {st : List Value} {S : xS} {r : xO} : XL SK MT d 138 (185, lv, st, S) r ↔ xA (xlook lv 0) (fun x => XL SK MT d 138 (186, lv, .ref x :: st, S) r) := X_ldA rfl rfl (fun _ => rfl) rfl rfl rfl rfl
theorem rX5_layMoved_186 {d : Nat} {lv : xLV} {st : List Value} {S : xS} {r : xO} : XL SK MT d 138 (186, lv, .ref 10 :: st, S) r ↔ XL SK MT d 138 (189, lv, .ref 9 :: st, S) r := X_heap rfl rfl rfl rfl rfl
theorem rX5_layMoved_189 {d : Nat} {lv : xLV} {st : List Value} {S : xS} {r : xO} : XL SK MT d 138 (189, lv, st, S) r ↔ XL SK MT d 138 (191, lv, .int 11 :: st, S) r := X_pure rfl rfl rfl
theorem rX5_layMoved_191 {d : Nat} {lv : xLV} {st : List Value} {S : xS} {r : xO} : XL SK MT d 138 (191, lv, st, S) r ↔ XL SK MT d 138 (193, lv, .int 11 :: st, S) r := X_pure rfl rfl rfl
theorem rX5_layMoved_193 {d : Nat} {lv : xLV} {st : List Value} {S : xS} {r : xO} : XL SK MT d 138 (193, lv, st, S) r ↔ XL SK MT d 138 (194, lv, .int 4 :: st, S) r := X_pure rfl rfl rfl
theorem rX5_layMoved_194 {d : Nat} {lv : xLV} {S : xS} {r : xO} {x1 : Int32} {x2 : Int32} {x3 : Int32} : XL SK MT d 138 (194, lv, [.int x3, .int x2, .int x1, .ref 9], S) r ↔ xK (XC SK MT d 20 [.ref 9, .int x1, .int x2, .int x3] S) (fun v S => XL SK MT d 138 (197, lv, v.toList ++ [], S) r) := X_inv (n := 4) (kd := 2) (st0 := [.int x3, .int x2, .int x1, .ref 9]) rfl (Or.inr ⟨rfl, rfl⟩) rfl (Nat.le_of_ble_eq_true rfl) (Nat.le_of_ble_eq_true rfl) (by decide) rfl
theorem rX5_layMoved_197 {d : Nat} {lv : xLV} {st : List Value} {S : xS} {r : xO} : XL SK MT d 138 (197, lv, st, S) r ↔ xA (xlook lv 0) (fun x => XL SK MT d 138 (198, lv, .ref x :: st, S) r) := X_ldA rfl rfl (fun _ => rfl) rfl rfl rfl rfl
theorem rX5_layMoved_198 {d : Nat} {lv : xLV} {st : List Value} {S : xS} {r : xO} : XL SK MT d 138 (198, lv, .ref 10 :: st, S) r ↔ XL SK MT d 138 (201, lv, .ref 9 :: st, S) r := X_heap rfl rfl rfl rfl rfl
theorem rX5_layMoved_201 {d : Nat} {lv : xLV} {st : List Value} {S : xS} {r : xO} : XL SK MT d 138 (201, lv, st, S) r ↔ XL SK MT d 138 (203, lv, .int 8 :: st, S) r := X_pure rfl rfl rfl
theorem rX5_layMoved_203 {d : Nat} {lv : xLV} {st : List Value} {S : xS} {r : xO} : XL SK MT d 138 (203, lv, st, S) r ↔ XL SK MT d 138 (204, lv, .int 0 :: st, S) r := X_pure rfl rfl rfl
theorem rX5_layMoved_204 {d : Nat} {lv : xLV} {st : List Value} {S : xS} {r : xO} : XL SK MT d 138 (204, lv, st, S) r ↔ XL SK MT d 138 (206, lv, .int 18 :: st, S) r := X_pure rfl rfl rfl
theorem rX5_layMoved_206 {d : Nat} {lv : xLV} {S : xS} {r : xO} {x1 : Int32} {x2 : Int32} {x3 : Int32} : XL SK MT d 138 (206, lv, [.int x3, .int x2, .int x1, .ref 9], S) r ↔ xK (XC SK MT d 19 [.ref 9, .int x1, .int x2, .int x3] S) (fun v S => XL SK MT d 138 (209, lv, v.toList ++ [], S) r) := X_inv (n := 4) (kd := 2) (st0 := [.int x3, .int x2, .int x1, .ref 9]) rfl (Or.inr ⟨rfl, rfl⟩) rfl (Nat.le_of_ble_eq_true rfl) (Nat.le_of_ble_eq_true rfl) (by decide) rfl
theorem rX5_layMoved_209 {d : Nat} {lv : xLV} {st : List Value} {S : xS} {r : xO} : XL SK MT d 138 (209, lv, st, S) r ↔ xA (xlook lv 0) (fun x => XL SK MT d 138 (210, lv, .ref x :: st, S) r) := X_ldA rfl rfl (fun _ => rfl) rfl rfl rfl rfl
theorem rX5_layMoved_210 {d : Nat} {lv : xLV} {st : List Value} {S : xS} {r : xO} : XL SK MT d 138 (210, lv, .ref 10 :: st, S) r ↔ XL SK MT d 138 (213, lv, .ref 9 :: st, S) r := X_heap rfl rfl rfl rfl rfl
theorem rX5_layMoved_213 {d : Nat} {lv : xLV} {st : List Value} {S : xS} {r : xO} : XL SK MT d 138 (213, lv, st, S) r ↔ XL SK MT d 138 (215, lv, .int 18 :: st, S) r := X_pure rfl rfl rfl
theorem rX5_layMoved_215 {d : Nat} {lv : xLV} {st : List Value} {S : xS} {r : xO} : XL SK MT d 138 (215, lv, st, S) r ↔ XL SK MT d 138 (217, lv, .int 18 :: st, S) r := X_pure rfl rfl rfl
theorem rX5_layMoved_217 {d : Nat} {lv : xLV} {st : List Value} {S : xS} {r : xO} : XL SK MT d 138 (217, lv, st, S) r ↔ XL SK MT d 138 (218, lv, .int 4 :: st, S) r := X_pure rfl rfl rfl
theorem rX5_layMoved_218 {d : Nat} {lv : xLV} {S : xS} {r : xO} {x1 : Int32} {x2 : Int32} {x3 : Int32} : XL SK MT d 138 (218, lv, [.int x3, .int x2, .int x1, .ref 9], S) r ↔ xK (XC SK MT d 20 [.ref 9, .int x1, .int x2, .int x3] S) (fun v S => XL SK MT d 138 (221, lv, v.toList ++ [], S) r) := X_inv (n := 4) (kd := 2) (st0 := [.int x3, .int x2, .int x1, .ref 9]) rfl (Or.inr ⟨rfl, rfl⟩) rfl (Nat.le_of_ble_eq_true rfl) (Nat.le_of_ble_eq_true rfl) (by decide) rfl
theorem rX5_layMoved_221 {d : Nat} {lv : xLV} {st : List Value} {S : xS} {r : xO} : XL SK MT d 138 (221, lv, st, S) r ↔ xA (xlook lv 0) (fun x => XL SK MT d 138 (222, lv, .ref x :: st, S) r) := X_ldA rfl rfl (fun _ => rfl) rfl rfl rfl rfl
theorem rX5_layMoved_222 {d : Nat} {lv : xLV} {st : List Value} {S : xS} {r : xO} : XL SK MT d 138 (222, lv, .ref 10 :: st, S) r ↔ XL SK MT d 138 (225, lv, .ref 9 :: st, S) r := X_heap rfl rfl rfl rfl rfl
theorem rX5_layMoved_225 {d : Nat} {lv : xLV} {st : List Value} {S : xS} {r : xO} : XL SK MT d 138 (225, lv, st, S) r ↔ XL SK MT d 138 (226, lv, .int 5 :: st, S) r := X_pure rfl rfl rfl
theorem rX5_layMoved_226 {d : Nat} {lv : xLV} {st : List Value} {S : xS} {r : xO} : XL SK MT d 138 (226, lv, st, S) r ↔ XL SK MT d 138 (228, lv, .int 18 :: st, S) r := X_pure rfl rfl rfl
theorem rX5_layMoved_228 {d : Nat} {lv : xLV} {st : List Value} {S : xS} {r : xO} : XL SK MT d 138 (228, lv, st, S) r ↔ XL SK MT d 138 (230, lv, .int 12 :: st, S) r := X_pure rfl rfl rfl
theorem rX5_layMoved_230 {d : Nat} {lv : xLV} {st : List Value} {S : xS} {r : xO} : XL SK MT d 138 (230, lv, st, S) r ↔ xI (xlook lv 3) (fun x => XL SK MT d 138 (231, lv, .int x :: st, S) r) := X_ldI rfl rfl (fun _ => rfl) rfl rfl rfl rfl
theorem rX5_layMoved_231 {d : Nat} {lv : xLV} {S : xS} {r : xO} {x1 : Int32} {x2 : Int32} {x3 : Int32} {x4 : Int32} : XL SK MT d 138 (231, lv, [.int x4, .int x3, .int x2, .int x1, .ref 9], S) r ↔ xK (XC SK MT d 24 [.ref 9, .int x1, .int x2, .int x3, .int x4] S) (fun v S => XL SK MT d 138 (234, lv, v.toList ++ [], S) r) := X_inv (n := 5) (kd := 2) (st0 := [.int x4, .int x3, .int x2, .int x1, .ref 9]) rfl (Or.inr ⟨rfl, rfl⟩) rfl (Nat.le_of_ble_eq_true rfl) (Nat.le_of_ble_eq_true rfl) (by decide) rfl
theorem rX5_layMoved_234 {d : Nat} {lv : xLV} {st : List Value} {S : xS} {r : xO} : XL SK MT d 138 (234, lv, st, S) r ↔ xA (xlook lv 0) (fun x => XL SK MT d 138 (235, lv, .ref x :: st, S) r) := X_ldA rfl rfl (fun _ => rfl) rfl rfl rfl rfl
theorem rX5_layMoved_235 {d : Nat} {lv : xLV} {st : List Value} {S : xS} {r : xO} : XL SK MT d 138 (235, lv, .ref 10 :: st, S) r ↔ XL SK MT d 138 (238, lv, .ref 9 :: st, S) r := X_heap rfl rfl rfl rfl rfl
theorem rX5_layMoved_238 {d : Nat} {lv : xLV} {st : List Value} {S : xS} {r : xO} : XL SK MT d 138 (238, lv, st, S) r ↔ XL SK MT d 138 (239, lv, .int 3 :: st, S) r := X_pure rfl rfl rfl
theorem rX5_layMoved_239 {d : Nat} {lv : xLV} {st : List Value} {S : xS} {r : xO} : XL SK MT d 138 (239, lv, st, S) r ↔ XL SK MT d 138 (240, lv, .int 0 :: st, S) r := X_pure rfl rfl rfl
theorem rX5_layMoved_240 {d : Nat} {lv : xLV} {st : List Value} {S : xS} {r : xO} : XL SK MT d 138 (240, lv, st, S) r ↔ XL SK MT d 138 (242, lv, .int 6 :: st, S) r := X_pure rfl rfl rfl
theorem rX5_layMoved_242 {d : Nat} {lv : xLV} {S : xS} {r : xO} {x1 : Int32} {x2 : Int32} {x3 : Int32} : XL SK MT d 138 (242, lv, [.int x3, .int x2, .int x1, .ref 9], S) r ↔ xK (XC SK MT d 19 [.ref 9, .int x1, .int x2, .int x3] S) (fun v S => XL SK MT d 138 (245, lv, v.toList ++ [], S) r) := X_inv (n := 4) (kd := 2) (st0 := [.int x3, .int x2, .int x1, .ref 9]) rfl (Or.inr ⟨rfl, rfl⟩) rfl (Nat.le_of_ble_eq_true rfl) (Nat.le_of_ble_eq_true rfl) (by decide) rfl
theorem rX5_layMoved_245 {d : Nat} {lv : xLV} {st : List Value} {S : xS} {r : xO} : XL SK MT d 138 (245, lv, st, S) r ↔ xA (xlook lv 0) (fun x => XL SK MT d 138 (246, lv, .ref x :: st, S) r) := X_ldA rfl rfl (fun _ => rfl) rfl rfl rfl rfl
theorem rX5_layMoved_246 {d : Nat} {lv : xLV} {st : List Value} {S : xS} {r : xO} : XL SK MT d 138 (246, lv, .ref 10 :: st, S) r ↔ XL SK MT d 138 (249, lv, .ref 9 :: st, S) r := X_heap rfl rfl rfl rfl rfl
theorem rX5_layMoved_249 {d : Nat} {lv : xLV} {st : List Value} {S : xS} {r : xO} : XL SK MT d 138 (249, lv, st, S) r ↔ xI (xlook lv 1) (fun x => XL SK MT d 138 (250, lv, .int x :: st, S) r) := X_ldI rfl rfl (fun _ => rfl) rfl rfl rfl rfl
theorem rX5_layMoved_250 {d : Nat} {lv : xLV} {S : xS} {r : xO} {x1 : Int32} : XL SK MT d 138 (250, lv, [.int x1, .ref 9], S) r ↔ xK (XC SK MT d 3 [.ref 9, .int x1] S) (fun v S => XL SK MT d 138 (253, lv, v.toList ++ [], S) r) := X_inv (n := 2) (kd := 2) (st0 := [.int x1, .ref 9]) rfl (Or.inr ⟨rfl, rfl⟩) rfl (Nat.le_of_ble_eq_true rfl) (Nat.le_of_ble_eq_true rfl) (by decide) rfl
theorem rX5_layMoved_253 {d : Nat} {lv : xLV} {st : List Value} {S : xS} {r : xO} : XL SK MT d 138 (253, lv, st, S) r ↔ xA (xlook lv 0) (fun x => XL SK MT d 138 (254, lv, .ref x :: st, S) r) := X_ldA rfl rfl (fun _ => rfl) rfl rfl rfl rfl
theorem rX5_layMoved_254 {d : Nat} {lv : xLV} {st : List Value} {S : xS} {r : xO} : XL SK MT d 138 (254, lv, .ref 10 :: st, S) r ↔ XL SK MT d 138 (257, lv, .ref 9 :: st, S) r := X_heap rfl rfl rfl rfl rfl
theorem rX5_layMoved_257 {d : Nat} {lv : xLV} {st : List Value} {S : xS} {r : xO} : XL SK MT d 138 (257, lv, st, S) r ↔ XL SK MT d 138 (259, lv, .int 31 :: st, S) r := X_pure rfl rfl rfl
theorem rX5_layMoved_259 {d : Nat} {lv : xLV} {S : xS} {r : xO} {x1 : Int32} : XL SK MT d 138 (259, lv, [.int x1, .ref 9], S) r ↔ xK (XC SK MT d 29 [.ref 9, .int x1] S) (fun v S => XL SK MT d 138 (262, lv, v.toList ++ [], S) r) := X_inv (n := 2) (kd := 2) (st0 := [.int x1, .ref 9]) rfl (Or.inr ⟨rfl, rfl⟩) rfl (Nat.le_of_ble_eq_true rfl) (Nat.le_of_ble_eq_true rfl) (by decide) rfl
theorem rX5_layMoved_262 {d : Nat} {lv : xLV} {S : xS} {r : xO} : XL SK MT d 138 (262, lv, [], S) r ↔ (none, S) = r := X_ret rfl rfl rfl rfl rfl rfl

theorem rX5_layCollect_0 {d : Nat} {lv : xLV} {st : List Value} {S : xS} {r : xO} : XL SK MT d 139 (0, lv, st, S) r ↔ xA (xlook lv 0) (fun x => XL SK MT d 139 (1, lv, .ref x :: st, S) r) := X_ldA rfl rfl (fun _ => rfl) rfl rfl rfl rfl
theorem rX5_layCollect_1 {d : Nat} {lv : xLV} {st : List Value} {S : xS} {r : xO} : XL SK MT d 139 (1, lv, .ref 10 :: st, S) r ↔ XL SK MT d 139 (4, lv, .ref 9 :: st, S) r := X_heap rfl rfl rfl rfl rfl
theorem rX5_layCollect_4 {d : Nat} {lv : xLV} {S : xS} {r : xO} : XL SK MT d 139 (4, lv, [.ref 9], S) r ↔ xK (XC SK MT d 1 [.ref 9] S) (fun v S => XL SK MT d 139 (7, lv, v.toList ++ [], S) r) := X_inv (n := 1) (kd := 2) (st0 := [.ref 9]) rfl (Or.inr ⟨rfl, rfl⟩) rfl (Nat.le_of_ble_eq_true rfl) (Nat.le_of_ble_eq_true rfl) (by decide) rfl
theorem rX5_layCollect_7 {d : Nat} {lv : xLV} {st : List Value} {S : xS} {r : xO} {x : Int32} : XL SK MT d 139 (7, lv, .int x :: st, S) r ↔ XL SK MT d 139 (8, xst1 lv 1 (.int x), st, S) r := X_pure rfl rfl rfl
theorem rX5_layCollect_8 {d : Nat} {lv : xLV} {st : List Value} {S : xS} {r : xO} : XL SK MT d 139 (8, lv, st, S) r ↔ xA (xlook lv 0) (fun x => XL SK MT d 139 (9, lv, .ref x :: st, S) r) := X_ldA rfl rfl (fun _ => rfl) rfl rfl rfl rfl
theorem rX5_layCollect_9 {d : Nat} {lv : xLV} {st : List Value} {S : xS} {r : xO} : XL SK MT d 139 (9, lv, .ref 10 :: st, S) r ↔ XL SK MT d 139 (12, lv, .ref 9 :: st, S) r := X_heap rfl rfl rfl rfl rfl
theorem rX5_layCollect_12 {d : Nat} {lv : xLV} {S : xS} {r : xO} : XL SK MT d 139 (12, lv, [.ref 9], S) r ↔ xK (XC SK MT d 1 [.ref 9] S) (fun v S => XL SK MT d 139 (15, lv, v.toList ++ [], S) r) := X_inv (n := 1) (kd := 2) (st0 := [.ref 9]) rfl (Or.inr ⟨rfl, rfl⟩) rfl (Nat.le_of_ble_eq_true rfl) (Nat.le_of_ble_eq_true rfl) (by decide) rfl
theorem rX5_layCollect_15 {d : Nat} {lv : xLV} {st : List Value} {S : xS} {r : xO} {x : Int32} : XL SK MT d 139 (15, lv, .int x :: st, S) r ↔ XL SK MT d 139 (16, xst1 lv 2 (.int x), st, S) r := X_pure rfl rfl rfl
theorem rX5_layCollect_16 {d : Nat} {lv : xLV} {st : List Value} {S : xS} {r : xO} : XL SK MT d 139 (16, lv, st, S) r ↔ xA (xlook lv 0) (fun x => XL SK MT d 139 (17, lv, .ref x :: st, S) r) := X_ldA rfl rfl (fun _ => rfl) rfl rfl rfl rfl
theorem rX5_layCollect_17 {d : Nat} {lv : xLV} {st : List Value} {S : xS} {r : xO} : XL SK MT d 139 (17, lv, .ref 10 :: st, S) r ↔ XL SK MT d 139 (20, lv, .ref 9 :: st, S) r := X_heap rfl rfl rfl rfl rfl
theorem rX5_layCollect_20 {d : Nat} {lv : xLV} {S : xS} {r : xO} : XL SK MT d 139 (20, lv, [.ref 9], S) r ↔ xK (XC SK MT d 1 [.ref 9] S) (fun v S => XL SK MT d 139 (23, lv, v.toList ++ [], S) r) := X_inv (n := 1) (kd := 2) (st0 := [.ref 9]) rfl (Or.inr ⟨rfl, rfl⟩) rfl (Nat.le_of_ble_eq_true rfl) (Nat.le_of_ble_eq_true rfl) (by decide) rfl
theorem rX5_layCollect_23 {d : Nat} {lv : xLV} {st : List Value} {S : xS} {r : xO} {x : Int32} : XL SK MT d 139 (23, lv, .int x :: st, S) r ↔ XL SK MT d 139 (24, xst1 lv 3 (.int x), st, S) r := X_pure rfl rfl rfl
theorem rX5_layCollect_24 {d : Nat} {lv : xLV} {st : List Value} {S : xS} {r : xO} : XL SK MT d 139 (24, lv, st, S) r ↔ xA (xlook lv 0) (fun x => XL SK MT d 139 (25, lv, .ref x :: st, S) r) := X_ldA rfl rfl (fun _ => rfl) rfl rfl rfl rfl
theorem rX5_layCollect_25 {d : Nat} {lv : xLV} {st : List Value} {S : xS} {r : xO} : XL SK MT d 139 (25, lv, .ref 10 :: st, S) r ↔ XL SK MT d 139 (28, lv, .ref 9 :: st, S) r := X_heap rfl rfl rfl rfl rfl
theorem rX5_layCollect_28 {d : Nat} {lv : xLV} {st : List Value} {S : xS} {r : xO} : XL SK MT d 139 (28, lv, st, S) r ↔ XL SK MT d 139 (30, lv, .int 65539 :: st, S) r := X_pure rfl rfl rfl
theorem rX5_layCollect_30 {d : Nat} {lv : xLV} {S : xS} {r : xO} {x1 : Int32} : XL SK MT d 139 (30, lv, [.int x1, .ref 9], S) r ↔ xK (XC SK MT d 3 [.ref 9, .int x1] S) (fun v S => XL SK MT d 139 (33, lv, v.toList ++ [], S) r) := X_inv (n := 2) (kd := 2) (st0 := [.int x1, .ref 9]) rfl (Or.inr ⟨rfl, rfl⟩) rfl (Nat.le_of_ble_eq_true rfl) (Nat.le_of_ble_eq_true rfl) (by decide) rfl
theorem rX5_layCollect_33 {d : Nat} {lv : xLV} {st : List Value} {S : xS} {r : xO} : XL SK MT d 139 (33, lv, st, S) r ↔ xA (xlook lv 0) (fun x => XL SK MT d 139 (34, lv, .ref x :: st, S) r) := X_ldA rfl rfl (fun _ => rfl) rfl rfl rfl rfl
theorem rX5_layCollect_34 {d : Nat} {lv : xLV} {st : List Value} {S : xS} {r : xO} : XL SK MT d 139 (34, lv, .ref 10 :: st, S) r ↔ XL SK MT d 139 (37, lv, .ref 9 :: st, S) r := X_heap rfl rfl rfl rfl rfl
theorem rX5_layCollect_37 {d : Nat} {lv : xLV} {st : List Value} {S : xS} {r : xO} : XL SK MT d 139 (37, lv, st, S) r ↔ XL SK MT d 139 (39, lv, .int 26 :: st, S) r := X_pure rfl rfl rfl
theorem rX5_layCollect_39 {d : Nat} {lv : xLV} {st : List Value} {S : xS} {r : xO} : XL SK MT d 139 (39, lv, st, S) r ↔ XL SK MT d 139 (41, lv, .int 31 :: st, S) r := X_pure rfl rfl rfl
theorem rX5_layCollect_41 {d : Nat} {lv : xLV} {S : xS} {r : xO} {x1 : Int32} {x2 : Int32} : XL SK MT d 139 (41, lv, [.int x2, .int x1, .ref 9], S) r ↔ xK (XC SK MT d 21 [.ref 9, .int x1, .int x2] S) (fun v S => XL SK MT d 139 (44, lv, v.toList ++ [], S) r) := X_inv (n := 3) (kd := 2) (st0 := [.int x2, .int x1, .ref 9]) rfl (Or.inr ⟨rfl, rfl⟩) rfl (Nat.le_of_ble_eq_true rfl) (Nat.le_of_ble_eq_true rfl) (by decide) rfl
theorem rX5_layCollect_44 {d : Nat} {lv : xLV} {st : List Value} {S : xS} {r : xO} : XL SK MT d 139 (44, lv, st, S) r ↔ xA (xlook lv 0) (fun x => XL SK MT d 139 (45, lv, .ref x :: st, S) r) := X_ldA rfl rfl (fun _ => rfl) rfl rfl rfl rfl
theorem rX5_layCollect_45 {d : Nat} {lv : xLV} {st : List Value} {S : xS} {r : xO} : XL SK MT d 139 (45, lv, .ref 10 :: st, S) r ↔ XL SK MT d 139 (48, lv, .ref 9 :: st, S) r := X_heap rfl rfl rfl rfl rfl
theorem rX5_layCollect_48 {d : Nat} {lv : xLV} {st : List Value} {S : xS} {r : xO} : XL SK MT d 139 (48, lv, st, S) r ↔ XL SK MT d 139 (50, lv, .int 8 :: st, S) r := X_pure rfl rfl rfl
theorem rX5_layCollect_50 {d : Nat} {lv : xLV} {st : List Value} {S : xS} {r : xO} : XL SK MT d 139 (50, lv, st, S) r ↔ XL SK MT d 139 (53, lv, .int 1088 :: st, S) r := X_pure rfl rfl rfl
theorem rX5_layCollect_53 {d : Nat} {lv : xLV} {st : List Value} {S : xS} {r : xO} : XL SK MT d 139 (53, lv, st, S) r ↔ XL SK MT d 139 (54, lv, .int 0 :: st, S) r := X_pure rfl rfl rfl
theorem rX5_layCollect_54 {d : Nat} {lv : xLV} {S : xS} {r : xO} {x1 : Int32} {x2 : Int32} {x3 : Int32} : XL SK MT d 139 (54, lv, [.int x3, .int x2, .int x1, .ref 9], S) r ↔ xK (XC SK MT d 18 [.ref 9, .int x1, .int x2, .int x3] S) (fun v S => XL SK MT d 139 (57, lv, v.toList ++ [], S) r) := X_inv (n := 4) (kd := 2) (st0 := [.int x3, .int x2, .int x1, .ref 9]) rfl (Or.inr ⟨rfl, rfl⟩) rfl (Nat.le_of_ble_eq_true rfl) (Nat.le_of_ble_eq_true rfl) (by decide) rfl
theorem rX5_layCollect_57 {d : Nat} {lv : xLV} {st : List Value} {S : xS} {r : xO} : XL SK MT d 139 (57, lv, st, S) r ↔ xA (xlook lv 0) (fun x => XL SK MT d 139 (58, lv, .ref x :: st, S) r) := X_ldA rfl rfl (fun _ => rfl) rfl rfl rfl rfl
theorem rX5_layCollect_58 {d : Nat} {lv : xLV} {st : List Value} {S : xS} {r : xO} : XL SK MT d 139 (58, lv, .ref 10 :: st, S) r ↔ XL SK MT d 139 (61, lv, .ref 9 :: st, S) r := X_heap rfl rfl rfl rfl rfl
theorem rX5_layCollect_61 {d : Nat} {lv : xLV} {st : List Value} {S : xS} {r : xO} : XL SK MT d 139 (61, lv, st, S) r ↔ XL SK MT d 139 (63, lv, .int 9 :: st, S) r := X_pure rfl rfl rfl
theorem rX5_layCollect_63 {d : Nat} {lv : xLV} {st : List Value} {S : xS} {r : xO} : XL SK MT d 139 (63, lv, st, S) r ↔ XL SK MT d 139 (66, lv, .int 1092 :: st, S) r := X_pure rfl rfl rfl
theorem rX5_layCollect_66 {d : Nat} {lv : xLV} {st : List Value} {S : xS} {r : xO} : XL SK MT d 139 (66, lv, st, S) r ↔ XL SK MT d 139 (67, lv, .int 0 :: st, S) r := X_pure rfl rfl rfl
theorem rX5_layCollect_67 {d : Nat} {lv : xLV} {S : xS} {r : xO} {x1 : Int32} {x2 : Int32} {x3 : Int32} : XL SK MT d 139 (67, lv, [.int x3, .int x2, .int x1, .ref 9], S) r ↔ xK (XC SK MT d 18 [.ref 9, .int x1, .int x2, .int x3] S) (fun v S => XL SK MT d 139 (70, lv, v.toList ++ [], S) r) := X_inv (n := 4) (kd := 2) (st0 := [.int x3, .int x2, .int x1, .ref 9]) rfl (Or.inr ⟨rfl, rfl⟩) rfl (Nat.le_of_ble_eq_true rfl) (Nat.le_of_ble_eq_true rfl) (by decide) rfl
theorem rX5_layCollect_70 {d : Nat} {lv : xLV} {st : List Value} {S : xS} {r : xO} : XL SK MT d 139 (70, lv, st, S) r ↔ xA (xlook lv 0) (fun x => XL SK MT d 139 (71, lv, .ref x :: st, S) r) := X_ldA rfl rfl (fun _ => rfl) rfl rfl rfl rfl
theorem rX5_layCollect_71 {d : Nat} {lv : xLV} {st : List Value} {S : xS} {r : xO} : XL SK MT d 139 (71, lv, .ref 10 :: st, S) r ↔ XL SK MT d 139 (74, lv, .ref 9 :: st, S) r := X_heap rfl rfl rfl rfl rfl
theorem rX5_layCollect_74 {d : Nat} {lv : xLV} {st : List Value} {S : xS} {r : xO} : XL SK MT d 139 (74, lv, st, S) r ↔ XL SK MT d 139 (76, lv, .int 10 :: st, S) r := X_pure rfl rfl rfl
theorem rX5_layCollect_76 {d : Nat} {lv : xLV} {st : List Value} {S : xS} {r : xO} : XL SK MT d 139 (76, lv, st, S) r ↔ XL SK MT d 139 (79, lv, .int 1096 :: st, S) r := X_pure rfl rfl rfl
theorem rX5_layCollect_79 {d : Nat} {lv : xLV} {st : List Value} {S : xS} {r : xO} : XL SK MT d 139 (79, lv, st, S) r ↔ XL SK MT d 139 (80, lv, .int 0 :: st, S) r := X_pure rfl rfl rfl
theorem rX5_layCollect_80 {d : Nat} {lv : xLV} {S : xS} {r : xO} {x1 : Int32} {x2 : Int32} {x3 : Int32} : XL SK MT d 139 (80, lv, [.int x3, .int x2, .int x1, .ref 9], S) r ↔ xK (XC SK MT d 18 [.ref 9, .int x1, .int x2, .int x3] S) (fun v S => XL SK MT d 139 (83, lv, v.toList ++ [], S) r) := X_inv (n := 4) (kd := 2) (st0 := [.int x3, .int x2, .int x1, .ref 9]) rfl (Or.inr ⟨rfl, rfl⟩) rfl (Nat.le_of_ble_eq_true rfl) (Nat.le_of_ble_eq_true rfl) (by decide) rfl
theorem rX5_layCollect_83 {d : Nat} {lv : xLV} {st : List Value} {S : xS} {r : xO} : XL SK MT d 139 (83, lv, st, S) r ↔ xA (xlook lv 0) (fun x => XL SK MT d 139 (84, lv, .ref x :: st, S) r) := X_ldA rfl rfl (fun _ => rfl) rfl rfl rfl rfl
theorem rX5_layCollect_84 {d : Nat} {lv : xLV} {st : List Value} {S : xS} {r : xO} : XL SK MT d 139 (84, lv, .ref 10 :: st, S) r ↔ XL SK MT d 139 (87, lv, .ref 9 :: st, S) r := X_heap rfl rfl rfl rfl rfl
theorem rX5_layCollect_87 {d : Nat} {lv : xLV} {st : List Value} {S : xS} {r : xO} : XL SK MT d 139 (87, lv, st, S) r ↔ XL SK MT d 139 (89, lv, .int 9 :: st, S) r := X_pure rfl rfl rfl
theorem rX5_layCollect_89 {d : Nat} {lv : xLV} {st : List Value} {S : xS} {r : xO} : XL SK MT d 139 (89, lv, st, S) r ↔ XL SK MT d 139 (92, lv, .int 1088 :: st, S) r := X_pure rfl rfl rfl
theorem rX5_layCollect_92 {d : Nat} {lv : xLV} {st : List Value} {S : xS} {r : xO} : XL SK MT d 139 (92, lv, st, S) r ↔ XL SK MT d 139 (93, lv, .int 0 :: st, S) r := X_pure rfl rfl rfl
theorem rX5_layCollect_93 {d : Nat} {lv : xLV} {S : xS} {r : xO} {x1 : Int32} {x2 : Int32} {x3 : Int32} : XL SK MT d 139 (93, lv, [.int x3, .int x2, .int x1, .ref 9], S) r ↔ xK (XC SK MT d 19 [.ref 9, .int x1, .int x2, .int x3] S) (fun v S => XL SK MT d 139 (96, lv, v.toList ++ [], S) r) := X_inv (n := 4) (kd := 2) (st0 := [.int x3, .int x2, .int x1, .ref 9]) rfl (Or.inr ⟨rfl, rfl⟩) rfl (Nat.le_of_ble_eq_true rfl) (Nat.le_of_ble_eq_true rfl) (by decide) rfl
theorem rX5_layCollect_96 {d : Nat} {lv : xLV} {st : List Value} {S : xS} {r : xO} : XL SK MT d 139 (96, lv, st, S) r ↔ xA (xlook lv 0) (fun x => XL SK MT d 139 (97, lv, .ref x :: st, S) r) := X_ldA rfl rfl (fun _ => rfl) rfl rfl rfl rfl
theorem rX5_layCollect_97 {d : Nat} {lv : xLV} {st : List Value} {S : xS} {r : xO} : XL SK MT d 139 (97, lv, .ref 10 :: st, S) r ↔ XL SK MT d 139 (100, lv, .ref 9 :: st, S) r := X_heap rfl rfl rfl rfl rfl
theorem rX5_layCollect_100 {d : Nat} {lv : xLV} {st : List Value} {S : xS} {r : xO} : XL SK MT d 139 (100, lv, st, S) r ↔ XL SK MT d 139 (102, lv, .int 8 :: st, S) r := X_pure rfl rfl rfl
theorem rX5_layCollect_102 {d : Nat} {lv : xLV} {st : List Value} {S : xS} {r : xO} : XL SK MT d 139 (102, lv, st, S) r ↔ XL SK MT d 139 (105, lv, .int 1092 :: st, S) r := X_pure rfl rfl rfl
theorem rX5_layCollect_105 {d : Nat} {lv : xLV} {st : List Value} {S : xS} {r : xO} : XL SK MT d 139 (105, lv, st, S) r ↔ XL SK MT d 139 (106, lv, .int 0 :: st, S) r := X_pure rfl rfl rfl
theorem rX5_layCollect_106 {d : Nat} {lv : xLV} {S : xS} {r : xO} {x1 : Int32} {x2 : Int32} {x3 : Int32} : XL SK MT d 139 (106, lv, [.int x3, .int x2, .int x1, .ref 9], S) r ↔ xK (XC SK MT d 19 [.ref 9, .int x1, .int x2, .int x3] S) (fun v S => XL SK MT d 139 (109, lv, v.toList ++ [], S) r) := X_inv (n := 4) (kd := 2) (st0 := [.int x3, .int x2, .int x1, .ref 9]) rfl (Or.inr ⟨rfl, rfl⟩) rfl (Nat.le_of_ble_eq_true rfl) (Nat.le_of_ble_eq_true rfl) (by decide) rfl
theorem rX5_layCollect_109 {d : Nat} {lv : xLV} {st : List Value} {S : xS} {r : xO} : XL SK MT d 139 (109, lv, st, S) r ↔ xA (xlook lv 0) (fun x => XL SK MT d 139 (110, lv, .ref x :: st, S) r) := X_ldA rfl rfl (fun _ => rfl) rfl rfl rfl rfl
theorem rX5_layCollect_110 {d : Nat} {lv : xLV} {st : List Value} {S : xS} {r : xO} : XL SK MT d 139 (110, lv, .ref 10 :: st, S) r ↔ XL SK MT d 139 (113, lv, .ref 9 :: st, S) r := X_heap rfl rfl rfl rfl rfl
theorem rX5_layCollect_113 {d : Nat} {lv : xLV} {st : List Value} {S : xS} {r : xO} : XL SK MT d 139 (113, lv, st, S) r ↔ XL SK MT d 139 (115, lv, .int 18 :: st, S) r := X_pure rfl rfl rfl
theorem rX5_layCollect_115 {d : Nat} {lv : xLV} {st : List Value} {S : xS} {r : xO} : XL SK MT d 139 (115, lv, st, S) r ↔ XL SK MT d 139 (117, lv, .int 9 :: st, S) r := X_pure rfl rfl rfl
theorem rX5_layCollect_117 {d : Nat} {lv : xLV} {S : xS} {r : xO} {x1 : Int32} {x2 : Int32} : XL SK MT d 139 (117, lv, [.int x2, .int x1, .ref 9], S) r ↔ xK (XC SK MT d 21 [.ref 9, .int x1, .int x2] S) (fun v S => XL SK MT d 139 (120, lv, v.toList ++ [], S) r) := X_inv (n := 3) (kd := 2) (st0 := [.int x2, .int x1, .ref 9]) rfl (Or.inr ⟨rfl, rfl⟩) rfl (Nat.le_of_ble_eq_true rfl) (Nat.le_of_ble_eq_true rfl) (by decide) rfl
theorem rX5_layCollect_120 {d : Nat} {lv : xLV} {st : List Value} {S : xS} {r : xO} : XL SK MT d 139 (120, lv, st, S) r ↔ xA (xlook lv 0) (fun x => XL SK MT d 139 (121, lv, .ref x :: st, S) r) := X_ldA rfl rfl (fun _ => rfl) rfl rfl rfl rfl
theorem rX5_layCollect_121 {d : Nat} {lv : xLV} {st : List Value} {S : xS} {r : xO} : XL SK MT d 139 (121, lv, .ref 10 :: st, S) r ↔ XL SK MT d 139 (124, lv, .ref 9 :: st, S) r := X_heap rfl rfl rfl rfl rfl
theorem rX5_layCollect_124 {d : Nat} {lv : xLV} {st : List Value} {S : xS} {r : xO} : XL SK MT d 139 (124, lv, st, S) r ↔ XL SK MT d 139 (126, lv, .int 33 :: st, S) r := X_pure rfl rfl rfl
theorem rX5_layCollect_126 {d : Nat} {lv : xLV} {st : List Value} {S : xS} {r : xO} : XL SK MT d 139 (126, lv, st, S) r ↔ XL SK MT d 139 (128, lv, .int 19 :: st, S) r := X_pure rfl rfl rfl
theorem rX5_layCollect_128 {d : Nat} {lv : xLV} {st : List Value} {S : xS} {r : xO} : XL SK MT d 139 (128, lv, st, S) r ↔ XL SK MT d 139 (130, lv, .int 9 :: st, S) r := X_pure rfl rfl rfl
theorem rX5_layCollect_130 {d : Nat} {lv : xLV} {st : List Value} {S : xS} {r : xO} : XL SK MT d 139 (130, lv, st, S) r ↔ XL SK MT d 139 (132, lv, .int 10 :: st, S) r := X_pure rfl rfl rfl
theorem rX5_layCollect_132 {d : Nat} {lv : xLV} {S : xS} {r : xO} {x1 : Int32} {x2 : Int32} {x3 : Int32} {x4 : Int32} : XL SK MT d 139 (132, lv, [.int x4, .int x3, .int x2, .int x1, .ref 9], S) r ↔ xK (XC SK MT d 15 [.ref 9, .int x1, .int x2, .int x3, .int x4] S) (fun v S => XL SK MT d 139 (135, lv, v.toList ++ [], S) r) := X_inv (n := 5) (kd := 2) (st0 := [.int x4, .int x3, .int x2, .int x1, .ref 9]) rfl (Or.inr ⟨rfl, rfl⟩) rfl (Nat.le_of_ble_eq_true rfl) (Nat.le_of_ble_eq_true rfl) (by decide) rfl
theorem rX5_layCollect_135 {d : Nat} {lv : xLV} {st : List Value} {S : xS} {r : xO} : XL SK MT d 139 (135, lv, st, S) r ↔ xA (xlook lv 0) (fun x => XL SK MT d 139 (136, lv, .ref x :: st, S) r) := X_ldA rfl rfl (fun _ => rfl) rfl rfl rfl rfl
theorem rX5_layCollect_136 {d : Nat} {lv : xLV} {st : List Value} {S : xS} {r : xO} : XL SK MT d 139 (136, lv, .ref 10 :: st, S) r ↔ XL SK MT d 139 (139, lv, .ref 9 :: st, S) r := X_heap rfl rfl rfl rfl rfl
theorem rX5_layCollect_139 {d : Nat} {lv : xLV} {st : List Value} {S : xS} {r : xO} : XL SK MT d 139 (139, lv, st, S) r ↔ XL SK MT d 139 (141, lv, .int 24 :: st, S) r := X_pure rfl rfl rfl
theorem rX5_layCollect_141 {d : Nat} {lv : xLV} {st : List Value} {S : xS} {r : xO} : XL SK MT d 139 (141, lv, st, S) r ↔ XL SK MT d 139 (143, lv, .int 9 :: st, S) r := X_pure rfl rfl rfl
theorem rX5_layCollect_143 {d : Nat} {lv : xLV} {S : xS} {r : xO} {x1 : Int32} {x2 : Int32} : XL SK MT d 139 (143, lv, [.int x2, .int x1, .ref 9], S) r ↔ xK (XC SK MT d 21 [.ref 9, .int x1, .int x2] S) (fun v S => XL SK MT d 139 (146, lv, v.toList ++ [], S) r) := X_inv (n := 3) (kd := 2) (st0 := [.int x2, .int x1, .ref 9]) rfl (Or.inr ⟨rfl, rfl⟩) rfl (Nat.le_of_ble_eq_true rfl) (Nat.le_of_ble_eq_true rfl) (by decide) rfl
theorem rX5_layCollect_146 {d : Nat} {lv : xLV} {st : List Value} {S : xS} {r : xO} : XL SK MT d 139 (146, lv, st, S) r ↔ xA (xlook lv 0) (fun x => XL SK MT d 139 (147, lv, .ref x :: st, S) r) := X_ldA rfl rfl (fun _ => rfl) rfl rfl rfl rfl
theorem rX5_layCollect_147 {d : Nat} {lv : xLV} {st : List Value} {S : xS} {r : xO} : XL SK MT d 139 (147, lv, .ref 10 :: st, S) r ↔ XL SK MT d 139 (150, lv, .ref 9 :: st, S) r := X_heap rfl rfl rfl rfl rfl
theorem rX5_layCollect_150 {d : Nat} {lv : xLV} {st : List Value} {S : xS} {r : xO} : XL SK MT d 139 (150, lv, st, S) r ↔ XL SK MT d 139 (152, lv, .int 15 :: st, S) r := X_pure rfl rfl rfl
theorem rX5_layCollect_152 {d : Nat} {lv : xLV} {st : List Value} {S : xS} {r : xO} : XL SK MT d 139 (152, lv, st, S) r ↔ XL SK MT d 139 (155, lv, .int 22528 :: st, S) r := X_pure rfl rfl rfl
theorem rX5_layCollect_155 {d : Nat} {lv : xLV} {S : xS} {r : xO} {x1 : Int32} {x2 : Int32} : XL SK MT d 139 (155, lv, [.int x2, .int x1, .ref 9], S) r ↔ xK (XC SK MT d 22 [.ref 9, .int x1, .int x2] S) (fun v S => XL SK MT d 139 (158, lv, v.toList ++ [], S) r) := X_inv (n := 3) (kd := 2) (st0 := [.int x2, .int x1, .ref 9]) rfl (Or.inr ⟨rfl, rfl⟩) rfl (Nat.le_of_ble_eq_true rfl) (Nat.le_of_ble_eq_true rfl) (by decide) rfl
theorem rX5_layCollect_158 {d : Nat} {lv : xLV} {st : List Value} {S : xS} {r : xO} : XL SK MT d 139 (158, lv, st, S) r ↔ xA (xlook lv 0) (fun x => XL SK MT d 139 (159, lv, .ref x :: st, S) r) := X_ldA rfl rfl (fun _ => rfl) rfl rfl rfl rfl
theorem rX5_layCollect_159 {d : Nat} {lv : xLV} {st : List Value} {S : xS} {r : xO} : XL SK MT d 139 (159, lv, .ref 10 :: st, S) r ↔ XL SK MT d 139 (162, lv, .ref 9 :: st, S) r := X_heap rfl rfl rfl rfl rfl
theorem rX5_layCollect_162 {d : Nat} {lv : xLV} {S : xS} {r : xO} : XL SK MT d 139 (162, lv, [.ref 9], S) r ↔ xK (XC SK MT d 2 [.ref 9] S) (fun v S => XL SK MT d 139 (165, lv, v.toList ++ [], S) r) := X_inv (n := 1) (kd := 2) (st0 := [.ref 9]) rfl (Or.inr ⟨rfl, rfl⟩) rfl (Nat.le_of_ble_eq_true rfl) (Nat.le_of_ble_eq_true rfl) (by decide) rfl
theorem rX5_layCollect_165 {d : Nat} {lv : xLV} {st : List Value} {S : xS} {r : xO} {x : Int32} : XL SK MT d 139 (165, lv, .int x :: st, S) r ↔ XL SK MT d 139 (167, xst1 lv 4 (.int x), st, S) r := X_pure rfl rfl rfl
theorem rX5_layCollect_167 {d : Nat} {lv : xLV} {st : List Value} {S : xS} {r : xO} : XL SK MT d 139 (167, lv, st, S) r ↔ xA (xlook lv 0) (fun x => XL SK MT d 139 (168, lv, .ref x :: st, S) r) := X_ldA rfl rfl (fun _ => rfl) rfl rfl rfl rfl
theorem rX5_layCollect_168 {d : Nat} {lv : xLV} {st : List Value} {S : xS} {r : xO} : XL SK MT d 139 (168, lv, .ref 10 :: st, S) r ↔ XL SK MT d 139 (171, lv, .ref 9 :: st, S) r := X_heap rfl rfl rfl rfl rfl
theorem rX5_layCollect_171 {d : Nat} {lv : xLV} {st : List Value} {S : xS} {r : xO} : XL SK MT d 139 (171, lv, st, S) r ↔ XL SK MT d 139 (172, lv, .int 4 :: st, S) r := X_pure rfl rfl rfl
theorem rX5_layCollect_172 {d : Nat} {lv : xLV} {st : List Value} {S : xS} {r : xO} : XL SK MT d 139 (172, lv, st, S) r ↔ XL SK MT d 139 (174, lv, .int 15 :: st, S) r := X_pure rfl rfl rfl
theorem rX5_layCollect_174 {d : Nat} {lv : xLV} {st : List Value} {S : xS} {r : xO} : XL SK MT d 139 (174, lv, st, S) r ↔ XL SK MT d 139 (176, lv, .int 16 :: st, S) r := X_pure rfl rfl rfl
theorem rX5_layCollect_176 {d : Nat} {lv : xLV} {st : List Value} {S : xS} {r : xO} : XL SK MT d 139 (176, lv, st, S) r ↔ xI (xlook lv 1) (fun x => XL SK MT d 139 (177, lv, .int x :: st, S) r) := X_ldI rfl rfl (fun _ => rfl) rfl rfl rfl rfl
theorem rX5_layCollect_177 {d : Nat} {lv : xLV} {S : xS} {r : xO} {x1 : Int32} {x2 : Int32} {x3 : Int32} {x4 : Int32} : XL SK MT d 139 (177, lv, [.int x4, .int x3, .int x2, .int x1, .ref 9], S) r ↔ xK (XC SK MT d 24 [.ref 9, .int x1, .int x2, .int x3, .int x4] S) (fun v S => XL SK MT d 139 (180, lv, v.toList ++ [], S) r) := X_inv (n := 5) (kd := 2) (st0 := [.int x4, .int x3, .int x2, .int x1, .ref 9]) rfl (Or.inr ⟨rfl, rfl⟩) rfl (Nat.le_of_ble_eq_true rfl) (Nat.le_of_ble_eq_true rfl) (by decide) rfl
theorem rX5_layCollect_180 {d : Nat} {lv : xLV} {st : List Value} {S : xS} {r : xO} : XL SK MT d 139 (180, lv, st, S) r ↔ xA (xlook lv 0) (fun x => XL SK MT d 139 (181, lv, .ref x :: st, S) r) := X_ldA rfl rfl (fun _ => rfl) rfl rfl rfl rfl
theorem rX5_layCollect_181 {d : Nat} {lv : xLV} {st : List Value} {S : xS} {r : xO} : XL SK MT d 139 (181, lv, .ref 10 :: st, S) r ↔ XL SK MT d 139 (184, lv, .ref 9 :: st, S) r := X_heap rfl rfl rfl rfl rfl
theorem rX5_layCollect_184 {d : Nat} {lv : xLV} {st : List Value} {S : xS} {r : xO} : XL SK MT d 139 (184, lv, st, S) r ↔ XL SK MT d 139 (186, lv, .int 6 :: st, S) r := X_pure rfl rfl rfl
theorem rX5_layCollect_186 {d : Nat} {lv : xLV} {st : List Value} {S : xS} {r : xO} : XL SK MT d 139 (186, lv, st, S) r ↔ XL SK MT d 139 (187, lv, .int 0 :: st, S) r := X_pure rfl rfl rfl
theorem rX5_layCollect_187 {d : Nat} {lv : xLV} {st : List Value} {S : xS} {r : xO} : XL SK MT d 139 (187, lv, st, S) r ↔ XL SK MT d 139 (189, lv, .int 15 :: st, S) r := X_pure rfl rfl rfl
theorem rX5_layCollect_189 {d : Nat} {lv : xLV} {S : xS} {r : xO} {x1 : Int32} {x2 : Int32} {x3 : Int32} : XL SK MT d 139 (189, lv, [.int x3, .int x2, .int x1, .ref 9], S) r ↔ xK (XC SK MT d 18 [.ref 9, .int x1, .int x2, .int x3] S) (fun v S => XL SK MT d 139 (192, lv, v.toList ++ [], S) r) := X_inv (n := 4) (kd := 2) (st0 := [.int x3, .int x2, .int x1, .ref 9]) rfl (Or.inr ⟨rfl, rfl⟩) rfl (Nat.le_of_ble_eq_true rfl) (Nat.le_of_ble_eq_true rfl) (by decide) rfl
theorem rX5_layCollect_192 {d : Nat} {lv : xLV} {st : List Value} {S : xS} {r : xO} : XL SK MT d 139 (192, lv, st, S) r ↔ xA (xlook lv 0) (fun x => XL SK MT d 139 (193, lv, .ref x :: st, S) r) := X_ldA rfl rfl (fun _ => rfl) rfl rfl rfl rfl
theorem rX5_layCollect_193 {d : Nat} {lv : xLV} {st : List Value} {S : xS} {r : xO} : XL SK MT d 139 (193, lv, .ref 10 :: st, S) r ↔ XL SK MT d 139 (196, lv, .ref 9 :: st, S) r := X_heap rfl rfl rfl rfl rfl
theorem rX5_layCollect_196 {d : Nat} {lv : xLV} {st : List Value} {S : xS} {r : xO} : XL SK MT d 139 (196, lv, st, S) r ↔ XL SK MT d 139 (198, lv, .int 65538 :: st, S) r := X_pure rfl rfl rfl
theorem rX5_layCollect_198 {d : Nat} {lv : xLV} {S : xS} {r : xO} {x1 : Int32} : XL SK MT d 139 (198, lv, [.int x1, .ref 9], S) r ↔ xK (XC SK MT d 28 [.ref 9, .int x1] S) (fun v S => XL SK MT d 139 (201, lv, v.toList ++ [], S) r) := X_inv (n := 2) (kd := 2) (st0 := [.int x1, .ref 9]) rfl (Or.inr ⟨rfl, rfl⟩) rfl (Nat.le_of_ble_eq_true rfl) (Nat.le_of_ble_eq_true rfl) (by decide) rfl
theorem rX5_layCollect_201 {d : Nat} {lv : xLV} {st : List Value} {S : xS} {r : xO} : XL SK MT d 139 (201, lv, st, S) r ↔ xA (xlook lv 0) (fun x => XL SK MT d 139 (202, lv, .ref x :: st, S) r) := X_ldA rfl rfl (fun _ => rfl) rfl rfl rfl rfl
theorem rX5_layCollect_202 {d : Nat} {lv : xLV} {st : List Value} {S : xS} {r : xO} : XL SK MT d 139 (202, lv, .ref 10 :: st, S) r ↔ XL SK MT d 139 (205, lv, .ref 9 :: st, S) r := X_heap rfl rfl rfl rfl rfl
theorem rX5_layCollect_205 {d : Nat} {lv : xLV} {st : List Value} {S : xS} {r : xO} : XL SK MT d 139 (205, lv, st, S) r ↔ XL SK MT d 139 (206, lv, .int 3 :: st, S) r := X_pure rfl rfl rfl
theorem rX5_layCollect_206 {d : Nat} {lv : xLV} {st : List Value} {S : xS} {r : xO} : XL SK MT d 139 (206, lv, st, S) r ↔ XL SK MT d 139 (207, lv, .int 0 :: st, S) r := X_pure rfl rfl rfl
theorem rX5_layCollect_207 {d : Nat} {lv : xLV} {st : List Value} {S : xS} {r : xO} : XL SK MT d 139 (207, lv, st, S) r ↔ XL SK MT d 139 (209, lv, .int 15 :: st, S) r := X_pure rfl rfl rfl
theorem rX5_layCollect_209 {d : Nat} {lv : xLV} {S : xS} {r : xO} {x1 : Int32} {x2 : Int32} {x3 : Int32} : XL SK MT d 139 (209, lv, [.int x3, .int x2, .int x1, .ref 9], S) r ↔ xK (XC SK MT d 19 [.ref 9, .int x1, .int x2, .int x3] S) (fun v S => XL SK MT d 139 (212, lv, v.toList ++ [], S) r) := X_inv (n := 4) (kd := 2) (st0 := [.int x3, .int x2, .int x1, .ref 9]) rfl (Or.inr ⟨rfl, rfl⟩) rfl (Nat.le_of_ble_eq_true rfl) (Nat.le_of_ble_eq_true rfl) (by decide) rfl
theorem rX5_layCollect_212 {d : Nat} {lv : xLV} {st : List Value} {S : xS} {r : xO} : XL SK MT d 139 (212, lv, st, S) r ↔ xA (xlook lv 0) (fun x => XL SK MT d 139 (213, lv, .ref x :: st, S) r) := X_ldA rfl rfl (fun _ => rfl) rfl rfl rfl rfl
theorem rX5_layCollect_213 {d : Nat} {lv : xLV} {st : List Value} {S : xS} {r : xO} : XL SK MT d 139 (213, lv, .ref 10 :: st, S) r ↔ XL SK MT d 139 (216, lv, .ref 9 :: st, S) r := X_heap rfl rfl rfl rfl rfl
theorem rX5_layCollect_216 {d : Nat} {lv : xLV} {st : List Value} {S : xS} {r : xO} : XL SK MT d 139 (216, lv, st, S) r ↔ XL SK MT d 139 (218, lv, .int 15 :: st, S) r := X_pure rfl rfl rfl
theorem rX5_layCollect_218 {d : Nat} {lv : xLV} {st : List Value} {S : xS} {r : xO} : XL SK MT d 139 (218, lv, st, S) r ↔ XL SK MT d 139 (220, lv, .int 15 :: st, S) r := X_pure rfl rfl rfl
theorem rX5_layCollect_220 {d : Nat} {lv : xLV} {st : List Value} {S : xS} {r : xO} : XL SK MT d 139 (220, lv, st, S) r ↔ XL SK MT d 139 (221, lv, .int 4 :: st, S) r := X_pure rfl rfl rfl
theorem rX5_layCollect_221 {d : Nat} {lv : xLV} {S : xS} {r : xO} {x1 : Int32} {x2 : Int32} {x3 : Int32} : XL SK MT d 139 (221, lv, [.int x3, .int x2, .int x1, .ref 9], S) r ↔ xK (XC SK MT d 20 [.ref 9, .int x1, .int x2, .int x3] S) (fun v S => XL SK MT d 139 (224, lv, v.toList ++ [], S) r) := X_inv (n := 4) (kd := 2) (st0 := [.int x3, .int x2, .int x1, .ref 9]) rfl (Or.inr ⟨rfl, rfl⟩) rfl (Nat.le_of_ble_eq_true rfl) (Nat.le_of_ble_eq_true rfl) (by decide) rfl
theorem rX5_layCollect_224 {d : Nat} {lv : xLV} {st : List Value} {S : xS} {r : xO} : XL SK MT d 139 (224, lv, st, S) r ↔ xA (xlook lv 0) (fun x => XL SK MT d 139 (225, lv, .ref x :: st, S) r) := X_ldA rfl rfl (fun _ => rfl) rfl rfl rfl rfl
theorem rX5_layCollect_225 {d : Nat} {lv : xLV} {st : List Value} {S : xS} {r : xO} : XL SK MT d 139 (225, lv, .ref 10 :: st, S) r ↔ XL SK MT d 139 (228, lv, .ref 9 :: st, S) r := X_heap rfl rfl rfl rfl rfl
theorem rX5_layCollect_228 {d : Nat} {lv : xLV} {st : List Value} {S : xS} {r : xO} : XL SK MT d 139 (228, lv, st, S) r ↔ xI (xlook lv 4) (fun x => XL SK MT d 139 (230, lv, .int x :: st, S) r) := X_ldI rfl rfl (fun _ => rfl) rfl rfl rfl rfl
theorem rX5_layCollect_230 {d : Nat} {lv : xLV} {S : xS} {r : xO} {x1 : Int32} : XL SK MT d 139 (230, lv, [.int x1, .ref 9], S) r ↔ xK (XC SK MT d 27 [.ref 9, .int x1] S) (fun v S => XL SK MT d 139 (233, lv, v.toList ++ [], S) r) := X_inv (n := 2) (kd := 2) (st0 := [.int x1, .ref 9]) rfl (Or.inr ⟨rfl, rfl⟩) rfl (Nat.le_of_ble_eq_true rfl) (Nat.le_of_ble_eq_true rfl) (by decide) rfl
theorem rX5_layCollect_233 {d : Nat} {lv : xLV} {st : List Value} {S : xS} {r : xO} : XL SK MT d 139 (233, lv, st, S) r ↔ xA (xlook lv 0) (fun x => XL SK MT d 139 (234, lv, .ref x :: st, S) r) := X_ldA rfl rfl (fun _ => rfl) rfl rfl rfl rfl
theorem rX5_layCollect_234 {d : Nat} {lv : xLV} {st : List Value} {S : xS} {r : xO} : XL SK MT d 139 (234, lv, .ref 10 :: st, S) r ↔ XL SK MT d 139 (237, lv, .ref 9 :: st, S) r := X_heap rfl rfl rfl rfl rfl
theorem rX5_layCollect_237 {d : Nat} {lv : xLV} {st : List Value} {S : xS} {r : xO} : XL SK MT d 139 (237, lv, st, S) r ↔ xI (xlook lv 1) (fun x => XL SK MT d 139 (238, lv, .int x :: st, S) r) := X_ldI rfl rfl (fun _ => rfl) rfl rfl rfl rfl
theorem rX5_layCollect_238 {d : Nat} {lv : xLV} {S : xS} {r : xO} {x1 : Int32} : XL SK MT d 139 (238, lv, [.int x1, .ref 9], S) r ↔ xK (XC SK MT d 3 [.ref 9, .int x1] S) (fun v S => XL SK MT d 139 (241, lv, v.toList ++ [], S) r) := X_inv (n := 2) (kd := 2) (st0 := [.int x1, .ref 9]) rfl (Or.inr ⟨rfl, rfl⟩) rfl (Nat.le_of_ble_eq_true rfl) (Nat.le_of_ble_eq_true rfl) (by decide) rfl
theorem rX5_layCollect_241 {d : Nat} {lv : xLV} {st : List Value} {S : xS} {r : xO} : XL SK MT d 139 (241, lv, st, S) r ↔ xA (xlook lv 0) (fun x => XL SK MT d 139 (242, lv, .ref x :: st, S) r) := X_ldA rfl rfl (fun _ => rfl) rfl rfl rfl rfl
theorem rX5_layCollect_242 {d : Nat} {lv : xLV} {st : List Value} {S : xS} {r : xO} : XL SK MT d 139 (242, lv, .ref 10 :: st, S) r ↔ XL SK MT d 139 (245, lv, .ref 9 :: st, S) r := X_heap rfl rfl rfl rfl rfl
theorem rX5_layCollect_245 {d : Nat} {lv : xLV} {st : List Value} {S : xS} {r : xO} : XL SK MT d 139 (245, lv, st, S) r ↔ XL SK MT d 139 (246, lv, .int 4 :: st, S) r := X_pure rfl rfl rfl
theorem rX5_layCollect_246 {d : Nat} {lv : xLV} {st : List Value} {S : xS} {r : xO} : XL SK MT d 139 (246, lv, st, S) r ↔ XL SK MT d 139 (248, lv, .int 24 :: st, S) r := X_pure rfl rfl rfl
theorem rX5_layCollect_248 {d : Nat} {lv : xLV} {st : List Value} {S : xS} {r : xO} : XL SK MT d 139 (248, lv, st, S) r ↔ XL SK MT d 139 (250, lv, .int 18 :: st, S) r := X_pure rfl rfl rfl
theorem rX5_layCollect_250 {d : Nat} {lv : xLV} {st : List Value} {S : xS} {r : xO} : XL SK MT d 139 (250, lv, st, S) r ↔ xI (xlook lv 3) (fun x => XL SK MT d 139 (251, lv, .int x :: st, S) r) := X_ldI rfl rfl (fun _ => rfl) rfl rfl rfl rfl
theorem rX5_layCollect_251 {d : Nat} {lv : xLV} {S : xS} {r : xO} {x1 : Int32} {x2 : Int32} {x3 : Int32} {x4 : Int32} : XL SK MT d 139 (251, lv, [.int x4, .int x3, .int x2, .int x1, .ref 9], S) r ↔ xK (XC SK MT d 24 [.ref 9, .int x1, .int x2, .int x3, .int x4] S) (fun v S => XL SK MT d 139 (254, lv, v.toList ++ [], S) r) := X_inv (n := 5) (kd := 2) (st0 := [.int x4, .int x3, .int x2, .int x1, .ref 9]) rfl (Or.inr ⟨rfl, rfl⟩) rfl (Nat.le_of_ble_eq_true rfl) (Nat.le_of_ble_eq_true rfl) (by decide) rfl
theorem rX5_layCollect_254 {d : Nat} {lv : xLV} {st : List Value} {S : xS} {r : xO} : XL SK MT d 139 (254, lv, st, S) r ↔ xA (xlook lv 0) (fun x => XL SK MT d 139 (255, lv, .ref x :: st, S) r) := X_ldA rfl rfl (fun _ => rfl) rfl rfl rfl rfl
theorem rX5_layCollect_255 {d : Nat} {lv : xLV} {st : List Value} {S : xS} {r : xO} : XL SK MT d 139 (255, lv, .ref 10 :: st, S) r ↔ XL SK MT d 139 (258, lv, .ref 9 :: st, S) r := X_heap rfl rfl rfl rfl rfl
theorem rX5_layCollect_258 {d : Nat} {lv : xLV} {st : List Value} {S : xS} {r : xO} : XL SK MT d 139 (258, lv, st, S) r ↔ XL SK MT d 139 (260, lv, .int 14 :: st, S) r := X_pure rfl rfl rfl
theorem rX5_layCollect_260 {d : Nat} {lv : xLV} {st : List Value} {S : xS} {r : xO} : XL SK MT d 139 (260, lv, st, S) r ↔ XL SK MT d 139 (261, lv, .int 0 :: st, S) r := X_pure rfl rfl rfl
theorem rX5_layCollect_261 {d : Nat} {lv : xLV} {st : List Value} {S : xS} {r : xO} : XL SK MT d 139 (261, lv, st, S) r ↔ XL SK MT d 139 (263, lv, .int 24 :: st, S) r := X_pure rfl rfl rfl
theorem rX5_layCollect_263 {d : Nat} {lv : xLV} {S : xS} {r : xO} {x1 : Int32} {x2 : Int32} {x3 : Int32} : XL SK MT d 139 (263, lv, [.int x3, .int x2, .int x1, .ref 9], S) r ↔ xK (XC SK MT d 18 [.ref 9, .int x1, .int x2, .int x3] S) (fun v S => XL SK MT d 139 (266, lv, v.toList ++ [], S) r) := X_inv (n := 4) (kd := 2) (st0 := [.int x3, .int x2, .int x1, .ref 9]) rfl (Or.inr ⟨rfl, rfl⟩) rfl (Nat.le_of_ble_eq_true rfl) (Nat.le_of_ble_eq_true rfl) (by decide) rfl
theorem rX5_layCollect_266 {d : Nat} {lv : xLV} {st : List Value} {S : xS} {r : xO} : XL SK MT d 139 (266, lv, st, S) r ↔ xA (xlook lv 0) (fun x => XL SK MT d 139 (267, lv, .ref x :: st, S) r) := X_ldA rfl rfl (fun _ => rfl) rfl rfl rfl rfl
theorem rX5_layCollect_267 {d : Nat} {lv : xLV} {S : xS} {r : xO} : XL SK MT d 139 (267, lv, [.ref 10], S) r ↔ xK (XC SK MT d 137 [.ref 10] S) (fun v S => XL SK MT d 139 (270, lv, v.toList ++ [], S) r) := X_inv (n := 1) (kd := 7) (st0 := [.ref 10]) rfl (Or.inr ⟨rfl, rfl⟩) rfl (Nat.le_of_ble_eq_true rfl) (Nat.le_of_ble_eq_true rfl) (by decide) rfl
theorem rX5_layCollect_270 {d : Nat} {lv : xLV} {st : List Value} {S : xS} {r : xO} : XL SK MT d 139 (270, lv, st, S) r ↔ xA (xlook lv 0) (fun x => XL SK MT d 139 (271, lv, .ref x :: st, S) r) := X_ldA rfl rfl (fun _ => rfl) rfl rfl rfl rfl
theorem rX5_layCollect_271 {d : Nat} {lv : xLV} {st : List Value} {S : xS} {r : xO} : XL SK MT d 139 (271, lv, .ref 10 :: st, S) r ↔ XL SK MT d 139 (274, lv, .ref 9 :: st, S) r := X_heap rfl rfl rfl rfl rfl
theorem rX5_layCollect_274 {d : Nat} {lv : xLV} {st : List Value} {S : xS} {r : xO} : XL SK MT d 139 (274, lv, st, S) r ↔ XL SK MT d 139 (276, lv, .int 33 :: st, S) r := X_pure rfl rfl rfl
theorem rX5_layCollect_276 {d : Nat} {lv : xLV} {st : List Value} {S : xS} {r : xO} : XL SK MT d 139 (276, lv, st, S) r ↔ XL SK MT d 139 (278, lv, .int 15 :: st, S) r := X_pure rfl rfl rfl
theorem rX5_layCollect_278 {d : Nat} {lv : xLV} {st : List Value} {S : xS} {r : xO} : XL SK MT d 139 (278, lv, st, S) r ↔ XL SK MT d 139 (280, lv, .int 24 :: st, S) r := X_pure rfl rfl rfl
theorem rX5_layCollect_280 {d : Nat} {lv : xLV} {st : List Value} {S : xS} {r : xO} : XL SK MT d 139 (280, lv, st, S) r ↔ XL SK MT d 139 (282, lv, .int 13 :: st, S) r := X_pure rfl rfl rfl
theorem rX5_layCollect_282 {d : Nat} {lv : xLV} {S : xS} {r : xO} {x1 : Int32} {x2 : Int32} {x3 : Int32} {x4 : Int32} : XL SK MT d 139 (282, lv, [.int x4, .int x3, .int x2, .int x1, .ref 9], S) r ↔ xK (XC SK MT d 15 [.ref 9, .int x1, .int x2, .int x3, .int x4] S) (fun v S => XL SK MT d 139 (285, lv, v.toList ++ [], S) r) := X_inv (n := 5) (kd := 2) (st0 := [.int x4, .int x3, .int x2, .int x1, .ref 9]) rfl (Or.inr ⟨rfl, rfl⟩) rfl (Nat.le_of_ble_eq_true rfl) (Nat.le_of_ble_eq_true rfl) (by decide) rfl
theorem rX5_layCollect_285 {d : Nat} {lv : xLV} {st : List Value} {S : xS} {r : xO} : XL SK MT d 139 (285, lv, st, S) r ↔ xA (xlook lv 0) (fun x => XL SK MT d 139 (286, lv, .ref x :: st, S) r) := X_ldA rfl rfl (fun _ => rfl) rfl rfl rfl rfl
theorem rX5_layCollect_286 {d : Nat} {lv : xLV} {st : List Value} {S : xS} {r : xO} : XL SK MT d 139 (286, lv, .ref 10 :: st, S) r ↔ XL SK MT d 139 (289, lv, .ref 9 :: st, S) r := X_heap rfl rfl rfl rfl rfl
theorem rX5_layCollect_289 {d : Nat} {lv : xLV} {st : List Value} {S : xS} {r : xO} : XL SK MT d 139 (289, lv, st, S) r ↔ XL SK MT d 139 (291, lv, .int 24 :: st, S) r := X_pure rfl rfl rfl
theorem rX5_layCollect_291 {d : Nat} {lv : xLV} {st : List Value} {S : xS} {r : xO} : XL SK MT d 139 (291, lv, st, S) r ↔ XL SK MT d 139 (293, lv, .int 24 :: st, S) r := X_pure rfl rfl rfl
theorem rX5_layCollect_293 {d : Nat} {lv : xLV} {st : List Value} {S : xS} {r : xO} : XL SK MT d 139 (293, lv, st, S) r ↔ XL SK MT d 139 (294, lv, .int 4 :: st, S) r := X_pure rfl rfl rfl
theorem rX5_layCollect_294 {d : Nat} {lv : xLV} {S : xS} {r : xO} {x1 : Int32} {x2 : Int32} {x3 : Int32} : XL SK MT d 139 (294, lv, [.int x3, .int x2, .int x1, .ref 9], S) r ↔ xK (XC SK MT d 20 [.ref 9, .int x1, .int x2, .int x3] S) (fun v S => XL SK MT d 139 (297, lv, v.toList ++ [], S) r) := X_inv (n := 4) (kd := 2) (st0 := [.int x3, .int x2, .int x1, .ref 9]) rfl (Or.inr ⟨rfl, rfl⟩) rfl (Nat.le_of_ble_eq_true rfl) (Nat.le_of_ble_eq_true rfl) (by decide) rfl
theorem rX5_layCollect_297 {d : Nat} {lv : xLV} {st : List Value} {S : xS} {r : xO} : XL SK MT d 139 (297, lv, st, S) r ↔ xA (xlook lv 0) (fun x => XL SK MT d 139 (298, lv, .ref x :: st, S) r) := X_ldA rfl rfl (fun _ => rfl) rfl rfl rfl rfl
theorem rX5_layCollect_298 {d : Nat} {lv : xLV} {st : List Value} {S : xS} {r : xO} : XL SK MT d 139 (298, lv, .ref 10 :: st, S) r ↔ XL SK MT d 139 (301, lv, .ref 9 :: st, S) r := X_heap rfl rfl rfl rfl rfl
theorem rX5_layCollect_301 {d : Nat} {lv : xLV} {st : List Value} {S : xS} {r : xO} : XL SK MT d 139 (301, lv, st, S) r ↔ XL SK MT d 139 (303, lv, .int 12 :: st, S) r := X_pure rfl rfl rfl
theorem rX5_layCollect_303 {d : Nat} {lv : xLV} {st : List Value} {S : xS} {r : xO} : XL SK MT d 139 (303, lv, st, S) r ↔ XL SK MT d 139 (305, lv, .int 8 :: st, S) r := X_pure rfl rfl rfl
theorem rX5_layCollect_305 {d : Nat} {lv : xLV} {st : List Value} {S : xS} {r : xO} : XL SK MT d 139 (305, lv, st, S) r ↔ XL SK MT d 139 (307, lv, .int 14 :: st, S) r := X_pure rfl rfl rfl
theorem rX5_layCollect_307 {d : Nat} {lv : xLV} {st : List Value} {S : xS} {r : xO} : XL SK MT d 139 (307, lv, st, S) r ↔ XL SK MT d 139 (309, lv, .int 7 :: st, S) r := X_pure rfl rfl rfl
theorem rX5_layCollect_309 {d : Nat} {lv : xLV} {S : xS} {r : xO} {x1 : Int32} {x2 : Int32} {x3 : Int32} {x4 : Int32} : XL SK MT d 139 (309, lv, [.int x4, .int x3, .int x2, .int x1, .ref 9], S) r ↔ xK (XC SK MT d 17 [.ref 9, .int x1, .int x2, .int x3, .int x4] S) (fun v S => XL SK MT d 139 (312, lv, v.toList ++ [], S) r) := X_inv (n := 5) (kd := 2) (st0 := [.int x4, .int x3, .int x2, .int x1, .ref 9]) rfl (Or.inr ⟨rfl, rfl⟩) rfl (Nat.le_of_ble_eq_true rfl) (Nat.le_of_ble_eq_true rfl) (by decide) rfl
theorem rX5_layCollect_312 {d : Nat} {lv : xLV} {st : List Value} {S : xS} {r : xO} : XL SK MT d 139 (312, lv, st, S) r ↔ xA (xlook lv 0) (fun x => XL SK MT d 139 (313, lv, .ref x :: st, S) r) := X_ldA rfl rfl (fun _ => rfl) rfl rfl rfl rfl
theorem rX5_layCollect_313 {d : Nat} {lv : xLV} {st : List Value} {S : xS} {r : xO} : XL SK MT d 139 (313, lv, .ref 10 :: st, S) r ↔ XL SK MT d 139 (316, lv, .ref 9 :: st, S) r := X_heap rfl rfl rfl rfl rfl
theorem rX5_layCollect_316 {d : Nat} {lv : xLV} {st : List Value} {S : xS} {r : xO} : XL SK MT d 139 (316, lv, st, S) r ↔ XL SK MT d 139 (318, lv, .int 9 :: st, S) r := X_pure rfl rfl rfl
theorem rX5_layCollect_318 {d : Nat} {lv : xLV} {st : List Value} {S : xS} {r : xO} : XL SK MT d 139 (318, lv, st, S) r ↔ XL SK MT d 139 (319, lv, .int 5 :: st, S) r := X_pure rfl rfl rfl
theorem rX5_layCollect_319 {d : Nat} {lv : xLV} {S : xS} {r : xO} {x1 : Int32} {x2 : Int32} : XL SK MT d 139 (319, lv, [.int x2, .int x1, .ref 9], S) r ↔ xK (XC SK MT d 22 [.ref 9, .int x1, .int x2] S) (fun v S => XL SK MT d 139 (322, lv, v.toList ++ [], S) r) := X_inv (n := 3) (kd := 2) (st0 := [.int x2, .int x1, .ref 9]) rfl (Or.inr ⟨rfl, rfl⟩) rfl (Nat.le_of_ble_eq_true rfl) (Nat.le_of_ble_eq_true rfl) (by decide) rfl
theorem rX5_layCollect_322 {d : Nat} {lv : xLV} {st : List Value} {S : xS} {r : xO} : XL SK MT d 139 (322, lv, st, S) r ↔ xA (xlook lv 0) (fun x => XL SK MT d 139 (323, lv, .ref x :: st, S) r) := X_ldA rfl rfl (fun _ => rfl) rfl rfl rfl rfl
theorem rX5_layCollect_323 {d : Nat} {lv : xLV} {st : List Value} {S : xS} {r : xO} : XL SK MT d 139 (323, lv, .ref 10 :: st, S) r ↔ XL SK MT d 139 (326, lv, .ref 9 :: st, S) r := X_heap rfl rfl rfl rfl rfl
theorem rX5_layCollect_326 {d : Nat} {lv : xLV} {st : List Value} {S : xS} {r : xO} : XL SK MT d 139 (326, lv, st, S) r ↔ XL SK MT d 139 (327, lv, .int 5 :: st, S) r := X_pure rfl rfl rfl
theorem rX5_layCollect_327 {d : Nat} {lv : xLV} {st : List Value} {S : xS} {r : xO} : XL SK MT d 139 (327, lv, st, S) r ↔ XL SK MT d 139 (329, lv, .int 8 :: st, S) r := X_pure rfl rfl rfl
theorem rX5_layCollect_329 {d : Nat} {lv : xLV} {st : List Value} {S : xS} {r : xO} : XL SK MT d 139 (329, lv, st, S) r ↔ XL SK MT d 139 (331, lv, .int 9 :: st, S) r := X_pure rfl rfl rfl
theorem rX5_layCollect_331 {d : Nat} {lv : xLV} {st : List Value} {S : xS} {r : xO} : XL SK MT d 139 (331, lv, st, S) r ↔ xI (xlook lv 2) (fun x => XL SK MT d 139 (332, lv, .int x :: st, S) r) := X_ldI rfl rfl (fun _ => rfl) rfl rfl rfl rfl
theorem rX5_layCollect_332 {d : Nat} {lv : xLV} {S : xS} {r : xO} {x1 : Int32} {x2 : Int32} {x3 : Int32} {x4 : Int32} : XL SK MT d 139 (332, lv, [.int x4, .int x3, .int x2, .int x1, .ref 9], S) r ↔ xK (XC SK MT d 24 [.ref 9, .int x1, .int x2, .int x3, .int x4] S) (fun v S => XL SK MT d 139 (335, lv, v.toList ++ [], S) r) := X_inv (n := 5) (kd := 2) (st0 := [.int x4, .int x3, .int x2, .int x1, .ref 9]) rfl (Or.inr ⟨rfl, rfl⟩) rfl (Nat.le_of_ble_eq_true rfl) (Nat.le_of_ble_eq_true rfl) (by decide) rfl
theorem rX5_layCollect_335 {d : Nat} {lv : xLV} {st : List Value} {S : xS} {r : xO} : XL SK MT d 139 (335, lv, st, S) r ↔ xA (xlook lv 0) (fun x => XL SK MT d 139 (336, lv, .ref x :: st, S) r) := X_ldA rfl rfl (fun _ => rfl) rfl rfl rfl rfl
theorem rX5_layCollect_336 {d : Nat} {lv : xLV} {st : List Value} {S : xS} {r : xO} : XL SK MT d 139 (336, lv, .ref 10 :: st, S) r ↔ XL SK MT d 139 (339, lv, .ref 9 :: st, S) r := X_heap rfl rfl rfl rfl rfl
theorem rX5_layCollect_339 {d : Nat} {lv : xLV} {st : List Value} {S : xS} {r : xO} : XL SK MT d 139 (339, lv, st, S) r ↔ XL SK MT d 139 (341, lv, .int 24 :: st, S) r := X_pure rfl rfl rfl
theorem rX5_layCollect_341 {d : Nat} {lv : xLV} {st : List Value} {S : xS} {r : xO} : XL SK MT d 139 (341, lv, st, S) r ↔ XL SK MT d 139 (343, lv, .int 15 :: st, S) r := X_pure rfl rfl rfl
theorem rX5_layCollect_343 {d : Nat} {lv : xLV} {S : xS} {r : xO} {x1 : Int32} {x2 : Int32} : XL SK MT d 139 (343, lv, [.int x2, .int x1, .ref 9], S) r ↔ xK (XC SK MT d 21 [.ref 9, .int x1, .int x2] S) (fun v S => XL SK MT d 139 (346, lv, v.toList ++ [], S) r) := X_inv (n := 3) (kd := 2) (st0 := [.int x2, .int x1, .ref 9]) rfl (Or.inr ⟨rfl, rfl⟩) rfl (Nat.le_of_ble_eq_true rfl) (Nat.le_of_ble_eq_true rfl) (by decide) rfl
theorem rX5_layCollect_346 {d : Nat} {lv : xLV} {st : List Value} {S : xS} {r : xO} : XL SK MT d 139 (346, lv, st, S) r ↔ xA (xlook lv 0) (fun x => XL SK MT d 139 (347, lv, .ref x :: st, S) r) := X_ldA rfl rfl (fun _ => rfl) rfl rfl rfl rfl
theorem rX5_layCollect_347 {d : Nat} {lv : xLV} {st : List Value} {S : xS} {r : xO} : XL SK MT d 139 (347, lv, .ref 10 :: st, S) r ↔ XL SK MT d 139 (350, lv, .ref 9 :: st, S) r := X_heap rfl rfl rfl rfl rfl
theorem rX5_layCollect_350 {d : Nat} {lv : xLV} {st : List Value} {S : xS} {r : xO} : XL SK MT d 139 (350, lv, st, S) r ↔ xI (xlook lv 1) (fun x => XL SK MT d 139 (351, lv, .int x :: st, S) r) := X_ldI rfl rfl (fun _ => rfl) rfl rfl rfl rfl
theorem rX5_layCollect_351 {d : Nat} {lv : xLV} {S : xS} {r : xO} {x1 : Int32} : XL SK MT d 139 (351, lv, [.int x1, .ref 9], S) r ↔ xK (XC SK MT d 27 [.ref 9, .int x1] S) (fun v S => XL SK MT d 139 (354, lv, v.toList ++ [], S) r) := X_inv (n := 2) (kd := 2) (st0 := [.int x1, .ref 9]) rfl (Or.inr ⟨rfl, rfl⟩) rfl (Nat.le_of_ble_eq_true rfl) (Nat.le_of_ble_eq_true rfl) (by decide) rfl
theorem rX5_layCollect_354 {d : Nat} {lv : xLV} {st : List Value} {S : xS} {r : xO} : XL SK MT d 139 (354, lv, st, S) r ↔ xA (xlook lv 0) (fun x => XL SK MT d 139 (355, lv, .ref x :: st, S) r) := X_ldA rfl rfl (fun _ => rfl) rfl rfl rfl rfl
theorem rX5_layCollect_355 {d : Nat} {lv : xLV} {st : List Value} {S : xS} {r : xO} : XL SK MT d 139 (355, lv, .ref 10 :: st, S) r ↔ XL SK MT d 139 (358, lv, .ref 9 :: st, S) r := X_heap rfl rfl rfl rfl rfl
theorem rX5_layCollect_358 {d : Nat} {lv : xLV} {st : List Value} {S : xS} {r : xO} : XL SK MT d 139 (358, lv, st, S) r ↔ xI (xlook lv 2) (fun x => XL SK MT d 139 (359, lv, .int x :: st, S) r) := X_ldI rfl rfl (fun _ => rfl) rfl rfl rfl rfl
theorem rX5_layCollect_359 {d : Nat} {lv : xLV} {S : xS} {r : xO} {x1 : Int32} : XL SK MT d 139 (359, lv, [.int x1, .ref 9], S) r ↔ xK (XC SK MT d 3 [.ref 9, .int x1] S) (fun v S => XL SK MT d 139 (362, lv, v.toList ++ [], S) r) := X_inv (n := 2) (kd := 2) (st0 := [.int x1, .ref 9]) rfl (Or.inr ⟨rfl, rfl⟩) rfl (Nat.le_of_ble_eq_true rfl) (Nat.le_of_ble_eq_true rfl) (by decide) rfl
theorem rX5_layCollect_362 {d : Nat} {lv : xLV} {st : List Value} {S : xS} {r : xO} : XL SK MT d 139 (362, lv, st, S) r ↔ xA (xlook lv 0) (fun x => XL SK MT d 139 (363, lv, .ref x :: st, S) r) := X_ldA rfl rfl (fun _ => rfl) rfl rfl rfl rfl
theorem rX5_layCollect_363 {d : Nat} {lv : xLV} {st : List Value} {S : xS} {r : xO} : XL SK MT d 139 (363, lv, .ref 10 :: st, S) r ↔ XL SK MT d 139 (366, lv, .ref 9 :: st, S) r := X_heap rfl rfl rfl rfl rfl
theorem rX5_layCollect_366 {d : Nat} {lv : xLV} {st : List Value} {S : xS} {r : xO} : XL SK MT d 139 (366, lv, st, S) r ↔ XL SK MT d 139 (367, lv, .int 4 :: st, S) r := X_pure rfl rfl rfl
theorem rX5_layCollect_367 {d : Nat} {lv : xLV} {st : List Value} {S : xS} {r : xO} : XL SK MT d 139 (367, lv, st, S) r ↔ XL SK MT d 139 (369, lv, .int 24 :: st, S) r := X_pure rfl rfl rfl
theorem rX5_layCollect_369 {d : Nat} {lv : xLV} {st : List Value} {S : xS} {r : xO} : XL SK MT d 139 (369, lv, st, S) r ↔ XL SK MT d 139 (371, lv, .int 15 :: st, S) r := X_pure rfl rfl rfl
theorem rX5_layCollect_371 {d : Nat} {lv : xLV} {st : List Value} {S : xS} {r : xO} : XL SK MT d 139 (371, lv, st, S) r ↔ xI (xlook lv 1) (fun x => XL SK MT d 139 (372, lv, .int x :: st, S) r) := X_ldI rfl rfl (fun _ => rfl) rfl rfl rfl rfl
theorem rX5_layCollect_372 {d : Nat} {lv : xLV} {S : xS} {r : xO} {x1 : Int32} {x2 : Int32} {x3 : Int32} {x4 : Int32} : XL SK MT d 139 (372, lv, [.int x4, .int x3, .int x2, .int x1, .ref 9], S) r ↔ xK (XC SK MT d 24 [.ref 9, .int x1, .int x2, .int x3, .int x4] S) (fun v S => XL SK MT d 139 (375, lv, v.toList ++ [], S) r) := X_inv (n := 5) (kd := 2) (st0 := [.int x4, .int x3, .int x2, .int x1, .ref 9]) rfl (Or.inr ⟨rfl, rfl⟩) rfl (Nat.le_of_ble_eq_true rfl) (Nat.le_of_ble_eq_true rfl) (by decide) rfl
theorem rX5_layCollect_375 {d : Nat} {lv : xLV} {st : List Value} {S : xS} {r : xO} : XL SK MT d 139 (375, lv, st, S) r ↔ xA (xlook lv 0) (fun x => XL SK MT d 139 (376, lv, .ref x :: st, S) r) := X_ldA rfl rfl (fun _ => rfl) rfl rfl rfl rfl
theorem rX5_layCollect_376 {d : Nat} {lv : xLV} {st : List Value} {S : xS} {r : xO} : XL SK MT d 139 (376, lv, .ref 10 :: st, S) r ↔ XL SK MT d 139 (379, lv, .ref 9 :: st, S) r := X_heap rfl rfl rfl rfl rfl
theorem rX5_layCollect_379 {d : Nat} {lv : xLV} {st : List Value} {S : xS} {r : xO} : XL SK MT d 139 (379, lv, st, S) r ↔ XL SK MT d 139 (381, lv, .int 6 :: st, S) r := X_pure rfl rfl rfl
theorem rX5_layCollect_381 {d : Nat} {lv : xLV} {st : List Value} {S : xS} {r : xO} : XL SK MT d 139 (381, lv, st, S) r ↔ XL SK MT d 139 (382, lv, .int 0 :: st, S) r := X_pure rfl rfl rfl
theorem rX5_layCollect_382 {d : Nat} {lv : xLV} {st : List Value} {S : xS} {r : xO} : XL SK MT d 139 (382, lv, st, S) r ↔ XL SK MT d 139 (384, lv, .int 24 :: st, S) r := X_pure rfl rfl rfl
theorem rX5_layCollect_384 {d : Nat} {lv : xLV} {S : xS} {r : xO} {x1 : Int32} {x2 : Int32} {x3 : Int32} : XL SK MT d 139 (384, lv, [.int x3, .int x2, .int x1, .ref 9], S) r ↔ xK (XC SK MT d 18 [.ref 9, .int x1, .int x2, .int x3] S) (fun v S => XL SK MT d 139 (387, lv, v.toList ++ [], S) r) := X_inv (n := 4) (kd := 2) (st0 := [.int x3, .int x2, .int x1, .ref 9]) rfl (Or.inr ⟨rfl, rfl⟩) rfl (Nat.le_of_ble_eq_true rfl) (Nat.le_of_ble_eq_true rfl) (by decide) rfl
theorem rX5_layCollect_387 {d : Nat} {lv : xLV} {st : List Value} {S : xS} {r : xO} : XL SK MT d 139 (387, lv, st, S) r ↔ xA (xlook lv 0) (fun x => XL SK MT d 139 (388, lv, .ref x :: st, S) r) := X_ldA rfl rfl (fun _ => rfl) rfl rfl rfl rfl
theorem rX5_layCollect_388 {d : Nat} {lv : xLV} {st : List Value} {S : xS} {r : xO} : XL SK MT d 139 (388, lv, .ref 10 :: st, S) r ↔ XL SK MT d 139 (391, lv, .ref 9 :: st, S) r := X_heap rfl rfl rfl rfl rfl
theorem rX5_layCollect_391 {d : Nat} {lv : xLV} {st : List Value} {S : xS} {r : xO} : XL SK MT d 139 (391, lv, st, S) r ↔ XL SK MT d 139 (393, lv, .int 65538 :: st, S) r := X_pure rfl rfl rfl
theorem rX5_layCollect_393 {d : Nat} {lv : xLV} {S : xS} {r : xO} {x1 : Int32} : XL SK MT d 139 (393, lv, [.int x1, .ref 9], S) r ↔ xK (XC SK MT d 28 [.ref 9, .int x1] S) (fun v S => XL SK MT d 139 (396, lv, v.toList ++ [], S) r) := X_inv (n := 2) (kd := 2) (st0 := [.int x1, .ref 9]) rfl (Or.inr ⟨rfl, rfl⟩) rfl (Nat.le_of_ble_eq_true rfl) (Nat.le_of_ble_eq_true rfl) (by decide) rfl
theorem rX5_layCollect_396 {d : Nat} {lv : xLV} {st : List Value} {S : xS} {r : xO} : XL SK MT d 139 (396, lv, st, S) r ↔ xA (xlook lv 0) (fun x => XL SK MT d 139 (397, lv, .ref x :: st, S) r) := X_ldA rfl rfl (fun _ => rfl) rfl rfl rfl rfl
theorem rX5_layCollect_397 {d : Nat} {lv : xLV} {st : List Value} {S : xS} {r : xO} : XL SK MT d 139 (397, lv, .ref 10 :: st, S) r ↔ XL SK MT d 139 (400, lv, .ref 9 :: st, S) r := X_heap rfl rfl rfl rfl rfl
theorem rX5_layCollect_400 {d : Nat} {lv : xLV} {st : List Value} {S : xS} {r : xO} : XL SK MT d 139 (400, lv, st, S) r ↔ XL SK MT d 139 (401, lv, .int 3 :: st, S) r := X_pure rfl rfl rfl
theorem rX5_layCollect_401 {d : Nat} {lv : xLV} {st : List Value} {S : xS} {r : xO} : XL SK MT d 139 (401, lv, st, S) r ↔ XL SK MT d 139 (402, lv, .int 0 :: st, S) r := X_pure rfl rfl rfl
theorem rX5_layCollect_402 {d : Nat} {lv : xLV} {st : List Value} {S : xS} {r : xO} : XL SK MT d 139 (402, lv, st, S) r ↔ XL SK MT d 139 (404, lv, .int 24 :: st, S) r := X_pure rfl rfl rfl
theorem rX5_layCollect_404 {d : Nat} {lv : xLV} {S : xS} {r : xO} {x1 : Int32} {x2 : Int32} {x3 : Int32} : XL SK MT d 139 (404, lv, [.int x3, .int x2, .int x1, .ref 9], S) r ↔ xK (XC SK MT d 19 [.ref 9, .int x1, .int x2, .int x3] S) (fun v S => XL SK MT d 139 (407, lv, v.toList ++ [], S) r) := X_inv (n := 4) (kd := 2) (st0 := [.int x3, .int x2, .int x1, .ref 9]) rfl (Or.inr ⟨rfl, rfl⟩) rfl (Nat.le_of_ble_eq_true rfl) (Nat.le_of_ble_eq_true rfl) (by decide) rfl
theorem rX5_layCollect_407 {d : Nat} {lv : xLV} {st : List Value} {S : xS} {r : xO} : XL SK MT d 139 (407, lv, st, S) r ↔ xA (xlook lv 0) (fun x => XL SK MT d 139 (408, lv, .ref x :: st, S) r) := X_ldA rfl rfl (fun _ => rfl) rfl rfl rfl rfl
theorem rX5_layCollect_408 {d : Nat} {lv : xLV} {st : List Value} {S : xS} {r : xO} : XL SK MT d 139 (408, lv, .ref 10 :: st, S) r ↔ XL SK MT d 139 (411, lv, .ref 9 :: st, S) r := X_heap rfl rfl rfl rfl rfl
theorem rX5_layCollect_411 {d : Nat} {lv : xLV} {st : List Value} {S : xS} {r : xO} : XL SK MT d 139 (411, lv, st, S) r ↔ XL SK MT d 139 (413, lv, .int 24 :: st, S) r := X_pure rfl rfl rfl
theorem rX5_layCollect_413 {d : Nat} {lv : xLV} {st : List Value} {S : xS} {r : xO} : XL SK MT d 139 (413, lv, st, S) r ↔ XL SK MT d 139 (415, lv, .int 24 :: st, S) r := X_pure rfl rfl rfl
theorem rX5_layCollect_415 {d : Nat} {lv : xLV} {st : List Value} {S : xS} {r : xO} : XL SK MT d 139 (415, lv, st, S) r ↔ XL SK MT d 139 (416, lv, .int 4 :: st, S) r := X_pure rfl rfl rfl
theorem rX5_layCollect_416 {d : Nat} {lv : xLV} {S : xS} {r : xO} {x1 : Int32} {x2 : Int32} {x3 : Int32} : XL SK MT d 139 (416, lv, [.int x3, .int x2, .int x1, .ref 9], S) r ↔ xK (XC SK MT d 20 [.ref 9, .int x1, .int x2, .int x3] S) (fun v S => XL SK MT d 139 (419, lv, v.toList ++ [], S) r) := X_inv (n := 4) (kd := 2) (st0 := [.int x3, .int x2, .int x1, .ref 9]) rfl (Or.inr ⟨rfl, rfl⟩) rfl (Nat.le_of_ble_eq_true rfl) (Nat.le_of_ble_eq_true rfl) (by decide) rfl
theorem rX5_layCollect_419 {d : Nat} {lv : xLV} {st : List Value} {S : xS} {r : xO} : XL SK MT d 139 (419, lv, st, S) r ↔ xA (xlook lv 0) (fun x => XL SK MT d 139 (420, lv, .ref x :: st, S) r) := X_ldA rfl rfl (fun _ => rfl) rfl rfl rfl rfl
theorem rX5_layCollect_420 {d : Nat} {lv : xLV} {st : List Value} {S : xS} {r : xO} : XL SK MT d 139 (420, lv, .ref 10 :: st, S) r ↔ XL SK MT d 139 (423, lv, .ref 9 :: st, S) r := X_heap rfl rfl rfl rfl rfl
theorem rX5_layCollect_423 {d : Nat} {lv : xLV} {st : List Value} {S : xS} {r : xO} : XL SK MT d 139 (423, lv, st, S) r ↔ xI (xlook lv 2) (fun x => XL SK MT d 139 (424, lv, .int x :: st, S) r) := X_ldI rfl rfl (fun _ => rfl) rfl rfl rfl rfl
theorem rX5_layCollect_424 {d : Nat} {lv : xLV} {S : xS} {r : xO} {x1 : Int32} : XL SK MT d 139 (424, lv, [.int x1, .ref 9], S) r ↔ xK (XC SK MT d 27 [.ref 9, .int x1] S) (fun v S => XL SK MT d 139 (427, lv, v.toList ++ [], S) r) := X_inv (n := 2) (kd := 2) (st0 := [.int x1, .ref 9]) rfl (Or.inr ⟨rfl, rfl⟩) rfl (Nat.le_of_ble_eq_true rfl) (Nat.le_of_ble_eq_true rfl) (by decide) rfl
theorem rX5_layCollect_427 {d : Nat} {lv : xLV} {st : List Value} {S : xS} {r : xO} : XL SK MT d 139 (427, lv, st, S) r ↔ xA (xlook lv 0) (fun x => XL SK MT d 139 (428, lv, .ref x :: st, S) r) := X_ldA rfl rfl (fun _ => rfl) rfl rfl rfl rfl
theorem rX5_layCollect_428 {d : Nat} {lv : xLV} {st : List Value} {S : xS} {r : xO} : XL SK MT d 139 (428, lv, .ref 10 :: st, S) r ↔ XL SK MT d 139 (431, lv, .ref 9 :: st, S) r := X_heap rfl rfl rfl rfl rfl
theorem rX5_layCollect_431 {d : Nat} {lv : xLV} {st : List Value} {S : xS} {r : xO} : XL SK MT d 139 (431, lv, st, S) r ↔ xI (xlook lv 3) (fun x => XL SK MT d 139 (432, lv, .int x :: st, S) r) := X_ldI rfl rfl (fun _ => rfl) rfl rfl rfl rfl
theorem rX5_layCollect_432 {d : Nat} {lv : xLV} {S : xS} {r : xO} {x1 : Int32} : XL SK MT d 139 (432, lv, [.int x1, .ref 9], S) r ↔ xK (XC SK MT d 3 [.ref 9, .int x1] S) (fun v S => XL SK MT d 139 (435, lv, v.toList ++ [], S) r) := X_inv (n := 2) (kd := 2) (st0 := [.int x1, .ref 9]) rfl (Or.inr ⟨rfl, rfl⟩) rfl (Nat.le_of_ble_eq_true rfl) (Nat.le_of_ble_eq_true rfl) (by decide) rfl
theorem rX5_layCollect_435 {d : Nat} {lv : xLV} {st : List Value} {S : xS} {r : xO} : XL SK MT d 139 (435, lv, st, S) r ↔ xA (xlook lv 0) (fun x => XL SK MT d 139 (436, lv, .ref x :: st, S) r) := X_ldA rfl rfl (fun _ => rfl) rfl rfl rfl rfl
theorem rX5_layCollect_436 {d : Nat} {lv : xLV} {st : List Value} {S : xS} {r : xO} : XL SK MT d 139 (436, lv, .ref 10 :: st, S) r ↔ XL SK MT d 139 (439, lv, .ref 9 :: st, S) r := X_heap rfl rfl rfl rfl rfl
theorem rX5_layCollect_439 {d : Nat} {lv : xLV} {st : List Value} {S : xS} {r : xO} : XL SK MT d 139 (439, lv, st, S) r ↔ XL SK MT d 139 (441, lv, .int 26 :: st, S) r := X_pure rfl rfl rfl
theorem rX5_layCollect_441 {d : Nat} {lv : xLV} {S : xS} {r : xO} {x1 : Int32} : XL SK MT d 139 (441, lv, [.int x1, .ref 9], S) r ↔ xK (XC SK MT d 29 [.ref 9, .int x1] S) (fun v S => XL SK MT d 139 (444, lv, v.toList ++ [], S) r) := X_inv (n := 2) (kd := 2) (st0 := [.int x1, .ref 9]) rfl (Or.inr ⟨rfl, rfl⟩) rfl (Nat.le_of_ble_eq_true rfl) (Nat.le_of_ble_eq_true rfl) (by decide) rfl
theorem rX5_layCollect_444 {d : Nat} {lv : xLV} {S : xS} {r : xO} : XL SK MT d 139 (444, lv, [], S) r ↔ (none, S) = r := X_ret rfl rfl rfl rfl rfl rfl

theorem rX5_layNeed_0 {d : Nat} {lv : xLV} {st : List Value} {S : xS} {r : xO} : XL SK MT d 136 (0, lv, st, S) r ↔ xA (xlook lv 0) (fun x => XL SK MT d 136 (1, lv, .ref x :: st, S) r) := X_ldA rfl rfl (fun _ => rfl) rfl rfl rfl rfl
theorem rX5_layNeed_1 {d : Nat} {lv : xLV} {st : List Value} {S : xS} {r : xO} : XL SK MT d 136 (1, lv, .ref 10 :: st, S) r ↔ XL SK MT d 136 (4, lv, .ref 9 :: st, S) r := X_heap rfl rfl rfl rfl rfl
theorem rX5_layNeed_4 {d : Nat} {lv : xLV} {S : xS} {r : xO} : XL SK MT d 136 (4, lv, [.ref 9], S) r ↔ xK (XC SK MT d 1 [.ref 9] S) (fun v S => XL SK MT d 136 (7, lv, v.toList ++ [], S) r) := X_inv (n := 1) (kd := 2) (st0 := [.ref 9]) rfl (Or.inr ⟨rfl, rfl⟩) rfl (Nat.le_of_ble_eq_true rfl) (Nat.le_of_ble_eq_true rfl) (by decide) rfl
theorem rX5_layNeed_7 {d : Nat} {lv : xLV} {st : List Value} {S : xS} {r : xO} {x : Int32} : XL SK MT d 136 (7, lv, .int x :: st, S) r ↔ XL SK MT d 136 (8, xst1 lv 1 (.int x), st, S) r := X_pure rfl rfl rfl
theorem rX5_layNeed_8 {d : Nat} {lv : xLV} {st : List Value} {S : xS} {r : xO} : XL SK MT d 136 (8, lv, st, S) r ↔ xA (xlook lv 0) (fun x => XL SK MT d 136 (9, lv, .ref x :: st, S) r) := X_ldA rfl rfl (fun _ => rfl) rfl rfl rfl rfl
theorem rX5_layNeed_9 {d : Nat} {lv : xLV} {st : List Value} {S : xS} {r : xO} : XL SK MT d 136 (9, lv, .ref 10 :: st, S) r ↔ XL SK MT d 136 (12, lv, .ref 9 :: st, S) r := X_heap rfl rfl rfl rfl rfl
theorem rX5_layNeed_12 {d : Nat} {lv : xLV} {S : xS} {r : xO} : XL SK MT d 136 (12, lv, [.ref 9], S) r ↔ xK (XC SK MT d 1 [.ref 9] S) (fun v S => XL SK MT d 136 (15, lv, v.toList ++ [], S) r) := X_inv (n := 1) (kd := 2) (st0 := [.ref 9]) rfl (Or.inr ⟨rfl, rfl⟩) rfl (Nat.le_of_ble_eq_true rfl) (Nat.le_of_ble_eq_true rfl) (by decide) rfl
theorem rX5_layNeed_15 {d : Nat} {lv : xLV} {st : List Value} {S : xS} {r : xO} {x : Int32} : XL SK MT d 136 (15, lv, .int x :: st, S) r ↔ XL SK MT d 136 (16, xst1 lv 2 (.int x), st, S) r := X_pure rfl rfl rfl
theorem rX5_layNeed_16 {d : Nat} {lv : xLV} {st : List Value} {S : xS} {r : xO} : XL SK MT d 136 (16, lv, st, S) r ↔ xA (xlook lv 0) (fun x => XL SK MT d 136 (17, lv, .ref x :: st, S) r) := X_ldA rfl rfl (fun _ => rfl) rfl rfl rfl rfl
theorem rX5_layNeed_17 {d : Nat} {lv : xLV} {st : List Value} {S : xS} {r : xO} : XL SK MT d 136 (17, lv, .ref 10 :: st, S) r ↔ XL SK MT d 136 (20, lv, .ref 9 :: st, S) r := X_heap rfl rfl rfl rfl rfl
theorem rX5_layNeed_20 {d : Nat} {lv : xLV} {S : xS} {r : xO} : XL SK MT d 136 (20, lv, [.ref 9], S) r ↔ xK (XC SK MT d 1 [.ref 9] S) (fun v S => XL SK MT d 136 (23, lv, v.toList ++ [], S) r) := X_inv (n := 1) (kd := 2) (st0 := [.ref 9]) rfl (Or.inr ⟨rfl, rfl⟩) rfl (Nat.le_of_ble_eq_true rfl) (Nat.le_of_ble_eq_true rfl) (by decide) rfl
theorem rX5_layNeed_23 {d : Nat} {lv : xLV} {st : List Value} {S : xS} {r : xO} {x : Int32} : XL SK MT d 136 (23, lv, .int x :: st, S) r ↔ XL SK MT d 136 (24, xst1 lv 3 (.int x), st, S) r := X_pure rfl rfl rfl
theorem rX5_layNeed_24 {d : Nat} {lv : xLV} {st : List Value} {S : xS} {r : xO} : XL SK MT d 136 (24, lv, st, S) r ↔ xA (xlook lv 0) (fun x => XL SK MT d 136 (25, lv, .ref x :: st, S) r) := X_ldA rfl rfl (fun _ => rfl) rfl rfl rfl rfl
theorem rX5_layNeed_25 {d : Nat} {lv : xLV} {st : List Value} {S : xS} {r : xO} : XL SK MT d 136 (25, lv, .ref 10 :: st, S) r ↔ XL SK MT d 136 (28, lv, .ref 9 :: st, S) r := X_heap rfl rfl rfl rfl rfl
theorem rX5_layNeed_28 {d : Nat} {lv : xLV} {st : List Value} {S : xS} {r : xO} : XL SK MT d 136 (28, lv, st, S) r ↔ XL SK MT d 136 (30, lv, .int 65537 :: st, S) r := X_pure rfl rfl rfl
theorem rX5_layNeed_30 {d : Nat} {lv : xLV} {S : xS} {r : xO} {x1 : Int32} : XL SK MT d 136 (30, lv, [.int x1, .ref 9], S) r ↔ xK (XC SK MT d 3 [.ref 9, .int x1] S) (fun v S => XL SK MT d 136 (33, lv, v.toList ++ [], S) r) := X_inv (n := 2) (kd := 2) (st0 := [.int x1, .ref 9]) rfl (Or.inr ⟨rfl, rfl⟩) rfl (Nat.le_of_ble_eq_true rfl) (Nat.le_of_ble_eq_true rfl) (by decide) rfl
theorem rX5_layNeed_33 {d : Nat} {lv : xLV} {st : List Value} {S : xS} {r : xO} : XL SK MT d 136 (33, lv, st, S) r ↔ xA (xlook lv 0) (fun x => XL SK MT d 136 (34, lv, .ref x :: st, S) r) := X_ldA rfl rfl (fun _ => rfl) rfl rfl rfl rfl
theorem rX5_layNeed_34 {d : Nat} {lv : xLV} {st : List Value} {S : xS} {r : xO} : XL SK MT d 136 (34, lv, .ref 10 :: st, S) r ↔ XL SK MT d 136 (37, lv, .ref 9 :: st, S) r := X_heap rfl rfl rfl rfl rfl
theorem rX5_layNeed_37 {d : Nat} {lv : xLV} {st : List Value} {S : xS} {r : xO} : XL SK MT d 136 (37, lv, st, S) r ↔ XL SK MT d 136 (39, lv, .int 35 :: st, S) r := X_pure rfl rfl rfl
theorem rX5_layNeed_39 {d : Nat} {lv : xLV} {st : List Value} {S : xS} {r : xO} : XL SK MT d 136 (39, lv, st, S) r ↔ XL SK MT d 136 (41, lv, .int 8 :: st, S) r := X_pure rfl rfl rfl
theorem rX5_layNeed_41 {d : Nat} {lv : xLV} {st : List Value} {S : xS} {r : xO} : XL SK MT d 136 (41, lv, st, S) r ↔ XL SK MT d 136 (43, lv, .int 19 :: st, S) r := X_pure rfl rfl rfl
theorem rX5_layNeed_43 {d : Nat} {lv : xLV} {st : List Value} {S : xS} {r : xO} : XL SK MT d 136 (43, lv, st, S) r ↔ XL SK MT d 136 (45, lv, .int 18 :: st, S) r := X_pure rfl rfl rfl
theorem rX5_layNeed_45 {d : Nat} {lv : xLV} {S : xS} {r : xO} {x1 : Int32} {x2 : Int32} {x3 : Int32} {x4 : Int32} : XL SK MT d 136 (45, lv, [.int x4, .int x3, .int x2, .int x1, .ref 9], S) r ↔ xK (XC SK MT d 15 [.ref 9, .int x1, .int x2, .int x3, .int x4] S) (fun v S => XL SK MT d 136 (48, lv, v.toList ++ [], S) r) := X_inv (n := 5) (kd := 2) (st0 := [.int x4, .int x3, .int x2, .int x1, .ref 9]) rfl (Or.inr ⟨rfl, rfl⟩) rfl (Nat.le_of_ble_eq_true rfl) (Nat.le_of_ble_eq_true rfl) (by decide) rfl
theorem rX5_layNeed_48 {d : Nat} {lv : xLV} {st : List Value} {S : xS} {r : xO} : XL SK MT d 136 (48, lv, st, S) r ↔ xA (xlook lv 0) (fun x => XL SK MT d 136 (49, lv, .ref x :: st, S) r) := X_ldA rfl rfl (fun _ => rfl) rfl rfl rfl rfl
theorem rX5_layNeed_49 {d : Nat} {lv : xLV} {st : List Value} {S : xS} {r : xO} : XL SK MT d 136 (49, lv, .ref 10 :: st, S) r ↔ XL SK MT d 136 (52, lv, .ref 9 :: st, S) r := X_heap rfl rfl rfl rfl rfl
theorem rX5_layNeed_52 {d : Nat} {lv : xLV} {st : List Value} {S : xS} {r : xO} : XL SK MT d 136 (52, lv, st, S) r ↔ XL SK MT d 136 (54, lv, .int 43 :: st, S) r := X_pure rfl rfl rfl
theorem rX5_layNeed_54 {d : Nat} {lv : xLV} {st : List Value} {S : xS} {r : xO} : XL SK MT d 136 (54, lv, st, S) r ↔ XL SK MT d 136 (56, lv, .int 8 :: st, S) r := X_pure rfl rfl rfl
theorem rX5_layNeed_56 {d : Nat} {lv : xLV} {st : List Value} {S : xS} {r : xO} : XL SK MT d 136 (56, lv, st, S) r ↔ XL SK MT d 136 (58, lv, .int 8 :: st, S) r := X_pure rfl rfl rfl
theorem rX5_layNeed_58 {d : Nat} {lv : xLV} {st : List Value} {S : xS} {r : xO} : XL SK MT d 136 (58, lv, st, S) r ↔ XL SK MT d 136 (59, lv, .int 4 :: st, S) r := X_pure rfl rfl rfl
theorem rX5_layNeed_59 {d : Nat} {lv : xLV} {S : xS} {r : xO} {x1 : Int32} {x2 : Int32} {x3 : Int32} {x4 : Int32} : XL SK MT d 136 (59, lv, [.int x4, .int x3, .int x2, .int x1, .ref 9], S) r ↔ xK (XC SK MT d 15 [.ref 9, .int x1, .int x2, .int x3, .int x4] S) (fun v S => XL SK MT d 136 (62, lv, v.toList ++ [], S) r) := X_inv (n := 5) (kd := 2) (st0 := [.int x4, .int x3, .int x2, .int x1, .ref 9]) rfl (Or.inr ⟨rfl, rfl⟩) rfl (Nat.le_of_ble_eq_true rfl) (Nat.le_of_ble_eq_true rfl) (by decide) rfl
theorem rX5_layNeed_62 {d : Nat} {lv : xLV} {st : List Value} {S : xS} {r : xO} : XL SK MT d 136 (62, lv, st, S) r ↔ xA (xlook lv 0) (fun x => XL SK MT d 136 (63, lv, .ref x :: st, S) r) := X_ldA rfl rfl (fun _ => rfl) rfl rfl rfl rfl
theorem rX5_layNeed_63 {d : Nat} {lv : xLV} {st : List Value} {S : xS} {r : xO} : XL SK MT d 136 (63, lv, .ref 10 :: st, S) r ↔ XL SK MT d 136 (66, lv, .ref 9 :: st, S) r := X_heap rfl rfl rfl rfl rfl
theorem rX5_layNeed_66 {d : Nat} {lv : xLV} {st : List Value} {S : xS} {r : xO} : XL SK MT d 136 (66, lv, st, S) r ↔ XL SK MT d 136 (67, lv, .int 4 :: st, S) r := X_pure rfl rfl rfl
theorem rX5_layNeed_67 {d : Nat} {lv : xLV} {st : List Value} {S : xS} {r : xO} : XL SK MT d 136 (67, lv, st, S) r ↔ XL SK MT d 136 (69, lv, .int 8 :: st, S) r := X_pure rfl rfl rfl
theorem rX5_layNeed_69 {d : Nat} {lv : xLV} {st : List Value} {S : xS} {r : xO} : XL SK MT d 136 (69, lv, st, S) r ↔ XL SK MT d 136 (70, lv, .int 0 :: st, S) r := X_pure rfl rfl rfl
theorem rX5_layNeed_70 {d : Nat} {lv : xLV} {st : List Value} {S : xS} {r : xO} : XL SK MT d 136 (70, lv, st, S) r ↔ xI (xlook lv 1) (fun x => XL SK MT d 136 (71, lv, .int x :: st, S) r) := X_ldI rfl rfl (fun _ => rfl) rfl rfl rfl rfl
theorem rX5_layNeed_71 {d : Nat} {lv : xLV} {S : xS} {r : xO} {x1 : Int32} {x2 : Int32} {x3 : Int32} {x4 : Int32} : XL SK MT d 136 (71, lv, [.int x4, .int x3, .int x2, .int x1, .ref 9], S) r ↔ xK (XC SK MT d 24 [.ref 9, .int x1, .int x2, .int x3, .int x4] S) (fun v S => XL SK MT d 136 (74, lv, v.toList ++ [], S) r) := X_inv (n := 5) (kd := 2) (st0 := [.int x4, .int x3, .int x2, .int x1, .ref 9]) rfl (Or.inr ⟨rfl, rfl⟩) rfl (Nat.le_of_ble_eq_true rfl) (Nat.le_of_ble_eq_true rfl) (by decide) rfl
theorem rX5_layNeed_74 {d : Nat} {lv : xLV} {st : List Value} {S : xS} {r : xO} : XL SK MT d 136 (74, lv, st, S) r ↔ xA (xlook lv 0) (fun x => XL SK MT d 136 (75, lv, .ref x :: st, S) r) := X_ldA rfl rfl (fun _ => rfl) rfl rfl rfl rfl
theorem rX5_layNeed_75 {d : Nat} {lv : xLV} {st : List Value} {S : xS} {r : xO} : XL SK MT d 136 (75, lv, .ref 10 :: st, S) r ↔ XL SK MT d 136 (78, lv, .ref 9 :: st, S) r := X_heap rfl rfl rfl rfl rfl
theorem rX5_layNeed_78 {d : Nat} {lv : xLV} {st : List Value} {S : xS} {r : xO} : XL SK MT d 136 (78, lv, st, S) r ↔ XL SK MT d 136 (79, lv, .int 5 :: st, S) r := X_pure rfl rfl rfl
theorem rX5_layNeed_79 {d : Nat} {lv : xLV} {st : List Value} {S : xS} {r : xO} : XL SK MT d 136 (79, lv, st, S) r ↔ XL SK MT d 136 (81, lv, .int 20 :: st, S) r := X_pure rfl rfl rfl
theorem rX5_layNeed_81 {d : Nat} {lv : xLV} {st : List Value} {S : xS} {r : xO} : XL SK MT d 136 (81, lv, st, S) r ↔ XL SK MT d 136 (82, lv, .int 0 :: st, S) r := X_pure rfl rfl rfl
theorem rX5_layNeed_82 {d : Nat} {lv : xLV} {st : List Value} {S : xS} {r : xO} : XL SK MT d 136 (82, lv, st, S) r ↔ xI (xlook lv 3) (fun x => XL SK MT d 136 (83, lv, .int x :: st, S) r) := X_ldI rfl rfl (fun _ => rfl) rfl rfl rfl rfl
theorem rX5_layNeed_83 {d : Nat} {lv : xLV} {S : xS} {r : xO} {x1 : Int32} {x2 : Int32} {x3 : Int32} {x4 : Int32} : XL SK MT d 136 (83, lv, [.int x4, .int x3, .int x2, .int x1, .ref 9], S) r ↔ xK (XC SK MT d 24 [.ref 9, .int x1, .int x2, .int x3, .int x4] S) (fun v S => XL SK MT d 136 (86, lv, v.toList ++ [], S) r) := X_inv (n := 5) (kd := 2) (st0 := [.int x4, .int x3, .int x2, .int x1, .ref 9]) rfl (Or.inr ⟨rfl, rfl⟩) rfl (Nat.le_of_ble_eq_true rfl) (Nat.le_of_ble_eq_true rfl) (by decide) rfl
theorem rX5_layNeed_86 {d : Nat} {lv : xLV} {st : List Value} {S : xS} {r : xO} : XL SK MT d 136 (86, lv, st, S) r ↔ xA (xlook lv 0) (fun x => XL SK MT d 136 (87, lv, .ref x :: st, S) r) := X_ldA rfl rfl (fun _ => rfl) rfl rfl rfl rfl
theorem rX5_layNeed_87 {d : Nat} {lv : xLV} {st : List Value} {S : xS} {r : xO} : XL SK MT d 136 (87, lv, .ref 10 :: st, S) r ↔ XL SK MT d 136 (90, lv, .ref 9 :: st, S) r := X_heap rfl rfl rfl rfl rfl
theorem rX5_layNeed_90 {d : Nat} {lv : xLV} {st : List Value} {S : xS} {r : xO} : XL SK MT d 136 (90, lv, st, S) r ↔ XL SK MT d 136 (92, lv, .int 65560 :: st, S) r := X_pure rfl rfl rfl
theorem rX5_layNeed_92 {d : Nat} {lv : xLV} {S : xS} {r : xO} {x1 : Int32} : XL SK MT d 136 (92, lv, [.int x1, .ref 9], S) r ↔ xK (XC SK MT d 27 [.ref 9, .int x1] S) (fun v S => XL SK MT d 136 (95, lv, v.toList ++ [], S) r) := X_inv (n := 2) (kd := 2) (st0 := [.int x1, .ref 9]) rfl (Or.inr ⟨rfl, rfl⟩) rfl (Nat.le_of_ble_eq_true rfl) (Nat.le_of_ble_eq_true rfl) (by decide) rfl
theorem rX5_layNeed_95 {d : Nat} {lv : xLV} {st : List Value} {S : xS} {r : xO} : XL SK MT d 136 (95, lv, st, S) r ↔ xA (xlook lv 0) (fun x => XL SK MT d 136 (96, lv, .ref x :: st, S) r) := X_ldA rfl rfl (fun _ => rfl) rfl rfl rfl rfl
theorem rX5_layNeed_96 {d : Nat} {lv : xLV} {st : List Value} {S : xS} {r : xO} : XL SK MT d 136 (96, lv, .ref 10 :: st, S) r ↔ XL SK MT d 136 (99, lv, .ref 9 :: st, S) r := X_heap rfl rfl rfl rfl rfl
theorem rX5_layNeed_99 {d : Nat} {lv : xLV} {st : List Value} {S : xS} {r : xO} : XL SK MT d 136 (99, lv, st, S) r ↔ xI (xlook lv 3) (fun x => XL SK MT d 136 (100, lv, .int x :: st, S) r) := X_ldI rfl rfl (fun _ => rfl) rfl rfl rfl rfl
theorem rX5_layNeed_100 {d : Nat} {lv : xLV} {S : xS} {r : xO} {x1 : Int32} : XL SK MT d 136 (100, lv, [.int x1, .ref 9], S) r ↔ xK (XC SK MT d 3 [.ref 9, .int x1] S) (fun v S => XL SK MT d 136 (103, lv, v.toList ++ [], S) r) := X_inv (n := 2) (kd := 2) (st0 := [.int x1, .ref 9]) rfl (Or.inr ⟨rfl, rfl⟩) rfl (Nat.le_of_ble_eq_true rfl) (Nat.le_of_ble_eq_true rfl) (by decide) rfl
theorem rX5_layNeed_103 {d : Nat} {lv : xLV} {st : List Value} {S : xS} {r : xO} : XL SK MT d 136 (103, lv, st, S) r ↔ xA (xlook lv 0) (fun x => XL SK MT d 136 (104, lv, .ref x :: st, S) r) := X_ldA rfl rfl (fun _ => rfl) rfl rfl rfl rfl
theorem rX5_layNeed_104 {d : Nat} {lv : xLV} {st : List Value} {S : xS} {r : xO} : XL SK MT d 136 (104, lv, .ref 10 :: st, S) r ↔ XL SK MT d 136 (107, lv, .ref 9 :: st, S) r := X_heap rfl rfl rfl rfl rfl
theorem rX5_layNeed_107 {d : Nat} {lv : xLV} {st : List Value} {S : xS} {r : xO} : XL SK MT d 136 (107, lv, st, S) r ↔ XL SK MT d 136 (109, lv, .int 9 :: st, S) r := X_pure rfl rfl rfl
theorem rX5_layNeed_109 {d : Nat} {lv : xLV} {st : List Value} {S : xS} {r : xO} : XL SK MT d 136 (109, lv, st, S) r ↔ XL SK MT d 136 (112, lv, .int 1100 :: st, S) r := X_pure rfl rfl rfl
theorem rX5_layNeed_112 {d : Nat} {lv : xLV} {st : List Value} {S : xS} {r : xO} : XL SK MT d 136 (112, lv, st, S) r ↔ XL SK MT d 136 (113, lv, .int 0 :: st, S) r := X_pure rfl rfl rfl
theorem rX5_layNeed_113 {d : Nat} {lv : xLV} {S : xS} {r : xO} {x1 : Int32} {x2 : Int32} {x3 : Int32} : XL SK MT d 136 (113, lv, [.int x3, .int x2, .int x1, .ref 9], S) r ↔ xK (XC SK MT d 18 [.ref 9, .int x1, .int x2, .int x3] S) (fun v S => XL SK MT d 136 (116, lv, v.toList ++ [], S) r) := X_inv (n := 4) (kd := 2) (st0 := [.int x3, .int x2, .int x1, .ref 9]) rfl (Or.inr ⟨rfl, rfl⟩) rfl (Nat.le_of_ble_eq_true rfl) (Nat.le_of_ble_eq_true rfl) (by decide) rfl
theorem rX5_layNeed_116 {d : Nat} {lv : xLV} {st : List Value} {S : xS} {r : xO} : XL SK MT d 136 (116, lv, st, S) r ↔ xA (xlook lv 0) (fun x => XL SK MT d 136 (117, lv, .ref x :: st, S) r) := X_ldA rfl rfl (fun _ => rfl) rfl rfl rfl rfl
theorem rX5_layNeed_117 {d : Nat} {lv : xLV} {st : List Value} {S : xS} {r : xO} : XL SK MT d 136 (117, lv, .ref 10 :: st, S) r ↔ XL SK MT d 136 (120, lv, .ref 9 :: st, S) r := X_heap rfl rfl rfl rfl rfl
theorem rX5_layNeed_120 {d : Nat} {lv : xLV} {st : List Value} {S : xS} {r : xO} : XL SK MT d 136 (120, lv, st, S) r ↔ XL SK MT d 136 (122, lv, .int 20 :: st, S) r := X_pure rfl rfl rfl
theorem rX5_layNeed_122 {d : Nat} {lv : xLV} {st : List Value} {S : xS} {r : xO} : XL SK MT d 136 (122, lv, st, S) r ↔ XL SK MT d 136 (124, lv, .int 20 :: st, S) r := X_pure rfl rfl rfl
theorem rX5_layNeed_124 {d : Nat} {lv : xLV} {st : List Value} {S : xS} {r : xO} : XL SK MT d 136 (124, lv, st, S) r ↔ XL SK MT d 136 (125, lv, .int (-1) :: st, S) r := X_pure rfl rfl rfl
theorem rX5_layNeed_125 {d : Nat} {lv : xLV} {S : xS} {r : xO} {x1 : Int32} {x2 : Int32} {x3 : Int32} : XL SK MT d 136 (125, lv, [.int x3, .int x2, .int x1, .ref 9], S) r ↔ xK (XC SK MT d 20 [.ref 9, .int x1, .int x2, .int x3] S) (fun v S => XL SK MT d 136 (128, lv, v.toList ++ [], S) r) := X_inv (n := 4) (kd := 2) (st0 := [.int x3, .int x2, .int x1, .ref 9]) rfl (Or.inr ⟨rfl, rfl⟩) rfl (Nat.le_of_ble_eq_true rfl) (Nat.le_of_ble_eq_true rfl) (by decide) rfl
theorem rX5_layNeed_128 {d : Nat} {lv : xLV} {st : List Value} {S : xS} {r : xO} : XL SK MT d 136 (128, lv, st, S) r ↔ xA (xlook lv 0) (fun x => XL SK MT d 136 (129, lv, .ref x :: st, S) r) := X_ldA rfl rfl (fun _ => rfl) rfl rfl rfl rfl
theorem rX5_layNeed_129 {d : Nat} {lv : xLV} {st : List Value} {S : xS} {r : xO} : XL SK MT d 136 (129, lv, .ref 10 :: st, S) r ↔ XL SK MT d 136 (132, lv, .ref 9 :: st, S) r := X_heap rfl rfl rfl rfl rfl
theorem rX5_layNeed_132 {d : Nat} {lv : xLV} {st : List Value} {S : xS} {r : xO} : XL SK MT d 136 (132, lv, st, S) r ↔ XL SK MT d 136 (134, lv, .int 9 :: st, S) r := X_pure rfl rfl rfl
theorem rX5_layNeed_134 {d : Nat} {lv : xLV} {st : List Value} {S : xS} {r : xO} : XL SK MT d 136 (134, lv, st, S) r ↔ XL SK MT d 136 (136, lv, .int 9 :: st, S) r := X_pure rfl rfl rfl
theorem rX5_layNeed_136 {d : Nat} {lv : xLV} {st : List Value} {S : xS} {r : xO} : XL SK MT d 136 (136, lv, st, S) r ↔ XL SK MT d 136 (137, lv, .int 1 :: st, S) r := X_pure rfl rfl rfl
theorem rX5_layNeed_137 {d : Nat} {lv : xLV} {S : xS} {r : xO} {x1 : Int32} {x2 : Int32} {x3 : Int32} : XL SK MT d 136 (137, lv, [.int x3, .int x2, .int x1, .ref 9], S) r ↔ xK (XC SK MT d 20 [.ref 9, .int x1, .int x2, .int x3] S) (fun v S => XL SK MT d 136 (140, lv, v.toList ++ [], S) r) := X_inv (n := 4) (kd := 2) (st0 := [.int x3, .int x2, .int x1, .ref 9]) rfl (Or.inr ⟨rfl, rfl⟩) rfl (Nat.le_of_ble_eq_true rfl) (Nat.le_of_ble_eq_true rfl) (by decide) rfl
theorem rX5_layNeed_140 {d : Nat} {lv : xLV} {st : List Value} {S : xS} {r : xO} : XL SK MT d 136 (140, lv, st, S) r ↔ xA (xlook lv 0) (fun x => XL SK MT d 136 (141, lv, .ref x :: st, S) r) := X_ldA rfl rfl (fun _ => rfl) rfl rfl rfl rfl
theorem rX5_layNeed_141 {d : Nat} {lv : xLV} {st : List Value} {S : xS} {r : xO} : XL SK MT d 136 (141, lv, .ref 10 :: st, S) r ↔ XL SK MT d 136 (144, lv, .ref 9 :: st, S) r := X_heap rfl rfl rfl rfl rfl
theorem rX5_layNeed_144 {d : Nat} {lv : xLV} {st : List Value} {S : xS} {r : xO} : XL SK MT d 136 (144, lv, st, S) r ↔ XL SK MT d 136 (146, lv, .int 9 :: st, S) r := X_pure rfl rfl rfl
theorem rX5_layNeed_146 {d : Nat} {lv : xLV} {st : List Value} {S : xS} {r : xO} : XL SK MT d 136 (146, lv, st, S) r ↔ XL SK MT d 136 (149, lv, .int 1100 :: st, S) r := X_pure rfl rfl rfl
theorem rX5_layNeed_149 {d : Nat} {lv : xLV} {st : List Value} {S : xS} {r : xO} : XL SK MT d 136 (149, lv, st, S) r ↔ XL SK MT d 136 (150, lv, .int 0 :: st, S) r := X_pure rfl rfl rfl
theorem rX5_layNeed_150 {d : Nat} {lv : xLV} {S : xS} {r : xO} {x1 : Int32} {x2 : Int32} {x3 : Int32} : XL SK MT d 136 (150, lv, [.int x3, .int x2, .int x1, .ref 9], S) r ↔ xK (XC SK MT d 19 [.ref 9, .int x1, .int x2, .int x3] S) (fun v S => XL SK MT d 136 (153, lv, v.toList ++ [], S) r) := X_inv (n := 4) (kd := 2) (st0 := [.int x3, .int x2, .int x1, .ref 9]) rfl (Or.inr ⟨rfl, rfl⟩) rfl (Nat.le_of_ble_eq_true rfl) (Nat.le_of_ble_eq_true rfl) (by decide) rfl
theorem rX5_layNeed_153 {d : Nat} {lv : xLV} {st : List Value} {S : xS} {r : xO} : XL SK MT d 136 (153, lv, st, S) r ↔ xA (xlook lv 0) (fun x => XL SK MT d 136 (154, lv, .ref x :: st, S) r) := X_ldA rfl rfl (fun _ => rfl) rfl rfl rfl rfl
theorem rX5_layNeed_154 {d : Nat} {lv : xLV} {st : List Value} {S : xS} {r : xO} : XL SK MT d 136 (154, lv, .ref 10 :: st, S) r ↔ XL SK MT d 136 (157, lv, .ref 9 :: st, S) r := X_heap rfl rfl rfl rfl rfl
theorem rX5_layNeed_157 {d : Nat} {lv : xLV} {st : List Value} {S : xS} {r : xO} : XL SK MT d 136 (157, lv, st, S) r ↔ XL SK MT d 136 (159, lv, .int 27 :: st, S) r := X_pure rfl rfl rfl
theorem rX5_layNeed_159 {d : Nat} {lv : xLV} {st : List Value} {S : xS} {r : xO} : XL SK MT d 136 (159, lv, st, S) r ↔ XL SK MT d 136 (161, lv, .int 31 :: st, S) r := X_pure rfl rfl rfl
theorem rX5_layNeed_161 {d : Nat} {lv : xLV} {S : xS} {r : xO} {x1 : Int32} {x2 : Int32} : XL SK MT d 136 (161, lv, [.int x2, .int x1, .ref 9], S) r ↔ xK (XC SK MT d 21 [.ref 9, .int x1, .int x2] S) (fun v S => XL SK MT d 136 (164, lv, v.toList ++ [], S) r) := X_inv (n := 3) (kd := 2) (st0 := [.int x2, .int x1, .ref 9]) rfl (Or.inr ⟨rfl, rfl⟩) rfl (Nat.le_of_ble_eq_true rfl) (Nat.le_of_ble_eq_true rfl) (by decide) rfl
theorem rX5_layNeed_164 {d : Nat} {lv : xLV} {st : List Value} {S : xS} {r : xO} : XL SK MT d 136 (164, lv, st, S) r ↔ xA (xlook lv 0) (fun x => XL SK MT d 136 (165, lv, .ref x :: st, S) r) := X_ldA rfl rfl (fun _ => rfl) rfl rfl rfl rfl
theorem rX5_layNeed_165 {d : Nat} {lv : xLV} {st : List Value} {S : xS} {r : xO} : XL SK MT d 136 (165, lv, .ref 10 :: st, S) r ↔ XL SK MT d 136 (168, lv, .ref 9 :: st, S) r := X_heap rfl rfl rfl rfl rfl
theorem rX5_layNeed_168 {d : Nat} {lv : xLV} {st : List Value} {S : xS} {r : xO} : XL SK MT d 136 (168, lv, st, S) r ↔ XL SK MT d 136 (170, lv, .int 65539 :: st, S) r := X_pure rfl rfl rfl
theorem rX5_layNeed_170 {d : Nat} {lv : xLV} {S : xS} {r : xO} {x1 : Int32} : XL SK MT d 136 (170, lv, [.int x1, .ref 9], S) r ↔ xK (XC SK MT d 28 [.ref 9, .int x1] S) (fun v S => XL SK MT d 136 (173, lv, v.toList ++ [], S) r) := X_inv (n := 2) (kd := 2) (st0 := [.int x1, .ref 9]) rfl (Or.inr ⟨rfl, rfl⟩) rfl (Nat.le_of_ble_eq_true rfl) (Nat.le_of_ble_eq_true rfl) (by decide) rfl
theorem rX5_layNeed_173 {d : Nat} {lv : xLV} {st : List Value} {S : xS} {r : xO} : XL SK MT d 136 (173, lv, st, S) r ↔ xA (xlook lv 0) (fun x => XL SK MT d 136 (174, lv, .ref x :: st, S) r) := X_ldA rfl rfl (fun _ => rfl) rfl rfl rfl rfl
theorem rX5_layNeed_174 {d : Nat} {lv : xLV} {st : List Value} {S : xS} {r : xO} : XL SK MT d 136 (174, lv, .ref 10 :: st, S) r ↔ XL SK MT d 136 (177, lv, .ref 9 :: st, S) r := X_heap rfl rfl rfl rfl rfl
theorem rX5_layNeed_177 {d : Nat} {lv : xLV} {st : List Value} {S : xS} {r : xO} : XL SK MT d 136 (177, lv, st, S) r ↔ XL SK MT d 136 (179, lv, .int 31 :: st, S) r := X_pure rfl rfl rfl
theorem rX5_layNeed_179 {d : Nat} {lv : xLV} {st : List Value} {S : xS} {r : xO} : XL SK MT d 136 (179, lv, st, S) r ↔ XL SK MT d 136 (181, lv, .int 27 :: st, S) r := X_pure rfl rfl rfl
theorem rX5_layNeed_181 {d : Nat} {lv : xLV} {S : xS} {r : xO} {x1 : Int32} {x2 : Int32} : XL SK MT d 136 (181, lv, [.int x2, .int x1, .ref 9], S) r ↔ xK (XC SK MT d 21 [.ref 9, .int x1, .int x2] S) (fun v S => XL SK MT d 136 (184, lv, v.toList ++ [], S) r) := X_inv (n := 3) (kd := 2) (st0 := [.int x2, .int x1, .ref 9]) rfl (Or.inr ⟨rfl, rfl⟩) rfl (Nat.le_of_ble_eq_true rfl) (Nat.le_of_ble_eq_true rfl) (by decide) rfl
theorem rX5_layNeed_184 {d : Nat} {lv : xLV} {st : List Value} {S : xS} {r : xO} : XL SK MT d 136 (184, lv, st, S) r ↔ xA (xlook lv 0) (fun x => XL SK MT d 136 (185, lv, .ref x :: st, S) r) := X_ldA rfl rfl (fun _ => rfl) rfl rfl rfl rfl
theorem rX5_layNeed_185 {d : Nat} {lv : xLV} {st : List Value} {S : xS} {r : xO} : XL SK MT d 136 (185, lv, .ref 10 :: st, S) r ↔ XL SK MT d 136 (188, lv, .ref 9 :: st, S) r := X_heap rfl rfl rfl rfl rfl
theorem rX5_layNeed_188 {d : Nat} {lv : xLV} {st : List Value} {S : xS} {r : xO} : XL SK MT d 136 (188, lv, st, S) r ↔ XL SK MT d 136 (190, lv, .int 35 :: st, S) r := X_pure rfl rfl rfl
theorem rX5_layNeed_190 {d : Nat} {lv : xLV} {st : List Value} {S : xS} {r : xO} : XL SK MT d 136 (190, lv, st, S) r ↔ XL SK MT d 136 (192, lv, .int 8 :: st, S) r := X_pure rfl rfl rfl
theorem rX5_layNeed_192 {d : Nat} {lv : xLV} {st : List Value} {S : xS} {r : xO} : XL SK MT d 136 (192, lv, st, S) r ↔ XL SK MT d 136 (194, lv, .int 19 :: st, S) r := X_pure rfl rfl rfl
theorem rX5_layNeed_194 {d : Nat} {lv : xLV} {st : List Value} {S : xS} {r : xO} : XL SK MT d 136 (194, lv, st, S) r ↔ XL SK MT d 136 (196, lv, .int 18 :: st, S) r := X_pure rfl rfl rfl
theorem rX5_layNeed_196 {d : Nat} {lv : xLV} {S : xS} {r : xO} {x1 : Int32} {x2 : Int32} {x3 : Int32} {x4 : Int32} : XL SK MT d 136 (196, lv, [.int x4, .int x3, .int x2, .int x1, .ref 9], S) r ↔ xK (XC SK MT d 15 [.ref 9, .int x1, .int x2, .int x3, .int x4] S) (fun v S => XL SK MT d 136 (199, lv, v.toList ++ [], S) r) := X_inv (n := 5) (kd := 2) (st0 := [.int x4, .int x3, .int x2, .int x1, .ref 9]) rfl (Or.inr ⟨rfl, rfl⟩) rfl (Nat.le_of_ble_eq_true rfl) (Nat.le_of_ble_eq_true rfl) (by decide) rfl
theorem rX5_layNeed_199 {d : Nat} {lv : xLV} {st : List Value} {S : xS} {r : xO} : XL SK MT d 136 (199, lv, st, S) r ↔ xA (xlook lv 0) (fun x => XL SK MT d 136 (200, lv, .ref x :: st, S) r) := X_ldA rfl rfl (fun _ => rfl) rfl rfl rfl rfl
theorem rX5_layNeed_200 {d : Nat} {lv : xLV} {st : List Value} {S : xS} {r : xO} : XL SK MT d 136 (200, lv, .ref 10 :: st, S) r ↔ XL SK MT d 136 (203, lv, .ref 9 :: st, S) r := X_heap rfl rfl rfl rfl rfl
theorem rX5_layNeed_203 {d : Nat} {lv : xLV} {st : List Value} {S : xS} {r : xO} : XL SK MT d 136 (203, lv, st, S) r ↔ XL SK MT d 136 (205, lv, .int 43 :: st, S) r := X_pure rfl rfl rfl
theorem rX5_layNeed_205 {d : Nat} {lv : xLV} {st : List Value} {S : xS} {r : xO} : XL SK MT d 136 (205, lv, st, S) r ↔ XL SK MT d 136 (207, lv, .int 8 :: st, S) r := X_pure rfl rfl rfl
theorem rX5_layNeed_207 {d : Nat} {lv : xLV} {st : List Value} {S : xS} {r : xO} : XL SK MT d 136 (207, lv, st, S) r ↔ XL SK MT d 136 (209, lv, .int 8 :: st, S) r := X_pure rfl rfl rfl
theorem rX5_layNeed_209 {d : Nat} {lv : xLV} {st : List Value} {S : xS} {r : xO} : XL SK MT d 136 (209, lv, st, S) r ↔ XL SK MT d 136 (210, lv, .int 4 :: st, S) r := X_pure rfl rfl rfl
theorem rX5_layNeed_210 {d : Nat} {lv : xLV} {S : xS} {r : xO} {x1 : Int32} {x2 : Int32} {x3 : Int32} {x4 : Int32} : XL SK MT d 136 (210, lv, [.int x4, .int x3, .int x2, .int x1, .ref 9], S) r ↔ xK (XC SK MT d 15 [.ref 9, .int x1, .int x2, .int x3, .int x4] S) (fun v S => XL SK MT d 136 (213, lv, v.toList ++ [], S) r) := X_inv (n := 5) (kd := 2) (st0 := [.int x4, .int x3, .int x2, .int x1, .ref 9]) rfl (Or.inr ⟨rfl, rfl⟩) rfl (Nat.le_of_ble_eq_true rfl) (Nat.le_of_ble_eq_true rfl) (by decide) rfl
theorem rX5_layNeed_213 {d : Nat} {lv : xLV} {st : List Value} {S : xS} {r : xO} : XL SK MT d 136 (213, lv, st, S) r ↔ xA (xlook lv 0) (fun x => XL SK MT d 136 (214, lv, .ref x :: st, S) r) := X_ldA rfl rfl (fun _ => rfl) rfl rfl rfl rfl
theorem rX5_layNeed_214 {d : Nat} {lv : xLV} {st : List Value} {S : xS} {r : xO} : XL SK MT d 136 (214, lv, .ref 10 :: st, S) r ↔ XL SK MT d 136 (217, lv, .ref 9 :: st, S) r := X_heap rfl rfl rfl rfl rfl
theorem rX5_layNeed_217 {d : Nat} {lv : xLV} {st : List Value} {S : xS} {r : xO} : XL SK MT d 136 (217, lv, st, S) r ↔ XL SK MT d 136 (218, lv, .int 4 :: st, S) r := X_pure rfl rfl rfl
theorem rX5_layNeed_218 {d : Nat} {lv : xLV} {st : List Value} {S : xS} {r : xO} : XL SK MT d 136 (218, lv, st, S) r ↔ XL SK MT d 136 (220, lv, .int 8 :: st, S) r := X_pure rfl rfl rfl
theorem rX5_layNeed_220 {d : Nat} {lv : xLV} {st : List Value} {S : xS} {r : xO} : XL SK MT d 136 (220, lv, st, S) r ↔ XL SK MT d 136 (221, lv, .int 0 :: st, S) r := X_pure rfl rfl rfl
theorem rX5_layNeed_221 {d : Nat} {lv : xLV} {st : List Value} {S : xS} {r : xO} : XL SK MT d 136 (221, lv, st, S) r ↔ xI (xlook lv 2) (fun x => XL SK MT d 136 (222, lv, .int x :: st, S) r) := X_ldI rfl rfl (fun _ => rfl) rfl rfl rfl rfl
theorem rX5_layNeed_222 {d : Nat} {lv : xLV} {S : xS} {r : xO} {x1 : Int32} {x2 : Int32} {x3 : Int32} {x4 : Int32} : XL SK MT d 136 (222, lv, [.int x4, .int x3, .int x2, .int x1, .ref 9], S) r ↔ xK (XC SK MT d 24 [.ref 9, .int x1, .int x2, .int x3, .int x4] S) (fun v S => XL SK MT d 136 (225, lv, v.toList ++ [], S) r) := X_inv (n := 5) (kd := 2) (st0 := [.int x4, .int x3, .int x2, .int x1, .ref 9]) rfl (Or.inr ⟨rfl, rfl⟩) rfl (Nat.le_of_ble_eq_true rfl) (Nat.le_of_ble_eq_true rfl) (by decide) rfl
theorem rX5_layNeed_225 {d : Nat} {lv : xLV} {st : List Value} {S : xS} {r : xO} : XL SK MT d 136 (225, lv, st, S) r ↔ xA (xlook lv 0) (fun x => XL SK MT d 136 (226, lv, .ref x :: st, S) r) := X_ldA rfl rfl (fun _ => rfl) rfl rfl rfl rfl
theorem rX5_layNeed_226 {d : Nat} {lv : xLV} {st : List Value} {S : xS} {r : xO} : XL SK MT d 136 (226, lv, .ref 10 :: st, S) r ↔ XL SK MT d 136 (229, lv, .ref 9 :: st, S) r := X_heap rfl rfl rfl rfl rfl
theorem rX5_layNeed_229 {d : Nat} {lv : xLV} {st : List Value} {S : xS} {r : xO} : XL SK MT d 136 (229, lv, st, S) r ↔ XL SK MT d 136 (230, lv, .int 2 :: st, S) r := X_pure rfl rfl rfl
theorem rX5_layNeed_230 {d : Nat} {lv : xLV} {st : List Value} {S : xS} {r : xO} : XL SK MT d 136 (230, lv, st, S) r ↔ XL SK MT d 136 (231, lv, .int 3 :: st, S) r := X_pure rfl rfl rfl
theorem rX5_layNeed_231 {d : Nat} {lv : xLV} {S : xS} {r : xO} {x1 : Int32} {x2 : Int32} : XL SK MT d 136 (231, lv, [.int x2, .int x1, .ref 9], S) r ↔ xK (XC SK MT d 22 [.ref 9, .int x1, .int x2] S) (fun v S => XL SK MT d 136 (234, lv, v.toList ++ [], S) r) := X_inv (n := 3) (kd := 2) (st0 := [.int x2, .int x1, .ref 9]) rfl (Or.inr ⟨rfl, rfl⟩) rfl (Nat.le_of_ble_eq_true rfl) (Nat.le_of_ble_eq_true rfl) (by decide) rfl
theorem rX5_layNeed_234 {d : Nat} {lv : xLV} {st : List Value} {S : xS} {r : xO} : XL SK MT d 136 (234, lv, st, S) r ↔ xA (xlook lv 0) (fun x => XL SK MT d 136 (235, lv, .ref x :: st, S) r) := X_ldA rfl rfl (fun _ => rfl) rfl rfl rfl rfl
theorem rX5_layNeed_235 {d : Nat} {lv : xLV} {st : List Value} {S : xS} {r : xO} : XL SK MT d 136 (235, lv, .ref 10 :: st, S) r ↔ XL SK MT d 136 (238, lv, .ref 9 :: st, S) r := X_heap rfl rfl rfl rfl rfl
theorem rX5_layNeed_238 {d : Nat} {lv : xLV} {st : List Value} {S : xS} {r : xO} : XL SK MT d 136 (238, lv, st, S) r ↔ XL SK MT d 136 (240, lv, .int 65561 :: st, S) r := X_pure rfl rfl rfl
theorem rX5_layNeed_240 {d : Nat} {lv : xLV} {S : xS} {r : xO} {x1 : Int32} : XL SK MT d 136 (240, lv, [.int x1, .ref 9], S) r ↔ xK (XC SK MT d 27 [.ref 9, .int x1] S) (fun v S => XL SK MT d 136 (243, lv, v.toList ++ [], S) r) := X_inv (n := 2) (kd := 2) (st0 := [.int x1, .ref 9]) rfl (Or.inr ⟨rfl, rfl⟩) rfl (Nat.le_of_ble_eq_true rfl) (Nat.le_of_ble_eq_true rfl) (by decide) rfl
theorem rX5_layNeed_243 {d : Nat} {lv : xLV} {st : List Value} {S : xS} {r : xO} : XL SK MT d 136 (243, lv, st, S) r ↔ xA (xlook lv 0) (fun x => XL SK MT d 136 (244, lv, .ref x :: st, S) r) := X_ldA rfl rfl (fun _ => rfl) rfl rfl rfl rfl
theorem rX5_layNeed_244 {d : Nat} {lv : xLV} {st : List Value} {S : xS} {r : xO} : XL SK MT d 136 (244, lv, .ref 10 :: st, S) r ↔ XL SK MT d 136 (247, lv, .ref 9 :: st, S) r := X_heap rfl rfl rfl rfl rfl
theorem rX5_layNeed_247 {d : Nat} {lv : xLV} {st : List Value} {S : xS} {r : xO} : XL SK MT d 136 (247, lv, st, S) r ↔ xI (xlook lv 1) (fun x => XL SK MT d 136 (248, lv, .int x :: st, S) r) := X_ldI rfl rfl (fun _ => rfl) rfl rfl rfl rfl
theorem rX5_layNeed_248 {d : Nat} {lv : xLV} {S : xS} {r : xO} {x1 : Int32} : XL SK MT d 136 (248, lv, [.int x1, .ref 9], S) r ↔ xK (XC SK MT d 3 [.ref 9, .int x1] S) (fun v S => XL SK MT d 136 (251, lv, v.toList ++ [], S) r) := X_inv (n := 2) (kd := 2) (st0 := [.int x1, .ref 9]) rfl (Or.inr ⟨rfl, rfl⟩) rfl (Nat.le_of_ble_eq_true rfl) (Nat.le_of_ble_eq_true rfl) (by decide) rfl
theorem rX5_layNeed_251 {d : Nat} {lv : xLV} {st : List Value} {S : xS} {r : xO} : XL SK MT d 136 (251, lv, st, S) r ↔ xA (xlook lv 0) (fun x => XL SK MT d 136 (252, lv, .ref x :: st, S) r) := X_ldA rfl rfl (fun _ => rfl) rfl rfl rfl rfl
theorem rX5_layNeed_252 {d : Nat} {lv : xLV} {st : List Value} {S : xS} {r : xO} : XL SK MT d 136 (252, lv, .ref 10 :: st, S) r ↔ XL SK MT d 136 (255, lv, .ref 9 :: st, S) r := X_heap rfl rfl rfl rfl rfl
theorem rX5_layNeed_255 {d : Nat} {lv : xLV} {st : List Value} {S : xS} {r : xO} : XL SK MT d 136 (255, lv, st, S) r ↔ xI (xlook lv 2) (fun x => XL SK MT d 136 (256, lv, .int x :: st, S) r) := X_ldI rfl rfl (fun _ => rfl) rfl rfl rfl rfl
theorem rX5_layNeed_256 {d : Nat} {lv : xLV} {S : xS} {r : xO} {x1 : Int32} : XL SK MT d 136 (256, lv, [.int x1, .ref 9], S) r ↔ xK (XC SK MT d 3 [.ref 9, .int x1] S) (fun v S => XL SK MT d 136 (259, lv, v.toList ++ [], S) r) := X_inv (n := 2) (kd := 2) (st0 := [.int x1, .ref 9]) rfl (Or.inr ⟨rfl, rfl⟩) rfl (Nat.le_of_ble_eq_true rfl) (Nat.le_of_ble_eq_true rfl) (by decide) rfl
theorem rX5_layNeed_259 {d : Nat} {lv : xLV} {st : List Value} {S : xS} {r : xO} : XL SK MT d 136 (259, lv, st, S) r ↔ xA (xlook lv 0) (fun x => XL SK MT d 136 (260, lv, .ref x :: st, S) r) := X_ldA rfl rfl (fun _ => rfl) rfl rfl rfl rfl
theorem rX5_layNeed_260 {d : Nat} {lv : xLV} {st : List Value} {S : xS} {r : xO} : XL SK MT d 136 (260, lv, .ref 10 :: st, S) r ↔ XL SK MT d 136 (263, lv, .ref 9 :: st, S) r := X_heap rfl rfl rfl rfl rfl
theorem rX5_layNeed_263 {d : Nat} {lv : xLV} {st : List Value} {S : xS} {r : xO} : XL SK MT d 136 (263, lv, st, S) r ↔ XL SK MT d 136 (264, lv, .int 2 :: st, S) r := X_pure rfl rfl rfl
theorem rX5_layNeed_264 {d : Nat} {lv : xLV} {st : List Value} {S : xS} {r : xO} : XL SK MT d 136 (264, lv, st, S) r ↔ XL SK MT d 136 (266, lv, .int 18 :: st, S) r := X_pure rfl rfl rfl
theorem rX5_layNeed_266 {d : Nat} {lv : xLV} {S : xS} {r : xO} {x1 : Int32} {x2 : Int32} : XL SK MT d 136 (266, lv, [.int x2, .int x1, .ref 9], S) r ↔ xK (XC SK MT d 21 [.ref 9, .int x1, .int x2] S) (fun v S => XL SK MT d 136 (269, lv, v.toList ++ [], S) r) := X_inv (n := 3) (kd := 2) (st0 := [.int x2, .int x1, .ref 9]) rfl (Or.inr ⟨rfl, rfl⟩) rfl (Nat.le_of_ble_eq_true rfl) (Nat.le_of_ble_eq_true rfl) (by decide) rfl
theorem rX5_layNeed_269 {d : Nat} {lv : xLV} {st : List Value} {S : xS} {r : xO} : XL SK MT d 136 (269, lv, st, S) r ↔ xA (xlook lv 0) (fun x => XL SK MT d 136 (270, lv, .ref x :: st, S) r) := X_ldA rfl rfl (fun _ => rfl) rfl rfl rfl rfl
theorem rX5_layNeed_270 {d : Nat} {lv : xLV} {st : List Value} {S : xS} {r : xO} : XL SK MT d 136 (270, lv, .ref 10 :: st, S) r ↔ XL SK MT d 136 (273, lv, .ref 9 :: st, S) r := X_heap rfl rfl rfl rfl rfl
theorem rX5_layNeed_273 {d : Nat} {lv : xLV} {st : List Value} {S : xS} {r : xO} : XL SK MT d 136 (273, lv, st, S) r ↔ XL SK MT d 136 (275, lv, .int 33 :: st, S) r := X_pure rfl rfl rfl
theorem rX5_layNeed_275 {d : Nat} {lv : xLV} {st : List Value} {S : xS} {r : xO} : XL SK MT d 136 (275, lv, st, S) r ↔ XL SK MT d 136 (277, lv, .int 18 :: st, S) r := X_pure rfl rfl rfl
theorem rX5_layNeed_277 {d : Nat} {lv : xLV} {st : List Value} {S : xS} {r : xO} : XL SK MT d 136 (277, lv, st, S) r ↔ XL SK MT d 136 (279, lv, .int 18 :: st, S) r := X_pure rfl rfl rfl
theorem rX5_layNeed_279 {d : Nat} {lv : xLV} {st : List Value} {S : xS} {r : xO} : XL SK MT d 136 (279, lv, st, S) r ↔ XL SK MT d 136 (280, lv, .int 4 :: st, S) r := X_pure rfl rfl rfl
theorem rX5_layNeed_280 {d : Nat} {lv : xLV} {S : xS} {r : xO} {x1 : Int32} {x2 : Int32} {x3 : Int32} {x4 : Int32} : XL SK MT d 136 (280, lv, [.int x4, .int x3, .int x2, .int x1, .ref 9], S) r ↔ xK (XC SK MT d 15 [.ref 9, .int x1, .int x2, .int x3, .int x4] S) (fun v S => XL SK MT d 136 (283, lv, v.toList ++ [], S) r) := X_inv (n := 5) (kd := 2) (st0 := [.int x4, .int x3, .int x2, .int x1, .ref 9]) rfl (Or.inr ⟨rfl, rfl⟩) rfl (Nat.le_of_ble_eq_true rfl) (Nat.le_of_ble_eq_true rfl) (by decide) rfl
theorem rX5_layNeed_283 {d : Nat} {lv : xLV} {st : List Value} {S : xS} {r : xO} : XL SK MT d 136 (283, lv, st, S) r ↔ xA (xlook lv 0) (fun x => XL SK MT d 136 (284, lv, .ref x :: st, S) r) := X_ldA rfl rfl (fun _ => rfl) rfl rfl rfl rfl
theorem rX5_layNeed_284 {d : Nat} {lv : xLV} {st : List Value} {S : xS} {r : xO} : XL SK MT d 136 (284, lv, .ref 10 :: st, S) r ↔ XL SK MT d 136 (287, lv, .ref 9 :: st, S) r := X_heap rfl rfl rfl rfl rfl
theorem rX5_layNeed_287 {d : Nat} {lv : xLV} {st : List Value} {S : xS} {r : xO} : XL SK MT d 136 (287, lv, st, S) r ↔ XL SK MT d 136 (289, lv, .int 31 :: st, S) r := X_pure rfl rfl rfl
theorem rX5_layNeed_289 {d : Nat} {lv : xLV} {S : xS} {r : xO} {x1 : Int32} : XL SK MT d 136 (289, lv, [.int x1, .ref 9], S) r ↔ xK (XC SK MT d 29 [.ref 9, .int x1] S) (fun v S => XL SK MT d 136 (292, lv, v.toList ++ [], S) r) := X_inv (n := 2) (kd := 2) (st0 := [.int x1, .ref 9]) rfl (Or.inr ⟨rfl, rfl⟩) rfl (Nat.le_of_ble_eq_true rfl) (Nat.le_of_ble_eq_true rfl) (by decide) rfl
theorem rX5_layNeed_292 {d : Nat} {lv : xLV} {S : xS} {r : xO} : XL SK MT d 136 (292, lv, [], S) r ↔ (none, S) = r := X_ret rfl rfl rfl rfl rfl rfl

/-! Library: layMoved, layCollect, layNeed. -/
def pL_layMoved (a0 : PA) : PA :=
  let a1 := pLb a0
  let a2 := pLb a1
  let a3 := pLd a2 65538
  let a4 := pEm a3 (wImm 12 8 6 3)
  let a5 := pEm a4 (wMove 3 6)
  let a6 := pLp a5 (wBr 5 8 0) 65576
  let a7 := pEm a6 (wLw 14 0 6)
  let a8 := pEm a7 (wImm 12 8 14 1)
  let a9 := pLp a8 (wBr 5 8 0) 65577
  let a10 := pEm a9 (wMove 3 14)
  let a11 := pLp a10 wJ 65576
  let a12 := pLd a11 65577
  let a13 := pL_size a12 65578 65579
  let a14 := pEm a13 (wMove 3 18)
  let a15 := pEm a14 (wThree 33 12 18 13)
  let a16 := pEm a15 (wMove 11 6)
  let a17 := pLd (pLb a16) 65580
  let a18 := pEm a17 (wLw 8 0 11)
  let a19 := pEm a18 (wAdd 11 11 4)
  let a20 := pEm a19 (wSw 8 0 18)
  let a21 := pEm a20 (wAdd 18 18 4)
  let a22 := pLp a21 (wBr 5 18 12) 65580
  let a23 := pEm a22 (wSw 3 0 6)
  let a24 := pLd a23 65576
  let a25 := pLp a24 (wJr 31) (-1)
  a25
set_option maxHeartbeats 4000000 in
set_option maxRecDepth 100000 in
theorem l_layMoved {S0 S : xS} {a0 : PA} (h : AS S0 S a0) (hq : a0.own = 65576) : ∃ S', (∀ d, XC SK MT (d + 6) 138 [.ref 10] S = some (none, S')) ∧ AS S0 S' (pL_layMoved a0) := by
  obtain ⟨S1, n0, e1, z0, h1⟩ := o_label h
  have y0 : n0 = 65576 := by rw [z0]; simp only [pEm_own, pSe_own, pLp_own, pLd_own, pSt_own, pSc_own, pLb_own, pL_size_own, pL_copyWords_own, pL_step_own, pL_enterObject_own, hq] <;> rfl
  subst y0
  obtain ⟨S2, n1, e2, z1, h2⟩ := o_label h1
  have y1 : n1 = 65577 := by rw [z1]; simp only [pEm_own, pSe_own, pLp_own, pLd_own, pSt_own, pSc_own, pLb_own, pL_size_own, pL_copyWords_own, pL_step_own, pL_enterObject_own, hq] <;> rfl
  subst y1
  obtain ⟨S3, e3, h3⟩ := o_land h2 65538
  obtain ⟨S4, e4, h4⟩ := o_immediate h3 12 8 6 3
  obtain ⟨S5, e5, h5⟩ := o_move h4 3 6
  obtain ⟨S6, e6, h6⟩ := o_branch h5 5 8 0 65576
  obtain ⟨S7, e7, h7⟩ := o_lw h6 14 0 6
  obtain ⟨S8, e8, h8⟩ := o_immediate h7 12 8 14 1
  obtain ⟨S9, e9, h9⟩ := o_branch h8 5 8 0 65577
  obtain ⟨S10, e10, h10⟩ := o_move h9 3 14
  obtain ⟨S11, e11, h11⟩ := o_jump h10 65576
  obtain ⟨S12, e12, h12⟩ := o_land h11 65577
  obtain ⟨S13, e13, h13⟩ := l_size h12 (r0 := 65578) (r1 := 65579) (by simp only [pEm_own, pSe_own, pLp_own, pLd_own, pSt_own, pSc_own, pLb_own, pL_size_own, pL_copyWords_own, pL_step_own, pL_enterObject_own, hq] <;> rfl) (by simp only [pEm_own, pSe_own, pLp_own, pLd_own, pSt_own, pSc_own, pLb_own, pL_size_own, pL_copyWords_own, pL_step_own, pL_enterObject_own, hq] <;> rfl)
  obtain ⟨S14, e14, h14⟩ := o_move h13 3 18
  obtain ⟨S15, e15, h15⟩ := o_three h14 33 12 18 13
  obtain ⟨S16, e16, h16⟩ := o_move h15 11 6
  obtain ⟨S17, n2, e17, z2, h17⟩ := o_labelHere h16
  rw [← z2] at h17
  have y2 : n2 = 65580 := by rw [z2]; simp only [pEm_own, pSe_own, pLp_own, pLd_own, pSt_own, pSc_own, pLb_own, pL_size_own, pL_copyWords_own, pL_step_own, pL_enterObject_own, hq] <;> rfl
  subst y2
  obtain ⟨S18, e18, h18⟩ := o_lw h17 8 0 11
  obtain ⟨S19, e19, h19⟩ := o_add h18 11 11 4
  obtain ⟨S20, e20, h20⟩ := o_sw h19 8 0 18
  obtain ⟨S21, e21, h21⟩ := o_add h20 18 18 4
  obtain ⟨S22, e22, h22⟩ := o_branch h21 5 18 12 65580
  obtain ⟨S23, e23, h23⟩ := o_sw h22 3 0 6
  obtain ⟨S24, e24, h24⟩ := o_land h23 65576
  obtain ⟨S25, e25, h25⟩ := o_back h24 31
  refine ⟨S25, fun d => ?_, ?_⟩
  · rw [XC_iff]
    refine ⟨Nat.le_of_ble_eq_true rfl, ?_⟩
    show XL SK MT (d + 5) 138 (0, [some (.ref 10), none, none, none], [], S) _
    simp (config := { decide := true }) only [rX5_layMoved_0, rX5_layMoved_1, rX5_layMoved_4, rX5_layMoved_7, rX5_layMoved_8, rX5_layMoved_9, rX5_layMoved_12, rX5_layMoved_15, rX5_layMoved_16, rX5_layMoved_17, rX5_layMoved_20, rX5_layMoved_22, rX5_layMoved_25, rX5_layMoved_26, rX5_layMoved_29, rX5_layMoved_31, rX5_layMoved_33, rX5_layMoved_35, rX5_layMoved_36, rX5_layMoved_39, rX5_layMoved_40, rX5_layMoved_43, rX5_layMoved_44, rX5_layMoved_46, rX5_layMoved_49, rX5_layMoved_50, rX5_layMoved_53, rX5_layMoved_54, rX5_layMoved_56, rX5_layMoved_57, rX5_layMoved_58, rX5_layMoved_61, rX5_layMoved_62, rX5_layMoved_65, rX5_layMoved_67, rX5_layMoved_68, rX5_layMoved_70, rX5_layMoved_73, rX5_layMoved_74, rX5_layMoved_77, rX5_layMoved_79, rX5_layMoved_81, rX5_layMoved_83, rX5_layMoved_84, rX5_layMoved_87, rX5_layMoved_88, rX5_layMoved_91, rX5_layMoved_92, rX5_layMoved_94, rX5_layMoved_95, rX5_layMoved_96, rX5_layMoved_99, rX5_layMoved_100, rX5_layMoved_103, rX5_layMoved_104, rX5_layMoved_106, rX5_layMoved_109, rX5_layMoved_110, rX5_layMoved_113, rX5_layMoved_114, rX5_layMoved_117, rX5_layMoved_118, rX5_layMoved_121, rX5_layMoved_122, rX5_layMoved_125, rX5_layMoved_126, rX5_layMoved_129, rX5_layMoved_130, rX5_layMoved_133, rX5_layMoved_134, rX5_layMoved_136, rX5_layMoved_139, rX5_layMoved_140, rX5_layMoved_143, rX5_layMoved_145, rX5_layMoved_147, rX5_layMoved_149, rX5_layMoved_151, rX5_layMoved_154, rX5_layMoved_155, rX5_layMoved_158, rX5_layMoved_160, rX5_layMoved_162, rX5_layMoved_165, rX5_layMoved_166, rX5_layMoved_169, rX5_layMoved_172, rX5_layMoved_173, rX5_layMoved_174, rX5_layMoved_177, rX5_layMoved_179, rX5_layMoved_180, rX5_layMoved_182, rX5_layMoved_185, rX5_layMoved_186, rX5_layMoved_189, rX5_layMoved_191, rX5_layMoved_193, rX5_layMoved_194, rX5_layMoved_197, rX5_layMoved_198, rX5_layMoved_201, rX5_layMoved_203, rX5_layMoved_204, rX5_layMoved_206, rX5_layMoved_209, rX5_layMoved_210, rX5_layMoved_213, rX5_layMoved_215, rX5_layMoved_217, rX5_layMoved_218, rX5_layMoved_221, rX5_layMoved_222, rX5_layMoved_225, rX5_layMoved_226, rX5_layMoved_228, rX5_layMoved_230, rX5_layMoved_231, rX5_layMoved_234, rX5_layMoved_235, rX5_layMoved_238, rX5_layMoved_239, rX5_layMoved_240, rX5_layMoved_242, rX5_layMoved_245, rX5_layMoved_246, rX5_layMoved_249, rX5_layMoved_250, rX5_layMoved_253, rX5_layMoved_254, rX5_layMoved_257, rX5_layMoved_259, rX5_layMoved_262, ↓reduceIte, m1_le, m1_lt, m1_eq, ofInt_m1, ex_ret, Int32.reduceAdd, Int32.reduceSub, Int32.reduceMul, Int32.reduceLT, Int32.reduceLE, xsI, Nat.reduceEqDiff, and_false, false_and, and_true, true_and, if_true, if_false, ite_true, ite_false, xlook_0, xlook_s, xI_int, xA_ref, xJ_long, xK_some, xRow_row, xTo_some, xst1, xclr, List.set_cons_zero, List.set_cons_succ, xsum_nil, xsum_int, xsum_ref, xsum_long, Option.toList_some, Option.toList_none, List.nil_append, List.cons_append, e1, e2, e3, e4, e5, e6, e7, e8, e9, e10, e11, e12, e13, e14, e15, e16, e17, e18, e19, e20, e21, e22, e23, e24, e25]
  · exact h25
def pL_layCollect (a0 : PA) : PA :=
  let a1 := pLb a0
  let a2 := pLb a1
  let a3 := pLb a2
  let a4 := pLd a3 65539
  let a5 := pEm a4 (wMove 26 31)
  let a6 := pEm a5 (wLw 8 1088 0)
  let a7 := pEm a6 (wLw 9 1092 0)
  let a8 := pEm a7 (wLw 10 1096 0)
  let a9 := pEm a8 (wSw 9 1088 0)
  let a10 := pEm a9 (wSw 8 1092 0)
  let a11 := pEm a10 (wMove 18 9)
  let a12 := pEm a11 (wThree 33 19 9 10)
  let a13 := pEm a12 (wMove 24 9)
  let a14 := pSe a13 15 22528
  let a15 := pLd (pLb a14) 65584
  let a16 := pLp a15 (wBr 4 15 16) 65581
  let a17 := pEm a16 (wLw 6 0 15)
  let a18 := pLp a17 wJal 65538
  let a19 := pEm a18 (wSw 3 0 15)
  let a20 := pEm a19 (wAdd 15 15 4)
  let a21 := pLp a20 wJ 65584
  let a22 := pLd a21 65581
  let a23 := pLp a22 (wBr 4 24 18) 65583
  let a24 := pEm a23 (wLw 14 0 24)
  let a25 := pL_size a24 65585 65586
  let a26 := pEm a25 (wThree 33 15 24 13)
  let a27 := pEm a26 (wAdd 24 24 4)
  let a28 := pEm a27 (wImm 12 8 14 7)
  let a29 := pSe a28 9 5
  let a30 := pLp a29 (wBr 5 8 9) 65582
  let a31 := pEm a30 (wMove 24 15)
  let a32 := pLp a31 wJ 65581
  let a33 := pLd a32 65582
  let a34 := pLp a33 (wBr 4 24 15) 65581
  let a35 := pEm a34 (wLw 6 0 24)
  let a36 := pLp a35 wJal 65538
  let a37 := pEm a36 (wSw 3 0 24)
  let a38 := pEm a37 (wAdd 24 24 4)
  let a39 := pLp a38 wJ 65582
  let a40 := pLd a39 65583
  let a41 := pLp a40 (wJr 26) (-1)
  a41
set_option maxHeartbeats 4000000 in
set_option maxRecDepth 100000 in
theorem l_layCollect {S0 S : xS} {a0 : PA} (h : AS S0 S a0) (hq : a0.own = 65581) : ∃ S', (∀ d, XC SK MT (d + 6) 139 [.ref 10] S = some (none, S')) ∧ AS S0 S' (pL_layCollect a0) := by
  obtain ⟨S1, n0, e1, z0, h1⟩ := o_label h
  have y0 : n0 = 65581 := by rw [z0]; simp only [pEm_own, pSe_own, pLp_own, pLd_own, pSt_own, pSc_own, pLb_own, pL_size_own, pL_copyWords_own, pL_step_own, pL_enterObject_own, hq] <;> rfl
  subst y0
  obtain ⟨S2, n1, e2, z1, h2⟩ := o_label h1
  have y1 : n1 = 65582 := by rw [z1]; simp only [pEm_own, pSe_own, pLp_own, pLd_own, pSt_own, pSc_own, pLb_own, pL_size_own, pL_copyWords_own, pL_step_own, pL_enterObject_own, hq] <;> rfl
  subst y1
  obtain ⟨S3, n2, e3, z2, h3⟩ := o_label h2
  have y2 : n2 = 65583 := by rw [z2]; simp only [pEm_own, pSe_own, pLp_own, pLd_own, pSt_own, pSc_own, pLb_own, pL_size_own, pL_copyWords_own, pL_step_own, pL_enterObject_own, hq] <;> rfl
  subst y2
  obtain ⟨S4, e4, h4⟩ := o_land h3 65539
  obtain ⟨S5, e5, h5⟩ := o_move h4 26 31
  obtain ⟨S6, e6, h6⟩ := o_lw h5 8 1088 0
  obtain ⟨S7, e7, h7⟩ := o_lw h6 9 1092 0
  obtain ⟨S8, e8, h8⟩ := o_lw h7 10 1096 0
  obtain ⟨S9, e9, h9⟩ := o_sw h8 9 1088 0
  obtain ⟨S10, e10, h10⟩ := o_sw h9 8 1092 0
  obtain ⟨S11, e11, h11⟩ := o_move h10 18 9
  obtain ⟨S12, e12, h12⟩ := o_three h11 33 19 9 10
  obtain ⟨S13, e13, h13⟩ := o_move h12 24 9
  obtain ⟨S14, e14, h14⟩ := o_set h13 15 22528
  obtain ⟨S15, n3, e15, z3, h15⟩ := o_labelHere h14
  rw [← z3] at h15
  have y3 : n3 = 65584 := by rw [z3]; simp only [pEm_own, pSe_own, pLp_own, pLd_own, pSt_own, pSc_own, pLb_own, pL_size_own, pL_copyWords_own, pL_step_own, pL_enterObject_own, hq] <;> rfl
  subst y3
  obtain ⟨S16, e16, h16⟩ := o_branch h15 4 15 16 65581
  obtain ⟨S17, e17, h17⟩ := o_lw h16 6 0 15
  obtain ⟨S18, e18, h18⟩ := o_jumpAndLink h17 65538
  obtain ⟨S19, e19, h19⟩ := o_sw h18 3 0 15
  obtain ⟨S20, e20, h20⟩ := o_add h19 15 15 4
  obtain ⟨S21, e21, h21⟩ := o_jump h20 65584
  obtain ⟨S22, e22, h22⟩ := o_land h21 65581
  obtain ⟨S23, e23, h23⟩ := o_branch h22 4 24 18 65583
  obtain ⟨S24, e24, h24⟩ := o_lw h23 14 0 24
  obtain ⟨S25, e25, h25⟩ := l_size h24 (r0 := 65585) (r1 := 65586) (by simp only [pEm_own, pSe_own, pLp_own, pLd_own, pSt_own, pSc_own, pLb_own, pL_size_own, pL_copyWords_own, pL_step_own, pL_enterObject_own, hq] <;> rfl) (by simp only [pEm_own, pSe_own, pLp_own, pLd_own, pSt_own, pSc_own, pLb_own, pL_size_own, pL_copyWords_own, pL_step_own, pL_enterObject_own, hq] <;> rfl)
  obtain ⟨S26, e26, h26⟩ := o_three h25 33 15 24 13
  obtain ⟨S27, e27, h27⟩ := o_add h26 24 24 4
  obtain ⟨S28, e28, h28⟩ := o_immediate h27 12 8 14 7
  obtain ⟨S29, e29, h29⟩ := o_set h28 9 5
  obtain ⟨S30, e30, h30⟩ := o_branch h29 5 8 9 65582
  obtain ⟨S31, e31, h31⟩ := o_move h30 24 15
  obtain ⟨S32, e32, h32⟩ := o_jump h31 65581
  obtain ⟨S33, e33, h33⟩ := o_land h32 65582
  obtain ⟨S34, e34, h34⟩ := o_branch h33 4 24 15 65581
  obtain ⟨S35, e35, h35⟩ := o_lw h34 6 0 24
  obtain ⟨S36, e36, h36⟩ := o_jumpAndLink h35 65538
  obtain ⟨S37, e37, h37⟩ := o_sw h36 3 0 24
  obtain ⟨S38, e38, h38⟩ := o_add h37 24 24 4
  obtain ⟨S39, e39, h39⟩ := o_jump h38 65582
  obtain ⟨S40, e40, h40⟩ := o_land h39 65583
  obtain ⟨S41, e41, h41⟩ := o_back h40 26
  refine ⟨S41, fun d => ?_, ?_⟩
  · rw [XC_iff]
    refine ⟨Nat.le_of_ble_eq_true rfl, ?_⟩
    show XL SK MT (d + 5) 139 (0, [some (.ref 10), none, none, none, none], [], S) _
    simp (config := { decide := true }) only [rX5_layCollect_0, rX5_layCollect_1, rX5_layCollect_4, rX5_layCollect_7, rX5_layCollect_8, rX5_layCollect_9, rX5_layCollect_12, rX5_layCollect_15, rX5_layCollect_16, rX5_layCollect_17, rX5_layCollect_20, rX5_layCollect_23, rX5_layCollect_24, rX5_layCollect_25, rX5_layCollect_28, rX5_layCollect_30, rX5_layCollect_33, rX5_layCollect_34, rX5_layCollect_37, rX5_layCollect_39, rX5_layCollect_41, rX5_layCollect_44, rX5_layCollect_45, rX5_layCollect_48, rX5_layCollect_50, rX5_layCollect_53, rX5_layCollect_54, rX5_layCollect_57, rX5_layCollect_58, rX5_layCollect_61, rX5_layCollect_63, rX5_layCollect_66, rX5_layCollect_67, rX5_layCollect_70, rX5_layCollect_71, rX5_layCollect_74, rX5_layCollect_76, rX5_layCollect_79, rX5_layCollect_80, rX5_layCollect_83, rX5_layCollect_84, rX5_layCollect_87, rX5_layCollect_89, rX5_layCollect_92, rX5_layCollect_93, rX5_layCollect_96, rX5_layCollect_97, rX5_layCollect_100, rX5_layCollect_102, rX5_layCollect_105, rX5_layCollect_106, rX5_layCollect_109, rX5_layCollect_110, rX5_layCollect_113, rX5_layCollect_115, rX5_layCollect_117, rX5_layCollect_120, rX5_layCollect_121, rX5_layCollect_124, rX5_layCollect_126, rX5_layCollect_128, rX5_layCollect_130, rX5_layCollect_132, rX5_layCollect_135, rX5_layCollect_136, rX5_layCollect_139, rX5_layCollect_141, rX5_layCollect_143, rX5_layCollect_146, rX5_layCollect_147, rX5_layCollect_150, rX5_layCollect_152, rX5_layCollect_155, rX5_layCollect_158, rX5_layCollect_159, rX5_layCollect_162, rX5_layCollect_165, rX5_layCollect_167, rX5_layCollect_168, rX5_layCollect_171, rX5_layCollect_172, rX5_layCollect_174, rX5_layCollect_176, rX5_layCollect_177, rX5_layCollect_180, rX5_layCollect_181, rX5_layCollect_184, rX5_layCollect_186, rX5_layCollect_187, rX5_layCollect_189, rX5_layCollect_192, rX5_layCollect_193, rX5_layCollect_196, rX5_layCollect_198, rX5_layCollect_201, rX5_layCollect_202, rX5_layCollect_205, rX5_layCollect_206, rX5_layCollect_207, rX5_layCollect_209, rX5_layCollect_212, rX5_layCollect_213, rX5_layCollect_216, rX5_layCollect_218, rX5_layCollect_220, rX5_layCollect_221, rX5_layCollect_224, rX5_layCollect_225, rX5_layCollect_228, rX5_layCollect_230, rX5_layCollect_233, rX5_layCollect_234, rX5_layCollect_237, rX5_layCollect_238, rX5_layCollect_241, rX5_layCollect_242, rX5_layCollect_245, rX5_layCollect_246, rX5_layCollect_248, rX5_layCollect_250, rX5_layCollect_251, rX5_layCollect_254, rX5_layCollect_255, rX5_layCollect_258, rX5_layCollect_260, rX5_layCollect_261, rX5_layCollect_263, rX5_layCollect_266, rX5_layCollect_267, rX5_layCollect_270, rX5_layCollect_271, rX5_layCollect_274, rX5_layCollect_276, rX5_layCollect_278, rX5_layCollect_280, rX5_layCollect_282, rX5_layCollect_285, rX5_layCollect_286, rX5_layCollect_289, rX5_layCollect_291, rX5_layCollect_293, rX5_layCollect_294, rX5_layCollect_297, rX5_layCollect_298, rX5_layCollect_301, rX5_layCollect_303, rX5_layCollect_305, rX5_layCollect_307, rX5_layCollect_309, rX5_layCollect_312, rX5_layCollect_313, rX5_layCollect_316, rX5_layCollect_318, rX5_layCollect_319, rX5_layCollect_322, rX5_layCollect_323, rX5_layCollect_326, rX5_layCollect_327, rX5_layCollect_329, rX5_layCollect_331, rX5_layCollect_332, rX5_layCollect_335, rX5_layCollect_336, rX5_layCollect_339, rX5_layCollect_341, rX5_layCollect_343, rX5_layCollect_346, rX5_layCollect_347, rX5_layCollect_350, rX5_layCollect_351, rX5_layCollect_354, rX5_layCollect_355, rX5_layCollect_358, rX5_layCollect_359, rX5_layCollect_362, rX5_layCollect_363, rX5_layCollect_366, rX5_layCollect_367, rX5_layCollect_369, rX5_layCollect_371, rX5_layCollect_372, rX5_layCollect_375, rX5_layCollect_376, rX5_layCollect_379, rX5_layCollect_381, rX5_layCollect_382, rX5_layCollect_384, rX5_layCollect_387, rX5_layCollect_388, rX5_layCollect_391, rX5_layCollect_393, rX5_layCollect_396, rX5_layCollect_397, rX5_layCollect_400, rX5_layCollect_401, rX5_layCollect_402, rX5_layCollect_404, rX5_layCollect_407, rX5_layCollect_408, rX5_layCollect_411, rX5_layCollect_413, rX5_layCollect_415, rX5_layCollect_416, rX5_layCollect_419, rX5_layCollect_420, rX5_layCollect_423, rX5_layCollect_424, rX5_layCollect_427, rX5_layCollect_428, rX5_layCollect_431, rX5_layCollect_432, rX5_layCollect_435, rX5_layCollect_436, rX5_layCollect_439, rX5_layCollect_441, rX5_layCollect_444, ↓reduceIte, m1_le, m1_lt, m1_eq, ofInt_m1, ex_ret, Int32.reduceAdd, Int32.reduceSub, Int32.reduceMul, Int32.reduceLT, Int32.reduceLE, xsI, Nat.reduceEqDiff, and_false, false_and, and_true, true_and, if_true, if_false, ite_true, ite_false, xlook_0, xlook_s, xI_int, xA_ref, xJ_long, xK_some, xRow_row, xTo_some, xst1, xclr, List.set_cons_zero, List.set_cons_succ, xsum_nil, xsum_int, xsum_ref, xsum_long, Option.toList_some, Option.toList_none, List.nil_append, List.cons_append, e1, e2, e3, e4, e5, e6, e7, e8, e9, e10, e11, e12, e13, e14, e15, e16, e17, e18, e19, e20, e21, e22, e23, e24, e25, e26, e27, e28, e29, e30, e31, e32, e33, e34, e35, e36, e37, e38, e39, e40, e41]
  · exact h41
def pL_layNeed (a0 : PA) : PA :=
  let a1 := pLb a0
  let a2 := pLb a1
  let a3 := pLb a2
  let a4 := pLd a3 65537
  let a5 := pEm a4 (wThree 35 8 19 18)
  let a6 := pEm a5 (wThree 43 8 8 4)
  let a7 := pLp a6 (wBr 4 8 0) 65587
  let a8 := pLp a7 (wBr 5 20 0) 65589
  let a9 := pLp a8 wJ 65560
  let a10 := pLd a9 65589
  let a11 := pEm a10 (wLw 9 1100 0)
  let a12 := pEm a11 (wAdd 20 20 (-1))
  let a13 := pEm a12 (wAdd 9 9 1)
  let a14 := pEm a13 (wSw 9 1100 0)
  let a15 := pEm a14 (wMove 27 31)
  let a16 := pLp a15 wJal 65539
  let a17 := pEm a16 (wMove 31 27)
  let a18 := pEm a17 (wThree 35 8 19 18)
  let a19 := pEm a18 (wThree 43 8 8 4)
  let a20 := pLp a19 (wBr 4 8 0) 65588
  let a21 := pSe a20 2 3
  let a22 := pLp a21 wJ 65561
  let a23 := pLd a22 65587
  let a24 := pLd a23 65588
  let a25 := pEm a24 (wMove 2 18)
  let a26 := pEm a25 (wThree 33 18 18 4)
  let a27 := pLp a26 (wJr 31) (-1)
  a27
set_option maxHeartbeats 4000000 in
set_option maxRecDepth 100000 in
theorem l_layNeed {S0 S : xS} {a0 : PA} (h : AS S0 S a0) (hq : a0.own = 65587) : ∃ S', (∀ d, XC SK MT (d + 5) 136 [.ref 10] S = some (none, S')) ∧ AS S0 S' (pL_layNeed a0) := by
  obtain ⟨S1, n0, e1, z0, h1⟩ := o_label h
  have y0 : n0 = 65587 := by rw [z0]; simp only [pEm_own, pSe_own, pLp_own, pLd_own, pSt_own, pSc_own, pLb_own, pL_size_own, pL_copyWords_own, pL_step_own, pL_enterObject_own, hq] <;> rfl
  subst y0
  obtain ⟨S2, n1, e2, z1, h2⟩ := o_label h1
  have y1 : n1 = 65588 := by rw [z1]; simp only [pEm_own, pSe_own, pLp_own, pLd_own, pSt_own, pSc_own, pLb_own, pL_size_own, pL_copyWords_own, pL_step_own, pL_enterObject_own, hq] <;> rfl
  subst y1
  obtain ⟨S3, n2, e3, z2, h3⟩ := o_label h2
  have y2 : n2 = 65589 := by rw [z2]; simp only [pEm_own, pSe_own, pLp_own, pLd_own, pSt_own, pSc_own, pLb_own, pL_size_own, pL_copyWords_own, pL_step_own, pL_enterObject_own, hq] <;> rfl
  subst y2
  obtain ⟨S4, e4, h4⟩ := o_land h3 65537
  obtain ⟨S5, e5, h5⟩ := o_three h4 35 8 19 18
  obtain ⟨S6, e6, h6⟩ := o_three h5 43 8 8 4
  obtain ⟨S7, e7, h7⟩ := o_branch h6 4 8 0 65587
  obtain ⟨S8, e8, h8⟩ := o_branch h7 5 20 0 65589
  obtain ⟨S9, e9, h9⟩ := o_jump h8 65560
  obtain ⟨S10, e10, h10⟩ := o_land h9 65589
  obtain ⟨S11, e11, h11⟩ := o_lw h10 9 1100 0
  obtain ⟨S12, e12, h12⟩ := o_add h11 20 20 (-1)
  obtain ⟨S13, e13, h13⟩ := o_add h12 9 9 1
  obtain ⟨S14, e14, h14⟩ := o_sw h13 9 1100 0
  obtain ⟨S15, e15, h15⟩ := o_move h14 27 31
  obtain ⟨S16, e16, h16⟩ := o_jumpAndLink h15 65539
  obtain ⟨S17, e17, h17⟩ := o_move h16 31 27
  obtain ⟨S18, e18, h18⟩ := o_three h17 35 8 19 18
  obtain ⟨S19, e19, h19⟩ := o_three h18 43 8 8 4
  obtain ⟨S20, e20, h20⟩ := o_branch h19 4 8 0 65588
  obtain ⟨S21, e21, h21⟩ := o_set h20 2 3
  obtain ⟨S22, e22, h22⟩ := o_jump h21 65561
  obtain ⟨S23, e23, h23⟩ := o_land h22 65587
  obtain ⟨S24, e24, h24⟩ := o_land h23 65588
  obtain ⟨S25, e25, h25⟩ := o_move h24 2 18
  obtain ⟨S26, e26, h26⟩ := o_three h25 33 18 18 4
  obtain ⟨S27, e27, h27⟩ := o_back h26 31
  refine ⟨S27, fun d => ?_, ?_⟩
  · rw [XC_iff]
    refine ⟨Nat.le_of_ble_eq_true rfl, ?_⟩
    show XL SK MT (d + 4) 136 (0, [some (.ref 10), none, none, none], [], S) _
    simp (config := { decide := true }) only [rX5_layNeed_0, rX5_layNeed_1, rX5_layNeed_4, rX5_layNeed_7, rX5_layNeed_8, rX5_layNeed_9, rX5_layNeed_12, rX5_layNeed_15, rX5_layNeed_16, rX5_layNeed_17, rX5_layNeed_20, rX5_layNeed_23, rX5_layNeed_24, rX5_layNeed_25, rX5_layNeed_28, rX5_layNeed_30, rX5_layNeed_33, rX5_layNeed_34, rX5_layNeed_37, rX5_layNeed_39, rX5_layNeed_41, rX5_layNeed_43, rX5_layNeed_45, rX5_layNeed_48, rX5_layNeed_49, rX5_layNeed_52, rX5_layNeed_54, rX5_layNeed_56, rX5_layNeed_58, rX5_layNeed_59, rX5_layNeed_62, rX5_layNeed_63, rX5_layNeed_66, rX5_layNeed_67, rX5_layNeed_69, rX5_layNeed_70, rX5_layNeed_71, rX5_layNeed_74, rX5_layNeed_75, rX5_layNeed_78, rX5_layNeed_79, rX5_layNeed_81, rX5_layNeed_82, rX5_layNeed_83, rX5_layNeed_86, rX5_layNeed_87, rX5_layNeed_90, rX5_layNeed_92, rX5_layNeed_95, rX5_layNeed_96, rX5_layNeed_99, rX5_layNeed_100, rX5_layNeed_103, rX5_layNeed_104, rX5_layNeed_107, rX5_layNeed_109, rX5_layNeed_112, rX5_layNeed_113, rX5_layNeed_116, rX5_layNeed_117, rX5_layNeed_120, rX5_layNeed_122, rX5_layNeed_124, rX5_layNeed_125, rX5_layNeed_128, rX5_layNeed_129, rX5_layNeed_132, rX5_layNeed_134, rX5_layNeed_136, rX5_layNeed_137, rX5_layNeed_140, rX5_layNeed_141, rX5_layNeed_144, rX5_layNeed_146, rX5_layNeed_149, rX5_layNeed_150, rX5_layNeed_153, rX5_layNeed_154, rX5_layNeed_157, rX5_layNeed_159, rX5_layNeed_161, rX5_layNeed_164, rX5_layNeed_165, rX5_layNeed_168, rX5_layNeed_170, rX5_layNeed_173, rX5_layNeed_174, rX5_layNeed_177, rX5_layNeed_179, rX5_layNeed_181, rX5_layNeed_184, rX5_layNeed_185, rX5_layNeed_188, rX5_layNeed_190, rX5_layNeed_192, rX5_layNeed_194, rX5_layNeed_196, rX5_layNeed_199, rX5_layNeed_200, rX5_layNeed_203, rX5_layNeed_205, rX5_layNeed_207, rX5_layNeed_209, rX5_layNeed_210, rX5_layNeed_213, rX5_layNeed_214, rX5_layNeed_217, rX5_layNeed_218, rX5_layNeed_220, rX5_layNeed_221, rX5_layNeed_222, rX5_layNeed_225, rX5_layNeed_226, rX5_layNeed_229, rX5_layNeed_230, rX5_layNeed_231, rX5_layNeed_234, rX5_layNeed_235, rX5_layNeed_238, rX5_layNeed_240, rX5_layNeed_243, rX5_layNeed_244, rX5_layNeed_247, rX5_layNeed_248, rX5_layNeed_251, rX5_layNeed_252, rX5_layNeed_255, rX5_layNeed_256, rX5_layNeed_259, rX5_layNeed_260, rX5_layNeed_263, rX5_layNeed_264, rX5_layNeed_266, rX5_layNeed_269, rX5_layNeed_270, rX5_layNeed_273, rX5_layNeed_275, rX5_layNeed_277, rX5_layNeed_279, rX5_layNeed_280, rX5_layNeed_283, rX5_layNeed_284, rX5_layNeed_287, rX5_layNeed_289, rX5_layNeed_292, ↓reduceIte, m1_le, m1_lt, m1_eq, ofInt_m1, ex_ret, Int32.reduceAdd, Int32.reduceSub, Int32.reduceMul, Int32.reduceLT, Int32.reduceLE, xsI, Nat.reduceEqDiff, and_false, false_and, and_true, true_and, if_true, if_false, ite_true, ite_false, xlook_0, xlook_s, xI_int, xA_ref, xJ_long, xK_some, xRow_row, xTo_some, xst1, xclr, List.set_cons_zero, List.set_cons_succ, xsum_nil, xsum_int, xsum_ref, xsum_long, Option.toList_some, Option.toList_none, List.nil_append, List.cons_append, e1, e2, e3, e4, e5, e6, e7, e8, e9, e10, e11, e12, e13, e14, e15, e16, e17, e18, e19, e20, e21, e22, e23, e24, e25, e26, e27]
  · exact h27
