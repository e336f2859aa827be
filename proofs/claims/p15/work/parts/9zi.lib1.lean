/-! XF: rows, then what is proved of them. -/
theorem rX5_start_0 {d : Nat} {lv : xLV} {st : List Value} {S : xS} {r : xO} : XL SK MT d 133 (0, lv, st, S) r ↔ XL SK MT d 133 (1, lv, .int 0 :: st, S) r := X_pure rfl rfl rfl
theorem rX5_start_1 {d : Nat} {lv : xLV} {st : List Value} {S : xS} {r : xO} {x : Int32} : XL SK MT d 133 (1, lv, .int x :: st, S) r ↔ XL SK MT d 133 (2, xst1 lv 1 (.int x), st, S) r := X_pure rfl rfl rfl
theorem rX5_start_2 {d : Nat} {lv : xLV} {st : List Value} {S : xS} {r : xO} : XL SK MT d 133 (2, lv, st, S) r ↔ xA (xlook lv 0) (fun x => XL SK MT d 133 (3, lv, .ref x :: st, S) r) := X_ldA rfl rfl (fun _ => rfl) rfl rfl rfl rfl
theorem rX5_start_3 {d : Nat} {lv : xLV} {st : List Value} {S : xS} {r : xO} : XL SK MT d 133 (3, lv, .ref 10 :: st, S) r ↔ XL SK MT d 133 (6, lv, .ref 9 :: st, S) r := X_heap rfl rfl rfl rfl rfl
theorem rX5_start_6 {d : Nat} {lv : xLV} {st : List Value} {S : xS} {r : xO} : XL SK MT d 133 (6, lv, st, S) r ↔ XL SK MT d 133 (8, lv, .int 16 :: st, S) r := X_pure rfl rfl rfl
theorem rX5_start_8 {d : Nat} {lv : xLV} {st : List Value} {S : xS} {r : xO} : XL SK MT d 133 (8, lv, st, S) r ↔ XL SK MT d 133 (11, lv, .int 22528 :: st, S) r := X_pure rfl rfl rfl
theorem rX5_start_11 {d : Nat} {lv : xLV} {S : xS} {r : xO} {x1 : Int32} {x2 : Int32} : XL SK MT d 133 (11, lv, [.int x2, .int x1, .ref 9], S) r ↔ xK (XC SK MT d 22 [.ref 9, .int x1, .int x2] S) (fun v S => XL SK MT d 133 (14, lv, v.toList ++ [], S) r) := X_inv (n := 3) (kd := 2) (st0 := [.int x2, .int x1, .ref 9]) rfl (Or.inr ⟨rfl, rfl⟩) rfl (Nat.le_of_ble_eq_true rfl) (Nat.le_of_ble_eq_true rfl) (by decide) rfl
theorem rX5_start_14 {d : Nat} {lv : xLV} {st : List Value} {S : xS} {r : xO} : XL SK MT d 133 (14, lv, st, S) r ↔ xA (xlook lv 0) (fun x => XL SK MT d 133 (15, lv, .ref x :: st, S) r) := X_ldA rfl rfl (fun _ => rfl) rfl rfl rfl rfl
theorem rX5_start_15 {d : Nat} {lv : xLV} {st : List Value} {S : xS} {r : xO} : XL SK MT d 133 (15, lv, .ref 10 :: st, S) r ↔ XL SK MT d 133 (18, lv, .ref 9 :: st, S) r := X_heap rfl rfl rfl rfl rfl
theorem rX5_start_18 {d : Nat} {lv : xLV} {st : List Value} {S : xS} {r : xO} : XL SK MT d 133 (18, lv, st, S) r ↔ XL SK MT d 133 (20, lv, .int 18 :: st, S) r := X_pure rfl rfl rfl
theorem rX5_start_20 {d : Nat} {lv : xLV} {st : List Value} {S : xS} {r : xO} : XL SK MT d 133 (20, lv, st, S) r ↔ XL SK MT d 133 (22, lv, .int 46592 :: st, S) r := X_pure rfl rfl rfl
theorem rX5_start_22 {d : Nat} {lv : xLV} {S : xS} {r : xO} {x1 : Int32} {x2 : Int32} : XL SK MT d 133 (22, lv, [.int x2, .int x1, .ref 9], S) r ↔ xK (XC SK MT d 22 [.ref 9, .int x1, .int x2] S) (fun v S => XL SK MT d 133 (25, lv, v.toList ++ [], S) r) := X_inv (n := 3) (kd := 2) (st0 := [.int x2, .int x1, .ref 9]) rfl (Or.inr ⟨rfl, rfl⟩) rfl (Nat.le_of_ble_eq_true rfl) (Nat.le_of_ble_eq_true rfl) (by decide) rfl
theorem rX5_start_25 {d : Nat} {lv : xLV} {st : List Value} {S : xS} {r : xO} : XL SK MT d 133 (25, lv, st, S) r ↔ xA (xlook lv 0) (fun x => XL SK MT d 133 (26, lv, .ref x :: st, S) r) := X_ldA rfl rfl (fun _ => rfl) rfl rfl rfl rfl
theorem rX5_start_26 {d : Nat} {lv : xLV} {st : List Value} {S : xS} {r : xO} : XL SK MT d 133 (26, lv, .ref 10 :: st, S) r ↔ XL SK MT d 133 (29, lv, .ref 9 :: st, S) r := X_heap rfl rfl rfl rfl rfl
theorem rX5_start_29 {d : Nat} {lv : xLV} {st : List Value} {S : xS} {r : xO} : XL SK MT d 133 (29, lv, st, S) r ↔ XL SK MT d 133 (31, lv, .int 8 :: st, S) r := X_pure rfl rfl rfl
theorem rX5_start_31 {d : Nat} {lv : xLV} {st : List Value} {S : xS} {r : xO} : XL SK MT d 133 (31, lv, st, S) r ↔ XL SK MT d 133 (34, lv, .int 1096 :: st, S) r := X_pure rfl rfl rfl
theorem rX5_start_34 {d : Nat} {lv : xLV} {st : List Value} {S : xS} {r : xO} : XL SK MT d 133 (34, lv, st, S) r ↔ XL SK MT d 133 (35, lv, .int 0 :: st, S) r := X_pure rfl rfl rfl
theorem rX5_start_35 {d : Nat} {lv : xLV} {S : xS} {r : xO} {x1 : Int32} {x2 : Int32} {x3 : Int32} : XL SK MT d 133 (35, lv, [.int x3, .int x2, .int x1, .ref 9], S) r ↔ xK (XC SK MT d 18 [.ref 9, .int x1, .int x2, .int x3] S) (fun v S => XL SK MT d 133 (38, lv, v.toList ++ [], S) r) := X_inv (n := 4) (kd := 2) (st0 := [.int x3, .int x2, .int x1, .ref 9]) rfl (Or.inr ⟨rfl, rfl⟩) rfl (Nat.le_of_ble_eq_true rfl) (Nat.le_of_ble_eq_true rfl) (by decide) rfl
theorem rX5_start_38 {d : Nat} {lv : xLV} {st : List Value} {S : xS} {r : xO} : XL SK MT d 133 (38, lv, st, S) r ↔ xA (xlook lv 0) (fun x => XL SK MT d 133 (39, lv, .ref x :: st, S) r) := X_ldA rfl rfl (fun _ => rfl) rfl rfl rfl rfl
theorem rX5_start_39 {d : Nat} {lv : xLV} {st : List Value} {S : xS} {r : xO} : XL SK MT d 133 (39, lv, .ref 10 :: st, S) r ↔ XL SK MT d 133 (42, lv, .ref 9 :: st, S) r := X_heap rfl rfl rfl rfl rfl
theorem rX5_start_42 {d : Nat} {lv : xLV} {st : List Value} {S : xS} {r : xO} : XL SK MT d 133 (42, lv, st, S) r ↔ XL SK MT d 133 (44, lv, .int 9 :: st, S) r := X_pure rfl rfl rfl
theorem rX5_start_44 {d : Nat} {lv : xLV} {st : List Value} {S : xS} {r : xO} : XL SK MT d 133 (44, lv, st, S) r ↔ XL SK MT d 133 (46, lv, .int 62976 :: st, S) r := X_pure rfl rfl rfl
theorem rX5_start_46 {d : Nat} {lv : xLV} {S : xS} {r : xO} {x1 : Int32} {x2 : Int32} : XL SK MT d 133 (46, lv, [.int x2, .int x1, .ref 9], S) r ↔ xK (XC SK MT d 22 [.ref 9, .int x1, .int x2] S) (fun v S => XL SK MT d 133 (49, lv, v.toList ++ [], S) r) := X_inv (n := 3) (kd := 2) (st0 := [.int x2, .int x1, .ref 9]) rfl (Or.inr ⟨rfl, rfl⟩) rfl (Nat.le_of_ble_eq_true rfl) (Nat.le_of_ble_eq_true rfl) (by decide) rfl
theorem rX5_start_49 {d : Nat} {lv : xLV} {st : List Value} {S : xS} {r : xO} : XL SK MT d 133 (49, lv, st, S) r ↔ xA (xlook lv 0) (fun x => XL SK MT d 133 (50, lv, .ref x :: st, S) r) := X_ldA rfl rfl (fun _ => rfl) rfl rfl rfl rfl
theorem rX5_start_50 {d : Nat} {lv : xLV} {st : List Value} {S : xS} {r : xO} : XL SK MT d 133 (50, lv, .ref 10 :: st, S) r ↔ XL SK MT d 133 (53, lv, .ref 9 :: st, S) r := X_heap rfl rfl rfl rfl rfl
theorem rX5_start_53 {d : Nat} {lv : xLV} {st : List Value} {S : xS} {r : xO} : XL SK MT d 133 (53, lv, st, S) r ↔ XL SK MT d 133 (55, lv, .int 17 :: st, S) r := X_pure rfl rfl rfl
theorem rX5_start_55 {d : Nat} {lv : xLV} {st : List Value} {S : xS} {r : xO} : XL SK MT d 133 (55, lv, st, S) r ↔ XL SK MT d 133 (57, lv, .int 16 :: st, S) r := X_pure rfl rfl rfl
theorem rX5_start_57 {d : Nat} {lv : xLV} {S : xS} {r : xO} {x1 : Int32} {x2 : Int32} : XL SK MT d 133 (57, lv, [.int x2, .int x1, .ref 9], S) r ↔ xK (XC SK MT d 21 [.ref 9, .int x1, .int x2] S) (fun v S => XL SK MT d 133 (60, lv, v.toList ++ [], S) r) := X_inv (n := 3) (kd := 2) (st0 := [.int x2, .int x1, .ref 9]) rfl (Or.inr ⟨rfl, rfl⟩) rfl (Nat.le_of_ble_eq_true rfl) (Nat.le_of_ble_eq_true rfl) (by decide) rfl
theorem rX5_start_60 {d : Nat} {lv : xLV} {st : List Value} {S : xS} {r : xO} : XL SK MT d 133 (60, lv, st, S) r ↔ xA (xlook lv 0) (fun x => XL SK MT d 133 (61, lv, .ref x :: st, S) r) := X_ldA rfl rfl (fun _ => rfl) rfl rfl rfl rfl
theorem rX5_start_61 {d : Nat} {lv : xLV} {st : List Value} {S : xS} {r : xO} : XL SK MT d 133 (61, lv, .ref 10 :: st, S) r ↔ XL SK MT d 133 (64, lv, .ref 9 :: st, S) r := X_heap rfl rfl rfl rfl rfl
theorem rX5_start_64 {d : Nat} {lv : xLV} {st : List Value} {S : xS} {r : xO} : XL SK MT d 133 (64, lv, st, S) r ↔ XL SK MT d 133 (66, lv, .int 22 :: st, S) r := X_pure rfl rfl rfl
theorem rX5_start_66 {d : Nat} {lv : xLV} {st : List Value} {S : xS} {r : xO} : XL SK MT d 133 (66, lv, st, S) r ↔ XL SK MT d 133 (68, lv, .int 16 :: st, S) r := X_pure rfl rfl rfl
theorem rX5_start_68 {d : Nat} {lv : xLV} {S : xS} {r : xO} {x1 : Int32} {x2 : Int32} : XL SK MT d 133 (68, lv, [.int x2, .int x1, .ref 9], S) r ↔ xK (XC SK MT d 21 [.ref 9, .int x1, .int x2] S) (fun v S => XL SK MT d 133 (71, lv, v.toList ++ [], S) r) := X_inv (n := 3) (kd := 2) (st0 := [.int x2, .int x1, .ref 9]) rfl (Or.inr ⟨rfl, rfl⟩) rfl (Nat.le_of_ble_eq_true rfl) (Nat.le_of_ble_eq_true rfl) (by decide) rfl
theorem rX5_start_71 {d : Nat} {lv : xLV} {st : List Value} {S : xS} {r : xO} : XL SK MT d 133 (71, lv, st, S) r ↔ xA (xlook lv 0) (fun x => XL SK MT d 133 (72, lv, .ref x :: st, S) r) := X_ldA rfl rfl (fun _ => rfl) rfl rfl rfl rfl
theorem rX5_start_72 {d : Nat} {lv : xLV} {st : List Value} {S : xS} {r : xO} : XL SK MT d 133 (72, lv, .ref 10 :: st, S) r ↔ XL SK MT d 133 (75, lv, .ref 9 :: st, S) r := X_heap rfl rfl rfl rfl rfl
theorem rX5_start_75 {d : Nat} {lv : xLV} {st : List Value} {S : xS} {r : xO} : XL SK MT d 133 (75, lv, st, S) r ↔ XL SK MT d 133 (77, lv, .int 33 :: st, S) r := X_pure rfl rfl rfl
theorem rX5_start_77 {d : Nat} {lv : xLV} {st : List Value} {S : xS} {r : xO} : XL SK MT d 133 (77, lv, st, S) r ↔ XL SK MT d 133 (79, lv, .int 19 :: st, S) r := X_pure rfl rfl rfl
theorem rX5_start_79 {d : Nat} {lv : xLV} {st : List Value} {S : xS} {r : xO} : XL SK MT d 133 (79, lv, st, S) r ↔ XL SK MT d 133 (81, lv, .int 18 :: st, S) r := X_pure rfl rfl rfl
theorem rX5_start_81 {d : Nat} {lv : xLV} {st : List Value} {S : xS} {r : xO} : XL SK MT d 133 (81, lv, st, S) r ↔ XL SK MT d 133 (83, lv, .int 8 :: st, S) r := X_pure rfl rfl rfl
theorem rX5_start_83 {d : Nat} {lv : xLV} {S : xS} {r : xO} {x1 : Int32} {x2 : Int32} {x3 : Int32} {x4 : Int32} : XL SK MT d 133 (83, lv, [.int x4, .int x3, .int x2, .int x1, .ref 9], S) r ↔ xK (XC SK MT d 15 [.ref 9, .int x1, .int x2, .int x3, .int x4] S) (fun v S => XL SK MT d 133 (86, lv, v.toList ++ [], S) r) := X_inv (n := 5) (kd := 2) (st0 := [.int x4, .int x3, .int x2, .int x1, .ref 9]) rfl (Or.inr ⟨rfl, rfl⟩) rfl (Nat.le_of_ble_eq_true rfl) (Nat.le_of_ble_eq_true rfl) (by decide) rfl
theorem rX5_start_86 {d : Nat} {lv : xLV} {st : List Value} {S : xS} {r : xO} : XL SK MT d 133 (86, lv, st, S) r ↔ xA (xlook lv 0) (fun x => XL SK MT d 133 (87, lv, .ref x :: st, S) r) := X_ldA rfl rfl (fun _ => rfl) rfl rfl rfl rfl
theorem rX5_start_87 {d : Nat} {lv : xLV} {st : List Value} {S : xS} {r : xO} : XL SK MT d 133 (87, lv, .ref 10 :: st, S) r ↔ XL SK MT d 133 (90, lv, .ref 9 :: st, S) r := X_heap rfl rfl rfl rfl rfl
theorem rX5_start_90 {d : Nat} {lv : xLV} {st : List Value} {S : xS} {r : xO} : XL SK MT d 133 (90, lv, st, S) r ↔ XL SK MT d 133 (92, lv, .int 20 :: st, S) r := X_pure rfl rfl rfl
theorem rX5_start_92 {d : Nat} {lv : xLV} {st : List Value} {S : xS} {r : xO} : XL SK MT d 133 (92, lv, st, S) r ↔ XL SK MT d 133 (95, lv, .int 1112 :: st, S) r := X_pure rfl rfl rfl
theorem rX5_start_95 {d : Nat} {lv : xLV} {st : List Value} {S : xS} {r : xO} : XL SK MT d 133 (95, lv, st, S) r ↔ XL SK MT d 133 (96, lv, .int 0 :: st, S) r := X_pure rfl rfl rfl
theorem rX5_start_96 {d : Nat} {lv : xLV} {S : xS} {r : xO} {x1 : Int32} {x2 : Int32} {x3 : Int32} : XL SK MT d 133 (96, lv, [.int x3, .int x2, .int x1, .ref 9], S) r ↔ xK (XC SK MT d 18 [.ref 9, .int x1, .int x2, .int x3] S) (fun v S => XL SK MT d 133 (99, lv, v.toList ++ [], S) r) := X_inv (n := 4) (kd := 2) (st0 := [.int x3, .int x2, .int x1, .ref 9]) rfl (Or.inr ⟨rfl, rfl⟩) rfl (Nat.le_of_ble_eq_true rfl) (Nat.le_of_ble_eq_true rfl) (by decide) rfl
theorem rX5_start_99 {d : Nat} {lv : xLV} {st : List Value} {S : xS} {r : xO} : XL SK MT d 133 (99, lv, st, S) r ↔ xA (xlook lv 0) (fun x => XL SK MT d 133 (100, lv, .ref x :: st, S) r) := X_ldA rfl rfl (fun _ => rfl) rfl rfl rfl rfl
theorem rX5_start_100 {d : Nat} {lv : xLV} {st : List Value} {S : xS} {r : xO} : XL SK MT d 133 (100, lv, .ref 10 :: st, S) r ↔ XL SK MT d 133 (103, lv, .ref 9 :: st, S) r := X_heap rfl rfl rfl rfl rfl
theorem rX5_start_103 {d : Nat} {lv : xLV} {st : List Value} {S : xS} {r : xO} : XL SK MT d 133 (103, lv, st, S) r ↔ XL SK MT d 133 (105, lv, .int 18 :: st, S) r := X_pure rfl rfl rfl
theorem rX5_start_105 {d : Nat} {lv : xLV} {st : List Value} {S : xS} {r : xO} : XL SK MT d 133 (105, lv, st, S) r ↔ XL SK MT d 133 (108, lv, .int 1088 :: st, S) r := X_pure rfl rfl rfl
theorem rX5_start_108 {d : Nat} {lv : xLV} {st : List Value} {S : xS} {r : xO} : XL SK MT d 133 (108, lv, st, S) r ↔ XL SK MT d 133 (109, lv, .int 0 :: st, S) r := X_pure rfl rfl rfl
theorem rX5_start_109 {d : Nat} {lv : xLV} {S : xS} {r : xO} {x1 : Int32} {x2 : Int32} {x3 : Int32} : XL SK MT d 133 (109, lv, [.int x3, .int x2, .int x1, .ref 9], S) r ↔ xK (XC SK MT d 19 [.ref 9, .int x1, .int x2, .int x3] S) (fun v S => XL SK MT d 133 (112, lv, v.toList ++ [], S) r) := X_inv (n := 4) (kd := 2) (st0 := [.int x3, .int x2, .int x1, .ref 9]) rfl (Or.inr ⟨rfl, rfl⟩) rfl (Nat.le_of_ble_eq_true rfl) (Nat.le_of_ble_eq_true rfl) (by decide) rfl
theorem rX5_start_112 {d : Nat} {lv : xLV} {st : List Value} {S : xS} {r : xO} : XL SK MT d 133 (112, lv, st, S) r ↔ xA (xlook lv 0) (fun x => XL SK MT d 133 (113, lv, .ref x :: st, S) r) := X_ldA rfl rfl (fun _ => rfl) rfl rfl rfl rfl
theorem rX5_start_113 {d : Nat} {lv : xLV} {st : List Value} {S : xS} {r : xO} : XL SK MT d 133 (113, lv, .ref 10 :: st, S) r ↔ XL SK MT d 133 (116, lv, .ref 9 :: st, S) r := X_heap rfl rfl rfl rfl rfl
theorem rX5_start_116 {d : Nat} {lv : xLV} {st : List Value} {S : xS} {r : xO} : XL SK MT d 133 (116, lv, st, S) r ↔ XL SK MT d 133 (118, lv, .int 9 :: st, S) r := X_pure rfl rfl rfl
theorem rX5_start_118 {d : Nat} {lv : xLV} {st : List Value} {S : xS} {r : xO} : XL SK MT d 133 (118, lv, st, S) r ↔ XL SK MT d 133 (121, lv, .int 1092 :: st, S) r := X_pure rfl rfl rfl
theorem rX5_start_121 {d : Nat} {lv : xLV} {st : List Value} {S : xS} {r : xO} : XL SK MT d 133 (121, lv, st, S) r ↔ XL SK MT d 133 (122, lv, .int 0 :: st, S) r := X_pure rfl rfl rfl
theorem rX5_start_122 {d : Nat} {lv : xLV} {S : xS} {r : xO} {x1 : Int32} {x2 : Int32} {x3 : Int32} : XL SK MT d 133 (122, lv, [.int x3, .int x2, .int x1, .ref 9], S) r ↔ xK (XC SK MT d 19 [.ref 9, .int x1, .int x2, .int x3] S) (fun v S => XL SK MT d 133 (125, lv, v.toList ++ [], S) r) := X_inv (n := 4) (kd := 2) (st0 := [.int x3, .int x2, .int x1, .ref 9]) rfl (Or.inr ⟨rfl, rfl⟩) rfl (Nat.le_of_ble_eq_true rfl) (Nat.le_of_ble_eq_true rfl) (by decide) rfl
theorem rX5_start_125 {d : Nat} {lv : xLV} {st : List Value} {S : xS} {r : xO} : XL SK MT d 133 (125, lv, st, S) r ↔ xA (xlook lv 0) (fun x => XL SK MT d 133 (126, lv, .ref x :: st, S) r) := X_ldA rfl rfl (fun _ => rfl) rfl rfl rfl rfl
theorem rX5_start_126 {d : Nat} {lv : xLV} {st : List Value} {S : xS} {r : xO} : XL SK MT d 133 (126, lv, .ref 10 :: st, S) r ↔ XL SK MT d 133 (129, lv, .ref 9 :: st, S) r := X_heap rfl rfl rfl rfl rfl
theorem rX5_start_129 {d : Nat} {lv : xLV} {st : List Value} {S : xS} {r : xO} : XL SK MT d 133 (129, lv, st, S) r ↔ XL SK MT d 133 (130, lv, .int 0 :: st, S) r := X_pure rfl rfl rfl
theorem rX5_start_130 {d : Nat} {lv : xLV} {st : List Value} {S : xS} {r : xO} : XL SK MT d 133 (130, lv, st, S) r ↔ XL SK MT d 133 (133, lv, .int 1100 :: st, S) r := X_pure rfl rfl rfl
theorem rX5_start_133 {d : Nat} {lv : xLV} {st : List Value} {S : xS} {r : xO} : XL SK MT d 133 (133, lv, st, S) r ↔ XL SK MT d 133 (134, lv, .int 0 :: st, S) r := X_pure rfl rfl rfl
theorem rX5_start_134 {d : Nat} {lv : xLV} {S : xS} {r : xO} {x1 : Int32} {x2 : Int32} {x3 : Int32} : XL SK MT d 133 (134, lv, [.int x3, .int x2, .int x1, .ref 9], S) r ↔ xK (XC SK MT d 19 [.ref 9, .int x1, .int x2, .int x3] S) (fun v S => XL SK MT d 133 (137, lv, v.toList ++ [], S) r) := X_inv (n := 4) (kd := 2) (st0 := [.int x3, .int x2, .int x1, .ref 9]) rfl (Or.inr ⟨rfl, rfl⟩) rfl (Nat.le_of_ble_eq_true rfl) (Nat.le_of_ble_eq_true rfl) (by decide) rfl
theorem rX5_start_137 {d : Nat} {lv : xLV} {st : List Value} {S : xS} {r : xO} : XL SK MT d 133 (137, lv, st, S) r ↔ xA (xlook lv 0) (fun x => XL SK MT d 133 (138, lv, .ref x :: st, S) r) := X_ldA rfl rfl (fun _ => rfl) rfl rfl rfl rfl
theorem rX5_start_138 {d : Nat} {lv : xLV} {st : List Value} {S : xS} {r : xO} : XL SK MT d 133 (138, lv, .ref 10 :: st, S) r ↔ XL SK MT d 133 (141, lv, .ref 9 :: st, S) r := X_heap rfl rfl rfl rfl rfl
theorem rX5_start_141 {d : Nat} {lv : xLV} {st : List Value} {S : xS} {r : xO} : XL SK MT d 133 (141, lv, st, S) r ↔ XL SK MT d 133 (142, lv, .int 0 :: st, S) r := X_pure rfl rfl rfl
theorem rX5_start_142 {d : Nat} {lv : xLV} {st : List Value} {S : xS} {r : xO} : XL SK MT d 133 (142, lv, st, S) r ↔ XL SK MT d 133 (145, lv, .int 1104 :: st, S) r := X_pure rfl rfl rfl
theorem rX5_start_145 {d : Nat} {lv : xLV} {st : List Value} {S : xS} {r : xO} : XL SK MT d 133 (145, lv, st, S) r ↔ XL SK MT d 133 (146, lv, .int 0 :: st, S) r := X_pure rfl rfl rfl
theorem rX5_start_146 {d : Nat} {lv : xLV} {S : xS} {r : xO} {x1 : Int32} {x2 : Int32} {x3 : Int32} : XL SK MT d 133 (146, lv, [.int x3, .int x2, .int x1, .ref 9], S) r ↔ xK (XC SK MT d 19 [.ref 9, .int x1, .int x2, .int x3] S) (fun v S => XL SK MT d 133 (149, lv, v.toList ++ [], S) r) := X_inv (n := 4) (kd := 2) (st0 := [.int x3, .int x2, .int x1, .ref 9]) rfl (Or.inr ⟨rfl, rfl⟩) rfl (Nat.le_of_ble_eq_true rfl) (Nat.le_of_ble_eq_true rfl) (by decide) rfl
theorem rX5_start_149 {d : Nat} {lv : xLV} {st : List Value} {S : xS} {r : xO} : XL SK MT d 133 (149, lv, st, S) r ↔ xA (xlook lv 0) (fun x => XL SK MT d 133 (150, lv, .ref x :: st, S) r) := X_ldA rfl rfl (fun _ => rfl) rfl rfl rfl rfl
theorem rX5_start_150 {d : Nat} {lv : xLV} {st : List Value} {S : xS} {r : xO} : XL SK MT d 133 (150, lv, .ref 10 :: st, S) r ↔ XL SK MT d 133 (153, lv, .ref 9 :: st, S) r := X_heap rfl rfl rfl rfl rfl
theorem rX5_start_153 {d : Nat} {lv : xLV} {st : List Value} {S : xS} {r : xO} : XL SK MT d 133 (153, lv, st, S) r ↔ XL SK MT d 133 (155, lv, .int 23 :: st, S) r := X_pure rfl rfl rfl
theorem rX5_start_155 {d : Nat} {lv : xLV} {st : List Value} {S : xS} {r : xO} : XL SK MT d 133 (155, lv, st, S) r ↔ XL SK MT d 133 (157, lv, .int 46528 :: st, S) r := X_pure rfl rfl rfl
theorem rX5_start_157 {d : Nat} {lv : xLV} {S : xS} {r : xO} {x1 : Int32} {x2 : Int32} : XL SK MT d 133 (157, lv, [.int x2, .int x1, .ref 9], S) r ↔ xK (XC SK MT d 22 [.ref 9, .int x1, .int x2] S) (fun v S => XL SK MT d 133 (160, lv, v.toList ++ [], S) r) := X_inv (n := 3) (kd := 2) (st0 := [.int x2, .int x1, .ref 9]) rfl (Or.inr ⟨rfl, rfl⟩) rfl (Nat.le_of_ble_eq_true rfl) (Nat.le_of_ble_eq_true rfl) (by decide) rfl
theorem rX5_start_160 {d : Nat} {lv : xLV} {st : List Value} {S : xS} {r : xO} : XL SK MT d 133 (160, lv, st, S) r ↔ xA (xlook lv 0) (fun x => XL SK MT d 133 (161, lv, .ref x :: st, S) r) := X_ldA rfl rfl (fun _ => rfl) rfl rfl rfl rfl
theorem rX5_start_161 {d : Nat} {lv : xLV} {st : List Value} {S : xS} {r : xO} : XL SK MT d 133 (161, lv, .ref 10 :: st, S) r ↔ XL SK MT d 133 (164, lv, .ref 9 :: st, S) r := X_heap rfl rfl rfl rfl rfl
theorem rX5_start_164 {d : Nat} {lv : xLV} {st : List Value} {S : xS} {r : xO} : XL SK MT d 133 (164, lv, st, S) r ↔ XL SK MT d 133 (166, lv, .int 21 :: st, S) r := X_pure rfl rfl rfl
theorem rX5_start_166 {d : Nat} {lv : xLV} {st : List Value} {S : xS} {r : xO} : XL SK MT d 133 (166, lv, st, S) r ↔ XL SK MT d 133 (167, lv, .int 0 :: st, S) r := X_pure rfl rfl rfl
theorem rX5_start_167 {d : Nat} {lv : xLV} {S : xS} {r : xO} {x1 : Int32} {x2 : Int32} : XL SK MT d 133 (167, lv, [.int x2, .int x1, .ref 9], S) r ↔ xK (XC SK MT d 22 [.ref 9, .int x1, .int x2] S) (fun v S => XL SK MT d 133 (170, lv, v.toList ++ [], S) r) := X_inv (n := 3) (kd := 2) (st0 := [.int x2, .int x1, .ref 9]) rfl (Or.inr ⟨rfl, rfl⟩) rfl (Nat.le_of_ble_eq_true rfl) (Nat.le_of_ble_eq_true rfl) (by decide) rfl
theorem rX5_start_170 {d : Nat} {lv : xLV} {st : List Value} {S : xS} {r : xO} : XL SK MT d 133 (170, lv, st, S) r ↔ xA (xlook lv 0) (fun x => XL SK MT d 133 (171, lv, .ref x :: st, S) r) := X_ldA rfl rfl (fun _ => rfl) rfl rfl rfl rfl
theorem rX5_start_171 {d : Nat} {lv : xLV} {st : List Value} {S : xS} {r : xO} : XL SK MT d 133 (171, lv, .ref 10 :: st, S) r ↔ XL SK MT d 133 (174, lv, .ref 9 :: st, S) r := X_heap rfl rfl rfl rfl rfl
theorem rX5_start_174 {d : Nat} {lv : xLV} {st : List Value} {S : xS} {r : xO} : XL SK MT d 133 (174, lv, st, S) r ↔ xI (xlook lv 1) (fun x => XL SK MT d 133 (175, lv, .int x :: st, S) r) := X_ldI rfl rfl (fun _ => rfl) rfl rfl rfl rfl
theorem rX5_start_175 {d : Nat} {lv : xLV} {S : xS} {r : xO} {x1 : Int32} : XL SK MT d 133 (175, lv, [.int x1, .ref 9], S) r ↔ xK (XC SK MT d 27 [.ref 9, .int x1] S) (fun v S => XL SK MT d 133 (178, lv, v.toList ++ [], S) r) := X_inv (n := 2) (kd := 2) (st0 := [.int x1, .ref 9]) rfl (Or.inr ⟨rfl, rfl⟩) rfl (Nat.le_of_ble_eq_true rfl) (Nat.le_of_ble_eq_true rfl) (by decide) rfl
theorem rX5_start_178 {d : Nat} {lv : xLV} {S : xS} {r : xO} : XL SK MT d 133 (178, lv, [], S) r ↔ (none, S) = r := X_ret rfl rfl rfl rfl rfl rfl

theorem rX5_ends_0 {d : Nat} {lv : xLV} {st : List Value} {S : xS} {r : xO} : XL SK MT d 134 (0, lv, st, S) r ↔ xA (xlook lv 0) (fun x => XL SK MT d 134 (1, lv, .ref x :: st, S) r) := X_ldA rfl rfl (fun _ => rfl) rfl rfl rfl rfl
theorem rX5_ends_1 {d : Nat} {lv : xLV} {st : List Value} {S : xS} {r : xO} : XL SK MT d 134 (1, lv, .ref 10 :: st, S) r ↔ XL SK MT d 134 (4, lv, .ref 9 :: st, S) r := X_heap rfl rfl rfl rfl rfl
theorem rX5_ends_4 {d : Nat} {lv : xLV} {st : List Value} {S : xS} {r : xO} : XL SK MT d 134 (4, lv, st, S) r ↔ XL SK MT d 134 (6, lv, .int 65560 :: st, S) r := X_pure rfl rfl rfl
theorem rX5_ends_6 {d : Nat} {lv : xLV} {S : xS} {r : xO} {x1 : Int32} : XL SK MT d 134 (6, lv, [.int x1, .ref 9], S) r ↔ xK (XC SK MT d 3 [.ref 9, .int x1] S) (fun v S => XL SK MT d 134 (9, lv, v.toList ++ [], S) r) := X_inv (n := 2) (kd := 2) (st0 := [.int x1, .ref 9]) rfl (Or.inr ⟨rfl, rfl⟩) rfl (Nat.le_of_ble_eq_true rfl) (Nat.le_of_ble_eq_true rfl) (by decide) rfl
theorem rX5_ends_9 {d : Nat} {lv : xLV} {st : List Value} {S : xS} {r : xO} : XL SK MT d 134 (9, lv, st, S) r ↔ xA (xlook lv 0) (fun x => XL SK MT d 134 (10, lv, .ref x :: st, S) r) := X_ldA rfl rfl (fun _ => rfl) rfl rfl rfl rfl
theorem rX5_ends_10 {d : Nat} {lv : xLV} {st : List Value} {S : xS} {r : xO} : XL SK MT d 134 (10, lv, .ref 10 :: st, S) r ↔ XL SK MT d 134 (13, lv, .ref 9 :: st, S) r := X_heap rfl rfl rfl rfl rfl
theorem rX5_ends_13 {d : Nat} {lv : xLV} {st : List Value} {S : xS} {r : xO} : XL SK MT d 134 (13, lv, st, S) r ↔ XL SK MT d 134 (14, lv, .int 2 :: st, S) r := X_pure rfl rfl rfl
theorem rX5_ends_14 {d : Nat} {lv : xLV} {st : List Value} {S : xS} {r : xO} : XL SK MT d 134 (14, lv, st, S) r ↔ XL SK MT d 134 (15, lv, .int 2 :: st, S) r := X_pure rfl rfl rfl
theorem rX5_ends_15 {d : Nat} {lv : xLV} {S : xS} {r : xO} {x1 : Int32} {x2 : Int32} : XL SK MT d 134 (15, lv, [.int x2, .int x1, .ref 9], S) r ↔ xK (XC SK MT d 22 [.ref 9, .int x1, .int x2] S) (fun v S => XL SK MT d 134 (18, lv, v.toList ++ [], S) r) := X_inv (n := 3) (kd := 2) (st0 := [.int x2, .int x1, .ref 9]) rfl (Or.inr ⟨rfl, rfl⟩) rfl (Nat.le_of_ble_eq_true rfl) (Nat.le_of_ble_eq_true rfl) (by decide) rfl
theorem rX5_ends_18 {d : Nat} {lv : xLV} {st : List Value} {S : xS} {r : xO} : XL SK MT d 134 (18, lv, st, S) r ↔ xA (xlook lv 0) (fun x => XL SK MT d 134 (19, lv, .ref x :: st, S) r) := X_ldA rfl rfl (fun _ => rfl) rfl rfl rfl rfl
theorem rX5_ends_19 {d : Nat} {lv : xLV} {st : List Value} {S : xS} {r : xO} : XL SK MT d 134 (19, lv, .ref 10 :: st, S) r ↔ XL SK MT d 134 (22, lv, .ref 9 :: st, S) r := X_heap rfl rfl rfl rfl rfl
theorem rX5_ends_22 {d : Nat} {lv : xLV} {st : List Value} {S : xS} {r : xO} : XL SK MT d 134 (22, lv, st, S) r ↔ XL SK MT d 134 (24, lv, .int 65561 :: st, S) r := X_pure rfl rfl rfl
theorem rX5_ends_24 {d : Nat} {lv : xLV} {S : xS} {r : xO} {x1 : Int32} : XL SK MT d 134 (24, lv, [.int x1, .ref 9], S) r ↔ xK (XC SK MT d 3 [.ref 9, .int x1] S) (fun v S => XL SK MT d 134 (27, lv, v.toList ++ [], S) r) := X_inv (n := 2) (kd := 2) (st0 := [.int x1, .ref 9]) rfl (Or.inr ⟨rfl, rfl⟩) rfl (Nat.le_of_ble_eq_true rfl) (Nat.le_of_ble_eq_true rfl) (by decide) rfl
theorem rX5_ends_27 {d : Nat} {lv : xLV} {st : List Value} {S : xS} {r : xO} : XL SK MT d 134 (27, lv, st, S) r ↔ xA (xlook lv 0) (fun x => XL SK MT d 134 (28, lv, .ref x :: st, S) r) := X_ldA rfl rfl (fun _ => rfl) rfl rfl rfl rfl
theorem rX5_ends_28 {d : Nat} {lv : xLV} {st : List Value} {S : xS} {r : xO} : XL SK MT d 134 (28, lv, .ref 10 :: st, S) r ↔ XL SK MT d 134 (31, lv, .ref 9 :: st, S) r := X_heap rfl rfl rfl rfl rfl
theorem rX5_ends_31 {d : Nat} {lv : xLV} {S : xS} {r : xO} : XL SK MT d 134 (31, lv, [.ref 9], S) r ↔ xK (XC SK MT d 30 [.ref 9] S) (fun v S => XL SK MT d 134 (34, lv, v.toList ++ [], S) r) := X_inv (n := 1) (kd := 2) (st0 := [.ref 9]) rfl (Or.inr ⟨rfl, rfl⟩) rfl (Nat.le_of_ble_eq_true rfl) (Nat.le_of_ble_eq_true rfl) (by decide) rfl
theorem rX5_ends_34 {d : Nat} {lv : xLV} {S : xS} {r : xO} : XL SK MT d 134 (34, lv, [], S) r ↔ (none, S) = r := X_ret rfl rfl rfl rfl rfl rfl

theorem rX5_layPush_0 {d : Nat} {lv : xLV} {st : List Value} {S : xS} {r : xO} : XL SK MT d 135 (0, lv, st, S) r ↔ xA (xlook lv 0) (fun x => XL SK MT d 135 (1, lv, .ref x :: st, S) r) := X_ldA rfl rfl (fun _ => rfl) rfl rfl rfl rfl
theorem rX5_layPush_1 {d : Nat} {lv : xLV} {st : List Value} {S : xS} {r : xO} : XL SK MT d 135 (1, lv, .ref 10 :: st, S) r ↔ XL SK MT d 135 (4, lv, .ref 9 :: st, S) r := X_heap rfl rfl rfl rfl rfl
theorem rX5_layPush_4 {d : Nat} {lv : xLV} {S : xS} {r : xO} : XL SK MT d 135 (4, lv, [.ref 9], S) r ↔ xK (XC SK MT d 1 [.ref 9] S) (fun v S => XL SK MT d 135 (7, lv, v.toList ++ [], S) r) := X_inv (n := 1) (kd := 2) (st0 := [.ref 9]) rfl (Or.inr ⟨rfl, rfl⟩) rfl (Nat.le_of_ble_eq_true rfl) (Nat.le_of_ble_eq_true rfl) (by decide) rfl
theorem rX5_layPush_7 {d : Nat} {lv : xLV} {st : List Value} {S : xS} {r : xO} {x : Int32} : XL SK MT d 135 (7, lv, .int x :: st, S) r ↔ XL SK MT d 135 (8, xst1 lv 1 (.int x), st, S) r := X_pure rfl rfl rfl
theorem rX5_layPush_8 {d : Nat} {lv : xLV} {st : List Value} {S : xS} {r : xO} : XL SK MT d 135 (8, lv, st, S) r ↔ xA (xlook lv 0) (fun x => XL SK MT d 135 (9, lv, .ref x :: st, S) r) := X_ldA rfl rfl (fun _ => rfl) rfl rfl rfl rfl
theorem rX5_layPush_9 {d : Nat} {lv : xLV} {st : List Value} {S : xS} {r : xO} : XL SK MT d 135 (9, lv, .ref 10 :: st, S) r ↔ XL SK MT d 135 (12, lv, .ref 9 :: st, S) r := X_heap rfl rfl rfl rfl rfl
theorem rX5_layPush_12 {d : Nat} {lv : xLV} {S : xS} {r : xO} : XL SK MT d 135 (12, lv, [.ref 9], S) r ↔ xK (XC SK MT d 1 [.ref 9] S) (fun v S => XL SK MT d 135 (15, lv, v.toList ++ [], S) r) := X_inv (n := 1) (kd := 2) (st0 := [.ref 9]) rfl (Or.inr ⟨rfl, rfl⟩) rfl (Nat.le_of_ble_eq_true rfl) (Nat.le_of_ble_eq_true rfl) (by decide) rfl
theorem rX5_layPush_15 {d : Nat} {lv : xLV} {st : List Value} {S : xS} {r : xO} {x : Int32} : XL SK MT d 135 (15, lv, .int x :: st, S) r ↔ XL SK MT d 135 (16, xst1 lv 2 (.int x), st, S) r := X_pure rfl rfl rfl
theorem rX5_layPush_16 {d : Nat} {lv : xLV} {st : List Value} {S : xS} {r : xO} : XL SK MT d 135 (16, lv, st, S) r ↔ xA (xlook lv 0) (fun x => XL SK MT d 135 (17, lv, .ref x :: st, S) r) := X_ldA rfl rfl (fun _ => rfl) rfl rfl rfl rfl
theorem rX5_layPush_17 {d : Nat} {lv : xLV} {st : List Value} {S : xS} {r : xO} : XL SK MT d 135 (17, lv, .ref 10 :: st, S) r ↔ XL SK MT d 135 (20, lv, .ref 9 :: st, S) r := X_heap rfl rfl rfl rfl rfl
theorem rX5_layPush_20 {d : Nat} {lv : xLV} {st : List Value} {S : xS} {r : xO} : XL SK MT d 135 (20, lv, st, S) r ↔ XL SK MT d 135 (22, lv, .int 65536 :: st, S) r := X_pure rfl rfl rfl
theorem rX5_layPush_22 {d : Nat} {lv : xLV} {S : xS} {r : xO} {x1 : Int32} : XL SK MT d 135 (22, lv, [.int x1, .ref 9], S) r ↔ xK (XC SK MT d 3 [.ref 9, .int x1] S) (fun v S => XL SK MT d 135 (25, lv, v.toList ++ [], S) r) := X_inv (n := 2) (kd := 2) (st0 := [.int x1, .ref 9]) rfl (Or.inr ⟨rfl, rfl⟩) rfl (Nat.le_of_ble_eq_true rfl) (Nat.le_of_ble_eq_true rfl) (by decide) rfl
theorem rX5_layPush_25 {d : Nat} {lv : xLV} {st : List Value} {S : xS} {r : xO} : XL SK MT d 135 (25, lv, st, S) r ↔ xA (xlook lv 0) (fun x => XL SK MT d 135 (26, lv, .ref x :: st, S) r) := X_ldA rfl rfl (fun _ => rfl) rfl rfl rfl rfl
theorem rX5_layPush_26 {d : Nat} {lv : xLV} {st : List Value} {S : xS} {r : xO} : XL SK MT d 135 (26, lv, .ref 10 :: st, S) r ↔ XL SK MT d 135 (29, lv, .ref 9 :: st, S) r := X_heap rfl rfl rfl rfl rfl
theorem rX5_layPush_29 {d : Nat} {lv : xLV} {st : List Value} {S : xS} {r : xO} : XL SK MT d 135 (29, lv, st, S) r ↔ XL SK MT d 135 (30, lv, .int 5 :: st, S) r := X_pure rfl rfl rfl
theorem rX5_layPush_30 {d : Nat} {lv : xLV} {st : List Value} {S : xS} {r : xO} : XL SK MT d 135 (30, lv, st, S) r ↔ XL SK MT d 135 (32, lv, .int 16 :: st, S) r := X_pure rfl rfl rfl
theorem rX5_layPush_32 {d : Nat} {lv : xLV} {st : List Value} {S : xS} {r : xO} : XL SK MT d 135 (32, lv, st, S) r ↔ XL SK MT d 135 (34, lv, .int 23 :: st, S) r := X_pure rfl rfl rfl
theorem rX5_layPush_34 {d : Nat} {lv : xLV} {st : List Value} {S : xS} {r : xO} : XL SK MT d 135 (34, lv, st, S) r ↔ xI (xlook lv 1) (fun x => XL SK MT d 135 (35, lv, .int x :: st, S) r) := X_ldI rfl rfl (fun _ => rfl) rfl rfl rfl rfl
theorem rX5_layPush_35 {d : Nat} {lv : xLV} {S : xS} {r : xO} {x1 : Int32} {x2 : Int32} {x3 : Int32} {x4 : Int32} : XL SK MT d 135 (35, lv, [.int x4, .int x3, .int x2, .int x1, .ref 9], S) r ↔ xK (XC SK MT d 24 [.ref 9, .int x1, .int x2, .int x3, .int x4] S) (fun v S => XL SK MT d 135 (38, lv, v.toList ++ [], S) r) := X_inv (n := 5) (kd := 2) (st0 := [.int x4, .int x3, .int x2, .int x1, .ref 9]) rfl (Or.inr ⟨rfl, rfl⟩) rfl (Nat.le_of_ble_eq_true rfl) (Nat.le_of_ble_eq_true rfl) (by decide) rfl
theorem rX5_layPush_38 {d : Nat} {lv : xLV} {st : List Value} {S : xS} {r : xO} : XL SK MT d 135 (38, lv, st, S) r ↔ xA (xlook lv 0) (fun x => XL SK MT d 135 (39, lv, .ref x :: st, S) r) := X_ldA rfl rfl (fun _ => rfl) rfl rfl rfl rfl
theorem rX5_layPush_39 {d : Nat} {lv : xLV} {st : List Value} {S : xS} {r : xO} : XL SK MT d 135 (39, lv, .ref 10 :: st, S) r ↔ XL SK MT d 135 (42, lv, .ref 9 :: st, S) r := X_heap rfl rfl rfl rfl rfl
theorem rX5_layPush_42 {d : Nat} {lv : xLV} {st : List Value} {S : xS} {r : xO} : XL SK MT d 135 (42, lv, st, S) r ↔ XL SK MT d 135 (43, lv, .int 2 :: st, S) r := X_pure rfl rfl rfl
theorem rX5_layPush_43 {d : Nat} {lv : xLV} {st : List Value} {S : xS} {r : xO} : XL SK MT d 135 (43, lv, st, S) r ↔ XL SK MT d 135 (44, lv, .int 4 :: st, S) r := X_pure rfl rfl rfl
theorem rX5_layPush_44 {d : Nat} {lv : xLV} {S : xS} {r : xO} {x1 : Int32} {x2 : Int32} : XL SK MT d 135 (44, lv, [.int x2, .int x1, .ref 9], S) r ↔ xK (XC SK MT d 22 [.ref 9, .int x1, .int x2] S) (fun v S => XL SK MT d 135 (47, lv, v.toList ++ [], S) r) := X_inv (n := 3) (kd := 2) (st0 := [.int x2, .int x1, .ref 9]) rfl (Or.inr ⟨rfl, rfl⟩) rfl (Nat.le_of_ble_eq_true rfl) (Nat.le_of_ble_eq_true rfl) (by decide) rfl
theorem rX5_layPush_47 {d : Nat} {lv : xLV} {st : List Value} {S : xS} {r : xO} : XL SK MT d 135 (47, lv, st, S) r ↔ xA (xlook lv 0) (fun x => XL SK MT d 135 (48, lv, .ref x :: st, S) r) := X_ldA rfl rfl (fun _ => rfl) rfl rfl rfl rfl
theorem rX5_layPush_48 {d : Nat} {lv : xLV} {st : List Value} {S : xS} {r : xO} : XL SK MT d 135 (48, lv, .ref 10 :: st, S) r ↔ XL SK MT d 135 (51, lv, .ref 9 :: st, S) r := X_heap rfl rfl rfl rfl rfl
theorem rX5_layPush_51 {d : Nat} {lv : xLV} {st : List Value} {S : xS} {r : xO} : XL SK MT d 135 (51, lv, st, S) r ↔ XL SK MT d 135 (53, lv, .int 65561 :: st, S) r := X_pure rfl rfl rfl
theorem rX5_layPush_53 {d : Nat} {lv : xLV} {S : xS} {r : xO} {x1 : Int32} : XL SK MT d 135 (53, lv, [.int x1, .ref 9], S) r ↔ xK (XC SK MT d 27 [.ref 9, .int x1] S) (fun v S => XL SK MT d 135 (56, lv, v.toList ++ [], S) r) := X_inv (n := 2) (kd := 2) (st0 := [.int x1, .ref 9]) rfl (Or.inr ⟨rfl, rfl⟩) rfl (Nat.le_of_ble_eq_true rfl) (Nat.le_of_ble_eq_true rfl) (by decide) rfl
theorem rX5_layPush_56 {d : Nat} {lv : xLV} {st : List Value} {S : xS} {r : xO} : XL SK MT d 135 (56, lv, st, S) r ↔ xA (xlook lv 0) (fun x => XL SK MT d 135 (57, lv, .ref x :: st, S) r) := X_ldA rfl rfl (fun _ => rfl) rfl rfl rfl rfl
theorem rX5_layPush_57 {d : Nat} {lv : xLV} {st : List Value} {S : xS} {r : xO} : XL SK MT d 135 (57, lv, .ref 10 :: st, S) r ↔ XL SK MT d 135 (60, lv, .ref 9 :: st, S) r := X_heap rfl rfl rfl rfl rfl
theorem rX5_layPush_60 {d : Nat} {lv : xLV} {st : List Value} {S : xS} {r : xO} : XL SK MT d 135 (60, lv, st, S) r ↔ xI (xlook lv 1) (fun x => XL SK MT d 135 (61, lv, .int x :: st, S) r) := X_ldI rfl rfl (fun _ => rfl) rfl rfl rfl rfl
theorem rX5_layPush_61 {d : Nat} {lv : xLV} {S : xS} {r : xO} {x1 : Int32} : XL SK MT d 135 (61, lv, [.int x1, .ref 9], S) r ↔ xK (XC SK MT d 3 [.ref 9, .int x1] S) (fun v S => XL SK MT d 135 (64, lv, v.toList ++ [], S) r) := X_inv (n := 2) (kd := 2) (st0 := [.int x1, .ref 9]) rfl (Or.inr ⟨rfl, rfl⟩) rfl (Nat.le_of_ble_eq_true rfl) (Nat.le_of_ble_eq_true rfl) (by decide) rfl
theorem rX5_layPush_64 {d : Nat} {lv : xLV} {st : List Value} {S : xS} {r : xO} : XL SK MT d 135 (64, lv, st, S) r ↔ xA (xlook lv 0) (fun x => XL SK MT d 135 (65, lv, .ref x :: st, S) r) := X_ldA rfl rfl (fun _ => rfl) rfl rfl rfl rfl
theorem rX5_layPush_65 {d : Nat} {lv : xLV} {st : List Value} {S : xS} {r : xO} : XL SK MT d 135 (65, lv, .ref 10 :: st, S) r ↔ XL SK MT d 135 (68, lv, .ref 9 :: st, S) r := X_heap rfl rfl rfl rfl rfl
theorem rX5_layPush_68 {d : Nat} {lv : xLV} {st : List Value} {S : xS} {r : xO} : XL SK MT d 135 (68, lv, st, S) r ↔ XL SK MT d 135 (69, lv, .int 4 :: st, S) r := X_pure rfl rfl rfl
theorem rX5_layPush_69 {d : Nat} {lv : xLV} {st : List Value} {S : xS} {r : xO} : XL SK MT d 135 (69, lv, st, S) r ↔ XL SK MT d 135 (70, lv, .int 0 :: st, S) r := X_pure rfl rfl rfl
theorem rX5_layPush_70 {d : Nat} {lv : xLV} {st : List Value} {S : xS} {r : xO} : XL SK MT d 135 (70, lv, st, S) r ↔ XL SK MT d 135 (72, lv, .int 16 :: st, S) r := X_pure rfl rfl rfl
theorem rX5_layPush_72 {d : Nat} {lv : xLV} {S : xS} {r : xO} {x1 : Int32} {x2 : Int32} {x3 : Int32} : XL SK MT d 135 (72, lv, [.int x3, .int x2, .int x1, .ref 9], S) r ↔ xK (XC SK MT d 19 [.ref 9, .int x1, .int x2, .int x3] S) (fun v S => XL SK MT d 135 (75, lv, v.toList ++ [], S) r) := X_inv (n := 4) (kd := 2) (st0 := [.int x3, .int x2, .int x1, .ref 9]) rfl (Or.inr ⟨rfl, rfl⟩) rfl (Nat.le_of_ble_eq_true rfl) (Nat.le_of_ble_eq_true rfl) (by decide) rfl
theorem rX5_layPush_75 {d : Nat} {lv : xLV} {st : List Value} {S : xS} {r : xO} : XL SK MT d 135 (75, lv, st, S) r ↔ xA (xlook lv 0) (fun x => XL SK MT d 135 (76, lv, .ref x :: st, S) r) := X_ldA rfl rfl (fun _ => rfl) rfl rfl rfl rfl
theorem rX5_layPush_76 {d : Nat} {lv : xLV} {st : List Value} {S : xS} {r : xO} : XL SK MT d 135 (76, lv, .ref 10 :: st, S) r ↔ XL SK MT d 135 (79, lv, .ref 9 :: st, S) r := X_heap rfl rfl rfl rfl rfl
theorem rX5_layPush_79 {d : Nat} {lv : xLV} {st : List Value} {S : xS} {r : xO} : XL SK MT d 135 (79, lv, st, S) r ↔ XL SK MT d 135 (81, lv, .int 16 :: st, S) r := X_pure rfl rfl rfl
theorem rX5_layPush_81 {d : Nat} {lv : xLV} {st : List Value} {S : xS} {r : xO} : XL SK MT d 135 (81, lv, st, S) r ↔ XL SK MT d 135 (83, lv, .int 16 :: st, S) r := X_pure rfl rfl rfl
theorem rX5_layPush_83 {d : Nat} {lv : xLV} {st : List Value} {S : xS} {r : xO} : XL SK MT d 135 (83, lv, st, S) r ↔ XL SK MT d 135 (84, lv, .int 4 :: st, S) r := X_pure rfl rfl rfl
theorem rX5_layPush_84 {d : Nat} {lv : xLV} {S : xS} {r : xO} {x1 : Int32} {x2 : Int32} {x3 : Int32} : XL SK MT d 135 (84, lv, [.int x3, .int x2, .int x1, .ref 9], S) r ↔ xK (XC SK MT d 20 [.ref 9, .int x1, .int x2, .int x3] S) (fun v S => XL SK MT d 135 (87, lv, v.toList ++ [], S) r) := X_inv (n := 4) (kd := 2) (st0 := [.int x3, .int x2, .int x1, .ref 9]) rfl (Or.inr ⟨rfl, rfl⟩) rfl (Nat.le_of_ble_eq_true rfl) (Nat.le_of_ble_eq_true rfl) (by decide) rfl
theorem rX5_layPush_87 {d : Nat} {lv : xLV} {st : List Value} {S : xS} {r : xO} : XL SK MT d 135 (87, lv, st, S) r ↔ xA (xlook lv 0) (fun x => XL SK MT d 135 (88, lv, .ref x :: st, S) r) := X_ldA rfl rfl (fun _ => rfl) rfl rfl rfl rfl
theorem rX5_layPush_88 {d : Nat} {lv : xLV} {st : List Value} {S : xS} {r : xO} : XL SK MT d 135 (88, lv, .ref 10 :: st, S) r ↔ XL SK MT d 135 (91, lv, .ref 9 :: st, S) r := X_heap rfl rfl rfl rfl rfl
theorem rX5_layPush_91 {d : Nat} {lv : xLV} {st : List Value} {S : xS} {r : xO} : XL SK MT d 135 (91, lv, st, S) r ↔ XL SK MT d 135 (93, lv, .int 43 :: st, S) r := X_pure rfl rfl rfl
theorem rX5_layPush_93 {d : Nat} {lv : xLV} {st : List Value} {S : xS} {r : xO} : XL SK MT d 135 (93, lv, st, S) r ↔ XL SK MT d 135 (94, lv, .int 1 :: st, S) r := X_pure rfl rfl rfl
theorem rX5_layPush_94 {d : Nat} {lv : xLV} {st : List Value} {S : xS} {r : xO} : XL SK MT d 135 (94, lv, st, S) r ↔ XL SK MT d 135 (96, lv, .int 22 :: st, S) r := X_pure rfl rfl rfl
theorem rX5_layPush_96 {d : Nat} {lv : xLV} {st : List Value} {S : xS} {r : xO} : XL SK MT d 135 (96, lv, st, S) r ↔ XL SK MT d 135 (98, lv, .int 16 :: st, S) r := X_pure rfl rfl rfl
theorem rX5_layPush_98 {d : Nat} {lv : xLV} {S : xS} {r : xO} {x1 : Int32} {x2 : Int32} {x3 : Int32} {x4 : Int32} : XL SK MT d 135 (98, lv, [.int x4, .int x3, .int x2, .int x1, .ref 9], S) r ↔ xK (XC SK MT d 15 [.ref 9, .int x1, .int x2, .int x3, .int x4] S) (fun v S => XL SK MT d 135 (101, lv, v.toList ++ [], S) r) := X_inv (n := 5) (kd := 2) (st0 := [.int x4, .int x3, .int x2, .int x1, .ref 9]) rfl (Or.inr ⟨rfl, rfl⟩) rfl (Nat.le_of_ble_eq_true rfl) (Nat.le_of_ble_eq_true rfl) (by decide) rfl
theorem rX5_layPush_101 {d : Nat} {lv : xLV} {st : List Value} {S : xS} {r : xO} : XL SK MT d 135 (101, lv, st, S) r ↔ xA (xlook lv 0) (fun x => XL SK MT d 135 (102, lv, .ref x :: st, S) r) := X_ldA rfl rfl (fun _ => rfl) rfl rfl rfl rfl
theorem rX5_layPush_102 {d : Nat} {lv : xLV} {st : List Value} {S : xS} {r : xO} : XL SK MT d 135 (102, lv, .ref 10 :: st, S) r ↔ XL SK MT d 135 (105, lv, .ref 9 :: st, S) r := X_heap rfl rfl rfl rfl rfl
theorem rX5_layPush_105 {d : Nat} {lv : xLV} {st : List Value} {S : xS} {r : xO} : XL SK MT d 135 (105, lv, st, S) r ↔ XL SK MT d 135 (106, lv, .int 4 :: st, S) r := X_pure rfl rfl rfl
theorem rX5_layPush_106 {d : Nat} {lv : xLV} {st : List Value} {S : xS} {r : xO} : XL SK MT d 135 (106, lv, st, S) r ↔ XL SK MT d 135 (107, lv, .int 1 :: st, S) r := X_pure rfl rfl rfl
theorem rX5_layPush_107 {d : Nat} {lv : xLV} {st : List Value} {S : xS} {r : xO} : XL SK MT d 135 (107, lv, st, S) r ↔ XL SK MT d 135 (108, lv, .int 0 :: st, S) r := X_pure rfl rfl rfl
theorem rX5_layPush_108 {d : Nat} {lv : xLV} {st : List Value} {S : xS} {r : xO} : XL SK MT d 135 (108, lv, st, S) r ↔ xI (xlook lv 2) (fun x => XL SK MT d 135 (109, lv, .int x :: st, S) r) := X_ldI rfl rfl (fun _ => rfl) rfl rfl rfl rfl
theorem rX5_layPush_109 {d : Nat} {lv : xLV} {S : xS} {r : xO} {x1 : Int32} {x2 : Int32} {x3 : Int32} {x4 : Int32} : XL SK MT d 135 (109, lv, [.int x4, .int x3, .int x2, .int x1, .ref 9], S) r ↔ xK (XC SK MT d 24 [.ref 9, .int x1, .int x2, .int x3, .int x4] S) (fun v S => XL SK MT d 135 (112, lv, v.toList ++ [], S) r) := X_inv (n := 5) (kd := 2) (st0 := [.int x4, .int x3, .int x2, .int x1, .ref 9]) rfl (Or.inr ⟨rfl, rfl⟩) rfl (Nat.le_of_ble_eq_true rfl) (Nat.le_of_ble_eq_true rfl) (by decide) rfl
theorem rX5_layPush_112 {d : Nat} {lv : xLV} {st : List Value} {S : xS} {r : xO} : XL SK MT d 135 (112, lv, st, S) r ↔ xA (xlook lv 0) (fun x => XL SK MT d 135 (113, lv, .ref x :: st, S) r) := X_ldA rfl rfl (fun _ => rfl) rfl rfl rfl rfl
theorem rX5_layPush_113 {d : Nat} {lv : xLV} {st : List Value} {S : xS} {r : xO} : XL SK MT d 135 (113, lv, .ref 10 :: st, S) r ↔ XL SK MT d 135 (116, lv, .ref 9 :: st, S) r := X_heap rfl rfl rfl rfl rfl
theorem rX5_layPush_116 {d : Nat} {lv : xLV} {st : List Value} {S : xS} {r : xO} : XL SK MT d 135 (116, lv, st, S) r ↔ XL SK MT d 135 (118, lv, .int 22 :: st, S) r := X_pure rfl rfl rfl
theorem rX5_layPush_118 {d : Nat} {lv : xLV} {st : List Value} {S : xS} {r : xO} : XL SK MT d 135 (118, lv, st, S) r ↔ XL SK MT d 135 (120, lv, .int 16 :: st, S) r := X_pure rfl rfl rfl
theorem rX5_layPush_120 {d : Nat} {lv : xLV} {S : xS} {r : xO} {x1 : Int32} {x2 : Int32} : XL SK MT d 135 (120, lv, [.int x2, .int x1, .ref 9], S) r ↔ xK (XC SK MT d 21 [.ref 9, .int x1, .int x2] S) (fun v S => XL SK MT d 135 (123, lv, v.toList ++ [], S) r) := X_inv (n := 3) (kd := 2) (st0 := [.int x2, .int x1, .ref 9]) rfl (Or.inr ⟨rfl, rfl⟩) rfl (Nat.le_of_ble_eq_true rfl) (Nat.le_of_ble_eq_true rfl) (by decide) rfl
theorem rX5_layPush_123 {d : Nat} {lv : xLV} {st : List Value} {S : xS} {r : xO} : XL SK MT d 135 (123, lv, st, S) r ↔ xA (xlook lv 0) (fun x => XL SK MT d 135 (124, lv, .ref x :: st, S) r) := X_ldA rfl rfl (fun _ => rfl) rfl rfl rfl rfl
theorem rX5_layPush_124 {d : Nat} {lv : xLV} {st : List Value} {S : xS} {r : xO} : XL SK MT d 135 (124, lv, .ref 10 :: st, S) r ↔ XL SK MT d 135 (127, lv, .ref 9 :: st, S) r := X_heap rfl rfl rfl rfl rfl
theorem rX5_layPush_127 {d : Nat} {lv : xLV} {st : List Value} {S : xS} {r : xO} : XL SK MT d 135 (127, lv, st, S) r ↔ xI (xlook lv 2) (fun x => XL SK MT d 135 (128, lv, .int x :: st, S) r) := X_ldI rfl rfl (fun _ => rfl) rfl rfl rfl rfl
theorem rX5_layPush_128 {d : Nat} {lv : xLV} {S : xS} {r : xO} {x1 : Int32} : XL SK MT d 135 (128, lv, [.int x1, .ref 9], S) r ↔ xK (XC SK MT d 3 [.ref 9, .int x1] S) (fun v S => XL SK MT d 135 (131, lv, v.toList ++ [], S) r) := X_inv (n := 2) (kd := 2) (st0 := [.int x1, .ref 9]) rfl (Or.inr ⟨rfl, rfl⟩) rfl (Nat.le_of_ble_eq_true rfl) (Nat.le_of_ble_eq_true rfl) (by decide) rfl
theorem rX5_layPush_131 {d : Nat} {lv : xLV} {st : List Value} {S : xS} {r : xO} : XL SK MT d 135 (131, lv, st, S) r ↔ xA (xlook lv 0) (fun x => XL SK MT d 135 (132, lv, .ref x :: st, S) r) := X_ldA rfl rfl (fun _ => rfl) rfl rfl rfl rfl
theorem rX5_layPush_132 {d : Nat} {lv : xLV} {st : List Value} {S : xS} {r : xO} : XL SK MT d 135 (132, lv, .ref 10 :: st, S) r ↔ XL SK MT d 135 (135, lv, .ref 9 :: st, S) r := X_heap rfl rfl rfl rfl rfl
theorem rX5_layPush_135 {d : Nat} {lv : xLV} {st : List Value} {S : xS} {r : xO} : XL SK MT d 135 (135, lv, st, S) r ↔ XL SK MT d 135 (137, lv, .int 31 :: st, S) r := X_pure rfl rfl rfl
theorem rX5_layPush_137 {d : Nat} {lv : xLV} {S : xS} {r : xO} {x1 : Int32} : XL SK MT d 135 (137, lv, [.int x1, .ref 9], S) r ↔ xK (XC SK MT d 29 [.ref 9, .int x1] S) (fun v S => XL SK MT d 135 (140, lv, v.toList ++ [], S) r) := X_inv (n := 2) (kd := 2) (st0 := [.int x1, .ref 9]) rfl (Or.inr ⟨rfl, rfl⟩) rfl (Nat.le_of_ble_eq_true rfl) (Nat.le_of_ble_eq_true rfl) (by decide) rfl
theorem rX5_layPush_140 {d : Nat} {lv : xLV} {S : xS} {r : xO} : XL SK MT d 135 (140, lv, [], S) r ↔ (none, S) = r := X_ret rfl rfl rfl rfl rfl rfl

theorem rX5_layNeed_0 {d : Nat} {lv : xLV} {st : List Value} {S : xS} {r : xO} : XL SK MT d 136 (0, lv, st, S) r ↔ xA (xlook lv 0) (fun x => XL SK MT d 136 (1, lv, .ref x :: st, S) r) := X_ldA rfl rfl (fun _ => rfl) rfl rfl rfl rfl
theorem rX5_layNeed_1 {d : Nat} {lv : xLV} {st : List Value} {S : xS} {r : xO} : XL SK MT d 136 (1, lv, .ref 10 :: st, S) r ↔ XL SK MT d 136 (4, lv, .ref 9 :: st, S) r := X_heap rfl rfl rfl rfl rfl
theorem rX5_layNeed_4 {d : Nat} {lv : xLV} {S : xS} {r : xO} : XL SK MT d 136 (4, lv, [.ref 9], S) r ↔ xK (XC SK MT d 1 [.ref 9] S) (fun v S => XL SK MT d 136 (7, lv, v.toList ++ [], S) r) := X_inv (n := 1) (kd := 2) (st0 := [.ref 9]) rfl (Or.inr ⟨rfl, rfl⟩) rfl (Nat.le_of_ble_eq_true rfl) (Nat.le_of_ble_eq_true rfl) (by decide) rfl
theorem rX5_layNeed_7 {d : Nat} {lv : xLV} {st : List Value} {S : xS} {r : xO} {x : Int32} : XL SK MT d 136 (7, lv, .int x :: st, S) r ↔ XL SK MT d 136 (8, xst1 lv 1 (.int x), st, S) r := X_pure rfl rfl rfl
theorem rX5_layNeed_8 {d : Nat} {lv : xLV} {st : List Value} {S : xS} {r : xO} : XL SK MT d 136 (8, lv, st, S) r ↔ xA (xlook lv 0) (fun x => XL SK MT d 136 (9, lv, .ref x :: st, S) r) := X_ldA rfl rfl (fun _ => rfl) rfl rfl rfl rfl
theorem rX5_layNeed_9 {d : Nat} {lv : xLV} {st : List Value} {S : xS} {r : xO} : XL SK MT d 136 (9, lv, .ref 10 :: st, S) r ↔ XL SK MT d 136 (12, lv, .ref 9 :: st, S) r := X_heap rfl rfl rfl rfl rfl
theorem rX5_layNeed_12 {d : Nat} {lv : xLV} {S : xS} {r : xO} : XL SK MT d 136 (12, lv, [.ref 9], S) r ↔ xK (XC SK MT d 1 [.ref 9] S) (fun v S => XL SK MT d 136 (15, lv, v.toList ++ [], S) r) := X_inv (n := 1) (kd := 2) (st0 := [.ref 9]) rfl (Or.inr ⟨rfl, rfl⟩) rfl (Nat.le_of_ble_eq_true rfl) (Nat.le_of_ble_eq_true rfl) (by decide) rfl
theorem rX5_layNeed_15 {d : Nat} {lv : xLV} {st : List Value} {S : xS} {r : xO} {x : Int32} : XL SK MT d 136 (15, lv, .int x :: st, S) r ↔ XL SK MT d 136 (16, xst1 lv 2 (.int x), st, S) r := X_pure rfl rfl rfl
theorem rX5_layNeed_16 {d : Nat} {lv : xLV} {st : List Value} {S : xS} {r : xO} : XL SK MT d 136 (16, lv, st, S) r ↔ xA (xlook lv 0) (fun x => XL SK MT d 136 (17, lv, .ref x :: st, S) r) := X_ldA rfl rfl (fun _ => rfl) rfl rfl rfl rfl
theorem rX5_layNeed_17 {d : Nat} {lv : xLV} {st : List Value} {S : xS} {r : xO} : XL SK MT d 136 (17, lv, .ref 10 :: st, S) r ↔ XL SK MT d 136 (20, lv, .ref 9 :: st, S) r := X_heap rfl rfl rfl rfl rfl
theorem rX5_layNeed_20 {d : Nat} {lv : xLV} {S : xS} {r : xO} : XL SK MT d 136 (20, lv, [.ref 9], S) r ↔ xK (XC SK MT d 1 [.ref 9] S) (fun v S => XL SK MT d 136 (23, lv, v.toList ++ [], S) r) := X_inv (n := 1) (kd := 2) (st0 := [.ref 9]) rfl (Or.inr ⟨rfl, rfl⟩) rfl (Nat.le_of_ble_eq_true rfl) (Nat.le_of_ble_eq_true rfl) (by decide) rfl
theorem rX5_layNeed_23 {d : Nat} {lv : xLV} {st : List Value} {S : xS} {r : xO} {x : Int32} : XL SK MT d 136 (23, lv, .int x :: st, S) r ↔ XL SK MT d 136 (24, xst1 lv 3 (.int x), st, S) r := X_pure rfl rfl rfl
theorem rX5_layNeed_24 {d : Nat} {lv : xLV} {st : List Value} {S : xS} {r : xO} : XL SK MT d 136 (24, lv, st, S) r ↔ xA (xlook lv 0) (fun x => XL SK MT d 136 (25, lv, .ref x :: st, S) r) := X_ldA rfl rfl (fun _ => rfl) rfl rfl rfl rfl
theorem rX5_layNeed_25 {d : Nat} {lv : xLV} {st : List Value} {S : xS} {r : xO} : XL SK MT d 136 (25, lv, .ref 10 :: st, S) r ↔ XL SK MT d 136 (28, lv, .ref 9 :: st, S) r := X_heap rfl rfl rfl rfl rfl
theorem rX5_layNeed_28 {d : Nat} {lv : xLV} {st : List Value} {S : xS} {r : xO} : XL SK MT d 136 (28, lv, st, S) r ↔ XL SK MT d 136 (30, lv, .int 65537 :: st, S) r := X_pure rfl rfl rfl
theorem rX5_layNeed_30 {d : Nat} {lv : xLV} {S : xS} {r : xO} {x1 : Int32} : XL SK MT d 136 (30, lv, [.int x1, .ref 9], S) r ↔ xK (XC SK MT d 3 [.ref 9, .int x1] S) (fun v S => XL SK MT d 136 (33, lv, v.toList ++ [], S) r) := X_inv (n := 2) (kd := 2) (st0 := [.int x1, .ref 9]) rfl (Or.inr ⟨rfl, rfl⟩) rfl (Nat.le_of_ble_eq_true rfl) (Nat.le_of_ble_eq_true rfl) (by decide) rfl
theorem rX5_layNeed_33 {d : Nat} {lv : xLV} {st : List Value} {S : xS} {r : xO} : XL SK MT d 136 (33, lv, st, S) r ↔ xA (xlook lv 0) (fun x => XL SK MT d 136 (34, lv, .ref x :: st, S) r) := X_ldA rfl rfl (fun _ => rfl) rfl rfl rfl rfl
theorem rX5_layNeed_34 {d : Nat} {lv : xLV} {st : List Value} {S : xS} {r : xO} : XL SK MT d 136 (34, lv, .ref 10 :: st, S) r ↔ XL SK MT d 136 (37, lv, .ref 9 :: st, S) r := X_heap rfl rfl rfl rfl rfl
theorem rX5_layNeed_37 {d : Nat} {lv : xLV} {st : List Value} {S : xS} {r : xO} : XL SK MT d 136 (37, lv, st, S) r ↔ XL SK MT d 136 (39, lv, .int 35 :: st, S) r := X_pure rfl rfl rfl
theorem rX5_layNeed_39 {d : Nat} {lv : xLV} {st : List Value} {S : xS} {r : xO} : XL SK MT d 136 (39, lv, st, S) r ↔ XL SK MT d 136 (41, lv, .int 8 :: st, S) r := X_pure rfl rfl rfl
theorem rX5_layNeed_41 {d : Nat} {lv : xLV} {st : List Value} {S : xS} {r : xO} : XL SK MT d 136 (41, lv, st, S) r ↔ XL SK MT d 136 (43, lv, .int 19 :: st, S) r := X_pure rfl rfl rfl
theorem rX5_layNeed_43 {d : Nat} {lv : xLV} {st : List Value} {S : xS} {r : xO} : XL SK MT d 136 (43, lv, st, S) r ↔ XL SK MT d 136 (45, lv, .int 18 :: st, S) r := X_pure rfl rfl rfl
theorem rX5_layNeed_45 {d : Nat} {lv : xLV} {S : xS} {r : xO} {x1 : Int32} {x2 : Int32} {x3 : Int32} {x4 : Int32} : XL SK MT d 136 (45, lv, [.int x4, .int x3, .int x2, .int x1, .ref 9], S) r ↔ xK (XC SK MT d 15 [.ref 9, .int x1, .int x2, .int x3, .int x4] S) (fun v S => XL SK MT d 136 (48, lv, v.toList ++ [], S) r) := X_inv (n := 5) (kd := 2) (st0 := [.int x4, .int x3, .int x2, .int x1, .ref 9]) rfl (Or.inr ⟨rfl, rfl⟩) rfl (Nat.le_of_ble_eq_true rfl) (Nat.le_of_ble_eq_true rfl) (by decide) rfl
theorem rX5_layNeed_48 {d : Nat} {lv : xLV} {st : List Value} {S : xS} {r : xO} : XL SK MT d 136 (48, lv, st, S) r ↔ xA (xlook lv 0) (fun x => XL SK MT d 136 (49, lv, .ref x :: st, S) r) := X_ldA rfl rfl (fun _ => rfl) rfl rfl rfl rfl
theorem rX5_layNeed_49 {d : Nat} {lv : xLV} {st : List Value} {S : xS} {r : xO} : XL SK MT d 136 (49, lv, .ref 10 :: st, S) r ↔ XL SK MT d 136 (52, lv, .ref 9 :: st, S) r := X_heap rfl rfl rfl rfl rfl
theorem rX5_layNeed_52 {d : Nat} {lv : xLV} {st : List Value} {S : xS} {r : xO} : XL SK MT d 136 (52, lv, st, S) r ↔ XL SK MT d 136 (54, lv, .int 43 :: st, S) r := X_pure rfl rfl rfl
theorem rX5_layNeed_54 {d : Nat} {lv : xLV} {st : List Value} {S : xS} {r : xO} : XL SK MT d 136 (54, lv, st, S) r ↔ XL SK MT d 136 (56, lv, .int 8 :: st, S) r := X_pure rfl rfl rfl
theorem rX5_layNeed_56 {d : Nat} {lv : xLV} {st : List Value} {S : xS} {r : xO} : XL SK MT d 136 (56, lv, st, S) r ↔ XL SK MT d 136 (58, lv, .int 8 :: st, S) r := X_pure rfl rfl rfl
theorem rX5_layNeed_58 {d : Nat} {lv : xLV} {st : List Value} {S : xS} {r : xO} : XL SK MT d 136 (58, lv, st, S) r ↔ XL SK MT d 136 (59, lv, .int 4 :: st, S) r := X_pure rfl rfl rfl
theorem rX5_layNeed_59 {d : Nat} {lv : xLV} {S : xS} {r : xO} {x1 : Int32} {x2 : Int32} {x3 : Int32} {x4 : Int32} : XL SK MT d 136 (59, lv, [.int x4, .int x3, .int x2, .int x1, .ref 9], S) r ↔ xK (XC SK MT d 15 [.ref 9, .int x1, .int x2, .int x3, .int x4] S) (fun v S => XL SK MT d 136 (62, lv, v.toList ++ [], S) r) := X_inv (n := 5) (kd := 2) (st0 := [.int x4, .int x3, .int x2, .int x1, .ref 9]) rfl (Or.inr ⟨rfl, rfl⟩) rfl (Nat.le_of_ble_eq_true rfl) (Nat.le_of_ble_eq_true rfl) (by decide) rfl
theorem rX5_layNeed_62 {d : Nat} {lv : xLV} {st : List Value} {S : xS} {r : xO} : XL SK MT d 136 (62, lv, st, S) r ↔ xA (xlook lv 0) (fun x => XL SK MT d 136 (63, lv, .ref x :: st, S) r) := X_ldA rfl rfl (fun _ => rfl) rfl rfl rfl rfl
theorem rX5_layNeed_63 {d : Nat} {lv : xLV} {st : List Value} {S : xS} {r : xO} : XL SK MT d 136 (63, lv, .ref 10 :: st, S) r ↔ XL SK MT d 136 (66, lv, .ref 9 :: st, S) r := X_heap rfl rfl rfl rfl rfl
theorem rX5_layNeed_66 {d : Nat} {lv : xLV} {st : List Value} {S : xS} {r : xO} : XL SK MT d 136 (66, lv, st, S) r ↔ XL SK MT d 136 (67, lv, .int 4 :: st, S) r := X_pure rfl rfl rfl
theorem rX5_layNeed_67 {d : Nat} {lv : xLV} {st : List Value} {S : xS} {r : xO} : XL SK MT d 136 (67, lv, st, S) r ↔ XL SK MT d 136 (69, lv, .int 8 :: st, S) r := X_pure rfl rfl rfl
theorem rX5_layNeed_69 {d : Nat} {lv : xLV} {st : List Value} {S : xS} {r : xO} : XL SK MT d 136 (69, lv, st, S) r ↔ XL SK MT d 136 (70, lv, .int 0 :: st, S) r := X_pure rfl rfl rfl
theorem rX5_layNeed_70 {d : Nat} {lv : xLV} {st : List Value} {S : xS} {r : xO} : XL SK MT d 136 (70, lv, st, S) r ↔ xI (xlook lv 1) (fun x => XL SK MT d 136 (71, lv, .int x :: st, S) r) := X_ldI rfl rfl (fun _ => rfl) rfl rfl rfl rfl
theorem rX5_layNeed_71 {d : Nat} {lv : xLV} {S : xS} {r : xO} {x1 : Int32} {x2 : Int32} {x3 : Int32} {x4 : Int32} : XL SK MT d 136 (71, lv, [.int x4, .int x3, .int x2, .int x1, .ref 9], S) r ↔ xK (XC SK MT d 24 [.ref 9, .int x1, .int x2, .int x3, .int x4] S) (fun v S => XL SK MT d 136 (74, lv, v.toList ++ [], S) r) := X_inv (n := 5) (kd := 2) (st0 := [.int x4, .int x3, .int x2, .int x1, .ref 9]) rfl (Or.inr ⟨rfl, rfl⟩) rfl (Nat.le_of_ble_eq_true rfl) (Nat.le_of_ble_eq_true rfl) (by decide) rfl
theorem rX5_layNeed_74 {d : Nat} {lv : xLV} {st : List Value} {S : xS} {r : xO} : XL SK MT d 136 (74, lv, st, S) r ↔ xA (xlook lv 0) (fun x => XL SK MT d 136 (75, lv, .ref x :: st, S) r) := X_ldA rfl rfl (fun _ => rfl) rfl rfl rfl rfl
theorem rX5_layNeed_75 {d : Nat} {lv : xLV} {st : List Value} {S : xS} {r : xO} : XL SK MT d 136 (75, lv, .ref 10 :: st, S) r ↔ XL SK MT d 136 (78, lv, .ref 9 :: st, S) r := X_heap rfl rfl rfl rfl rfl
theorem rX5_layNeed_78 {d : Nat} {lv : xLV} {st : List Value} {S : xS} {r : xO} : XL SK MT d 136 (78, lv, st, S) r ↔ XL SK MT d 136 (79, lv, .int 5 :: st, S) r := X_pure rfl rfl rfl
theorem rX5_layNeed_79 {d : Nat} {lv : xLV} {st : List Value} {S : xS} {r : xO} : XL SK MT d 136 (79, lv, st, S) r ↔ XL SK MT d 136 (81, lv, .int 20 :: st, S) r := X_pure rfl rfl rfl
theorem rX5_layNeed_81 {d : Nat} {lv : xLV} {st : List Value} {S : xS} {r : xO} : XL SK MT d 136 (81, lv, st, S) r ↔ XL SK MT d 136 (82, lv, .int 0 :: st, S) r := X_pure rfl rfl rfl
theorem rX5_layNeed_82 {d : Nat} {lv : xLV} {st : List Value} {S : xS} {r : xO} : XL SK MT d 136 (82, lv, st, S) r ↔ xI (xlook lv 3) (fun x => XL SK MT d 136 (83, lv, .int x :: st, S) r) := X_ldI rfl rfl (fun _ => rfl) rfl rfl rfl rfl
theorem rX5_layNeed_83 {d : Nat} {lv : xLV} {S : xS} {r : xO} {x1 : Int32} {x2 : Int32} {x3 : Int32} {x4 : Int32} : XL SK MT d 136 (83, lv, [.int x4, .int x3, .int x2, .int x1, .ref 9], S) r ↔ xK (XC SK MT d 24 [.ref 9, .int x1, .int x2, .int x3, .int x4] S) (fun v S => XL SK MT d 136 (86, lv, v.toList ++ [], S) r) := X_inv (n := 5) (kd := 2) (st0 := [.int x4, .int x3, .int x2, .int x1, .ref 9]) rfl (Or.inr ⟨rfl, rfl⟩) rfl (Nat.le_of_ble_eq_true rfl) (Nat.le_of_ble_eq_true rfl) (by decide) rfl
theorem rX5_layNeed_86 {d : Nat} {lv : xLV} {st : List Value} {S : xS} {r : xO} : XL SK MT d 136 (86, lv, st, S) r ↔ xA (xlook lv 0) (fun x => XL SK MT d 136 (87, lv, .ref x :: st, S) r) := X_ldA rfl rfl (fun _ => rfl) rfl rfl rfl rfl
theorem rX5_layNeed_87 {d : Nat} {lv : xLV} {st : List Value} {S : xS} {r : xO} : XL SK MT d 136 (87, lv, .ref 10 :: st, S) r ↔ XL SK MT d 136 (90, lv, .ref 9 :: st, S) r := X_heap rfl rfl rfl rfl rfl
theorem rX5_layNeed_90 {d : Nat} {lv : xLV} {st : List Value} {S : xS} {r : xO} : XL SK MT d 136 (90, lv, st, S) r ↔ XL SK MT d 136 (92, lv, .int 65560 :: st, S) r := X_pure rfl rfl rfl
theorem rX5_layNeed_92 {d : Nat} {lv : xLV} {S : xS} {r : xO} {x1 : Int32} : XL SK MT d 136 (92, lv, [.int x1, .ref 9], S) r ↔ xK (XC SK MT d 27 [.ref 9, .int x1] S) (fun v S => XL SK MT d 136 (95, lv, v.toList ++ [], S) r) := X_inv (n := 2) (kd := 2) (st0 := [.int x1, .ref 9]) rfl (Or.inr ⟨rfl, rfl⟩) rfl (Nat.le_of_ble_eq_true rfl) (Nat.le_of_ble_eq_true rfl) (by decide) rfl
theorem rX5_layNeed_95 {d : Nat} {lv : xLV} {st : List Value} {S : xS} {r : xO} : XL SK MT d 136 (95, lv, st, S) r ↔ xA (xlook lv 0) (fun x => XL SK MT d 136 (96, lv, .ref x :: st, S) r) := X_ldA rfl rfl (fun _ => rfl) rfl rfl rfl rfl
theorem rX5_layNeed_96 {d : Nat} {lv : xLV} {st : List Value} {S : xS} {r : xO} : XL SK MT d 136 (96, lv, .ref 10 :: st, S) r ↔ XL SK MT d 136 (99, lv, .ref 9 :: st, S) r := X_heap rfl rfl rfl rfl rfl
theorem rX5_layNeed_99 {d : Nat} {lv : xLV} {st : List Value} {S : xS} {r : xO} : XL SK MT d 136 (99, lv, st, S) r ↔ xI (xlook lv 3) (fun x => XL SK MT d 136 (100, lv, .int x :: st, S) r) := X_ldI rfl rfl (fun _ => rfl) rfl rfl rfl rfl
theorem rX5_layNeed_100 {d : Nat} {lv : xLV} {S : xS} {r : xO} {x1 : Int32} : XL SK MT d 136 (100, lv, [.int x1, .ref 9], S) r ↔ xK (XC SK MT d 3 [.ref 9, .int x1] S) (fun v S => XL SK MT d 136 (103, lv, v.toList ++ [], S) r) := X_inv (n := 2) (kd := 2) (st0 := [.int x1, .ref 9]) rfl (Or.inr ⟨rfl, rfl⟩) rfl (Nat.le_of_ble_eq_true rfl) (Nat.le_of_ble_eq_true rfl) (by decide) rfl
theorem rX5_layNeed_103 {d : Nat} {lv : xLV} {st : List Value} {S : xS} {r : xO} : XL SK MT d 136 (103, lv, st, S) r ↔ xA (xlook lv 0) (fun x => XL SK MT d 136 (104, lv, .ref x :: st, S) r) := X_ldA rfl rfl (fun _ => rfl) rfl rfl rfl rfl
theorem rX5_layNeed_104 {d : Nat} {lv : xLV} {st : List Value} {S : xS} {r : xO} : XL SK MT d 136 (104, lv, .ref 10 :: st, S) r ↔ XL SK MT d 136 (107, lv, .ref 9 :: st, S) r := X_heap rfl rfl rfl rfl rfl
theorem rX5_layNeed_107 {d : Nat} {lv : xLV} {st : List Value} {S : xS} {r : xO} : XL SK MT d 136 (107, lv, st, S) r ↔ XL SK MT d 136 (109, lv, .int 9 :: st, S) r := X_pure rfl rfl rfl
theorem rX5_layNeed_109 {d : Nat} {lv : xLV} {st : List Value} {S : xS} {r : xO} : XL SK MT d 136 (109, lv, st, S) r ↔ XL SK MT d 136 (112, lv, .int 1100 :: st, S) r := X_pure rfl rfl rfl
theorem rX5_layNeed_112 {d : Nat} {lv : xLV} {st : List Value} {S : xS} {r : xO} : XL SK MT d 136 (112, lv, st, S) r ↔ XL SK MT d 136 (113, lv, .int 0 :: st, S) r := X_pure rfl rfl rfl
theorem rX5_layNeed_113 {d : Nat} {lv : xLV} {S : xS} {r : xO} {x1 : Int32} {x2 : Int32} {x3 : Int32} : XL SK MT d 136 (113, lv, [.int x3, .int x2, .int x1, .ref 9], S) r ↔ xK (XC SK MT d 18 [.ref 9, .int x1, .int x2, .int x3] S) (fun v S => XL SK MT d 136 (116, lv, v.toList ++ [], S) r) := X_inv (n := 4) (kd := 2) (st0 := [.int x3, .int x2, .int x1, .ref 9]) rfl (Or.inr ⟨rfl, rfl⟩) rfl (Nat.le_of_ble_eq_true rfl) (Nat.le_of_ble_eq_true rfl) (by decide) rfl
theorem rX5_layNeed_116 {d : Nat} {lv : xLV} {st : List Value} {S : xS} {r : xO} : XL SK MT d 136 (116, lv, st, S) r ↔ xA (xlook lv 0) (fun x => XL SK MT d 136 (117, lv, .ref x :: st, S) r) := X_ldA rfl rfl (fun _ => rfl) rfl rfl rfl rfl
theorem rX5_layNeed_117 {d : Nat} {lv : xLV} {st : List Value} {S : xS} {r : xO} : XL SK MT d 136 (117, lv, .ref 10 :: st, S) r ↔ XL SK MT d 136 (120, lv, .ref 9 :: st, S) r := X_heap rfl rfl rfl rfl rfl
theorem rX5_layNeed_120 {d : Nat} {lv : xLV} {st : List Value} {S : xS} {r : xO} : XL SK MT d 136 (120, lv, st, S) r ↔ XL SK MT d 136 (122, lv, .int 20 :: st, S) r := X_pure rfl rfl rfl
theorem rX5_layNeed_122 {d : Nat} {lv : xLV} {st : List Value} {S : xS} {r : xO} : XL SK MT d 136 (122, lv, st, S) r ↔ XL SK MT d 136 (124, lv, .int 20 :: st, S) r := X_pure rfl rfl rfl
theorem rX5_layNeed_124 {d : Nat} {lv : xLV} {st : List Value} {S : xS} {r : xO} : XL SK MT d 136 (124, lv, st, S) r ↔ XL SK MT d 136 (125, lv, .int (-1) :: st, S) r := X_pure rfl rfl rfl
theorem rX5_layNeed_125 {d : Nat} {lv : xLV} {S : xS} {r : xO} {x1 : Int32} {x2 : Int32} {x3 : Int32} : XL SK MT d 136 (125, lv, [.int x3, .int x2, .int x1, .ref 9], S) r ↔ xK (XC SK MT d 20 [.ref 9, .int x1, .int x2, .int x3] S) (fun v S => XL SK MT d 136 (128, lv, v.toList ++ [], S) r) := X_inv (n := 4) (kd := 2) (st0 := [.int x3, .int x2, .int x1, .ref 9]) rfl (Or.inr ⟨rfl, rfl⟩) rfl (Nat.le_of_ble_eq_true rfl) (Nat.le_of_ble_eq_true rfl) (by decide) rfl
theorem rX5_layNeed_128 {d : Nat} {lv : xLV} {st : List Value} {S : xS} {r : xO} : XL SK MT d 136 (128, lv, st, S) r ↔ xA (xlook lv 0) (fun x => XL SK MT d 136 (129, lv, .ref x :: st, S) r) := X_ldA rfl rfl (fun _ => rfl) rfl rfl rfl rfl
theorem rX5_layNeed_129 {d : Nat} {lv : xLV} {st : List Value} {S : xS} {r : xO} : XL SK MT d 136 (129, lv, .ref 10 :: st, S) r ↔ XL SK MT d 136 (132, lv, .ref 9 :: st, S) r := X_heap rfl rfl rfl rfl rfl
theorem rX5_layNeed_132 {d : Nat} {lv : xLV} {st : List Value} {S : xS} {r : xO} : XL SK MT d 136 (132, lv, st, S) r ↔ XL SK MT d 136 (134, lv, .int 9 :: st, S) r := X_pure rfl rfl rfl
theorem rX5_layNeed_134 {d : Nat} {lv : xLV} {st : List Value} {S : xS} {r : xO} : XL SK MT d 136 (134, lv, st, S) r ↔ XL SK MT d 136 (136, lv, .int 9 :: st, S) r := X_pure rfl rfl rfl
theorem rX5_layNeed_136 {d : Nat} {lv : xLV} {st : List Value} {S : xS} {r : xO} : XL SK MT d 136 (136, lv, st, S) r ↔ XL SK MT d 136 (137, lv, .int 1 :: st, S) r := X_pure rfl rfl rfl
theorem rX5_layNeed_137 {d : Nat} {lv : xLV} {S : xS} {r : xO} {x1 : Int32} {x2 : Int32} {x3 : Int32} : XL SK MT d 136 (137, lv, [.int x3, .int x2, .int x1, .ref 9], S) r ↔ xK (XC SK MT d 20 [.ref 9, .int x1, .int x2, .int x3] S) (fun v S => XL SK MT d 136 (140, lv, v.toList ++ [], S) r) := X_inv (n := 4) (kd := 2) (st0 := [.int x3, .int x2, .int x1, .ref 9]) rfl (Or.inr ⟨rfl, rfl⟩) rfl (Nat.le_of_ble_eq_true rfl) (Nat.le_of_ble_eq_true rfl) (by decide) rfl
theorem rX5_layNeed_140 {d : Nat} {lv : xLV} {st : List Value} {S : xS} {r : xO} : XL SK MT d 136 (140, lv, st, S) r ↔ xA (xlook lv 0) (fun x => XL SK MT d 136 (141, lv, .ref x :: st, S) r) := X_ldA rfl rfl (fun _ => rfl) rfl rfl rfl rfl
theorem rX5_layNeed_141 {d : Nat} {lv : xLV} {st : List Value} {S : xS} {r : xO} : XL SK MT d 136 (141, lv, .ref 10 :: st, S) r ↔ XL SK MT d 136 (144, lv, .ref 9 :: st, S) r := X_heap rfl rfl rfl rfl rfl
theorem rX5_layNeed_144 {d : Nat} {lv : xLV} {st : List Value} {S : xS} {r : xO} : XL SK MT d 136 (144, lv, st, S) r ↔ XL SK MT d 136 (146, lv, .int 9 :: st, S) r := X_pure rfl rfl rfl
theorem rX5_layNeed_146 {d : Nat} {lv : xLV} {st : List Value} {S : xS} {r : xO} : XL SK MT d 136 (146, lv, st, S) r ↔ XL SK MT d 136 (149, lv, .int 1100 :: st, S) r := X_pure rfl rfl rfl
theorem rX5_layNeed_149 {d : Nat} {lv : xLV} {st : List Value} {S : xS} {r : xO} : XL SK MT d 136 (149, lv, st, S) r ↔ XL SK MT d 136 (150, lv, .int 0 :: st, S) r := X_pure rfl rfl rfl
theorem rX5_layNeed_150 {d : Nat} {lv : xLV} {S : xS} {r : xO} {x1 : Int32} {x2 : Int32} {x3 : Int32} : XL SK MT d 136 (150, lv, [.int x3, .int x2, .int x1, .ref 9], S) r ↔ xK (XC SK MT d 19 [.ref 9, .int x1, .int x2, .int x3] S) (fun v S => XL SK MT d 136 (153, lv, v.toList ++ [], S) r) := X_inv (n := 4) (kd := 2) (st0 := [.int x3, .int x2, .int x1, .ref 9]) rfl (Or.inr ⟨rfl, rfl⟩) rfl (Nat.le_of_ble_eq_true rfl) (Nat.le_of_ble_eq_true rfl) (by decide) rfl
theorem rX5_layNeed_153 {d : Nat} {lv : xLV} {st : List Value} {S : xS} {r : xO} : XL SK MT d 136 (153, lv, st, S) r ↔ xA (xlook lv 0) (fun x => XL SK MT d 136 (154, lv, .ref x :: st, S) r) := X_ldA rfl rfl (fun _ => rfl) rfl rfl rfl rfl
theorem rX5_layNeed_154 {d : Nat} {lv : xLV} {st : List Value} {S : xS} {r : xO} : XL SK MT d 136 (154, lv, .ref 10 :: st, S) r ↔ XL SK MT d 136 (157, lv, .ref 9 :: st, S) r := X_heap rfl rfl rfl rfl rfl
theorem rX5_layNeed_157 {d : Nat} {lv : xLV} {st : List Value} {S : xS} {r : xO} : XL SK MT d 136 (157, lv, st, S) r ↔ XL SK MT d 136 (159, lv, .int 27 :: st, S) r := X_pure rfl rfl rfl
theorem rX5_layNeed_159 {d : Nat} {lv : xLV} {st : List Value} {S : xS} {r : xO} : XL SK MT d 136 (159, lv, st, S) r ↔ XL SK MT d 136 (161, lv, .int 31 :: st, S) r := X_pure rfl rfl rfl
theorem rX5_layNeed_161 {d : Nat} {lv : xLV} {S : xS} {r : xO} {x1 : Int32} {x2 : Int32} : XL SK MT d 136 (161, lv, [.int x2, .int x1, .ref 9], S) r ↔ xK (XC SK MT d 21 [.ref 9, .int x1, .int x2] S) (fun v S => XL SK MT d 136 (164, lv, v.toList ++ [], S) r) := X_inv (n := 3) (kd := 2) (st0 := [.int x2, .int x1, .ref 9]) rfl (Or.inr ⟨rfl, rfl⟩) rfl (Nat.le_of_ble_eq_true rfl) (Nat.le_of_ble_eq_true rfl) (by decide) rfl
theorem rX5_layNeed_164 {d : Nat} {lv : xLV} {st : List Value} {S : xS} {r : xO} : XL SK MT d 136 (164, lv, st, S) r ↔ xA (xlook lv 0) (fun x => XL SK MT d 136 (165, lv, .ref x :: st, S) r) := X_ldA rfl rfl (fun _ => rfl) rfl rfl rfl rfl
theorem rX5_layNeed_165 {d : Nat} {lv : xLV} {st : List Value} {S : xS} {r : xO} : XL SK MT d 136 (165, lv, .ref 10 :: st, S) r ↔ XL SK MT d 136 (168, lv, .ref 9 :: st, S) r := X_heap rfl rfl rfl rfl rfl
theorem rX5_layNeed_168 {d : Nat} {lv : xLV} {st : List Value} {S : xS} {r : xO} : XL SK MT d 136 (168, lv, st, S) r ↔ XL SK MT d 136 (170, lv, .int 65539 :: st, S) r := X_pure rfl rfl rfl
theorem rX5_layNeed_170 {d : Nat} {lv : xLV} {S : xS} {r : xO} {x1 : Int32} : XL SK MT d 136 (170, lv, [.int x1, .ref 9], S) r ↔ xK (XC SK MT d 28 [.ref 9, .int x1] S) (fun v S => XL SK MT d 136 (173, lv, v.toList ++ [], S) r) := X_inv (n := 2) (kd := 2) (st0 := [.int x1, .ref 9]) rfl (Or.inr ⟨rfl, rfl⟩) rfl (Nat.le_of_ble_eq_true rfl) (Nat.le_of_ble_eq_true rfl) (by decide) rfl
theorem rX5_layNeed_173 {d : Nat} {lv : xLV} {st : List Value} {S : xS} {r : xO} : XL SK MT d 136 (173, lv, st, S) r ↔ xA (xlook lv 0) (fun x => XL SK MT d 136 (174, lv, .ref x :: st, S) r) := X_ldA rfl rfl (fun _ => rfl) rfl rfl rfl rfl
theorem rX5_layNeed_174 {d : Nat} {lv : xLV} {st : List Value} {S : xS} {r : xO} : XL SK MT d 136 (174, lv, .ref 10 :: st, S) r ↔ XL SK MT d 136 (177, lv, .ref 9 :: st, S) r := X_heap rfl rfl rfl rfl rfl
theorem rX5_layNeed_177 {d : Nat} {lv : xLV} {st : List Value} {S : xS} {r : xO} : XL SK MT d 136 (177, lv, st, S) r ↔ XL SK MT d 136 (179, lv, .int 31 :: st, S) r := X_pure rfl rfl rfl
theorem rX5_layNeed_179 {d : Nat} {lv : xLV} {st : List Value} {S : xS} {r : xO} : XL SK MT d 136 (179, lv, st, S) r ↔ XL SK MT d 136 (181, lv, .int 27 :: st, S) r := X_pure rfl rfl rfl
theorem rX5_layNeed_181 {d : Nat} {lv : xLV} {S : xS} {r : xO} {x1 : Int32} {x2 : Int32} : XL SK MT d 136 (181, lv, [.int x2, .int x1, .ref 9], S) r ↔ xK (XC SK MT d 21 [.ref 9, .int x1, .int x2] S) (fun v S => XL SK MT d 136 (184, lv, v.toList ++ [], S) r) := X_inv (n := 3) (kd := 2) (st0 := [.int x2, .int x1, .ref 9]) rfl (Or.inr ⟨rfl, rfl⟩) rfl (Nat.le_of_ble_eq_true rfl) (Nat.le_of_ble_eq_true rfl) (by decide) rfl
theorem rX5_layNeed_184 {d : Nat} {lv : xLV} {st : List Value} {S : xS} {r : xO} : XL SK MT d 136 (184, lv, st, S) r ↔ xA (xlook lv 0) (fun x => XL SK MT d 136 (185, lv, .ref x :: st, S) r) := X_ldA rfl rfl (fun _ => rfl) rfl rfl rfl rfl
theorem rX5_layNeed_185 {d : Nat} {lv : xLV} {st : List Value} {S : xS} {r : xO} : XL SK MT d 136 (185, lv, .ref 10 :: st, S) r ↔ XL SK MT d 136 (188, lv, .ref 9 :: st, S) r := X_heap rfl rfl rfl rfl rfl
theorem rX5_layNeed_188 {d : Nat} {lv : xLV} {st : List Value} {S : xS} {r : xO} : XL SK MT d 136 (188, lv, st, S) r ↔ XL SK MT d 136 (190, lv, .int 35 :: st, S) r := X_pure rfl rfl rfl
theorem rX5_layNeed_190 {d : Nat} {lv : xLV} {st : List Value} {S : xS} {r : xO} : XL SK MT d 136 (190, lv, st, S) r ↔ XL SK MT d 136 (192, lv, .int 8 :: st, S) r := X_pure rfl rfl rfl
theorem rX5_layNeed_192 {d : Nat} {lv : xLV} {st : List Value} {S : xS} {r : xO} : XL SK MT d 136 (192, lv, st, S) r ↔ XL SK MT d 136 (194, lv, .int 19 :: st, S) r := X_pure rfl rfl rfl
theorem rX5_layNeed_194 {d : Nat} {lv : xLV} {st : List Value} {S : xS} {r : xO} : XL SK MT d 136 (194, lv, st, S) r ↔ XL SK MT d 136 (196, lv, .int 18 :: st, S) r := X_pure rfl rfl rfl
theorem rX5_layNeed_196 {d : Nat} {lv : xLV} {S : xS} {r : xO} {x1 : Int32} {x2 : Int32} {x3 : Int32} {x4 : Int32} : XL SK MT d 136 (196, lv, [.int x4, .int x3, .int x2, .int x1, .ref 9], S) r ↔ xK (XC SK MT d 15 [.ref 9, .int x1, .int x2, .int x3, .int x4] S) (fun v S => XL SK MT d 136 (199, lv, v.toList ++ [], S) r) := X_inv (n := 5) (kd := 2) (st0 := [.int x4, .int x3, .int x2, .int x1, .ref 9]) rfl (Or.inr ⟨rfl, rfl⟩) rfl (Nat.le_of_ble_eq_true rfl) (Nat.le_of_ble_eq_true rfl) (by decide) rfl
theorem rX5_layNeed_199 {d : Nat} {lv : xLV} {st : List Value} {S : xS} {r : xO} : XL SK MT d 136 (199, lv, st, S) r ↔ xA (xlook lv 0) (fun x => XL SK MT d 136 (200, lv, .ref x :: st, S) r) := X_ldA rfl rfl (fun _ => rfl) rfl rfl rfl rfl
theorem rX5_layNeed_200 {d : Nat} {lv : xLV} {st : List Value} {S : xS} {r : xO} : XL SK MT d 136 (200, lv, .ref 10 :: st, S) r ↔ XL SK MT d 136 (203, lv, .ref 9 :: st, S) r := X_heap rfl rfl rfl rfl rfl
theorem rX5_layNeed_203 {d : Nat} {lv : xLV} {st : List Value} {S : xS} {r : xO} : XL SK MT d 136 (203, lv, st, S) r ↔ XL SK MT d 136 (205, lv, .int 43 :: st, S) r := X_pure rfl rfl rfl
theorem rX5_layNeed_205 {d : Nat} {lv : xLV} {st : List Value} {S : xS} {r : xO} : XL SK MT d 136 (205, lv, st, S) r ↔ XL SK MT d 136 (207, lv, .int 8 :: st, S) r := X_pure rfl rfl rfl
theorem rX5_layNeed_207 {d : Nat} {lv : xLV} {st : List Value} {S : xS} {r : xO} : XL SK MT d 136 (207, lv, st, S) r ↔ XL SK MT d 136 (209, lv, .int 8 :: st, S) r := X_pure rfl rfl rfl
theorem rX5_layNeed_209 {d : Nat} {lv : xLV} {st : List Value} {S : xS} {r : xO} : XL SK MT d 136 (209, lv, st, S) r ↔ XL SK MT d 136 (210, lv, .int 4 :: st, S) r := X_pure rfl rfl rfl
theorem rX5_layNeed_210 {d : Nat} {lv : xLV} {S : xS} {r : xO} {x1 : Int32} {x2 : Int32} {x3 : Int32} {x4 : Int32} : XL SK MT d 136 (210, lv, [.int x4, .int x3, .int x2, .int x1, .ref 9], S) r ↔ xK (XC SK MT d 15 [.ref 9, .int x1, .int x2, .int x3, .int x4] S) (fun v S => XL SK MT d 136 (213, lv, v.toList ++ [], S) r) := X_inv (n := 5) (kd := 2) (st0 := [.int x4, .int x3, .int x2, .int x1, .ref 9]) rfl (Or.inr ⟨rfl, rfl⟩) rfl (Nat.le_of_ble_eq_true rfl) (Nat.le_of_ble_eq_true rfl) (by decide) rfl
theorem rX5_layNeed_213 {d : Nat} {lv : xLV} {st : List Value} {S : xS} {r : xO} : XL SK MT d 136 (213, lv, st, S) r ↔ xA (xlook lv 0) (fun x => XL SK MT d 136 (214, lv, .ref x :: st, S) r) := X_ldA rfl rfl (fun _ => rfl) rfl rfl rfl rfl
theorem rX5_layNeed_214 {d : Nat} {lv : xLV} {st : List Value} {S : xS} {r : xO} : XL SK MT d 136 (214, lv, .ref 10 :: st, S) r ↔ XL SK MT d 136 (217, lv, .ref 9 :: st, S) r := X_heap rfl rfl rfl rfl rfl
theorem rX5_layNeed_217 {d : Nat} {lv : xLV} {st : List Value} {S : xS} {r : xO} : XL SK MT d 136 (217, lv, st, S) r ↔ XL SK MT d 136 (218, lv, .int 4 :: st, S) r := X_pure rfl rfl rfl
theorem rX5_layNeed_218 {d : Nat} {lv : xLV} {st : List Value} {S : xS} {r : xO} : XL SK MT d 136 (218, lv, st, S) r ↔ XL SK MT d 136 (220, lv, .int 8 :: st, S) r := X_pure rfl rfl rfl
theorem rX5_layNeed_220 {d : Nat} {lv : xLV} {st : List Value} {S : xS} {r : xO} : XL SK MT d 136 (220, lv, st, S) r ↔ XL SK MT d 136 (221, lv, .int 0 :: st, S) r := X_pure rfl rfl rfl
theorem rX5_layNeed_221 {d : Nat} {lv : xLV} {st : List Value} {S : xS} {r : xO} : XL SK MT d 136 (221, lv, st, S) r ↔ xI (xlook lv 2) (fun x => XL SK MT d 136 (222, lv, .int x :: st, S) r) := X_ldI rfl rfl (fun _ => rfl) rfl rfl rfl rfl
theorem rX5_layNeed_222 {d : Nat} {lv : xLV} {S : xS} {r : xO} {x1 : Int32} {x2 : Int32} {x3 : Int32} {x4 : Int32} : XL SK MT d 136 (222, lv, [.int x4, .int x3, .int x2, .int x1, .ref 9], S) r ↔ xK (XC SK MT d 24 [.ref 9, .int x1, .int x2, .int x3, .int x4] S) (fun v S => XL SK MT d 136 (225, lv, v.toList ++ [], S) r) := X_inv (n := 5) (kd := 2) (st0 := [.int x4, .int x3, .int x2, .int x1, .ref 9]) rfl (Or.inr ⟨rfl, rfl⟩) rfl (Nat.le_of_ble_eq_true rfl) (Nat.le_of_ble_eq_true rfl) (by decide) rfl
theorem rX5_layNeed_225 {d : Nat} {lv : xLV} {st : List Value} {S : xS} {r : xO} : XL SK MT d 136 (225, lv, st, S) r ↔ xA (xlook lv 0) (fun x => XL SK MT d 136 (226, lv, .ref x :: st, S) r) := X_ldA rfl rfl (fun _ => rfl) rfl rfl rfl rfl
theorem rX5_layNeed_226 {d : Nat} {lv : xLV} {st : List Value} {S : xS} {r : xO} : XL SK MT d 136 (226, lv, .ref 10 :: st, S) r ↔ XL SK MT d 136 (229, lv, .ref 9 :: st, S) r := X_heap rfl rfl rfl rfl rfl
theorem rX5_layNeed_229 {d : Nat} {lv : xLV} {st : List Value} {S : xS} {r : xO} : XL SK MT d 136 (229, lv, st, S) r ↔ XL SK MT d 136 (230, lv, .int 2 :: st, S) r := X_pure rfl rfl rfl
theorem rX5_layNeed_230 {d : Nat} {lv : xLV} {st : List Value} {S : xS} {r : xO} : XL SK MT d 136 (230, lv, st, S) r ↔ XL SK MT d 136 (231, lv, .int 3 :: st, S) r := X_pure rfl rfl rfl
theorem rX5_layNeed_231 {d : Nat} {lv : xLV} {S : xS} {r : xO} {x1 : Int32} {x2 : Int32} : XL SK MT d 136 (231, lv, [.int x2, .int x1, .ref 9], S) r ↔ xK (XC SK MT d 22 [.ref 9, .int x1, .int x2] S) (fun v S => XL SK MT d 136 (234, lv, v.toList ++ [], S) r) := X_inv (n := 3) (kd := 2) (st0 := [.int x2, .int x1, .ref 9]) rfl (Or.inr ⟨rfl, rfl⟩) rfl (Nat.le_of_ble_eq_true rfl) (Nat.le_of_ble_eq_true rfl) (by decide) rfl
theorem rX5_layNeed_234 {d : Nat} {lv : xLV} {st : List Value} {S : xS} {r : xO} : XL SK MT d 136 (234, lv, st, S) r ↔ xA (xlook lv 0) (fun x => XL SK MT d 136 (235, lv, .ref x :: st, S) r) := X_ldA rfl rfl (fun _ => rfl) rfl rfl rfl rfl
theorem rX5_layNeed_235 {d : Nat} {lv : xLV} {st : List Value} {S : xS} {r : xO} : XL SK MT d 136 (235, lv, .ref 10 :: st, S) r ↔ XL SK MT d 136 (238, lv, .ref 9 :: st, S) r := X_heap rfl rfl rfl rfl rfl
theorem rX5_layNeed_238 {d : Nat} {lv : xLV} {st : List Value} {S : xS} {r : xO} : XL SK MT d 136 (238, lv, st, S) r ↔ XL SK MT d 136 (240, lv, .int 65561 :: st, S) r := X_pure rfl rfl rfl
theorem rX5_layNeed_240 {d : Nat} {lv : xLV} {S : xS} {r : xO} {x1 : Int32} : XL SK MT d 136 (240, lv, [.int x1, .ref 9], S) r ↔ xK (XC SK MT d 27 [.ref 9, .int x1] S) (fun v S => XL SK MT d 136 (243, lv, v.toList ++ [], S) r) := X_inv (n := 2) (kd := 2) (st0 := [.int x1, .ref 9]) rfl (Or.inr ⟨rfl, rfl⟩) rfl (Nat.le_of_ble_eq_true rfl) (Nat.le_of_ble_eq_true rfl) (by decide) rfl
theorem rX5_layNeed_243 {d : Nat} {lv : xLV} {st : List Value} {S : xS} {r : xO} : XL SK MT d 136 (243, lv, st, S) r ↔ xA (xlook lv 0) (fun x => XL SK MT d 136 (244, lv, .ref x :: st, S) r) := X_ldA rfl rfl (fun _ => rfl) rfl rfl rfl rfl
theorem rX5_layNeed_244 {d : Nat} {lv : xLV} {st : List Value} {S : xS} {r : xO} : XL SK MT d 136 (244, lv, .ref 10 :: st, S) r ↔ XL SK MT d 136 (247, lv, .ref 9 :: st, S) r := X_heap rfl rfl rfl rfl rfl
theorem rX5_layNeed_247 {d : Nat} {lv : xLV} {st : List Value} {S : xS} {r : xO} : XL SK MT d 136 (247, lv, st, S) r ↔ xI (xlook lv 1) (fun x => XL SK MT d 136 (248, lv, .int x :: st, S) r) := X_ldI rfl rfl (fun _ => rfl) rfl rfl rfl rfl
theorem rX5_layNeed_248 {d : Nat} {lv : xLV} {S : xS} {r : xO} {x1 : Int32} : XL SK MT d 136 (248, lv, [.int x1, .ref 9], S) r ↔ xK (XC SK MT d 3 [.ref 9, .int x1] S) (fun v S => XL SK MT d 136 (251, lv, v.toList ++ [], S) r) := X_inv (n := 2) (kd := 2) (st0 := [.int x1, .ref 9]) rfl (Or.inr ⟨rfl, rfl⟩) rfl (Nat.le_of_ble_eq_true rfl) (Nat.le_of_ble_eq_true rfl) (by decide) rfl
theorem rX5_layNeed_251 {d : Nat} {lv : xLV} {st : List Value} {S : xS} {r : xO} : XL SK MT d 136 (251, lv, st, S) r ↔ xA (xlook lv 0) (fun x => XL SK MT d 136 (252, lv, .ref x :: st, S) r) := X_ldA rfl rfl (fun _ => rfl) rfl rfl rfl rfl
theorem rX5_layNeed_252 {d : Nat} {lv : xLV} {st : List Value} {S : xS} {r : xO} : XL SK MT d 136 (252, lv, .ref 10 :: st, S) r ↔ XL SK MT d 136 (255, lv, .ref 9 :: st, S) r := X_heap rfl rfl rfl rfl rfl
theorem rX5_layNeed_255 {d : Nat} {lv : xLV} {st : List Value} {S : xS} {r : xO} : XL SK MT d 136 (255, lv, st, S) r ↔ xI (xlook lv 2) (fun x => XL SK MT d 136 (256, lv, .int x :: st, S) r) := X_ldI rfl rfl (fun _ => rfl) rfl rfl rfl rfl
theorem rX5_layNeed_256 {d : Nat} {lv : xLV} {S : xS} {r : xO} {x1 : Int32} : XL SK MT d 136 (256, lv, [.int x1, .ref 9], S) r ↔ xK (XC SK MT d 3 [.ref 9, .int x1] S) (fun v S => XL SK MT d 136 (259, lv, v.toList ++ [], S) r) := X_inv (n := 2) (kd := 2) (st0 := [.int x1, .ref 9]) rfl (Or.inr ⟨rfl, rfl⟩) rfl (Nat.le_of_ble_eq_true rfl) (Nat.le_of_ble_eq_true rfl) (by decide) rfl
theorem rX5_layNeed_259 {d : Nat} {lv : xLV} {st : List Value} {S : xS} {r : xO} : XL SK MT d 136 (259, lv, st, S) r ↔ xA (xlook lv 0) (fun x => XL SK MT d 136 (260, lv, .ref x :: st, S) r) := X_ldA rfl rfl (fun _ => rfl) rfl rfl rfl rfl
theorem rX5_layNeed_260 {d : Nat} {lv : xLV} {st : List Value} {S : xS} {r : xO} : XL SK MT d 136 (260, lv, .ref 10 :: st, S) r ↔ XL SK MT d 136 (263, lv, .ref 9 :: st, S) r := X_heap rfl rfl rfl rfl rfl
theorem rX5_layNeed_263 {d : Nat} {lv : xLV} {st : List Value} {S : xS} {r : xO} : XL SK MT d 136 (263, lv, st, S) r ↔ XL SK MT d 136 (264, lv, .int 2 :: st, S) r := X_pure rfl rfl rfl
theorem rX5_layNeed_264 {d : Nat} {lv : xLV} {st : List Value} {S : xS} {r : xO} : XL SK MT d 136 (264, lv, st, S) r ↔ XL SK MT d 136 (266, lv, .int 18 :: st, S) r := X_pure rfl rfl rfl
theorem rX5_layNeed_266 {d : Nat} {lv : xLV} {S : xS} {r : xO} {x1 : Int32} {x2 : Int32} : XL SK MT d 136 (266, lv, [.int x2, .int x1, .ref 9], S) r ↔ xK (XC SK MT d 21 [.ref 9, .int x1, .int x2] S) (fun v S => XL SK MT d 136 (269, lv, v.toList ++ [], S) r) := X_inv (n := 3) (kd := 2) (st0 := [.int x2, .int x1, .ref 9]) rfl (Or.inr ⟨rfl, rfl⟩) rfl (Nat.le_of_ble_eq_true rfl) (Nat.le_of_ble_eq_true rfl) (by decide) rfl
theorem rX5_layNeed_269 {d : Nat} {lv : xLV} {st : List Value} {S : xS} {r : xO} : XL SK MT d 136 (269, lv, st, S) r ↔ xA (xlook lv 0) (fun x => XL SK MT d 136 (270, lv, .ref x :: st, S) r) := X_ldA rfl rfl (fun _ => rfl) rfl rfl rfl rfl
theorem rX5_layNeed_270 {d : Nat} {lv : xLV} {st : List Value} {S : xS} {r : xO} : XL SK MT d 136 (270, lv, .ref 10 :: st, S) r ↔ XL SK MT d 136 (273, lv, .ref 9 :: st, S) r := X_heap rfl rfl rfl rfl rfl
theorem rX5_layNeed_273 {d : Nat} {lv : xLV} {st : List Value} {S : xS} {r : xO} : XL SK MT d 136 (273, lv, st, S) r ↔ XL SK MT d 136 (275, lv, .int 33 :: st, S) r := X_pure rfl rfl rfl
theorem rX5_layNeed_275 {d : Nat} {lv : xLV} {st : List Value} {S : xS} {r : xO} : XL SK MT d 136 (275, lv, st, S) r ↔ XL SK MT d 136 (277, lv, .int 18 :: st, S) r := X_pure rfl rfl rfl
theorem rX5_layNeed_277 {d : Nat} {lv : xLV} {st : List Value} {S : xS} {r : xO} : XL SK MT d 136 (277, lv, st, S) r ↔ XL SK MT d 136 (279, lv, .int 18 :: st, S) r := X_pure rfl rfl rfl
theorem rX5_layNeed_279 {d : Nat} {lv : xLV} {st : List Value} {S : xS} {r : xO} : XL SK MT d 136 (279, lv, st, S) r ↔ XL SK MT d 136 (280, lv, .int 4 :: st, S) r := X_pure rfl rfl rfl
theorem rX5_layNeed_280 {d : Nat} {lv : xLV} {S : xS} {r : xO} {x1 : Int32} {x2 : Int32} {x3 : Int32} {x4 : Int32} : XL SK MT d 136 (280, lv, [.int x4, .int x3, .int x2, .int x1, .ref 9], S) r ↔ xK (XC SK MT d 15 [.ref 9, .int x1, .int x2, .int x3, .int x4] S) (fun v S => XL SK MT d 136 (283, lv, v.toList ++ [], S) r) := X_inv (n := 5) (kd := 2) (st0 := [.int x4, .int x3, .int x2, .int x1, .ref 9]) rfl (Or.inr ⟨rfl, rfl⟩) rfl (Nat.le_of_ble_eq_true rfl) (Nat.le_of_ble_eq_true rfl) (by decide) rfl
theorem rX5_layNeed_283 {d : Nat} {lv : xLV} {st : List Value} {S : xS} {r : xO} : XL SK MT d 136 (283, lv, st, S) r ↔ xA (xlook lv 0) (fun x => XL SK MT d 136 (284, lv, .ref x :: st, S) r) := X_ldA rfl rfl (fun _ => rfl) rfl rfl rfl rfl
theorem rX5_layNeed_284 {d : Nat} {lv : xLV} {st : List Value} {S : xS} {r : xO} : XL SK MT d 136 (284, lv, .ref 10 :: st, S) r ↔ XL SK MT d 136 (287, lv, .ref 9 :: st, S) r := X_heap rfl rfl rfl rfl rfl
theorem rX5_layNeed_287 {d : Nat} {lv : xLV} {st : List Value} {S : xS} {r : xO} : XL SK MT d 136 (287, lv, st, S) r ↔ XL SK MT d 136 (289, lv, .int 31 :: st, S) r := X_pure rfl rfl rfl
theorem rX5_layNeed_289 {d : Nat} {lv : xLV} {S : xS} {r : xO} {x1 : Int32} : XL SK MT d 136 (289, lv, [.int x1, .ref 9], S) r ↔ xK (XC SK MT d 29 [.ref 9, .int x1] S) (fun v S => XL SK MT d 136 (292, lv, v.toList ++ [], S) r) := X_inv (n := 2) (kd := 2) (st0 := [.int x1, .ref 9]) rfl (Or.inr ⟨rfl, rfl⟩) rfl (Nat.le_of_ble_eq_true rfl) (Nat.le_of_ble_eq_true rfl) (by decide) rfl
theorem rX5_layNeed_292 {d : Nat} {lv : xLV} {S : xS} {r : xO} : XL SK MT d 136 (292, lv, [], S) r ↔ (none, S) = r := X_ret rfl rfl rfl rfl rfl rfl

/-! Library: start, ends, layPush, layNeed. -/
def pL_start (a0 : PA) : PA :=
  let a1 := pSe a0 16 22528
  let a2 := pSe a1 18 46592
  let a3 := pEm a2 (wLw 8 1096 0)
  let a4 := pSe a3 9 62976
  let a5 := pEm a4 (wMove 17 16)
  let a6 := pEm a5 (wMove 22 16)
  let a7 := pEm a6 (wThree 33 19 18 8)
  let a8 := pEm a7 (wLw 20 1112 0)
  let a9 := pEm a8 (wSw 18 1088 0)
  let a10 := pEm a9 (wSw 9 1092 0)
  let a11 := pEm a10 (wSw 0 1100 0)
  let a12 := pEm a11 (wSw 0 1104 0)
  let a13 := pSe a12 23 46528
  let a14 := pSe a13 21 0
  let a15 := pLp a14 wJ 0
  a15
set_option maxHeartbeats 4000000 in
set_option maxRecDepth 100000 in
theorem l_start {S0 S : xS} {a0 : PA} (h : AS S0 S a0) : ∃ S', (∀ d, XC SK MT (d + 5) 133 [.ref 10] S = some (none, S')) ∧ AS S0 S' (pL_start a0) := by
  obtain ⟨S1, e1, h1⟩ := o_set h 16 22528
  obtain ⟨S2, e2, h2⟩ := o_set h1 18 46592
  obtain ⟨S3, e3, h3⟩ := o_lw h2 8 1096 0
  obtain ⟨S4, e4, h4⟩ := o_set h3 9 62976
  obtain ⟨S5, e5, h5⟩ := o_move h4 17 16
  obtain ⟨S6, e6, h6⟩ := o_move h5 22 16
  obtain ⟨S7, e7, h7⟩ := o_three h6 33 19 18 8
  obtain ⟨S8, e8, h8⟩ := o_lw h7 20 1112 0
  obtain ⟨S9, e9, h9⟩ := o_sw h8 18 1088 0
  obtain ⟨S10, e10, h10⟩ := o_sw h9 9 1092 0
  obtain ⟨S11, e11, h11⟩ := o_sw h10 0 1100 0
  obtain ⟨S12, e12, h12⟩ := o_sw h11 0 1104 0
  obtain ⟨S13, e13, h13⟩ := o_set h12 23 46528
  obtain ⟨S14, e14, h14⟩ := o_set h13 21 0
  obtain ⟨S15, e15, h15⟩ := o_jump h14 0
  refine ⟨S15, fun d => ?_, ?_⟩
  · rw [XC_iff]
    refine ⟨Nat.le_of_ble_eq_true rfl, ?_⟩
    show XL SK MT (d + 4) 133 (0, [some (.ref 10), none], [], S) _
    simp (config := { decide := true }) only [rX5_start_0, rX5_start_1, rX5_start_2, rX5_start_3, rX5_start_6, rX5_start_8, rX5_start_11, rX5_start_14, rX5_start_15, rX5_start_18, rX5_start_20, rX5_start_22, rX5_start_25, rX5_start_26, rX5_start_29, rX5_start_31, rX5_start_34, rX5_start_35, rX5_start_38, rX5_start_39, rX5_start_42, rX5_start_44, rX5_start_46, rX5_start_49, rX5_start_50, rX5_start_53, rX5_start_55, rX5_start_57, rX5_start_60, rX5_start_61, rX5_start_64, rX5_start_66, rX5_start_68, rX5_start_71, rX5_start_72, rX5_start_75, rX5_start_77, rX5_start_79, rX5_start_81, rX5_start_83, rX5_start_86, rX5_start_87, rX5_start_90, rX5_start_92, rX5_start_95, rX5_start_96, rX5_start_99, rX5_start_100, rX5_start_103, rX5_start_105, rX5_start_108, rX5_start_109, rX5_start_112, rX5_start_113, rX5_start_116, rX5_start_118, rX5_start_121, rX5_start_122, rX5_start_125, rX5_start_126, rX5_start_129, rX5_start_130, rX5_start_133, rX5_start_134, rX5_start_137, rX5_start_138, rX5_start_141, rX5_start_142, rX5_start_145, rX5_start_146, rX5_start_149, rX5_start_150, rX5_start_153, rX5_start_155, rX5_start_157, rX5_start_160, rX5_start_161, rX5_start_164, rX5_start_166, rX5_start_167, rX5_start_170, rX5_start_171, rX5_start_174, rX5_start_175, rX5_start_178, ↓reduceIte, m1_le, m1_lt, m1_eq, ofInt_m1, ex_ret, Int32.reduceAdd, Int32.reduceSub, Int32.reduceMul, Int32.reduceLT, Int32.reduceLE, xsI, Nat.reduceEqDiff, and_false, false_and, and_true, true_and, if_true, if_false, ite_true, ite_false, xlook_0, xlook_s, xI_int, xA_ref, xJ_long, xK_some, xRow_row, xTo_some, xst1, xclr, List.set_cons_zero, List.set_cons_succ, xsum_nil, xsum_int, xsum_ref, xsum_long, Option.toList_some, Option.toList_none, List.nil_append, List.cons_append, e1, e2, e3, e4, e5, e6, e7, e8, e9, e10, e11, e12, e13, e14, e15]
  · exact h15
def pL_ends (a0 : PA) : PA :=
  let a1 := pLd a0 65560
  let a2 := pSe a1 2 2
  let a3 := pLd a2 65561
  let a4 := pSt a3 
  a4
set_option maxHeartbeats 4000000 in
set_option maxRecDepth 100000 in
theorem l_ends {S0 S : xS} {a0 : PA} (h : AS S0 S a0) : ∃ S', (∀ d, XC SK MT (d + 5) 134 [.ref 10] S = some (none, S')) ∧ AS S0 S' (pL_ends a0) := by
  obtain ⟨S1, e1, h1⟩ := o_land h 65560
  obtain ⟨S2, e2, h2⟩ := o_set h1 2 2
  obtain ⟨S3, e3, h3⟩ := o_land h2 65561
  obtain ⟨S4, e4, h4⟩ := o_stop h3 
  refine ⟨S4, fun d => ?_, ?_⟩
  · rw [XC_iff]
    refine ⟨Nat.le_of_ble_eq_true rfl, ?_⟩
    show XL SK MT (d + 4) 134 (0, [some (.ref 10)], [], S) _
    simp (config := { decide := true }) only [rX5_ends_0, rX5_ends_1, rX5_ends_4, rX5_ends_6, rX5_ends_9, rX5_ends_10, rX5_ends_13, rX5_ends_14, rX5_ends_15, rX5_ends_18, rX5_ends_19, rX5_ends_22, rX5_ends_24, rX5_ends_27, rX5_ends_28, rX5_ends_31, rX5_ends_34, ↓reduceIte, m1_le, m1_lt, m1_eq, ofInt_m1, ex_ret, Int32.reduceAdd, Int32.reduceSub, Int32.reduceMul, Int32.reduceLT, Int32.reduceLE, xsI, Nat.reduceEqDiff, and_false, false_and, and_true, true_and, if_true, if_false, ite_true, ite_false, xlook_0, xlook_s, xI_int, xA_ref, xJ_long, xK_some, xRow_row, xTo_some, xst1, xclr, List.set_cons_zero, List.set_cons_succ, xsum_nil, xsum_int, xsum_ref, xsum_long, Option.toList_some, Option.toList_none, List.nil_append, List.cons_append, e1, e2, e3, e4]
  · exact h4
def pL_layPush (a0 : PA) : PA :=
  let r0 := a0.own
  let a1 := pLb a0
  let r1 := a1.own
  let a2 := pLb a1
  let a3 := pLd a2 65536
  let a4 := pLp a3 (wBr 5 16 23) r0
  let a5 := pSe a4 2 4
  let a6 := pLp a5 wJ 65561
  let a7 := pLd a6 r0
  let a8 := pEm a7 (wSw 4 0 16)
  let a9 := pEm a8 (wAdd 16 16 4)
  let a10 := pEm a9 (wThree 43 1 22 16)
  let a11 := pLp a10 (wBr 4 1 0) r1
  let a12 := pEm a11 (wMove 22 16)
  let a13 := pLd a12 r1
  let a14 := pLp a13 (wJr 31) (-1)
  a14
set_option maxHeartbeats 4000000 in
set_option maxRecDepth 100000 in
theorem l_layPush {S0 S : xS} {a0 : PA} (h : AS S0 S a0) : ∃ S', (∀ d, XC SK MT (d + 5) 135 [.ref 10] S = some (none, S')) ∧ AS S0 S' (pL_layPush a0) := by
  obtain ⟨S1, n0, e1, z0, h1⟩ := o_label h
  obtain ⟨S2, n1, e2, z1, h2⟩ := o_label h1
  obtain ⟨S3, e3, h3⟩ := o_land h2 65536
  obtain ⟨S4, e4, h4⟩ := o_branch h3 5 16 23 n0
  obtain ⟨S5, e5, h5⟩ := o_set h4 2 4
  obtain ⟨S6, e6, h6⟩ := o_jump h5 65561
  obtain ⟨S7, e7, h7⟩ := o_land h6 n0
  obtain ⟨S8, e8, h8⟩ := o_sw h7 4 0 16
  obtain ⟨S9, e9, h9⟩ := o_add h8 16 16 4
  obtain ⟨S10, e10, h10⟩ := o_three h9 43 1 22 16
  obtain ⟨S11, e11, h11⟩ := o_branch h10 4 1 0 n1
  obtain ⟨S12, e12, h12⟩ := o_move h11 22 16
  obtain ⟨S13, e13, h13⟩ := o_land h12 n1
  obtain ⟨S14, e14, h14⟩ := o_back h13 31
  refine ⟨S14, fun d => ?_, ?_⟩
  · rw [XC_iff]
    refine ⟨Nat.le_of_ble_eq_true rfl, ?_⟩
    show XL SK MT (d + 4) 135 (0, [some (.ref 10), none, none], [], S) _
    simp (config := { decide := true }) only [rX5_layPush_0, rX5_layPush_1, rX5_layPush_4, rX5_layPush_7, rX5_layPush_8, rX5_layPush_9, rX5_layPush_12, rX5_layPush_15, rX5_layPush_16, rX5_layPush_17, rX5_layPush_20, rX5_layPush_22, rX5_layPush_25, rX5_layPush_26, rX5_layPush_29, rX5_layPush_30, rX5_layPush_32, rX5_layPush_34, rX5_layPush_35, rX5_layPush_38, rX5_layPush_39, rX5_layPush_42, rX5_layPush_43, rX5_layPush_44, rX5_layPush_47, rX5_layPush_48, rX5_layPush_51, rX5_layPush_53, rX5_layPush_56, rX5_layPush_57, rX5_layPush_60, rX5_layPush_61, rX5_layPush_64, rX5_layPush_65, rX5_layPush_68, rX5_layPush_69, rX5_layPush_70, rX5_layPush_72, rX5_layPush_75, rX5_layPush_76, rX5_layPush_79, rX5_layPush_81, rX5_layPush_83, rX5_layPush_84, rX5_layPush_87, rX5_layPush_88, rX5_layPush_91, rX5_layPush_93, rX5_layPush_94, rX5_layPush_96, rX5_layPush_98, rX5_layPush_101, rX5_layPush_102, rX5_layPush_105, rX5_layPush_106, rX5_layPush_107, rX5_layPush_108, rX5_layPush_109, rX5_layPush_112, rX5_layPush_113, rX5_layPush_116, rX5_layPush_118, rX5_layPush_120, rX5_layPush_123, rX5_layPush_124, rX5_layPush_127, rX5_layPush_128, rX5_layPush_131, rX5_layPush_132, rX5_layPush_135, rX5_layPush_137, rX5_layPush_140, ↓reduceIte, m1_le, m1_lt, m1_eq, ofInt_m1, ex_ret, Int32.reduceAdd, Int32.reduceSub, Int32.reduceMul, Int32.reduceLT, Int32.reduceLE, xsI, Nat.reduceEqDiff, and_false, false_and, and_true, true_and, if_true, if_false, ite_true, ite_false, xlook_0, xlook_s, xI_int, xA_ref, xJ_long, xK_some, xRow_row, xTo_some, xst1, xclr, List.set_cons_zero, List.set_cons_succ, xsum_nil, xsum_int, xsum_ref, xsum_long, Option.toList_some, Option.toList_none, List.nil_append, List.cons_append, e1, e2, e3, e4, e5, e6, e7, e8, e9, e10, e11, e12, e13, e14]
  · subst z1 z0; exact h14
def pL_layNeed (a0 : PA) : PA :=
  let r0 := a0.own
  let a1 := pLb a0
  let r1 := a1.own
  let a2 := pLb a1
  let r2 := a2.own
  let a3 := pLb a2
  let a4 := pLd a3 65537
  let a5 := pEm a4 (wThree 35 8 19 18)
  let a6 := pEm a5 (wThree 43 8 8 4)
  let a7 := pLp a6 (wBr 4 8 0) r0
  let a8 := pLp a7 (wBr 5 20 0) r2
  let a9 := pLp a8 wJ 65560
  let a10 := pLd a9 r2
  let a11 := pEm a10 (wLw 9 1100 0)
  let a12 := pEm a11 (wAdd 20 20 (-1))
  let a13 := pEm a12 (wAdd 9 9 1)
  let a14 := pEm a13 (wSw 9 1100 0)
  let a15 := pEm a14 (wMove 27 31)
  let a16 := pLp a15 wJal 65539
  let a17 := pEm a16 (wMove 31 27)
  let a18 := pEm a17 (wThree 35 8 19 18)
  let a19 := pEm a18 (wThree 43 8 8 4)
  let a20 := pLp a19 (wBr 4 8 0) r1
  let a21 := pSe a20 2 3
  let a22 := pLp a21 wJ 65561
  let a23 := pLd a22 r0
  let a24 := pLd a23 r1
  let a25 := pEm a24 (wMove 2 18)
  let a26 := pEm a25 (wThree 33 18 18 4)
  let a27 := pLp a26 (wJr 31) (-1)
  a27
set_option maxHeartbeats 4000000 in
set_option maxRecDepth 100000 in
theorem l_layNeed {S0 S : xS} {a0 : PA} (h : AS S0 S a0) : ∃ S', (∀ d, XC SK MT (d + 5) 136 [.ref 10] S = some (none, S')) ∧ AS S0 S' (pL_layNeed a0) := by
  obtain ⟨S1, n0, e1, z0, h1⟩ := o_label h
  obtain ⟨S2, n1, e2, z1, h2⟩ := o_label h1
  obtain ⟨S3, n2, e3, z2, h3⟩ := o_label h2
  obtain ⟨S4, e4, h4⟩ := o_land h3 65537
  obtain ⟨S5, e5, h5⟩ := o_three h4 35 8 19 18
  obtain ⟨S6, e6, h6⟩ := o_three h5 43 8 8 4
  obtain ⟨S7, e7, h7⟩ := o_branch h6 4 8 0 n0
  obtain ⟨S8, e8, h8⟩ := o_branch h7 5 20 0 n2
  obtain ⟨S9, e9, h9⟩ := o_jump h8 65560
  obtain ⟨S10, e10, h10⟩ := o_land h9 n2
  obtain ⟨S11, e11, h11⟩ := o_lw h10 9 1100 0
  obtain ⟨S12, e12, h12⟩ := o_add h11 20 20 (-1)
  obtain ⟨S13, e13, h13⟩ := o_add h12 9 9 1
  obtain ⟨S14, e14, h14⟩ := o_sw h13 9 1100 0
  obtain ⟨S15, e15, h15⟩ := o_move h14 27 31
  obtain ⟨S16, e16, h16⟩ := o_jumpAndLink h15 65539
  obtain ⟨S17, e17, h17⟩ := o_move h16 31 27
  obtain ⟨S18, e18, h18⟩ := o_three h17 35 8 19 18
  obtain ⟨S19, e19, h19⟩ := o_three h18 43 8 8 4
  obtain ⟨S20, e20, h20⟩ := o_branch h19 4 8 0 n1
  obtain ⟨S21, e21, h21⟩ := o_set h20 2 3
  obtain ⟨S22, e22, h22⟩ := o_jump h21 65561
  obtain ⟨S23, e23, h23⟩ := o_land h22 n0
  obtain ⟨S24, e24, h24⟩ := o_land h23 n1
  obtain ⟨S25, e25, h25⟩ := o_move h24 2 18
  obtain ⟨S26, e26, h26⟩ := o_three h25 33 18 18 4
  obtain ⟨S27, e27, h27⟩ := o_back h26 31
  refine ⟨S27, fun d => ?_, ?_⟩
  · rw [XC_iff]
    refine ⟨Nat.le_of_ble_eq_true rfl, ?_⟩
    show XL SK MT (d + 4) 136 (0, [some (.ref 10), none, none, none], [], S) _
    simp (config := { decide := true }) only [rX5_layNeed_0, rX5_layNeed_1, rX5_layNeed_4, rX5_layNeed_7, rX5_layNeed_8, rX5_layNeed_9, rX5_layNeed_12, rX5_layNeed_15, rX5_layNeed_16, rX5_layNeed_17, rX5_layNeed_20, rX5_layNeed_23, rX5_layNeed_24, rX5_layNeed_25, rX5_layNeed_28, rX5_layNeed_30, rX5_layNeed_33, rX5_layNeed_34, rX5_layNeed_37, rX5_layNeed_39, rX5_layNeed_41, rX5_layNeed_43, rX5_layNeed_45, rX5_layNeed_48, rX5_layNeed_49, rX5_layNeed_52, rX5_layNeed_54, rX5_layNeed_56, rX5_layNeed_58, rX5_layNeed_59, rX5_layNeed_62, rX5_layNeed_63, rX5_layNeed_66, rX5_layNeed_67, rX5_layNeed_69, rX5_layNeed_70, rX5_layNeed_71, rX5_layNeed_74, rX5_layNeed_75, rX5_layNeed_78, rX5_layNeed_79, rX5_layNeed_81, rX5_layNeed_82, rX5_layNeed_83, rX5_layNeed_86, rX5_layNeed_87, rX5_layNeed_90, rX5_layNeed_92, rX5_layNeed_95, rX5_layNeed_96, rX5_layNeed_99, rX5_layNeed_100, rX5_layNeed_103, rX5_layNeed_104, rX5_layNeed_107, rX5_layNeed_109, rX5_layNeed_112, rX5_layNeed_113, rX5_layNeed_116, rX5_layNeed_117, rX5_layNeed_120, rX5_layNeed_122, rX5_layNeed_124, rX5_layNeed_125, rX5_layNeed_128, rX5_layNeed_129, rX5_layNeed_132, rX5_layNeed_134, rX5_layNeed_136, rX5_layNeed_137, rX5_layNeed_140, rX5_layNeed_141, rX5_layNeed_144, rX5_layNeed_146, rX5_layNeed_149, rX5_layNeed_150, rX5_layNeed_153, rX5_layNeed_154, rX5_layNeed_157, rX5_layNeed_159, rX5_layNeed_161, rX5_layNeed_164, rX5_layNeed_165, rX5_layNeed_168, rX5_layNeed_170, rX5_layNeed_173, rX5_layNeed_174, rX5_layNeed_177, rX5_layNeed_179, rX5_layNeed_181, rX5_layNeed_184, rX5_layNeed_185, rX5_layNeed_188, rX5_layNeed_190, rX5_layNeed_192, rX5_layNeed_194, rX5_layNeed_196, rX5_layNeed_199, rX5_layNeed_200, rX5_layNeed_203, rX5_layNeed_205, rX5_layNeed_207, rX5_layNeed_209, rX5_layNeed_210, rX5_layNeed_213, rX5_layNeed_214, rX5_layNeed_217, rX5_layNeed_218, rX5_layNeed_220, rX5_layNeed_221, rX5_layNeed_222, rX5_layNeed_225, rX5_layNeed_226, rX5_layNeed_229, rX5_layNeed_230, rX5_layNeed_231, rX5_layNeed_234, rX5_layNeed_235, rX5_layNeed_238, rX5_layNeed_240, rX5_layNeed_243, rX5_layNeed_244, rX5_layNeed_247, rX5_layNeed_248, rX5_layNeed_251, rX5_layNeed_252, rX5_layNeed_255, rX5_layNeed_256, rX5_layNeed_259, rX5_layNeed_260, rX5_layNeed_263, rX5_layNeed_264, rX5_layNeed_266, rX5_layNeed_269, rX5_layNeed_270, rX5_layNeed_273, rX5_layNeed_275, rX5_layNeed_277, rX5_layNeed_279, rX5_layNeed_280, rX5_layNeed_283, rX5_layNeed_284, rX5_layNeed_287, rX5_layNeed_289, rX5_layNeed_292, ↓reduceIte, m1_le, m1_lt, m1_eq, ofInt_m1, ex_ret, Int32.reduceAdd, Int32.reduceSub, Int32.reduceMul, Int32.reduceLT, Int32.reduceLE, xsI, Nat.reduceEqDiff, and_false, false_and, and_true, true_and, if_true, if_false, ite_true, ite_false, xlook_0, xlook_s, xI_int, xA_ref, xJ_long, xK_some, xRow_row, xTo_some, xst1, xclr, List.set_cons_zero, List.set_cons_succ, xsum_nil, xsum_int, xsum_ref, xsum_long, Option.toList_some, Option.toList_none, List.nil_append, List.cons_append, e1, e2, e3, e4, e5, e6, e7, e8, e9, e10, e11, e12, e13, e14, e15, e16, e17, e18, e19, e20, e21, e22, e23, e24, e25, e26, e27]
  · subst z2 z1 z0; exact h27
