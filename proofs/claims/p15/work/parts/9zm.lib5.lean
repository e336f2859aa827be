/-! XF: rows, then what is proved of them. -/
theorem rX5_layDivide_0 {d : Nat} {lv : xLV} {st : List Value} {S : xS} {r : xO} : XL SK MT d 145 (0, lv, st, S) r ↔ xA (xlook lv 0) (fun x => XL SK MT d 145 (1, lv, .ref x :: st, S) r) := X_ldA rfl rfl (fun _ => rfl) rfl rfl rfl rfl
theorem rX5_layDivide_1 {d : Nat} {lv : xLV} {st : List Value} {S : xS} {r : xO} : XL SK MT d 145 (1, lv, .ref 10 :: st, S) r ↔ XL SK MT d 145 (4, lv, .ref 9 :: st, S) r := X_heap rfl rfl rfl rfl rfl
theorem rX5_layDivide_4 {d : Nat} {lv : xLV} {S : xS} {r : xO} : XL SK MT d 145 (4, lv, [.ref 9], S) r ↔ xK (XC SK MT d 1 [.ref 9] S) (fun v S => XL SK MT d 145 (7, lv, v.toList ++ [], S) r) := X_inv (n := 1) (kd := 2) (st0 := [.ref 9]) rfl (Or.inr ⟨rfl, rfl⟩) rfl (Nat.le_of_ble_eq_true rfl) (Nat.le_of_ble_eq_true rfl) (by decide) rfl
theorem rX5_layDivide_7 {d : Nat} {lv : xLV} {st : List Value} {S : xS} {r : xO} {x : Int32} : XL SK MT d 145 (7, lv, .int x :: st, S) r ↔ XL SK MT d 145 (8, xst1 lv 1 (.int x), st, S) r := X_pure rfl rfl rfl
theorem rX5_layDivide_8 {d : Nat} {lv : xLV} {st : List Value} {S : xS} {r : xO} : XL SK MT d 145 (8, lv, st, S) r ↔ xA (xlook lv 0) (fun x => XL SK MT d 145 (9, lv, .ref x :: st, S) r) := X_ldA rfl rfl (fun _ => rfl) rfl rfl rfl rfl
theorem rX5_layDivide_9 {d : Nat} {lv : xLV} {st : List Value} {S : xS} {r : xO} : XL SK MT d 145 (9, lv, .ref 10 :: st, S) r ↔ XL SK MT d 145 (12, lv, .ref 9 :: st, S) r := X_heap rfl rfl rfl rfl rfl
theorem rX5_layDivide_12 {d : Nat} {lv : xLV} {S : xS} {r : xO} : XL SK MT d 145 (12, lv, [.ref 9], S) r ↔ xK (XC SK MT d 1 [.ref 9] S) (fun v S => XL SK MT d 145 (15, lv, v.toList ++ [], S) r) := X_inv (n := 1) (kd := 2) (st0 := [.ref 9]) rfl (Or.inr ⟨rfl, rfl⟩) rfl (Nat.le_of_ble_eq_true rfl) (Nat.le_of_ble_eq_true rfl) (by decide) rfl
theorem rX5_layDivide_15 {d : Nat} {lv : xLV} {st : List Value} {S : xS} {r : xO} {x : Int32} : XL SK MT d 145 (15, lv, .int x :: st, S) r ↔ XL SK MT d 145 (16, xst1 lv 2 (.int x), st, S) r := X_pure rfl rfl rfl
theorem rX5_layDivide_16 {d : Nat} {lv : xLV} {st : List Value} {S : xS} {r : xO} : XL SK MT d 145 (16, lv, st, S) r ↔ xA (xlook lv 0) (fun x => XL SK MT d 145 (17, lv, .ref x :: st, S) r) := X_ldA rfl rfl (fun _ => rfl) rfl rfl rfl rfl
theorem rX5_layDivide_17 {d : Nat} {lv : xLV} {st : List Value} {S : xS} {r : xO} : XL SK MT d 145 (17, lv, .ref 10 :: st, S) r ↔ XL SK MT d 145 (20, lv, .ref 9 :: st, S) r := X_heap rfl rfl rfl rfl rfl
theorem rX5_layDivide_20 {d : Nat} {lv : xLV} {S : xS} {r : xO} : XL SK MT d 145 (20, lv, [.ref 9], S) r ↔ xK (XC SK MT d 1 [.ref 9] S) (fun v S => XL SK MT d 145 (23, lv, v.toList ++ [], S) r) := X_inv (n := 1) (kd := 2) (st0 := [.ref 9]) rfl (Or.inr ⟨rfl, rfl⟩) rfl (Nat.le_of_ble_eq_true rfl) (Nat.le_of_ble_eq_true rfl) (by decide) rfl
theorem rX5_layDivide_23 {d : Nat} {lv : xLV} {st : List Value} {S : xS} {r : xO} {x : Int32} : XL SK MT d 145 (23, lv, .int x :: st, S) r ↔ XL SK MT d 145 (24, xst1 lv 3 (.int x), st, S) r := X_pure rfl rfl rfl
theorem rX5_layDivide_24 {d : Nat} {lv : xLV} {st : List Value} {S : xS} {r : xO} : XL SK MT d 145 (24, lv, st, S) r ↔ xA (xlook lv 0) (fun x => XL SK MT d 145 (25, lv, .ref x :: st, S) r) := X_ldA rfl rfl (fun _ => rfl) rfl rfl rfl rfl
theorem rX5_layDivide_25 {d : Nat} {lv : xLV} {st : List Value} {S : xS} {r : xO} : XL SK MT d 145 (25, lv, .ref 10 :: st, S) r ↔ XL SK MT d 145 (28, lv, .ref 9 :: st, S) r := X_heap rfl rfl rfl rfl rfl
theorem rX5_layDivide_28 {d : Nat} {lv : xLV} {st : List Value} {S : xS} {r : xO} : XL SK MT d 145 (28, lv, st, S) r ↔ XL SK MT d 145 (30, lv, .int 65549 :: st, S) r := X_pure rfl rfl rfl
theorem rX5_layDivide_30 {d : Nat} {lv : xLV} {S : xS} {r : xO} {x1 : Int32} : XL SK MT d 145 (30, lv, [.int x1, .ref 9], S) r ↔ xK (XC SK MT d 3 [.ref 9, .int x1] S) (fun v S => XL SK MT d 145 (33, lv, v.toList ++ [], S) r) := X_inv (n := 2) (kd := 2) (st0 := [.int x1, .ref 9]) rfl (Or.inr ⟨rfl, rfl⟩) rfl (Nat.le_of_ble_eq_true rfl) (Nat.le_of_ble_eq_true rfl) (by decide) rfl
theorem rX5_layDivide_33 {d : Nat} {lv : xLV} {st : List Value} {S : xS} {r : xO} : XL SK MT d 145 (33, lv, st, S) r ↔ xA (xlook lv 0) (fun x => XL SK MT d 145 (34, lv, .ref x :: st, S) r) := X_ldA rfl rfl (fun _ => rfl) rfl rfl rfl rfl
theorem rX5_layDivide_34 {d : Nat} {lv : xLV} {st : List Value} {S : xS} {r : xO} : XL SK MT d 145 (34, lv, .ref 10 :: st, S) r ↔ XL SK MT d 145 (37, lv, .ref 9 :: st, S) r := X_heap rfl rfl rfl rfl rfl
theorem rX5_layDivide_37 {d : Nat} {lv : xLV} {st : List Value} {S : xS} {r : xO} : XL SK MT d 145 (37, lv, st, S) r ↔ XL SK MT d 145 (39, lv, .int 8 :: st, S) r := X_pure rfl rfl rfl
theorem rX5_layDivide_39 {d : Nat} {lv : xLV} {st : List Value} {S : xS} {r : xO} : XL SK MT d 145 (39, lv, st, S) r ↔ XL SK MT d 145 (41, lv, .int (-8) :: st, S) r := X_pure rfl rfl rfl
theorem rX5_layDivide_41 {d : Nat} {lv : xLV} {st : List Value} {S : xS} {r : xO} : XL SK MT d 145 (41, lv, st, S) r ↔ XL SK MT d 145 (43, lv, .int 16 :: st, S) r := X_pure rfl rfl rfl
theorem rX5_layDivide_43 {d : Nat} {lv : xLV} {S : xS} {r : xO} {x1 : Int32} {x2 : Int32} {x3 : Int32} : XL SK MT d 145 (43, lv, [.int x3, .int x2, .int x1, .ref 9], S) r ↔ xK (XC SK MT d 18 [.ref 9, .int x1, .int x2, .int x3] S) (fun v S => XL SK MT d 145 (46, lv, v.toList ++ [], S) r) := X_inv (n := 4) (kd := 2) (st0 := [.int x3, .int x2, .int x1, .ref 9]) rfl (Or.inr ⟨rfl, rfl⟩) rfl (Nat.le_of_ble_eq_true rfl) (Nat.le_of_ble_eq_true rfl) (by decide) rfl
theorem rX5_layDivide_46 {d : Nat} {lv : xLV} {st : List Value} {S : xS} {r : xO} : XL SK MT d 145 (46, lv, st, S) r ↔ xA (xlook lv 0) (fun x => XL SK MT d 145 (47, lv, .ref x :: st, S) r) := X_ldA rfl rfl (fun _ => rfl) rfl rfl rfl rfl
theorem rX5_layDivide_47 {d : Nat} {lv : xLV} {st : List Value} {S : xS} {r : xO} : XL SK MT d 145 (47, lv, .ref 10 :: st, S) r ↔ XL SK MT d 145 (50, lv, .ref 9 :: st, S) r := X_heap rfl rfl rfl rfl rfl
theorem rX5_layDivide_50 {d : Nat} {lv : xLV} {st : List Value} {S : xS} {r : xO} : XL SK MT d 145 (50, lv, st, S) r ↔ XL SK MT d 145 (52, lv, .int 9 :: st, S) r := X_pure rfl rfl rfl
theorem rX5_layDivide_52 {d : Nat} {lv : xLV} {st : List Value} {S : xS} {r : xO} : XL SK MT d 145 (52, lv, st, S) r ↔ XL SK MT d 145 (54, lv, .int (-4) :: st, S) r := X_pure rfl rfl rfl
theorem rX5_layDivide_54 {d : Nat} {lv : xLV} {st : List Value} {S : xS} {r : xO} : XL SK MT d 145 (54, lv, st, S) r ↔ XL SK MT d 145 (56, lv, .int 16 :: st, S) r := X_pure rfl rfl rfl
theorem rX5_layDivide_56 {d : Nat} {lv : xLV} {S : xS} {r : xO} {x1 : Int32} {x2 : Int32} {x3 : Int32} : XL SK MT d 145 (56, lv, [.int x3, .int x2, .int x1, .ref 9], S) r ↔ xK (XC SK MT d 18 [.ref 9, .int x1, .int x2, .int x3] S) (fun v S => XL SK MT d 145 (59, lv, v.toList ++ [], S) r) := X_inv (n := 4) (kd := 2) (st0 := [.int x3, .int x2, .int x1, .ref 9]) rfl (Or.inr ⟨rfl, rfl⟩) rfl (Nat.le_of_ble_eq_true rfl) (Nat.le_of_ble_eq_true rfl) (by decide) rfl
theorem rX5_layDivide_59 {d : Nat} {lv : xLV} {st : List Value} {S : xS} {r : xO} : XL SK MT d 145 (59, lv, st, S) r ↔ xA (xlook lv 0) (fun x => XL SK MT d 145 (60, lv, .ref x :: st, S) r) := X_ldA rfl rfl (fun _ => rfl) rfl rfl rfl rfl
theorem rX5_layDivide_60 {d : Nat} {lv : xLV} {st : List Value} {S : xS} {r : xO} : XL SK MT d 145 (60, lv, .ref 10 :: st, S) r ↔ XL SK MT d 145 (63, lv, .ref 9 :: st, S) r := X_heap rfl rfl rfl rfl rfl
theorem rX5_layDivide_63 {d : Nat} {lv : xLV} {st : List Value} {S : xS} {r : xO} : XL SK MT d 145 (63, lv, st, S) r ↔ XL SK MT d 145 (64, lv, .int 3 :: st, S) r := X_pure rfl rfl rfl
theorem rX5_layDivide_64 {d : Nat} {lv : xLV} {st : List Value} {S : xS} {r : xO} : XL SK MT d 145 (64, lv, st, S) r ↔ XL SK MT d 145 (66, lv, .int 8 :: st, S) r := X_pure rfl rfl rfl
theorem rX5_layDivide_66 {d : Nat} {lv : xLV} {st : List Value} {S : xS} {r : xO} : XL SK MT d 145 (66, lv, st, S) r ↔ XL SK MT d 145 (68, lv, .int 8 :: st, S) r := X_pure rfl rfl rfl
theorem rX5_layDivide_68 {d : Nat} {lv : xLV} {st : List Value} {S : xS} {r : xO} : XL SK MT d 145 (68, lv, st, S) r ↔ XL SK MT d 145 (69, lv, .int 1 :: st, S) r := X_pure rfl rfl rfl
theorem rX5_layDivide_69 {d : Nat} {lv : xLV} {S : xS} {r : xO} {x1 : Int32} {x2 : Int32} {x3 : Int32} {x4 : Int32} : XL SK MT d 145 (69, lv, [.int x4, .int x3, .int x2, .int x1, .ref 9], S) r ↔ xK (XC SK MT d 16 [.ref 9, .int x1, .int x2, .int x3, .int x4] S) (fun v S => XL SK MT d 145 (72, lv, v.toList ++ [], S) r) := X_inv (n := 5) (kd := 2) (st0 := [.int x4, .int x3, .int x2, .int x1, .ref 9]) rfl (Or.inr ⟨rfl, rfl⟩) rfl (Nat.le_of_ble_eq_true rfl) (Nat.le_of_ble_eq_true rfl) (by decide) rfl
theorem rX5_layDivide_72 {d : Nat} {lv : xLV} {st : List Value} {S : xS} {r : xO} : XL SK MT d 145 (72, lv, st, S) r ↔ xA (xlook lv 0) (fun x => XL SK MT d 145 (73, lv, .ref x :: st, S) r) := X_ldA rfl rfl (fun _ => rfl) rfl rfl rfl rfl
theorem rX5_layDivide_73 {d : Nat} {lv : xLV} {st : List Value} {S : xS} {r : xO} : XL SK MT d 145 (73, lv, .ref 10 :: st, S) r ↔ XL SK MT d 145 (76, lv, .ref 9 :: st, S) r := X_heap rfl rfl rfl rfl rfl
theorem rX5_layDivide_76 {d : Nat} {lv : xLV} {st : List Value} {S : xS} {r : xO} : XL SK MT d 145 (76, lv, st, S) r ↔ XL SK MT d 145 (77, lv, .int 3 :: st, S) r := X_pure rfl rfl rfl
theorem rX5_layDivide_77 {d : Nat} {lv : xLV} {st : List Value} {S : xS} {r : xO} : XL SK MT d 145 (77, lv, st, S) r ↔ XL SK MT d 145 (79, lv, .int 9 :: st, S) r := X_pure rfl rfl rfl
theorem rX5_layDivide_79 {d : Nat} {lv : xLV} {st : List Value} {S : xS} {r : xO} : XL SK MT d 145 (79, lv, st, S) r ↔ XL SK MT d 145 (81, lv, .int 9 :: st, S) r := X_pure rfl rfl rfl
theorem rX5_layDivide_81 {d : Nat} {lv : xLV} {st : List Value} {S : xS} {r : xO} : XL SK MT d 145 (81, lv, st, S) r ↔ XL SK MT d 145 (82, lv, .int 1 :: st, S) r := X_pure rfl rfl rfl
theorem rX5_layDivide_82 {d : Nat} {lv : xLV} {S : xS} {r : xO} {x1 : Int32} {x2 : Int32} {x3 : Int32} {x4 : Int32} : XL SK MT d 145 (82, lv, [.int x4, .int x3, .int x2, .int x1, .ref 9], S) r ↔ xK (XC SK MT d 16 [.ref 9, .int x1, .int x2, .int x3, .int x4] S) (fun v S => XL SK MT d 145 (85, lv, v.toList ++ [], S) r) := X_inv (n := 5) (kd := 2) (st0 := [.int x4, .int x3, .int x2, .int x1, .ref 9]) rfl (Or.inr ⟨rfl, rfl⟩) rfl (Nat.le_of_ble_eq_true rfl) (Nat.le_of_ble_eq_true rfl) (by decide) rfl
theorem rX5_layDivide_85 {d : Nat} {lv : xLV} {st : List Value} {S : xS} {r : xO} : XL SK MT d 145 (85, lv, st, S) r ↔ xA (xlook lv 0) (fun x => XL SK MT d 145 (86, lv, .ref x :: st, S) r) := X_ldA rfl rfl (fun _ => rfl) rfl rfl rfl rfl
theorem rX5_layDivide_86 {d : Nat} {lv : xLV} {st : List Value} {S : xS} {r : xO} : XL SK MT d 145 (86, lv, .ref 10 :: st, S) r ↔ XL SK MT d 145 (89, lv, .ref 9 :: st, S) r := X_heap rfl rfl rfl rfl rfl
theorem rX5_layDivide_89 {d : Nat} {lv : xLV} {st : List Value} {S : xS} {r : xO} : XL SK MT d 145 (89, lv, st, S) r ↔ XL SK MT d 145 (90, lv, .int 4 :: st, S) r := X_pure rfl rfl rfl
theorem rX5_layDivide_90 {d : Nat} {lv : xLV} {st : List Value} {S : xS} {r : xO} : XL SK MT d 145 (90, lv, st, S) r ↔ XL SK MT d 145 (92, lv, .int 9 :: st, S) r := X_pure rfl rfl rfl
theorem rX5_layDivide_92 {d : Nat} {lv : xLV} {st : List Value} {S : xS} {r : xO} : XL SK MT d 145 (92, lv, st, S) r ↔ XL SK MT d 145 (93, lv, .int 0 :: st, S) r := X_pure rfl rfl rfl
theorem rX5_layDivide_93 {d : Nat} {lv : xLV} {st : List Value} {S : xS} {r : xO} : XL SK MT d 145 (93, lv, st, S) r ↔ xI (xlook lv 1) (fun x => XL SK MT d 145 (94, lv, .int x :: st, S) r) := X_ldI rfl rfl (fun _ => rfl) rfl rfl rfl rfl
theorem rX5_layDivide_94 {d : Nat} {lv : xLV} {S : xS} {r : xO} {x1 : Int32} {x2 : Int32} {x3 : Int32} {x4 : Int32} : XL SK MT d 145 (94, lv, [.int x4, .int x3, .int x2, .int x1, .ref 9], S) r ↔ xK (XC SK MT d 24 [.ref 9, .int x1, .int x2, .int x3, .int x4] S) (fun v S => XL SK MT d 145 (97, lv, v.toList ++ [], S) r) := X_inv (n := 5) (kd := 2) (st0 := [.int x4, .int x3, .int x2, .int x1, .ref 9]) rfl (Or.inr ⟨rfl, rfl⟩) rfl (Nat.le_of_ble_eq_true rfl) (Nat.le_of_ble_eq_true rfl) (by decide) rfl
theorem rX5_layDivide_97 {d : Nat} {lv : xLV} {st : List Value} {S : xS} {r : xO} : XL SK MT d 145 (97, lv, st, S) r ↔ xA (xlook lv 0) (fun x => XL SK MT d 145 (98, lv, .ref x :: st, S) r) := X_ldA rfl rfl (fun _ => rfl) rfl rfl rfl rfl
theorem rX5_layDivide_98 {d : Nat} {lv : xLV} {st : List Value} {S : xS} {r : xO} : XL SK MT d 145 (98, lv, .ref 10 :: st, S) r ↔ XL SK MT d 145 (101, lv, .ref 9 :: st, S) r := X_heap rfl rfl rfl rfl rfl
theorem rX5_layDivide_101 {d : Nat} {lv : xLV} {st : List Value} {S : xS} {r : xO} : XL SK MT d 145 (101, lv, st, S) r ↔ XL SK MT d 145 (103, lv, .int 26 :: st, S) r := X_pure rfl rfl rfl
theorem rX5_layDivide_103 {d : Nat} {lv : xLV} {st : List Value} {S : xS} {r : xO} : XL SK MT d 145 (103, lv, st, S) r ↔ XL SK MT d 145 (104, lv, .int 0 :: st, S) r := X_pure rfl rfl rfl
theorem rX5_layDivide_104 {d : Nat} {lv : xLV} {st : List Value} {S : xS} {r : xO} : XL SK MT d 145 (104, lv, st, S) r ↔ XL SK MT d 145 (106, lv, .int 8 :: st, S) r := X_pure rfl rfl rfl
theorem rX5_layDivide_106 {d : Nat} {lv : xLV} {st : List Value} {S : xS} {r : xO} : XL SK MT d 145 (106, lv, st, S) r ↔ XL SK MT d 145 (108, lv, .int 9 :: st, S) r := X_pure rfl rfl rfl
theorem rX5_layDivide_108 {d : Nat} {lv : xLV} {S : xS} {r : xO} {x1 : Int32} {x2 : Int32} {x3 : Int32} {x4 : Int32} : XL SK MT d 145 (108, lv, [.int x4, .int x3, .int x2, .int x1, .ref 9], S) r ↔ xK (XC SK MT d 15 [.ref 9, .int x1, .int x2, .int x3, .int x4] S) (fun v S => XL SK MT d 145 (111, lv, v.toList ++ [], S) r) := X_inv (n := 5) (kd := 2) (st0 := [.int x4, .int x3, .int x2, .int x1, .ref 9]) rfl (Or.inr ⟨rfl, rfl⟩) rfl (Nat.le_of_ble_eq_true rfl) (Nat.le_of_ble_eq_true rfl) (by decide) rfl
theorem rX5_layDivide_111 {d : Nat} {lv : xLV} {st : List Value} {S : xS} {r : xO} : XL SK MT d 145 (111, lv, st, S) r ↔ xA (xlook lv 0) (fun x => XL SK MT d 145 (112, lv, .ref x :: st, S) r) := X_ldA rfl rfl (fun _ => rfl) rfl rfl rfl rfl
theorem rX5_layDivide_112 {d : Nat} {lv : xLV} {st : List Value} {S : xS} {r : xO} : XL SK MT d 145 (112, lv, .ref 10 :: st, S) r ↔ XL SK MT d 145 (115, lv, .ref 9 :: st, S) r := X_heap rfl rfl rfl rfl rfl
theorem rX5_layDivide_115 {d : Nat} {lv : xLV} {st : List Value} {S : xS} {r : xO} : XL SK MT d 145 (115, lv, st, S) r ↔ XL SK MT d 145 (117, lv, .int 18 :: st, S) r := X_pure rfl rfl rfl
theorem rX5_layDivide_117 {d : Nat} {lv : xLV} {st : List Value} {S : xS} {r : xO} : XL SK MT d 145 (117, lv, st, S) r ↔ XL SK MT d 145 (119, lv, .int 10 :: st, S) r := X_pure rfl rfl rfl
theorem rX5_layDivide_119 {d : Nat} {lv : xLV} {st : List Value} {S : xS} {r : xO} : XL SK MT d 145 (119, lv, st, S) r ↔ XL SK MT d 145 (120, lv, .int 0 :: st, S) r := X_pure rfl rfl rfl
theorem rX5_layDivide_120 {d : Nat} {lv : xLV} {st : List Value} {S : xS} {r : xO} : XL SK MT d 145 (120, lv, st, S) r ↔ XL SK MT d 145 (121, lv, .int 0 :: st, S) r := X_pure rfl rfl rfl
theorem rX5_layDivide_121 {d : Nat} {lv : xLV} {S : xS} {r : xO} {x1 : Int32} {x2 : Int32} {x3 : Int32} {x4 : Int32} : XL SK MT d 145 (121, lv, [.int x4, .int x3, .int x2, .int x1, .ref 9], S) r ↔ xK (XC SK MT d 15 [.ref 9, .int x1, .int x2, .int x3, .int x4] S) (fun v S => XL SK MT d 145 (124, lv, v.toList ++ [], S) r) := X_inv (n := 5) (kd := 2) (st0 := [.int x4, .int x3, .int x2, .int x1, .ref 9]) rfl (Or.inr ⟨rfl, rfl⟩) rfl (Nat.le_of_ble_eq_true rfl) (Nat.le_of_ble_eq_true rfl) (by decide) rfl
theorem rX5_layDivide_124 {d : Nat} {lv : xLV} {st : List Value} {S : xS} {r : xO} : XL SK MT d 145 (124, lv, st, S) r ↔ xA (xlook lv 0) (fun x => XL SK MT d 145 (125, lv, .ref x :: st, S) r) := X_ldA rfl rfl (fun _ => rfl) rfl rfl rfl rfl
theorem rX5_layDivide_125 {d : Nat} {lv : xLV} {st : List Value} {S : xS} {r : xO} : XL SK MT d 145 (125, lv, .ref 10 :: st, S) r ↔ XL SK MT d 145 (128, lv, .ref 9 :: st, S) r := X_heap rfl rfl rfl rfl rfl
theorem rX5_layDivide_128 {d : Nat} {lv : xLV} {st : List Value} {S : xS} {r : xO} : XL SK MT d 145 (128, lv, st, S) r ↔ XL SK MT d 145 (130, lv, .int 16 :: st, S) r := X_pure rfl rfl rfl
theorem rX5_layDivide_130 {d : Nat} {lv : xLV} {st : List Value} {S : xS} {r : xO} : XL SK MT d 145 (130, lv, st, S) r ↔ XL SK MT d 145 (132, lv, .int 11 :: st, S) r := X_pure rfl rfl rfl
theorem rX5_layDivide_132 {d : Nat} {lv : xLV} {st : List Value} {S : xS} {r : xO} : XL SK MT d 145 (132, lv, st, S) r ↔ XL SK MT d 145 (133, lv, .int 0 :: st, S) r := X_pure rfl rfl rfl
theorem rX5_layDivide_133 {d : Nat} {lv : xLV} {st : List Value} {S : xS} {r : xO} : XL SK MT d 145 (133, lv, st, S) r ↔ XL SK MT d 145 (134, lv, .int 0 :: st, S) r := X_pure rfl rfl rfl
theorem rX5_layDivide_134 {d : Nat} {lv : xLV} {S : xS} {r : xO} {x1 : Int32} {x2 : Int32} {x3 : Int32} {x4 : Int32} : XL SK MT d 145 (134, lv, [.int x4, .int x3, .int x2, .int x1, .ref 9], S) r ↔ xK (XC SK MT d 15 [.ref 9, .int x1, .int x2, .int x3, .int x4] S) (fun v S => XL SK MT d 145 (137, lv, v.toList ++ [], S) r) := X_inv (n := 5) (kd := 2) (st0 := [.int x4, .int x3, .int x2, .int x1, .ref 9]) rfl (Or.inr ⟨rfl, rfl⟩) rfl (Nat.le_of_ble_eq_true rfl) (Nat.le_of_ble_eq_true rfl) (by decide) rfl
theorem rX5_layDivide_137 {d : Nat} {lv : xLV} {st : List Value} {S : xS} {r : xO} : XL SK MT d 145 (137, lv, st, S) r ↔ xA (xlook lv 0) (fun x => XL SK MT d 145 (138, lv, .ref x :: st, S) r) := X_ldA rfl rfl (fun _ => rfl) rfl rfl rfl rfl
theorem rX5_layDivide_138 {d : Nat} {lv : xLV} {st : List Value} {S : xS} {r : xO} : XL SK MT d 145 (138, lv, .ref 10 :: st, S) r ↔ XL SK MT d 145 (141, lv, .ref 9 :: st, S) r := X_heap rfl rfl rfl rfl rfl
theorem rX5_layDivide_141 {d : Nat} {lv : xLV} {st : List Value} {S : xS} {r : xO} : XL SK MT d 145 (141, lv, st, S) r ↔ XL SK MT d 145 (142, lv, .int 4 :: st, S) r := X_pure rfl rfl rfl
theorem rX5_layDivide_142 {d : Nat} {lv : xLV} {st : List Value} {S : xS} {r : xO} : XL SK MT d 145 (142, lv, st, S) r ↔ XL SK MT d 145 (144, lv, .int 11 :: st, S) r := X_pure rfl rfl rfl
theorem rX5_layDivide_144 {d : Nat} {lv : xLV} {st : List Value} {S : xS} {r : xO} : XL SK MT d 145 (144, lv, st, S) r ↔ XL SK MT d 145 (145, lv, .int 0 :: st, S) r := X_pure rfl rfl rfl
theorem rX5_layDivide_145 {d : Nat} {lv : xLV} {st : List Value} {S : xS} {r : xO} : XL SK MT d 145 (145, lv, st, S) r ↔ xI (xlook lv 2) (fun x => XL SK MT d 145 (146, lv, .int x :: st, S) r) := X_ldI rfl rfl (fun _ => rfl) rfl rfl rfl rfl
theorem rX5_layDivide_146 {d : Nat} {lv : xLV} {S : xS} {r : xO} {x1 : Int32} {x2 : Int32} {x3 : Int32} {x4 : Int32} : XL SK MT d 145 (146, lv, [.int x4, .int x3, .int x2, .int x1, .ref 9], S) r ↔ xK (XC SK MT d 24 [.ref 9, .int x1, .int x2, .int x3, .int x4] S) (fun v S => XL SK MT d 145 (149, lv, v.toList ++ [], S) r) := X_inv (n := 5) (kd := 2) (st0 := [.int x4, .int x3, .int x2, .int x1, .ref 9]) rfl (Or.inr ⟨rfl, rfl⟩) rfl (Nat.le_of_ble_eq_true rfl) (Nat.le_of_ble_eq_true rfl) (by decide) rfl
theorem rX5_layDivide_149 {d : Nat} {lv : xLV} {st : List Value} {S : xS} {r : xO} : XL SK MT d 145 (149, lv, st, S) r ↔ xA (xlook lv 0) (fun x => XL SK MT d 145 (150, lv, .ref x :: st, S) r) := X_ldA rfl rfl (fun _ => rfl) rfl rfl rfl rfl
theorem rX5_layDivide_150 {d : Nat} {lv : xLV} {st : List Value} {S : xS} {r : xO} : XL SK MT d 145 (150, lv, .ref 10 :: st, S) r ↔ XL SK MT d 145 (153, lv, .ref 9 :: st, S) r := X_heap rfl rfl rfl rfl rfl
theorem rX5_layDivide_153 {d : Nat} {lv : xLV} {st : List Value} {S : xS} {r : xO} : XL SK MT d 145 (153, lv, st, S) r ↔ XL SK MT d 145 (155, lv, .int 38 :: st, S) r := X_pure rfl rfl rfl
theorem rX5_layDivide_155 {d : Nat} {lv : xLV} {st : List Value} {S : xS} {r : xO} : XL SK MT d 145 (155, lv, st, S) r ↔ XL SK MT d 145 (157, lv, .int 12 :: st, S) r := X_pure rfl rfl rfl
theorem rX5_layDivide_157 {d : Nat} {lv : xLV} {st : List Value} {S : xS} {r : xO} : XL SK MT d 145 (157, lv, st, S) r ↔ XL SK MT d 145 (159, lv, .int 11 :: st, S) r := X_pure rfl rfl rfl
theorem rX5_layDivide_159 {d : Nat} {lv : xLV} {st : List Value} {S : xS} {r : xO} : XL SK MT d 145 (159, lv, st, S) r ↔ XL SK MT d 145 (161, lv, .int 9 :: st, S) r := X_pure rfl rfl rfl
theorem rX5_layDivide_161 {d : Nat} {lv : xLV} {S : xS} {r : xO} {x1 : Int32} {x2 : Int32} {x3 : Int32} {x4 : Int32} : XL SK MT d 145 (161, lv, [.int x4, .int x3, .int x2, .int x1, .ref 9], S) r ↔ xK (XC SK MT d 15 [.ref 9, .int x1, .int x2, .int x3, .int x4] S) (fun v S => XL SK MT d 145 (164, lv, v.toList ++ [], S) r) := X_inv (n := 5) (kd := 2) (st0 := [.int x4, .int x3, .int x2, .int x1, .ref 9]) rfl (Or.inr ⟨rfl, rfl⟩) rfl (Nat.le_of_ble_eq_true rfl) (Nat.le_of_ble_eq_true rfl) (by decide) rfl
theorem rX5_layDivide_164 {d : Nat} {lv : xLV} {st : List Value} {S : xS} {r : xO} : XL SK MT d 145 (164, lv, st, S) r ↔ xA (xlook lv 0) (fun x => XL SK MT d 145 (165, lv, .ref x :: st, S) r) := X_ldA rfl rfl (fun _ => rfl) rfl rfl rfl rfl
theorem rX5_layDivide_165 {d : Nat} {lv : xLV} {st : List Value} {S : xS} {r : xO} : XL SK MT d 145 (165, lv, .ref 10 :: st, S) r ↔ XL SK MT d 145 (168, lv, .ref 9 :: st, S) r := X_heap rfl rfl rfl rfl rfl
theorem rX5_layDivide_168 {d : Nat} {lv : xLV} {st : List Value} {S : xS} {r : xO} : XL SK MT d 145 (168, lv, st, S) r ↔ XL SK MT d 145 (170, lv, .int 12 :: st, S) r := X_pure rfl rfl rfl
theorem rX5_layDivide_170 {d : Nat} {lv : xLV} {st : List Value} {S : xS} {r : xO} : XL SK MT d 145 (170, lv, st, S) r ↔ xI (xlook lv 2) (fun x => XL SK MT d 145 (171, lv, .int x :: st, S) r) := X_ldI rfl rfl (fun _ => rfl) rfl rfl rfl rfl
theorem rX5_layDivide_171 {d : Nat} {lv : xLV} {S : xS} {r : xO} {x1 : Int32} {x2 : Int32} : XL SK MT d 145 (171, lv, [.int x2, .int x1, .ref 9], S) r ↔ xK (XC SK MT d 25 [.ref 9, .int x1, .int x2] S) (fun v S => XL SK MT d 145 (174, lv, v.toList ++ [], S) r) := X_inv (n := 3) (kd := 2) (st0 := [.int x2, .int x1, .ref 9]) rfl (Or.inr ⟨rfl, rfl⟩) rfl (Nat.le_of_ble_eq_true rfl) (Nat.le_of_ble_eq_true rfl) (by decide) rfl
theorem rX5_layDivide_174 {d : Nat} {lv : xLV} {st : List Value} {S : xS} {r : xO} : XL SK MT d 145 (174, lv, st, S) r ↔ xA (xlook lv 0) (fun x => XL SK MT d 145 (175, lv, .ref x :: st, S) r) := X_ldA rfl rfl (fun _ => rfl) rfl rfl rfl rfl
theorem rX5_layDivide_175 {d : Nat} {lv : xLV} {st : List Value} {S : xS} {r : xO} : XL SK MT d 145 (175, lv, .ref 10 :: st, S) r ↔ XL SK MT d 145 (178, lv, .ref 9 :: st, S) r := X_heap rfl rfl rfl rfl rfl
theorem rX5_layDivide_178 {d : Nat} {lv : xLV} {st : List Value} {S : xS} {r : xO} : XL SK MT d 145 (178, lv, st, S) r ↔ XL SK MT d 145 (180, lv, .int 10 :: st, S) r := X_pure rfl rfl rfl
theorem rX5_layDivide_180 {d : Nat} {lv : xLV} {st : List Value} {S : xS} {r : xO} : XL SK MT d 145 (180, lv, st, S) r ↔ XL SK MT d 145 (182, lv, .int 10 :: st, S) r := X_pure rfl rfl rfl
theorem rX5_layDivide_182 {d : Nat} {lv : xLV} {st : List Value} {S : xS} {r : xO} : XL SK MT d 145 (182, lv, st, S) r ↔ XL SK MT d 145 (183, lv, .int (-1) :: st, S) r := X_pure rfl rfl rfl
theorem rX5_layDivide_183 {d : Nat} {lv : xLV} {S : xS} {r : xO} {x1 : Int32} {x2 : Int32} {x3 : Int32} : XL SK MT d 145 (183, lv, [.int x3, .int x2, .int x1, .ref 9], S) r ↔ xK (XC SK MT d 20 [.ref 9, .int x1, .int x2, .int x3] S) (fun v S => XL SK MT d 145 (186, lv, v.toList ++ [], S) r) := X_inv (n := 4) (kd := 2) (st0 := [.int x3, .int x2, .int x1, .ref 9]) rfl (Or.inr ⟨rfl, rfl⟩) rfl (Nat.le_of_ble_eq_true rfl) (Nat.le_of_ble_eq_true rfl) (by decide) rfl
theorem rX5_layDivide_186 {d : Nat} {lv : xLV} {st : List Value} {S : xS} {r : xO} : XL SK MT d 145 (186, lv, st, S) r ↔ xA (xlook lv 0) (fun x => XL SK MT d 145 (187, lv, .ref x :: st, S) r) := X_ldA rfl rfl (fun _ => rfl) rfl rfl rfl rfl
theorem rX5_layDivide_187 {d : Nat} {lv : xLV} {st : List Value} {S : xS} {r : xO} : XL SK MT d 145 (187, lv, .ref 10 :: st, S) r ↔ XL SK MT d 145 (190, lv, .ref 9 :: st, S) r := X_heap rfl rfl rfl rfl rfl
theorem rX5_layDivide_190 {d : Nat} {lv : xLV} {st : List Value} {S : xS} {r : xO} : XL SK MT d 145 (190, lv, st, S) r ↔ XL SK MT d 145 (192, lv, .int 33 :: st, S) r := X_pure rfl rfl rfl
theorem rX5_layDivide_192 {d : Nat} {lv : xLV} {st : List Value} {S : xS} {r : xO} : XL SK MT d 145 (192, lv, st, S) r ↔ XL SK MT d 145 (194, lv, .int 11 :: st, S) r := X_pure rfl rfl rfl
theorem rX5_layDivide_194 {d : Nat} {lv : xLV} {st : List Value} {S : xS} {r : xO} : XL SK MT d 145 (194, lv, st, S) r ↔ XL SK MT d 145 (196, lv, .int 11 :: st, S) r := X_pure rfl rfl rfl
theorem rX5_layDivide_196 {d : Nat} {lv : xLV} {st : List Value} {S : xS} {r : xO} : XL SK MT d 145 (196, lv, st, S) r ↔ XL SK MT d 145 (198, lv, .int 9 :: st, S) r := X_pure rfl rfl rfl
theorem rX5_layDivide_198 {d : Nat} {lv : xLV} {S : xS} {r : xO} {x1 : Int32} {x2 : Int32} {x3 : Int32} {x4 : Int32} : XL SK MT d 145 (198, lv, [.int x4, .int x3, .int x2, .int x1, .ref 9], S) r ↔ xK (XC SK MT d 15 [.ref 9, .int x1, .int x2, .int x3, .int x4] S) (fun v S => XL SK MT d 145 (201, lv, v.toList ++ [], S) r) := X_inv (n := 5) (kd := 2) (st0 := [.int x4, .int x3, .int x2, .int x1, .ref 9]) rfl (Or.inr ⟨rfl, rfl⟩) rfl (Nat.le_of_ble_eq_true rfl) (Nat.le_of_ble_eq_true rfl) (by decide) rfl
theorem rX5_layDivide_201 {d : Nat} {lv : xLV} {st : List Value} {S : xS} {r : xO} : XL SK MT d 145 (201, lv, st, S) r ↔ xA (xlook lv 0) (fun x => XL SK MT d 145 (202, lv, .ref x :: st, S) r) := X_ldA rfl rfl (fun _ => rfl) rfl rfl rfl rfl
theorem rX5_layDivide_202 {d : Nat} {lv : xLV} {st : List Value} {S : xS} {r : xO} : XL SK MT d 145 (202, lv, .ref 10 :: st, S) r ↔ XL SK MT d 145 (205, lv, .ref 9 :: st, S) r := X_heap rfl rfl rfl rfl rfl
theorem rX5_layDivide_205 {d : Nat} {lv : xLV} {st : List Value} {S : xS} {r : xO} : XL SK MT d 145 (205, lv, st, S) r ↔ xI (xlook lv 2) (fun x => XL SK MT d 145 (206, lv, .int x :: st, S) r) := X_ldI rfl rfl (fun _ => rfl) rfl rfl rfl rfl
theorem rX5_layDivide_206 {d : Nat} {lv : xLV} {S : xS} {r : xO} {x1 : Int32} : XL SK MT d 145 (206, lv, [.int x1, .ref 9], S) r ↔ xK (XC SK MT d 3 [.ref 9, .int x1] S) (fun v S => XL SK MT d 145 (209, lv, v.toList ++ [], S) r) := X_inv (n := 2) (kd := 2) (st0 := [.int x1, .ref 9]) rfl (Or.inr ⟨rfl, rfl⟩) rfl (Nat.le_of_ble_eq_true rfl) (Nat.le_of_ble_eq_true rfl) (by decide) rfl
theorem rX5_layDivide_209 {d : Nat} {lv : xLV} {st : List Value} {S : xS} {r : xO} : XL SK MT d 145 (209, lv, st, S) r ↔ xA (xlook lv 0) (fun x => XL SK MT d 145 (210, lv, .ref x :: st, S) r) := X_ldA rfl rfl (fun _ => rfl) rfl rfl rfl rfl
theorem rX5_layDivide_210 {d : Nat} {lv : xLV} {st : List Value} {S : xS} {r : xO} : XL SK MT d 145 (210, lv, .ref 10 :: st, S) r ↔ XL SK MT d 145 (213, lv, .ref 9 :: st, S) r := X_heap rfl rfl rfl rfl rfl
theorem rX5_layDivide_213 {d : Nat} {lv : xLV} {st : List Value} {S : xS} {r : xO} : XL SK MT d 145 (213, lv, st, S) r ↔ XL SK MT d 145 (214, lv, .int 4 :: st, S) r := X_pure rfl rfl rfl
theorem rX5_layDivide_214 {d : Nat} {lv : xLV} {st : List Value} {S : xS} {r : xO} : XL SK MT d 145 (214, lv, st, S) r ↔ XL SK MT d 145 (215, lv, .int 5 :: st, S) r := X_pure rfl rfl rfl
theorem rX5_layDivide_215 {d : Nat} {lv : xLV} {st : List Value} {S : xS} {r : xO} : XL SK MT d 145 (215, lv, st, S) r ↔ XL SK MT d 145 (216, lv, .int 0 :: st, S) r := X_pure rfl rfl rfl
theorem rX5_layDivide_216 {d : Nat} {lv : xLV} {st : List Value} {S : xS} {r : xO} : XL SK MT d 145 (216, lv, st, S) r ↔ xI (xlook lv 3) (fun x => XL SK MT d 145 (217, lv, .int x :: st, S) r) := X_ldI rfl rfl (fun _ => rfl) rfl rfl rfl rfl
theorem rX5_layDivide_217 {d : Nat} {lv : xLV} {S : xS} {r : xO} {x1 : Int32} {x2 : Int32} {x3 : Int32} {x4 : Int32} : XL SK MT d 145 (217, lv, [.int x4, .int x3, .int x2, .int x1, .ref 9], S) r ↔ xK (XC SK MT d 24 [.ref 9, .int x1, .int x2, .int x3, .int x4] S) (fun v S => XL SK MT d 145 (220, lv, v.toList ++ [], S) r) := X_inv (n := 5) (kd := 2) (st0 := [.int x4, .int x3, .int x2, .int x1, .ref 9]) rfl (Or.inr ⟨rfl, rfl⟩) rfl (Nat.le_of_ble_eq_true rfl) (Nat.le_of_ble_eq_true rfl) (by decide) rfl
theorem rX5_layDivide_220 {d : Nat} {lv : xLV} {st : List Value} {S : xS} {r : xO} : XL SK MT d 145 (220, lv, st, S) r ↔ xA (xlook lv 0) (fun x => XL SK MT d 145 (221, lv, .ref x :: st, S) r) := X_ldA rfl rfl (fun _ => rfl) rfl rfl rfl rfl
theorem rX5_layDivide_221 {d : Nat} {lv : xLV} {st : List Value} {S : xS} {r : xO} : XL SK MT d 145 (221, lv, .ref 10 :: st, S) r ↔ XL SK MT d 145 (224, lv, .ref 9 :: st, S) r := X_heap rfl rfl rfl rfl rfl
theorem rX5_layDivide_224 {d : Nat} {lv : xLV} {st : List Value} {S : xS} {r : xO} : XL SK MT d 145 (224, lv, st, S) r ↔ XL SK MT d 145 (226, lv, .int 10 :: st, S) r := X_pure rfl rfl rfl
theorem rX5_layDivide_226 {d : Nat} {lv : xLV} {st : List Value} {S : xS} {r : xO} : XL SK MT d 145 (226, lv, st, S) r ↔ XL SK MT d 145 (228, lv, .int 11 :: st, S) r := X_pure rfl rfl rfl
theorem rX5_layDivide_228 {d : Nat} {lv : xLV} {S : xS} {r : xO} {x1 : Int32} {x2 : Int32} : XL SK MT d 145 (228, lv, [.int x2, .int x1, .ref 9], S) r ↔ xK (XC SK MT d 21 [.ref 9, .int x1, .int x2] S) (fun v S => XL SK MT d 145 (231, lv, v.toList ++ [], S) r) := X_inv (n := 3) (kd := 2) (st0 := [.int x2, .int x1, .ref 9]) rfl (Or.inr ⟨rfl, rfl⟩) rfl (Nat.le_of_ble_eq_true rfl) (Nat.le_of_ble_eq_true rfl) (by decide) rfl
theorem rX5_layDivide_231 {d : Nat} {lv : xLV} {st : List Value} {S : xS} {r : xO} : XL SK MT d 145 (231, lv, st, S) r ↔ xA (xlook lv 0) (fun x => XL SK MT d 145 (232, lv, .ref x :: st, S) r) := X_ldA rfl rfl (fun _ => rfl) rfl rfl rfl rfl
theorem rX5_layDivide_232 {d : Nat} {lv : xLV} {st : List Value} {S : xS} {r : xO} : XL SK MT d 145 (232, lv, .ref 10 :: st, S) r ↔ XL SK MT d 145 (235, lv, .ref 9 :: st, S) r := X_heap rfl rfl rfl rfl rfl
theorem rX5_layDivide_235 {d : Nat} {lv : xLV} {st : List Value} {S : xS} {r : xO} : XL SK MT d 145 (235, lv, st, S) r ↔ xI (xlook lv 3) (fun x => XL SK MT d 145 (236, lv, .int x :: st, S) r) := X_ldI rfl rfl (fun _ => rfl) rfl rfl rfl rfl
theorem rX5_layDivide_236 {d : Nat} {lv : xLV} {S : xS} {r : xO} {x1 : Int32} : XL SK MT d 145 (236, lv, [.int x1, .ref 9], S) r ↔ xK (XC SK MT d 3 [.ref 9, .int x1] S) (fun v S => XL SK MT d 145 (239, lv, v.toList ++ [], S) r) := X_inv (n := 2) (kd := 2) (st0 := [.int x1, .ref 9]) rfl (Or.inr ⟨rfl, rfl⟩) rfl (Nat.le_of_ble_eq_true rfl) (Nat.le_of_ble_eq_true rfl) (by decide) rfl
theorem rX5_layDivide_239 {d : Nat} {lv : xLV} {st : List Value} {S : xS} {r : xO} : XL SK MT d 145 (239, lv, st, S) r ↔ xA (xlook lv 0) (fun x => XL SK MT d 145 (240, lv, .ref x :: st, S) r) := X_ldA rfl rfl (fun _ => rfl) rfl rfl rfl rfl
theorem rX5_layDivide_240 {d : Nat} {lv : xLV} {st : List Value} {S : xS} {r : xO} : XL SK MT d 145 (240, lv, .ref 10 :: st, S) r ↔ XL SK MT d 145 (243, lv, .ref 9 :: st, S) r := X_heap rfl rfl rfl rfl rfl
theorem rX5_layDivide_243 {d : Nat} {lv : xLV} {st : List Value} {S : xS} {r : xO} : XL SK MT d 145 (243, lv, st, S) r ↔ XL SK MT d 145 (244, lv, .int 0 :: st, S) r := X_pure rfl rfl rfl
theorem rX5_layDivide_244 {d : Nat} {lv : xLV} {st : List Value} {S : xS} {r : xO} : XL SK MT d 145 (244, lv, st, S) r ↔ XL SK MT d 145 (246, lv, .int 10 :: st, S) r := X_pure rfl rfl rfl
theorem rX5_layDivide_246 {d : Nat} {lv : xLV} {st : List Value} {S : xS} {r : xO} : XL SK MT d 145 (246, lv, st, S) r ↔ XL SK MT d 145 (248, lv, .int 10 :: st, S) r := X_pure rfl rfl rfl
theorem rX5_layDivide_248 {d : Nat} {lv : xLV} {st : List Value} {S : xS} {r : xO} : XL SK MT d 145 (248, lv, st, S) r ↔ XL SK MT d 145 (249, lv, .int 1 :: st, S) r := X_pure rfl rfl rfl
theorem rX5_layDivide_249 {d : Nat} {lv : xLV} {S : xS} {r : xO} {x1 : Int32} {x2 : Int32} {x3 : Int32} {x4 : Int32} : XL SK MT d 145 (249, lv, [.int x4, .int x3, .int x2, .int x1, .ref 9], S) r ↔ xK (XC SK MT d 16 [.ref 9, .int x1, .int x2, .int x3, .int x4] S) (fun v S => XL SK MT d 145 (252, lv, v.toList ++ [], S) r) := X_inv (n := 5) (kd := 2) (st0 := [.int x4, .int x3, .int x2, .int x1, .ref 9]) rfl (Or.inr ⟨rfl, rfl⟩) rfl (Nat.le_of_ble_eq_true rfl) (Nat.le_of_ble_eq_true rfl) (by decide) rfl
theorem rX5_layDivide_252 {d : Nat} {lv : xLV} {st : List Value} {S : xS} {r : xO} : XL SK MT d 145 (252, lv, st, S) r ↔ xA (xlook lv 0) (fun x => XL SK MT d 145 (253, lv, .ref x :: st, S) r) := X_ldA rfl rfl (fun _ => rfl) rfl rfl rfl rfl
theorem rX5_layDivide_253 {d : Nat} {lv : xLV} {st : List Value} {S : xS} {r : xO} : XL SK MT d 145 (253, lv, .ref 10 :: st, S) r ↔ XL SK MT d 145 (256, lv, .ref 9 :: st, S) r := X_heap rfl rfl rfl rfl rfl
theorem rX5_layDivide_256 {d : Nat} {lv : xLV} {st : List Value} {S : xS} {r : xO} : XL SK MT d 145 (256, lv, st, S) r ↔ XL SK MT d 145 (258, lv, .int 10 :: st, S) r := X_pure rfl rfl rfl
theorem rX5_layDivide_258 {d : Nat} {lv : xLV} {st : List Value} {S : xS} {r : xO} : XL SK MT d 145 (258, lv, st, S) r ↔ XL SK MT d 145 (260, lv, .int 10 :: st, S) r := X_pure rfl rfl rfl
theorem rX5_layDivide_260 {d : Nat} {lv : xLV} {st : List Value} {S : xS} {r : xO} : XL SK MT d 145 (260, lv, st, S) r ↔ XL SK MT d 145 (261, lv, .int 1 :: st, S) r := X_pure rfl rfl rfl
theorem rX5_layDivide_261 {d : Nat} {lv : xLV} {S : xS} {r : xO} {x1 : Int32} {x2 : Int32} {x3 : Int32} : XL SK MT d 145 (261, lv, [.int x3, .int x2, .int x1, .ref 9], S) r ↔ xK (XC SK MT d 20 [.ref 9, .int x1, .int x2, .int x3] S) (fun v S => XL SK MT d 145 (264, lv, v.toList ++ [], S) r) := X_inv (n := 4) (kd := 2) (st0 := [.int x3, .int x2, .int x1, .ref 9]) rfl (Or.inr ⟨rfl, rfl⟩) rfl (Nat.le_of_ble_eq_true rfl) (Nat.le_of_ble_eq_true rfl) (by decide) rfl
theorem rX5_layDivide_264 {d : Nat} {lv : xLV} {st : List Value} {S : xS} {r : xO} : XL SK MT d 145 (264, lv, st, S) r ↔ xA (xlook lv 0) (fun x => XL SK MT d 145 (265, lv, .ref x :: st, S) r) := X_ldA rfl rfl (fun _ => rfl) rfl rfl rfl rfl
theorem rX5_layDivide_265 {d : Nat} {lv : xLV} {st : List Value} {S : xS} {r : xO} : XL SK MT d 145 (265, lv, .ref 10 :: st, S) r ↔ XL SK MT d 145 (268, lv, .ref 9 :: st, S) r := X_heap rfl rfl rfl rfl rfl
theorem rX5_layDivide_268 {d : Nat} {lv : xLV} {st : List Value} {S : xS} {r : xO} : XL SK MT d 145 (268, lv, st, S) r ↔ XL SK MT d 145 (270, lv, .int 16 :: st, S) r := X_pure rfl rfl rfl
theorem rX5_layDivide_270 {d : Nat} {lv : xLV} {st : List Value} {S : xS} {r : xO} : XL SK MT d 145 (270, lv, st, S) r ↔ XL SK MT d 145 (272, lv, .int 16 :: st, S) r := X_pure rfl rfl rfl
theorem rX5_layDivide_272 {d : Nat} {lv : xLV} {st : List Value} {S : xS} {r : xO} : XL SK MT d 145 (272, lv, st, S) r ↔ XL SK MT d 145 (274, lv, .int (-4) :: st, S) r := X_pure rfl rfl rfl
theorem rX5_layDivide_274 {d : Nat} {lv : xLV} {S : xS} {r : xO} {x1 : Int32} {x2 : Int32} {x3 : Int32} : XL SK MT d 145 (274, lv, [.int x3, .int x2, .int x1, .ref 9], S) r ↔ xK (XC SK MT d 20 [.ref 9, .int x1, .int x2, .int x3] S) (fun v S => XL SK MT d 145 (277, lv, v.toList ++ [], S) r) := X_inv (n := 4) (kd := 2) (st0 := [.int x3, .int x2, .int x1, .ref 9]) rfl (Or.inr ⟨rfl, rfl⟩) rfl (Nat.le_of_ble_eq_true rfl) (Nat.le_of_ble_eq_true rfl) (by decide) rfl
theorem rX5_layDivide_277 {d : Nat} {lv : xLV} {st : List Value} {S : xS} {r : xO} : XL SK MT d 145 (277, lv, st, S) r ↔ xA (xlook lv 0) (fun x => XL SK MT d 145 (278, lv, .ref x :: st, S) r) := X_ldA rfl rfl (fun _ => rfl) rfl rfl rfl rfl
theorem rX5_layDivide_278 {d : Nat} {lv : xLV} {st : List Value} {S : xS} {r : xO} : XL SK MT d 145 (278, lv, .ref 10 :: st, S) r ↔ XL SK MT d 145 (281, lv, .ref 9 :: st, S) r := X_heap rfl rfl rfl rfl rfl
theorem rX5_layDivide_281 {d : Nat} {lv : xLV} {st : List Value} {S : xS} {r : xO} : XL SK MT d 145 (281, lv, st, S) r ↔ XL SK MT d 145 (283, lv, .int 10 :: st, S) r := X_pure rfl rfl rfl
theorem rX5_layDivide_283 {d : Nat} {lv : xLV} {st : List Value} {S : xS} {r : xO} : XL SK MT d 145 (283, lv, st, S) r ↔ XL SK MT d 145 (285, lv, .int (-4) :: st, S) r := X_pure rfl rfl rfl
theorem rX5_layDivide_285 {d : Nat} {lv : xLV} {st : List Value} {S : xS} {r : xO} : XL SK MT d 145 (285, lv, st, S) r ↔ XL SK MT d 145 (287, lv, .int 16 :: st, S) r := X_pure rfl rfl rfl
theorem rX5_layDivide_287 {d : Nat} {lv : xLV} {S : xS} {r : xO} {x1 : Int32} {x2 : Int32} {x3 : Int32} : XL SK MT d 145 (287, lv, [.int x3, .int x2, .int x1, .ref 9], S) r ↔ xK (XC SK MT d 19 [.ref 9, .int x1, .int x2, .int x3] S) (fun v S => XL SK MT d 145 (290, lv, v.toList ++ [], S) r) := X_inv (n := 4) (kd := 2) (st0 := [.int x3, .int x2, .int x1, .ref 9]) rfl (Or.inr ⟨rfl, rfl⟩) rfl (Nat.le_of_ble_eq_true rfl) (Nat.le_of_ble_eq_true rfl) (by decide) rfl
theorem rX5_layDivide_290 {d : Nat} {lv : xLV} {st : List Value} {S : xS} {r : xO} : XL SK MT d 145 (290, lv, st, S) r ↔ xA (xlook lv 0) (fun x => XL SK MT d 145 (291, lv, .ref x :: st, S) r) := X_ldA rfl rfl (fun _ => rfl) rfl rfl rfl rfl
theorem rX5_layDivide_291 {d : Nat} {lv : xLV} {st : List Value} {S : xS} {r : xO} : XL SK MT d 145 (291, lv, .ref 10 :: st, S) r ↔ XL SK MT d 145 (294, lv, .ref 9 :: st, S) r := X_heap rfl rfl rfl rfl rfl
theorem rX5_layDivide_294 {d : Nat} {lv : xLV} {st : List Value} {S : xS} {r : xO} : XL SK MT d 145 (294, lv, st, S) r ↔ XL SK MT d 145 (296, lv, .int 31 :: st, S) r := X_pure rfl rfl rfl
theorem rX5_layDivide_296 {d : Nat} {lv : xLV} {S : xS} {r : xO} {x1 : Int32} : XL SK MT d 145 (296, lv, [.int x1, .ref 9], S) r ↔ xK (XC SK MT d 29 [.ref 9, .int x1] S) (fun v S => XL SK MT d 145 (299, lv, v.toList ++ [], S) r) := X_inv (n := 2) (kd := 2) (st0 := [.int x1, .ref 9]) rfl (Or.inr ⟨rfl, rfl⟩) rfl (Nat.le_of_ble_eq_true rfl) (Nat.le_of_ble_eq_true rfl) (by decide) rfl
theorem rX5_layDivide_299 {d : Nat} {lv : xLV} {st : List Value} {S : xS} {r : xO} : XL SK MT d 145 (299, lv, st, S) r ↔ xA (xlook lv 0) (fun x => XL SK MT d 145 (300, lv, .ref x :: st, S) r) := X_ldA rfl rfl (fun _ => rfl) rfl rfl rfl rfl
theorem rX5_layDivide_300 {d : Nat} {lv : xLV} {st : List Value} {S : xS} {r : xO} : XL SK MT d 145 (300, lv, .ref 10 :: st, S) r ↔ XL SK MT d 145 (303, lv, .ref 9 :: st, S) r := X_heap rfl rfl rfl rfl rfl
theorem rX5_layDivide_303 {d : Nat} {lv : xLV} {st : List Value} {S : xS} {r : xO} : XL SK MT d 145 (303, lv, st, S) r ↔ xI (xlook lv 1) (fun x => XL SK MT d 145 (304, lv, .int x :: st, S) r) := X_ldI rfl rfl (fun _ => rfl) rfl rfl rfl rfl
theorem rX5_layDivide_304 {d : Nat} {lv : xLV} {S : xS} {r : xO} {x1 : Int32} : XL SK MT d 145 (304, lv, [.int x1, .ref 9], S) r ↔ xK (XC SK MT d 3 [.ref 9, .int x1] S) (fun v S => XL SK MT d 145 (307, lv, v.toList ++ [], S) r) := X_inv (n := 2) (kd := 2) (st0 := [.int x1, .ref 9]) rfl (Or.inr ⟨rfl, rfl⟩) rfl (Nat.le_of_ble_eq_true rfl) (Nat.le_of_ble_eq_true rfl) (by decide) rfl
theorem rX5_layDivide_307 {d : Nat} {lv : xLV} {st : List Value} {S : xS} {r : xO} : XL SK MT d 145 (307, lv, st, S) r ↔ xA (xlook lv 0) (fun x => XL SK MT d 145 (308, lv, .ref x :: st, S) r) := X_ldA rfl rfl (fun _ => rfl) rfl rfl rfl rfl
theorem rX5_layDivide_308 {d : Nat} {lv : xLV} {st : List Value} {S : xS} {r : xO} : XL SK MT d 145 (308, lv, .ref 10 :: st, S) r ↔ XL SK MT d 145 (311, lv, .ref 9 :: st, S) r := X_heap rfl rfl rfl rfl rfl
theorem rX5_layDivide_311 {d : Nat} {lv : xLV} {st : List Value} {S : xS} {r : xO} : XL SK MT d 145 (311, lv, st, S) r ↔ XL SK MT d 145 (312, lv, .int 4 :: st, S) r := X_pure rfl rfl rfl
theorem rX5_layDivide_312 {d : Nat} {lv : xLV} {st : List Value} {S : xS} {r : xO} : XL SK MT d 145 (312, lv, st, S) r ↔ XL SK MT d 145 (314, lv, .int 26 :: st, S) r := X_pure rfl rfl rfl
theorem rX5_layDivide_314 {d : Nat} {lv : xLV} {S : xS} {r : xO} {x1 : Int32} {x2 : Int32} : XL SK MT d 145 (314, lv, [.int x2, .int x1, .ref 9], S) r ↔ xK (XC SK MT d 22 [.ref 9, .int x1, .int x2] S) (fun v S => XL SK MT d 145 (317, lv, v.toList ++ [], S) r) := X_inv (n := 3) (kd := 2) (st0 := [.int x2, .int x1, .ref 9]) rfl (Or.inr ⟨rfl, rfl⟩) rfl (Nat.le_of_ble_eq_true rfl) (Nat.le_of_ble_eq_true rfl) (by decide) rfl
theorem rX5_layDivide_317 {d : Nat} {lv : xLV} {st : List Value} {S : xS} {r : xO} : XL SK MT d 145 (317, lv, st, S) r ↔ xA (xlook lv 0) (fun x => XL SK MT d 145 (318, lv, .ref x :: st, S) r) := X_ldA rfl rfl (fun _ => rfl) rfl rfl rfl rfl
theorem rX5_layDivide_318 {d : Nat} {lv : xLV} {st : List Value} {S : xS} {r : xO} : XL SK MT d 145 (318, lv, .ref 10 :: st, S) r ↔ XL SK MT d 145 (321, lv, .ref 9 :: st, S) r := X_heap rfl rfl rfl rfl rfl
theorem rX5_layDivide_321 {d : Nat} {lv : xLV} {st : List Value} {S : xS} {r : xO} : XL SK MT d 145 (321, lv, st, S) r ↔ XL SK MT d 145 (323, lv, .int 65550 :: st, S) r := X_pure rfl rfl rfl
theorem rX5_layDivide_323 {d : Nat} {lv : xLV} {S : xS} {r : xO} {x1 : Int32} : XL SK MT d 145 (323, lv, [.int x1, .ref 9], S) r ↔ xK (XC SK MT d 27 [.ref 9, .int x1] S) (fun v S => XL SK MT d 145 (326, lv, v.toList ++ [], S) r) := X_inv (n := 2) (kd := 2) (st0 := [.int x1, .ref 9]) rfl (Or.inr ⟨rfl, rfl⟩) rfl (Nat.le_of_ble_eq_true rfl) (Nat.le_of_ble_eq_true rfl) (by decide) rfl
theorem rX5_layDivide_326 {d : Nat} {lv : xLV} {S : xS} {r : xO} : XL SK MT d 145 (326, lv, [], S) r ↔ (none, S) = r := X_ret rfl rfl rfl rfl rfl rfl

theorem rX5_layRaise_0 {d : Nat} {lv : xLV} {st : List Value} {S : xS} {r : xO} : XL SK MT d 146 (0, lv, st, S) r ↔ xA (xlook lv 0) (fun x => XL SK MT d 146 (1, lv, .ref x :: st, S) r) := X_ldA rfl rfl (fun _ => rfl) rfl rfl rfl rfl
theorem rX5_layRaise_1 {d : Nat} {lv : xLV} {st : List Value} {S : xS} {r : xO} : XL SK MT d 146 (1, lv, .ref 10 :: st, S) r ↔ XL SK MT d 146 (4, lv, .ref 9 :: st, S) r := X_heap rfl rfl rfl rfl rfl
theorem rX5_layRaise_4 {d : Nat} {lv : xLV} {S : xS} {r : xO} : XL SK MT d 146 (4, lv, [.ref 9], S) r ↔ xK (XC SK MT d 1 [.ref 9] S) (fun v S => XL SK MT d 146 (7, lv, v.toList ++ [], S) r) := X_inv (n := 1) (kd := 2) (st0 := [.ref 9]) rfl (Or.inr ⟨rfl, rfl⟩) rfl (Nat.le_of_ble_eq_true rfl) (Nat.le_of_ble_eq_true rfl) (by decide) rfl
theorem rX5_layRaise_7 {d : Nat} {lv : xLV} {st : List Value} {S : xS} {r : xO} {x : Int32} : XL SK MT d 146 (7, lv, .int x :: st, S) r ↔ XL SK MT d 146 (8, xst1 lv 1 (.int x), st, S) r := X_pure rfl rfl rfl
theorem rX5_layRaise_8 {d : Nat} {lv : xLV} {st : List Value} {S : xS} {r : xO} : XL SK MT d 146 (8, lv, st, S) r ↔ xA (xlook lv 0) (fun x => XL SK MT d 146 (9, lv, .ref x :: st, S) r) := X_ldA rfl rfl (fun _ => rfl) rfl rfl rfl rfl
theorem rX5_layRaise_9 {d : Nat} {lv : xLV} {st : List Value} {S : xS} {r : xO} : XL SK MT d 146 (9, lv, .ref 10 :: st, S) r ↔ XL SK MT d 146 (12, lv, .ref 9 :: st, S) r := X_heap rfl rfl rfl rfl rfl
theorem rX5_layRaise_12 {d : Nat} {lv : xLV} {st : List Value} {S : xS} {r : xO} : XL SK MT d 146 (12, lv, st, S) r ↔ XL SK MT d 146 (14, lv, .int 65550 :: st, S) r := X_pure rfl rfl rfl
theorem rX5_layRaise_14 {d : Nat} {lv : xLV} {S : xS} {r : xO} {x1 : Int32} : XL SK MT d 146 (14, lv, [.int x1, .ref 9], S) r ↔ xK (XC SK MT d 3 [.ref 9, .int x1] S) (fun v S => XL SK MT d 146 (17, lv, v.toList ++ [], S) r) := X_inv (n := 2) (kd := 2) (st0 := [.int x1, .ref 9]) rfl (Or.inr ⟨rfl, rfl⟩) rfl (Nat.le_of_ble_eq_true rfl) (Nat.le_of_ble_eq_true rfl) (by decide) rfl
theorem rX5_layRaise_17 {d : Nat} {lv : xLV} {st : List Value} {S : xS} {r : xO} : XL SK MT d 146 (17, lv, st, S) r ↔ xA (xlook lv 0) (fun x => XL SK MT d 146 (18, lv, .ref x :: st, S) r) := X_ldA rfl rfl (fun _ => rfl) rfl rfl rfl rfl
theorem rX5_layRaise_18 {d : Nat} {lv : xLV} {st : List Value} {S : xS} {r : xO} : XL SK MT d 146 (18, lv, .ref 10 :: st, S) r ↔ XL SK MT d 146 (21, lv, .ref 9 :: st, S) r := X_heap rfl rfl rfl rfl rfl
theorem rX5_layRaise_21 {d : Nat} {lv : xLV} {st : List Value} {S : xS} {r : xO} : XL SK MT d 146 (21, lv, st, S) r ↔ XL SK MT d 146 (22, lv, .int 5 :: st, S) r := X_pure rfl rfl rfl
theorem rX5_layRaise_22 {d : Nat} {lv : xLV} {st : List Value} {S : xS} {r : xO} : XL SK MT d 146 (22, lv, st, S) r ↔ XL SK MT d 146 (24, lv, .int 21 :: st, S) r := X_pure rfl rfl rfl
theorem rX5_layRaise_24 {d : Nat} {lv : xLV} {st : List Value} {S : xS} {r : xO} : XL SK MT d 146 (24, lv, st, S) r ↔ XL SK MT d 146 (25, lv, .int 0 :: st, S) r := X_pure rfl rfl rfl
theorem rX5_layRaise_25 {d : Nat} {lv : xLV} {st : List Value} {S : xS} {r : xO} : XL SK MT d 146 (25, lv, st, S) r ↔ xI (xlook lv 1) (fun x => XL SK MT d 146 (26, lv, .int x :: st, S) r) := X_ldI rfl rfl (fun _ => rfl) rfl rfl rfl rfl
theorem rX5_layRaise_26 {d : Nat} {lv : xLV} {S : xS} {r : xO} {x1 : Int32} {x2 : Int32} {x3 : Int32} {x4 : Int32} : XL SK MT d 146 (26, lv, [.int x4, .int x3, .int x2, .int x1, .ref 9], S) r ↔ xK (XC SK MT d 24 [.ref 9, .int x1, .int x2, .int x3, .int x4] S) (fun v S => XL SK MT d 146 (29, lv, v.toList ++ [], S) r) := X_inv (n := 5) (kd := 2) (st0 := [.int x4, .int x3, .int x2, .int x1, .ref 9]) rfl (Or.inr ⟨rfl, rfl⟩) rfl (Nat.le_of_ble_eq_true rfl) (Nat.le_of_ble_eq_true rfl) (by decide) rfl
theorem rX5_layRaise_29 {d : Nat} {lv : xLV} {st : List Value} {S : xS} {r : xO} : XL SK MT d 146 (29, lv, st, S) r ↔ xA (xlook lv 0) (fun x => XL SK MT d 146 (30, lv, .ref x :: st, S) r) := X_ldA rfl rfl (fun _ => rfl) rfl rfl rfl rfl
theorem rX5_layRaise_30 {d : Nat} {lv : xLV} {st : List Value} {S : xS} {r : xO} : XL SK MT d 146 (30, lv, .ref 10 :: st, S) r ↔ XL SK MT d 146 (33, lv, .ref 9 :: st, S) r := X_heap rfl rfl rfl rfl rfl
theorem rX5_layRaise_33 {d : Nat} {lv : xLV} {st : List Value} {S : xS} {r : xO} : XL SK MT d 146 (33, lv, st, S) r ↔ XL SK MT d 146 (34, lv, .int 3 :: st, S) r := X_pure rfl rfl rfl
theorem rX5_layRaise_34 {d : Nat} {lv : xLV} {st : List Value} {S : xS} {r : xO} : XL SK MT d 146 (34, lv, st, S) r ↔ XL SK MT d 146 (35, lv, .int 4 :: st, S) r := X_pure rfl rfl rfl
theorem rX5_layRaise_35 {d : Nat} {lv : xLV} {S : xS} {r : xO} {x1 : Int32} {x2 : Int32} : XL SK MT d 146 (35, lv, [.int x2, .int x1, .ref 9], S) r ↔ xK (XC SK MT d 21 [.ref 9, .int x1, .int x2] S) (fun v S => XL SK MT d 146 (38, lv, v.toList ++ [], S) r) := X_inv (n := 3) (kd := 2) (st0 := [.int x2, .int x1, .ref 9]) rfl (Or.inr ⟨rfl, rfl⟩) rfl (Nat.le_of_ble_eq_true rfl) (Nat.le_of_ble_eq_true rfl) (by decide) rfl
theorem rX5_layRaise_38 {d : Nat} {lv : xLV} {st : List Value} {S : xS} {r : xO} : XL SK MT d 146 (38, lv, st, S) r ↔ xA (xlook lv 0) (fun x => XL SK MT d 146 (39, lv, .ref x :: st, S) r) := X_ldA rfl rfl (fun _ => rfl) rfl rfl rfl rfl
theorem rX5_layRaise_39 {d : Nat} {lv : xLV} {st : List Value} {S : xS} {r : xO} : XL SK MT d 146 (39, lv, .ref 10 :: st, S) r ↔ XL SK MT d 146 (42, lv, .ref 9 :: st, S) r := X_heap rfl rfl rfl rfl rfl
theorem rX5_layRaise_42 {d : Nat} {lv : xLV} {st : List Value} {S : xS} {r : xO} : XL SK MT d 146 (42, lv, st, S) r ↔ XL SK MT d 146 (43, lv, .int 2 :: st, S) r := X_pure rfl rfl rfl
theorem rX5_layRaise_43 {d : Nat} {lv : xLV} {st : List Value} {S : xS} {r : xO} : XL SK MT d 146 (43, lv, st, S) r ↔ XL SK MT d 146 (44, lv, .int 1 :: st, S) r := X_pure rfl rfl rfl
theorem rX5_layRaise_44 {d : Nat} {lv : xLV} {S : xS} {r : xO} {x1 : Int32} {x2 : Int32} : XL SK MT d 146 (44, lv, [.int x2, .int x1, .ref 9], S) r ↔ xK (XC SK MT d 22 [.ref 9, .int x1, .int x2] S) (fun v S => XL SK MT d 146 (47, lv, v.toList ++ [], S) r) := X_inv (n := 3) (kd := 2) (st0 := [.int x2, .int x1, .ref 9]) rfl (Or.inr ⟨rfl, rfl⟩) rfl (Nat.le_of_ble_eq_true rfl) (Nat.le_of_ble_eq_true rfl) (by decide) rfl
theorem rX5_layRaise_47 {d : Nat} {lv : xLV} {st : List Value} {S : xS} {r : xO} : XL SK MT d 146 (47, lv, st, S) r ↔ xA (xlook lv 0) (fun x => XL SK MT d 146 (48, lv, .ref x :: st, S) r) := X_ldA rfl rfl (fun _ => rfl) rfl rfl rfl rfl
theorem rX5_layRaise_48 {d : Nat} {lv : xLV} {st : List Value} {S : xS} {r : xO} : XL SK MT d 146 (48, lv, .ref 10 :: st, S) r ↔ XL SK MT d 146 (51, lv, .ref 9 :: st, S) r := X_heap rfl rfl rfl rfl rfl
theorem rX5_layRaise_51 {d : Nat} {lv : xLV} {st : List Value} {S : xS} {r : xO} : XL SK MT d 146 (51, lv, st, S) r ↔ XL SK MT d 146 (53, lv, .int 65561 :: st, S) r := X_pure rfl rfl rfl
theorem rX5_layRaise_53 {d : Nat} {lv : xLV} {S : xS} {r : xO} {x1 : Int32} : XL SK MT d 146 (53, lv, [.int x1, .ref 9], S) r ↔ xK (XC SK MT d 27 [.ref 9, .int x1] S) (fun v S => XL SK MT d 146 (56, lv, v.toList ++ [], S) r) := X_inv (n := 2) (kd := 2) (st0 := [.int x1, .ref 9]) rfl (Or.inr ⟨rfl, rfl⟩) rfl (Nat.le_of_ble_eq_true rfl) (Nat.le_of_ble_eq_true rfl) (by decide) rfl
theorem rX5_layRaise_56 {d : Nat} {lv : xLV} {st : List Value} {S : xS} {r : xO} : XL SK MT d 146 (56, lv, st, S) r ↔ xA (xlook lv 0) (fun x => XL SK MT d 146 (57, lv, .ref x :: st, S) r) := X_ldA rfl rfl (fun _ => rfl) rfl rfl rfl rfl
theorem rX5_layRaise_57 {d : Nat} {lv : xLV} {st : List Value} {S : xS} {r : xO} : XL SK MT d 146 (57, lv, .ref 10 :: st, S) r ↔ XL SK MT d 146 (60, lv, .ref 9 :: st, S) r := X_heap rfl rfl rfl rfl rfl
theorem rX5_layRaise_60 {d : Nat} {lv : xLV} {st : List Value} {S : xS} {r : xO} : XL SK MT d 146 (60, lv, st, S) r ↔ xI (xlook lv 1) (fun x => XL SK MT d 146 (61, lv, .int x :: st, S) r) := X_ldI rfl rfl (fun _ => rfl) rfl rfl rfl rfl
theorem rX5_layRaise_61 {d : Nat} {lv : xLV} {S : xS} {r : xO} {x1 : Int32} : XL SK MT d 146 (61, lv, [.int x1, .ref 9], S) r ↔ xK (XC SK MT d 3 [.ref 9, .int x1] S) (fun v S => XL SK MT d 146 (64, lv, v.toList ++ [], S) r) := X_inv (n := 2) (kd := 2) (st0 := [.int x1, .ref 9]) rfl (Or.inr ⟨rfl, rfl⟩) rfl (Nat.le_of_ble_eq_true rfl) (Nat.le_of_ble_eq_true rfl) (by decide) rfl
theorem rX5_layRaise_64 {d : Nat} {lv : xLV} {st : List Value} {S : xS} {r : xO} : XL SK MT d 146 (64, lv, st, S) r ↔ xA (xlook lv 0) (fun x => XL SK MT d 146 (65, lv, .ref x :: st, S) r) := X_ldA rfl rfl (fun _ => rfl) rfl rfl rfl rfl
theorem rX5_layRaise_65 {d : Nat} {lv : xLV} {st : List Value} {S : xS} {r : xO} : XL SK MT d 146 (65, lv, .ref 10 :: st, S) r ↔ XL SK MT d 146 (68, lv, .ref 9 :: st, S) r := X_heap rfl rfl rfl rfl rfl
theorem rX5_layRaise_68 {d : Nat} {lv : xLV} {st : List Value} {S : xS} {r : xO} : XL SK MT d 146 (68, lv, st, S) r ↔ XL SK MT d 146 (70, lv, .int 16 :: st, S) r := X_pure rfl rfl rfl
theorem rX5_layRaise_70 {d : Nat} {lv : xLV} {st : List Value} {S : xS} {r : xO} : XL SK MT d 146 (70, lv, st, S) r ↔ XL SK MT d 146 (72, lv, .int 21 :: st, S) r := X_pure rfl rfl rfl
theorem rX5_layRaise_72 {d : Nat} {lv : xLV} {S : xS} {r : xO} {x1 : Int32} {x2 : Int32} : XL SK MT d 146 (72, lv, [.int x2, .int x1, .ref 9], S) r ↔ xK (XC SK MT d 21 [.ref 9, .int x1, .int x2] S) (fun v S => XL SK MT d 146 (75, lv, v.toList ++ [], S) r) := X_inv (n := 3) (kd := 2) (st0 := [.int x2, .int x1, .ref 9]) rfl (Or.inr ⟨rfl, rfl⟩) rfl (Nat.le_of_ble_eq_true rfl) (Nat.le_of_ble_eq_true rfl) (by decide) rfl
theorem rX5_layRaise_75 {d : Nat} {lv : xLV} {st : List Value} {S : xS} {r : xO} : XL SK MT d 146 (75, lv, st, S) r ↔ xA (xlook lv 0) (fun x => XL SK MT d 146 (76, lv, .ref x :: st, S) r) := X_ldA rfl rfl (fun _ => rfl) rfl rfl rfl rfl
theorem rX5_layRaise_76 {d : Nat} {lv : xLV} {st : List Value} {S : xS} {r : xO} : XL SK MT d 146 (76, lv, .ref 10 :: st, S) r ↔ XL SK MT d 146 (79, lv, .ref 9 :: st, S) r := X_heap rfl rfl rfl rfl rfl
theorem rX5_layRaise_79 {d : Nat} {lv : xLV} {st : List Value} {S : xS} {r : xO} : XL SK MT d 146 (79, lv, st, S) r ↔ XL SK MT d 146 (81, lv, .int 8 :: st, S) r := X_pure rfl rfl rfl
theorem rX5_layRaise_81 {d : Nat} {lv : xLV} {st : List Value} {S : xS} {r : xO} : XL SK MT d 146 (81, lv, st, S) r ↔ XL SK MT d 146 (82, lv, .int 0 :: st, S) r := X_pure rfl rfl rfl
theorem rX5_layRaise_82 {d : Nat} {lv : xLV} {st : List Value} {S : xS} {r : xO} : XL SK MT d 146 (82, lv, st, S) r ↔ XL SK MT d 146 (84, lv, .int 16 :: st, S) r := X_pure rfl rfl rfl
theorem rX5_layRaise_84 {d : Nat} {lv : xLV} {S : xS} {r : xO} {x1 : Int32} {x2 : Int32} {x3 : Int32} : XL SK MT d 146 (84, lv, [.int x3, .int x2, .int x1, .ref 9], S) r ↔ xK (XC SK MT d 18 [.ref 9, .int x1, .int x2, .int x3] S) (fun v S => XL SK MT d 146 (87, lv, v.toList ++ [], S) r) := X_inv (n := 4) (kd := 2) (st0 := [.int x3, .int x2, .int x1, .ref 9]) rfl (Or.inr ⟨rfl, rfl⟩) rfl (Nat.le_of_ble_eq_true rfl) (Nat.le_of_ble_eq_true rfl) (by decide) rfl
theorem rX5_layRaise_87 {d : Nat} {lv : xLV} {st : List Value} {S : xS} {r : xO} : XL SK MT d 146 (87, lv, st, S) r ↔ xA (xlook lv 0) (fun x => XL SK MT d 146 (88, lv, .ref x :: st, S) r) := X_ldA rfl rfl (fun _ => rfl) rfl rfl rfl rfl
theorem rX5_layRaise_88 {d : Nat} {lv : xLV} {st : List Value} {S : xS} {r : xO} : XL SK MT d 146 (88, lv, .ref 10 :: st, S) r ↔ XL SK MT d 146 (91, lv, .ref 9 :: st, S) r := X_heap rfl rfl rfl rfl rfl
theorem rX5_layRaise_91 {d : Nat} {lv : xLV} {st : List Value} {S : xS} {r : xO} : XL SK MT d 146 (91, lv, st, S) r ↔ XL SK MT d 146 (93, lv, .int 9 :: st, S) r := X_pure rfl rfl rfl
theorem rX5_layRaise_93 {d : Nat} {lv : xLV} {st : List Value} {S : xS} {r : xO} : XL SK MT d 146 (93, lv, st, S) r ↔ XL SK MT d 146 (94, lv, .int 4 :: st, S) r := X_pure rfl rfl rfl
theorem rX5_layRaise_94 {d : Nat} {lv : xLV} {st : List Value} {S : xS} {r : xO} : XL SK MT d 146 (94, lv, st, S) r ↔ XL SK MT d 146 (96, lv, .int 16 :: st, S) r := X_pure rfl rfl rfl
theorem rX5_layRaise_96 {d : Nat} {lv : xLV} {S : xS} {r : xO} {x1 : Int32} {x2 : Int32} {x3 : Int32} : XL SK MT d 146 (96, lv, [.int x3, .int x2, .int x1, .ref 9], S) r ↔ xK (XC SK MT d 18 [.ref 9, .int x1, .int x2, .int x3] S) (fun v S => XL SK MT d 146 (99, lv, v.toList ++ [], S) r) := X_inv (n := 4) (kd := 2) (st0 := [.int x3, .int x2, .int x1, .ref 9]) rfl (Or.inr ⟨rfl, rfl⟩) rfl (Nat.le_of_ble_eq_true rfl) (Nat.le_of_ble_eq_true rfl) (by decide) rfl
theorem rX5_layRaise_99 {d : Nat} {lv : xLV} {st : List Value} {S : xS} {r : xO} : XL SK MT d 146 (99, lv, st, S) r ↔ xA (xlook lv 0) (fun x => XL SK MT d 146 (100, lv, .ref x :: st, S) r) := X_ldA rfl rfl (fun _ => rfl) rfl rfl rfl rfl
theorem rX5_layRaise_100 {d : Nat} {lv : xLV} {st : List Value} {S : xS} {r : xO} : XL SK MT d 146 (100, lv, .ref 10 :: st, S) r ↔ XL SK MT d 146 (103, lv, .ref 9 :: st, S) r := X_heap rfl rfl rfl rfl rfl
theorem rX5_layRaise_103 {d : Nat} {lv : xLV} {st : List Value} {S : xS} {r : xO} : XL SK MT d 146 (103, lv, st, S) r ↔ XL SK MT d 146 (105, lv, .int 10 :: st, S) r := X_pure rfl rfl rfl
theorem rX5_layRaise_105 {d : Nat} {lv : xLV} {st : List Value} {S : xS} {r : xO} : XL SK MT d 146 (105, lv, st, S) r ↔ XL SK MT d 146 (107, lv, .int 8 :: st, S) r := X_pure rfl rfl rfl
theorem rX5_layRaise_107 {d : Nat} {lv : xLV} {st : List Value} {S : xS} {r : xO} : XL SK MT d 146 (107, lv, st, S) r ↔ XL SK MT d 146 (109, lv, .int 16 :: st, S) r := X_pure rfl rfl rfl
theorem rX5_layRaise_109 {d : Nat} {lv : xLV} {S : xS} {r : xO} {x1 : Int32} {x2 : Int32} {x3 : Int32} : XL SK MT d 146 (109, lv, [.int x3, .int x2, .int x1, .ref 9], S) r ↔ xK (XC SK MT d 18 [.ref 9, .int x1, .int x2, .int x3] S) (fun v S => XL SK MT d 146 (112, lv, v.toList ++ [], S) r) := X_inv (n := 4) (kd := 2) (st0 := [.int x3, .int x2, .int x1, .ref 9]) rfl (Or.inr ⟨rfl, rfl⟩) rfl (Nat.le_of_ble_eq_true rfl) (Nat.le_of_ble_eq_true rfl) (by decide) rfl
theorem rX5_layRaise_112 {d : Nat} {lv : xLV} {st : List Value} {S : xS} {r : xO} : XL SK MT d 146 (112, lv, st, S) r ↔ xA (xlook lv 0) (fun x => XL SK MT d 146 (113, lv, .ref x :: st, S) r) := X_ldA rfl rfl (fun _ => rfl) rfl rfl rfl rfl
theorem rX5_layRaise_113 {d : Nat} {lv : xLV} {st : List Value} {S : xS} {r : xO} : XL SK MT d 146 (113, lv, .ref 10 :: st, S) r ↔ XL SK MT d 146 (116, lv, .ref 9 :: st, S) r := X_heap rfl rfl rfl rfl rfl
theorem rX5_layRaise_116 {d : Nat} {lv : xLV} {st : List Value} {S : xS} {r : xO} : XL SK MT d 146 (116, lv, st, S) r ↔ XL SK MT d 146 (117, lv, .int 4 :: st, S) r := X_pure rfl rfl rfl
theorem rX5_layRaise_117 {d : Nat} {lv : xLV} {st : List Value} {S : xS} {r : xO} : XL SK MT d 146 (117, lv, st, S) r ↔ XL SK MT d 146 (118, lv, .int 0 :: st, S) r := X_pure rfl rfl rfl
theorem rX5_layRaise_118 {d : Nat} {lv : xLV} {st : List Value} {S : xS} {r : xO} : XL SK MT d 146 (118, lv, st, S) r ↔ XL SK MT d 146 (120, lv, .int 16 :: st, S) r := X_pure rfl rfl rfl
theorem rX5_layRaise_120 {d : Nat} {lv : xLV} {S : xS} {r : xO} {x1 : Int32} {x2 : Int32} {x3 : Int32} : XL SK MT d 146 (120, lv, [.int x3, .int x2, .int x1, .ref 9], S) r ↔ xK (XC SK MT d 19 [.ref 9, .int x1, .int x2, .int x3] S) (fun v S => XL SK MT d 146 (123, lv, v.toList ++ [], S) r) := X_inv (n := 4) (kd := 2) (st0 := [.int x3, .int x2, .int x1, .ref 9]) rfl (Or.inr ⟨rfl, rfl⟩) rfl (Nat.le_of_ble_eq_true rfl) (Nat.le_of_ble_eq_true rfl) (by decide) rfl
theorem rX5_layRaise_123 {d : Nat} {lv : xLV} {st : List Value} {S : xS} {r : xO} : XL SK MT d 146 (123, lv, st, S) r ↔ xA (xlook lv 0) (fun x => XL SK MT d 146 (124, lv, .ref x :: st, S) r) := X_ldA rfl rfl (fun _ => rfl) rfl rfl rfl rfl
theorem rX5_layRaise_124 {d : Nat} {lv : xLV} {st : List Value} {S : xS} {r : xO} : XL SK MT d 146 (124, lv, .ref 10 :: st, S) r ↔ XL SK MT d 146 (127, lv, .ref 9 :: st, S) r := X_heap rfl rfl rfl rfl rfl
theorem rX5_layRaise_127 {d : Nat} {lv : xLV} {st : List Value} {S : xS} {r : xO} : XL SK MT d 146 (127, lv, st, S) r ↔ XL SK MT d 146 (129, lv, .int 16 :: st, S) r := X_pure rfl rfl rfl
theorem rX5_layRaise_129 {d : Nat} {lv : xLV} {st : List Value} {S : xS} {r : xO} : XL SK MT d 146 (129, lv, st, S) r ↔ XL SK MT d 146 (131, lv, .int 16 :: st, S) r := X_pure rfl rfl rfl
theorem rX5_layRaise_131 {d : Nat} {lv : xLV} {st : List Value} {S : xS} {r : xO} : XL SK MT d 146 (131, lv, st, S) r ↔ XL SK MT d 146 (132, lv, .int 4 :: st, S) r := X_pure rfl rfl rfl
theorem rX5_layRaise_132 {d : Nat} {lv : xLV} {S : xS} {r : xO} {x1 : Int32} {x2 : Int32} {x3 : Int32} : XL SK MT d 146 (132, lv, [.int x3, .int x2, .int x1, .ref 9], S) r ↔ xK (XC SK MT d 20 [.ref 9, .int x1, .int x2, .int x3] S) (fun v S => XL SK MT d 146 (135, lv, v.toList ++ [], S) r) := X_inv (n := 4) (kd := 2) (st0 := [.int x3, .int x2, .int x1, .ref 9]) rfl (Or.inr ⟨rfl, rfl⟩) rfl (Nat.le_of_ble_eq_true rfl) (Nat.le_of_ble_eq_true rfl) (by decide) rfl
theorem rX5_layRaise_135 {d : Nat} {lv : xLV} {st : List Value} {S : xS} {r : xO} : XL SK MT d 146 (135, lv, st, S) r ↔ xA (xlook lv 0) (fun x => XL SK MT d 146 (136, lv, .ref x :: st, S) r) := X_ldA rfl rfl (fun _ => rfl) rfl rfl rfl rfl
theorem rX5_layRaise_136 {d : Nat} {lv : xLV} {st : List Value} {S : xS} {r : xO} : XL SK MT d 146 (136, lv, .ref 10 :: st, S) r ↔ XL SK MT d 146 (139, lv, .ref 9 :: st, S) r := X_heap rfl rfl rfl rfl rfl
theorem rX5_layRaise_139 {d : Nat} {lv : xLV} {st : List Value} {S : xS} {r : xO} : XL SK MT d 146 (139, lv, st, S) r ↔ XL SK MT d 146 (141, lv, .int 21 :: st, S) r := X_pure rfl rfl rfl
theorem rX5_layRaise_141 {d : Nat} {lv : xLV} {st : List Value} {S : xS} {r : xO} : XL SK MT d 146 (141, lv, st, S) r ↔ XL SK MT d 146 (143, lv, .int 8 :: st, S) r := X_pure rfl rfl rfl
theorem rX5_layRaise_143 {d : Nat} {lv : xLV} {st : List Value} {S : xS} {r : xO} : XL SK MT d 146 (143, lv, st, S) r ↔ XL SK MT d 146 (144, lv, .int (-1) :: st, S) r := X_pure rfl rfl rfl
theorem rX5_layRaise_144 {d : Nat} {lv : xLV} {S : xS} {r : xO} {x1 : Int32} {x2 : Int32} {x3 : Int32} : XL SK MT d 146 (144, lv, [.int x3, .int x2, .int x1, .ref 9], S) r ↔ xK (XC SK MT d 20 [.ref 9, .int x1, .int x2, .int x3] S) (fun v S => XL SK MT d 146 (147, lv, v.toList ++ [], S) r) := X_inv (n := 4) (kd := 2) (st0 := [.int x3, .int x2, .int x1, .ref 9]) rfl (Or.inr ⟨rfl, rfl⟩) rfl (Nat.le_of_ble_eq_true rfl) (Nat.le_of_ble_eq_true rfl) (by decide) rfl
theorem rX5_layRaise_147 {d : Nat} {lv : xLV} {st : List Value} {S : xS} {r : xO} : XL SK MT d 146 (147, lv, st, S) r ↔ xA (xlook lv 0) (fun x => XL SK MT d 146 (148, lv, .ref x :: st, S) r) := X_ldA rfl rfl (fun _ => rfl) rfl rfl rfl rfl
theorem rX5_layRaise_148 {d : Nat} {lv : xLV} {st : List Value} {S : xS} {r : xO} : XL SK MT d 146 (148, lv, .ref 10 :: st, S) r ↔ XL SK MT d 146 (151, lv, .ref 9 :: st, S) r := X_heap rfl rfl rfl rfl rfl
theorem rX5_layRaise_151 {d : Nat} {lv : xLV} {st : List Value} {S : xS} {r : xO} : XL SK MT d 146 (151, lv, st, S) r ↔ XL SK MT d 146 (153, lv, .int 9 :: st, S) r := X_pure rfl rfl rfl
theorem rX5_layRaise_153 {d : Nat} {lv : xLV} {st : List Value} {S : xS} {r : xO} : XL SK MT d 146 (153, lv, st, S) r ↔ XL SK MT d 146 (155, lv, .int 9 :: st, S) r := X_pure rfl rfl rfl
theorem rX5_layRaise_155 {d : Nat} {lv : xLV} {st : List Value} {S : xS} {r : xO} : XL SK MT d 146 (155, lv, st, S) r ↔ XL SK MT d 146 (156, lv, .int (-1) :: st, S) r := X_pure rfl rfl rfl
theorem rX5_layRaise_156 {d : Nat} {lv : xLV} {S : xS} {r : xO} {x1 : Int32} {x2 : Int32} {x3 : Int32} : XL SK MT d 146 (156, lv, [.int x3, .int x2, .int x1, .ref 9], S) r ↔ xK (XC SK MT d 20 [.ref 9, .int x1, .int x2, .int x3] S) (fun v S => XL SK MT d 146 (159, lv, v.toList ++ [], S) r) := X_inv (n := 4) (kd := 2) (st0 := [.int x3, .int x2, .int x1, .ref 9]) rfl (Or.inr ⟨rfl, rfl⟩) rfl (Nat.le_of_ble_eq_true rfl) (Nat.le_of_ble_eq_true rfl) (by decide) rfl
theorem rX5_layRaise_159 {d : Nat} {lv : xLV} {st : List Value} {S : xS} {r : xO} : XL SK MT d 146 (159, lv, st, S) r ↔ xA (xlook lv 0) (fun x => XL SK MT d 146 (160, lv, .ref x :: st, S) r) := X_ldA rfl rfl (fun _ => rfl) rfl rfl rfl rfl
theorem rX5_layRaise_160 {d : Nat} {lv : xLV} {st : List Value} {S : xS} {r : xO} : XL SK MT d 146 (160, lv, .ref 10 :: st, S) r ↔ XL SK MT d 146 (163, lv, .ref 9 :: st, S) r := X_heap rfl rfl rfl rfl rfl
theorem rX5_layRaise_163 {d : Nat} {lv : xLV} {st : List Value} {S : xS} {r : xO} : XL SK MT d 146 (163, lv, st, S) r ↔ XL SK MT d 146 (165, lv, .int 17 :: st, S) r := X_pure rfl rfl rfl
theorem rX5_layRaise_165 {d : Nat} {lv : xLV} {st : List Value} {S : xS} {r : xO} : XL SK MT d 146 (165, lv, st, S) r ↔ XL SK MT d 146 (167, lv, .int 10 :: st, S) r := X_pure rfl rfl rfl
theorem rX5_layRaise_167 {d : Nat} {lv : xLV} {st : List Value} {S : xS} {r : xO} : XL SK MT d 146 (167, lv, st, S) r ↔ XL SK MT d 146 (168, lv, .int (-1) :: st, S) r := X_pure rfl rfl rfl
theorem rX5_layRaise_168 {d : Nat} {lv : xLV} {S : xS} {r : xO} {x1 : Int32} {x2 : Int32} {x3 : Int32} : XL SK MT d 146 (168, lv, [.int x3, .int x2, .int x1, .ref 9], S) r ↔ xK (XC SK MT d 20 [.ref 9, .int x1, .int x2, .int x3] S) (fun v S => XL SK MT d 146 (171, lv, v.toList ++ [], S) r) := X_inv (n := 4) (kd := 2) (st0 := [.int x3, .int x2, .int x1, .ref 9]) rfl (Or.inr ⟨rfl, rfl⟩) rfl (Nat.le_of_ble_eq_true rfl) (Nat.le_of_ble_eq_true rfl) (by decide) rfl
theorem rX5_layRaise_171 {d : Nat} {lv : xLV} {st : List Value} {S : xS} {r : xO} : XL SK MT d 146 (171, lv, st, S) r ↔ xA (xlook lv 0) (fun x => XL SK MT d 146 (172, lv, .ref x :: st, S) r) := X_ldA rfl rfl (fun _ => rfl) rfl rfl rfl rfl
theorem rX5_layRaise_172 {d : Nat} {lv : xLV} {st : List Value} {S : xS} {r : xO} : XL SK MT d 146 (172, lv, .ref 10 :: st, S) r ↔ XL SK MT d 146 (175, lv, .ref 9 :: st, S) r := X_heap rfl rfl rfl rfl rfl
theorem rX5_layRaise_175 {d : Nat} {lv : xLV} {st : List Value} {S : xS} {r : xO} : XL SK MT d 146 (175, lv, st, S) r ↔ XL SK MT d 146 (177, lv, .int 9 :: st, S) r := X_pure rfl rfl rfl
theorem rX5_layRaise_177 {d : Nat} {lv : xLV} {S : xS} {r : xO} {x1 : Int32} : XL SK MT d 146 (177, lv, [.int x1, .ref 9], S) r ↔ xK (XC SK MT d 29 [.ref 9, .int x1] S) (fun v S => XL SK MT d 146 (180, lv, v.toList ++ [], S) r) := X_inv (n := 2) (kd := 2) (st0 := [.int x1, .ref 9]) rfl (Or.inr ⟨rfl, rfl⟩) rfl (Nat.le_of_ble_eq_true rfl) (Nat.le_of_ble_eq_true rfl) (by decide) rfl
theorem rX5_layRaise_180 {d : Nat} {lv : xLV} {st : List Value} {S : xS} {r : xO} : XL SK MT d 146 (180, lv, st, S) r ↔ xA (xlook lv 0) (fun x => XL SK MT d 146 (181, lv, .ref x :: st, S) r) := X_ldA rfl rfl (fun _ => rfl) rfl rfl rfl rfl
theorem rX5_layRaise_181 {d : Nat} {lv : xLV} {st : List Value} {S : xS} {r : xO} : XL SK MT d 146 (181, lv, .ref 10 :: st, S) r ↔ XL SK MT d 146 (184, lv, .ref 9 :: st, S) r := X_heap rfl rfl rfl rfl rfl
theorem rX5_layRaise_184 {d : Nat} {lv : xLV} {st : List Value} {S : xS} {r : xO} : XL SK MT d 146 (184, lv, st, S) r ↔ XL SK MT d 146 (186, lv, .int 65551 :: st, S) r := X_pure rfl rfl rfl
theorem rX5_layRaise_186 {d : Nat} {lv : xLV} {S : xS} {r : xO} {x1 : Int32} : XL SK MT d 146 (186, lv, [.int x1, .ref 9], S) r ↔ xK (XC SK MT d 3 [.ref 9, .int x1] S) (fun v S => XL SK MT d 146 (189, lv, v.toList ++ [], S) r) := X_inv (n := 2) (kd := 2) (st0 := [.int x1, .ref 9]) rfl (Or.inr ⟨rfl, rfl⟩) rfl (Nat.le_of_ble_eq_true rfl) (Nat.le_of_ble_eq_true rfl) (by decide) rfl
theorem rX5_layRaise_189 {d : Nat} {lv : xLV} {st : List Value} {S : xS} {r : xO} : XL SK MT d 146 (189, lv, st, S) r ↔ xA (xlook lv 0) (fun x => XL SK MT d 146 (190, lv, .ref x :: st, S) r) := X_ldA rfl rfl (fun _ => rfl) rfl rfl rfl rfl
theorem rX5_layRaise_190 {d : Nat} {lv : xLV} {st : List Value} {S : xS} {r : xO} : XL SK MT d 146 (190, lv, .ref 10 :: st, S) r ↔ XL SK MT d 146 (193, lv, .ref 9 :: st, S) r := X_heap rfl rfl rfl rfl rfl
theorem rX5_layRaise_193 {d : Nat} {lv : xLV} {st : List Value} {S : xS} {r : xO} : XL SK MT d 146 (193, lv, st, S) r ↔ XL SK MT d 146 (195, lv, .int 25 :: st, S) r := X_pure rfl rfl rfl
theorem rX5_layRaise_195 {d : Nat} {lv : xLV} {st : List Value} {S : xS} {r : xO} : XL SK MT d 146 (195, lv, st, S) r ↔ XL SK MT d 146 (197, lv, .int 31 :: st, S) r := X_pure rfl rfl rfl
theorem rX5_layRaise_197 {d : Nat} {lv : xLV} {S : xS} {r : xO} {x1 : Int32} {x2 : Int32} : XL SK MT d 146 (197, lv, [.int x2, .int x1, .ref 9], S) r ↔ xK (XC SK MT d 21 [.ref 9, .int x1, .int x2] S) (fun v S => XL SK MT d 146 (200, lv, v.toList ++ [], S) r) := X_inv (n := 3) (kd := 2) (st0 := [.int x2, .int x1, .ref 9]) rfl (Or.inr ⟨rfl, rfl⟩) rfl (Nat.le_of_ble_eq_true rfl) (Nat.le_of_ble_eq_true rfl) (by decide) rfl
theorem rX5_layRaise_200 {d : Nat} {lv : xLV} {st : List Value} {S : xS} {r : xO} : XL SK MT d 146 (200, lv, st, S) r ↔ xA (xlook lv 0) (fun x => XL SK MT d 146 (201, lv, .ref x :: st, S) r) := X_ldA rfl rfl (fun _ => rfl) rfl rfl rfl rfl
theorem rX5_layRaise_201 {d : Nat} {lv : xLV} {st : List Value} {S : xS} {r : xO} : XL SK MT d 146 (201, lv, .ref 10 :: st, S) r ↔ XL SK MT d 146 (204, lv, .ref 9 :: st, S) r := X_heap rfl rfl rfl rfl rfl
theorem rX5_layRaise_204 {d : Nat} {lv : xLV} {st : List Value} {S : xS} {r : xO} : XL SK MT d 146 (204, lv, st, S) r ↔ XL SK MT d 146 (205, lv, .int 4 :: st, S) r := X_pure rfl rfl rfl
theorem rX5_layRaise_205 {d : Nat} {lv : xLV} {st : List Value} {S : xS} {r : xO} : XL SK MT d 146 (205, lv, st, S) r ↔ XL SK MT d 146 (207, lv, .int 21 :: st, S) r := X_pure rfl rfl rfl
theorem rX5_layRaise_207 {d : Nat} {lv : xLV} {st : List Value} {S : xS} {r : xO} : XL SK MT d 146 (207, lv, st, S) r ↔ XL SK MT d 146 (208, lv, .int 1 :: st, S) r := X_pure rfl rfl rfl
theorem rX5_layRaise_208 {d : Nat} {lv : xLV} {S : xS} {r : xO} {x1 : Int32} {x2 : Int32} {x3 : Int32} : XL SK MT d 146 (208, lv, [.int x3, .int x2, .int x1, .ref 9], S) r ↔ xK (XC SK MT d 20 [.ref 9, .int x1, .int x2, .int x3] S) (fun v S => XL SK MT d 146 (211, lv, v.toList ++ [], S) r) := X_inv (n := 4) (kd := 2) (st0 := [.int x3, .int x2, .int x1, .ref 9]) rfl (Or.inr ⟨rfl, rfl⟩) rfl (Nat.le_of_ble_eq_true rfl) (Nat.le_of_ble_eq_true rfl) (by decide) rfl
theorem rX5_layRaise_211 {d : Nat} {lv : xLV} {st : List Value} {S : xS} {r : xO} : XL SK MT d 146 (211, lv, st, S) r ↔ xA (xlook lv 0) (fun x => XL SK MT d 146 (212, lv, .ref x :: st, S) r) := X_ldA rfl rfl (fun _ => rfl) rfl rfl rfl rfl
theorem rX5_layRaise_212 {d : Nat} {lv : xLV} {st : List Value} {S : xS} {r : xO} : XL SK MT d 146 (212, lv, .ref 10 :: st, S) r ↔ XL SK MT d 146 (215, lv, .ref 9 :: st, S) r := X_heap rfl rfl rfl rfl rfl
theorem rX5_layRaise_215 {d : Nat} {lv : xLV} {st : List Value} {S : xS} {r : xO} : XL SK MT d 146 (215, lv, st, S) r ↔ XL SK MT d 146 (217, lv, .int 65536 :: st, S) r := X_pure rfl rfl rfl
theorem rX5_layRaise_217 {d : Nat} {lv : xLV} {S : xS} {r : xO} {x1 : Int32} : XL SK MT d 146 (217, lv, [.int x1, .ref 9], S) r ↔ xK (XC SK MT d 28 [.ref 9, .int x1] S) (fun v S => XL SK MT d 146 (220, lv, v.toList ++ [], S) r) := X_inv (n := 2) (kd := 2) (st0 := [.int x1, .ref 9]) rfl (Or.inr ⟨rfl, rfl⟩) rfl (Nat.le_of_ble_eq_true rfl) (Nat.le_of_ble_eq_true rfl) (by decide) rfl
theorem rX5_layRaise_220 {d : Nat} {lv : xLV} {st : List Value} {S : xS} {r : xO} : XL SK MT d 146 (220, lv, st, S) r ↔ xA (xlook lv 0) (fun x => XL SK MT d 146 (221, lv, .ref x :: st, S) r) := X_ldA rfl rfl (fun _ => rfl) rfl rfl rfl rfl
theorem rX5_layRaise_221 {d : Nat} {lv : xLV} {st : List Value} {S : xS} {r : xO} : XL SK MT d 146 (221, lv, .ref 10 :: st, S) r ↔ XL SK MT d 146 (224, lv, .ref 9 :: st, S) r := X_heap rfl rfl rfl rfl rfl
theorem rX5_layRaise_224 {d : Nat} {lv : xLV} {st : List Value} {S : xS} {r : xO} : XL SK MT d 146 (224, lv, st, S) r ↔ XL SK MT d 146 (225, lv, .int 4 :: st, S) r := X_pure rfl rfl rfl
theorem rX5_layRaise_225 {d : Nat} {lv : xLV} {st : List Value} {S : xS} {r : xO} : XL SK MT d 146 (225, lv, st, S) r ↔ XL SK MT d 146 (226, lv, .int 5 :: st, S) r := X_pure rfl rfl rfl
theorem rX5_layRaise_226 {d : Nat} {lv : xLV} {S : xS} {r : xO} {x1 : Int32} {x2 : Int32} : XL SK MT d 146 (226, lv, [.int x2, .int x1, .ref 9], S) r ↔ xK (XC SK MT d 21 [.ref 9, .int x1, .int x2] S) (fun v S => XL SK MT d 146 (229, lv, v.toList ++ [], S) r) := X_inv (n := 3) (kd := 2) (st0 := [.int x2, .int x1, .ref 9]) rfl (Or.inr ⟨rfl, rfl⟩) rfl (Nat.le_of_ble_eq_true rfl) (Nat.le_of_ble_eq_true rfl) (by decide) rfl
theorem rX5_layRaise_229 {d : Nat} {lv : xLV} {st : List Value} {S : xS} {r : xO} : XL SK MT d 146 (229, lv, st, S) r ↔ xA (xlook lv 0) (fun x => XL SK MT d 146 (230, lv, .ref x :: st, S) r) := X_ldA rfl rfl (fun _ => rfl) rfl rfl rfl rfl
theorem rX5_layRaise_230 {d : Nat} {lv : xLV} {st : List Value} {S : xS} {r : xO} : XL SK MT d 146 (230, lv, .ref 10 :: st, S) r ↔ XL SK MT d 146 (233, lv, .ref 9 :: st, S) r := X_heap rfl rfl rfl rfl rfl
theorem rX5_layRaise_233 {d : Nat} {lv : xLV} {st : List Value} {S : xS} {r : xO} : XL SK MT d 146 (233, lv, st, S) r ↔ XL SK MT d 146 (235, lv, .int 65536 :: st, S) r := X_pure rfl rfl rfl
theorem rX5_layRaise_235 {d : Nat} {lv : xLV} {S : xS} {r : xO} {x1 : Int32} : XL SK MT d 146 (235, lv, [.int x1, .ref 9], S) r ↔ xK (XC SK MT d 28 [.ref 9, .int x1] S) (fun v S => XL SK MT d 146 (238, lv, v.toList ++ [], S) r) := X_inv (n := 2) (kd := 2) (st0 := [.int x1, .ref 9]) rfl (Or.inr ⟨rfl, rfl⟩) rfl (Nat.le_of_ble_eq_true rfl) (Nat.le_of_ble_eq_true rfl) (by decide) rfl
theorem rX5_layRaise_238 {d : Nat} {lv : xLV} {st : List Value} {S : xS} {r : xO} : XL SK MT d 146 (238, lv, st, S) r ↔ xA (xlook lv 0) (fun x => XL SK MT d 146 (239, lv, .ref x :: st, S) r) := X_ldA rfl rfl (fun _ => rfl) rfl rfl rfl rfl
theorem rX5_layRaise_239 {d : Nat} {lv : xLV} {st : List Value} {S : xS} {r : xO} : XL SK MT d 146 (239, lv, .ref 10 :: st, S) r ↔ XL SK MT d 146 (242, lv, .ref 9 :: st, S) r := X_heap rfl rfl rfl rfl rfl
theorem rX5_layRaise_242 {d : Nat} {lv : xLV} {st : List Value} {S : xS} {r : xO} : XL SK MT d 146 (242, lv, st, S) r ↔ XL SK MT d 146 (243, lv, .int 4 :: st, S) r := X_pure rfl rfl rfl
theorem rX5_layRaise_243 {d : Nat} {lv : xLV} {st : List Value} {S : xS} {r : xO} : XL SK MT d 146 (243, lv, st, S) r ↔ XL SK MT d 146 (245, lv, .int 17 :: st, S) r := X_pure rfl rfl rfl
theorem rX5_layRaise_245 {d : Nat} {lv : xLV} {st : List Value} {S : xS} {r : xO} : XL SK MT d 146 (245, lv, st, S) r ↔ XL SK MT d 146 (246, lv, .int 1 :: st, S) r := X_pure rfl rfl rfl
theorem rX5_layRaise_246 {d : Nat} {lv : xLV} {S : xS} {r : xO} {x1 : Int32} {x2 : Int32} {x3 : Int32} : XL SK MT d 146 (246, lv, [.int x3, .int x2, .int x1, .ref 9], S) r ↔ xK (XC SK MT d 20 [.ref 9, .int x1, .int x2, .int x3] S) (fun v S => XL SK MT d 146 (249, lv, v.toList ++ [], S) r) := X_inv (n := 4) (kd := 2) (st0 := [.int x3, .int x2, .int x1, .ref 9]) rfl (Or.inr ⟨rfl, rfl⟩) rfl (Nat.le_of_ble_eq_true rfl) (Nat.le_of_ble_eq_true rfl) (by decide) rfl
theorem rX5_layRaise_249 {d : Nat} {lv : xLV} {st : List Value} {S : xS} {r : xO} : XL SK MT d 146 (249, lv, st, S) r ↔ xA (xlook lv 0) (fun x => XL SK MT d 146 (250, lv, .ref x :: st, S) r) := X_ldA rfl rfl (fun _ => rfl) rfl rfl rfl rfl
theorem rX5_layRaise_250 {d : Nat} {lv : xLV} {st : List Value} {S : xS} {r : xO} : XL SK MT d 146 (250, lv, .ref 10 :: st, S) r ↔ XL SK MT d 146 (253, lv, .ref 9 :: st, S) r := X_heap rfl rfl rfl rfl rfl
theorem rX5_layRaise_253 {d : Nat} {lv : xLV} {st : List Value} {S : xS} {r : xO} : XL SK MT d 146 (253, lv, st, S) r ↔ XL SK MT d 146 (255, lv, .int 65536 :: st, S) r := X_pure rfl rfl rfl
theorem rX5_layRaise_255 {d : Nat} {lv : xLV} {S : xS} {r : xO} {x1 : Int32} : XL SK MT d 146 (255, lv, [.int x1, .ref 9], S) r ↔ xK (XC SK MT d 28 [.ref 9, .int x1] S) (fun v S => XL SK MT d 146 (258, lv, v.toList ++ [], S) r) := X_inv (n := 2) (kd := 2) (st0 := [.int x1, .ref 9]) rfl (Or.inr ⟨rfl, rfl⟩) rfl (Nat.le_of_ble_eq_true rfl) (Nat.le_of_ble_eq_true rfl) (by decide) rfl
theorem rX5_layRaise_258 {d : Nat} {lv : xLV} {st : List Value} {S : xS} {r : xO} : XL SK MT d 146 (258, lv, st, S) r ↔ xA (xlook lv 0) (fun x => XL SK MT d 146 (259, lv, .ref x :: st, S) r) := X_ldA rfl rfl (fun _ => rfl) rfl rfl rfl rfl
theorem rX5_layRaise_259 {d : Nat} {lv : xLV} {st : List Value} {S : xS} {r : xO} : XL SK MT d 146 (259, lv, .ref 10 :: st, S) r ↔ XL SK MT d 146 (262, lv, .ref 9 :: st, S) r := X_heap rfl rfl rfl rfl rfl
theorem rX5_layRaise_262 {d : Nat} {lv : xLV} {st : List Value} {S : xS} {r : xO} : XL SK MT d 146 (262, lv, st, S) r ↔ XL SK MT d 146 (264, lv, .int 21 :: st, S) r := X_pure rfl rfl rfl
theorem rX5_layRaise_264 {d : Nat} {lv : xLV} {st : List Value} {S : xS} {r : xO} : XL SK MT d 146 (264, lv, st, S) r ↔ XL SK MT d 146 (266, lv, .int 16 :: st, S) r := X_pure rfl rfl rfl
theorem rX5_layRaise_266 {d : Nat} {lv : xLV} {st : List Value} {S : xS} {r : xO} : XL SK MT d 146 (266, lv, st, S) r ↔ XL SK MT d 146 (268, lv, .int (-12) :: st, S) r := X_pure rfl rfl rfl
theorem rX5_layRaise_268 {d : Nat} {lv : xLV} {S : xS} {r : xO} {x1 : Int32} {x2 : Int32} {x3 : Int32} : XL SK MT d 146 (268, lv, [.int x3, .int x2, .int x1, .ref 9], S) r ↔ xK (XC SK MT d 20 [.ref 9, .int x1, .int x2, .int x3] S) (fun v S => XL SK MT d 146 (271, lv, v.toList ++ [], S) r) := X_inv (n := 4) (kd := 2) (st0 := [.int x3, .int x2, .int x1, .ref 9]) rfl (Or.inr ⟨rfl, rfl⟩) rfl (Nat.le_of_ble_eq_true rfl) (Nat.le_of_ble_eq_true rfl) (by decide) rfl
theorem rX5_layRaise_271 {d : Nat} {lv : xLV} {st : List Value} {S : xS} {r : xO} : XL SK MT d 146 (271, lv, st, S) r ↔ xA (xlook lv 0) (fun x => XL SK MT d 146 (272, lv, .ref x :: st, S) r) := X_ldA rfl rfl (fun _ => rfl) rfl rfl rfl rfl
theorem rX5_layRaise_272 {d : Nat} {lv : xLV} {st : List Value} {S : xS} {r : xO} : XL SK MT d 146 (272, lv, .ref 10 :: st, S) r ↔ XL SK MT d 146 (275, lv, .ref 9 :: st, S) r := X_heap rfl rfl rfl rfl rfl
theorem rX5_layRaise_275 {d : Nat} {lv : xLV} {st : List Value} {S : xS} {r : xO} : XL SK MT d 146 (275, lv, st, S) r ↔ XL SK MT d 146 (277, lv, .int 25 :: st, S) r := X_pure rfl rfl rfl
theorem rX5_layRaise_277 {d : Nat} {lv : xLV} {S : xS} {r : xO} {x1 : Int32} : XL SK MT d 146 (277, lv, [.int x1, .ref 9], S) r ↔ xK (XC SK MT d 29 [.ref 9, .int x1] S) (fun v S => XL SK MT d 146 (280, lv, v.toList ++ [], S) r) := X_inv (n := 2) (kd := 2) (st0 := [.int x1, .ref 9]) rfl (Or.inr ⟨rfl, rfl⟩) rfl (Nat.le_of_ble_eq_true rfl) (Nat.le_of_ble_eq_true rfl) (by decide) rfl
theorem rX5_layRaise_280 {d : Nat} {lv : xLV} {st : List Value} {S : xS} {r : xO} : XL SK MT d 146 (280, lv, st, S) r ↔ xA (xlook lv 0) (fun x => XL SK MT d 146 (281, lv, .ref x :: st, S) r) := X_ldA rfl rfl (fun _ => rfl) rfl rfl rfl rfl
theorem rX5_layRaise_281 {d : Nat} {lv : xLV} {st : List Value} {S : xS} {r : xO} : XL SK MT d 146 (281, lv, .ref 10 :: st, S) r ↔ XL SK MT d 146 (284, lv, .ref 9 :: st, S) r := X_heap rfl rfl rfl rfl rfl
theorem rX5_layRaise_284 {d : Nat} {lv : xLV} {st : List Value} {S : xS} {r : xO} : XL SK MT d 146 (284, lv, st, S) r ↔ XL SK MT d 146 (286, lv, .int 65552 :: st, S) r := X_pure rfl rfl rfl
theorem rX5_layRaise_286 {d : Nat} {lv : xLV} {S : xS} {r : xO} {x1 : Int32} : XL SK MT d 146 (286, lv, [.int x1, .ref 9], S) r ↔ xK (XC SK MT d 3 [.ref 9, .int x1] S) (fun v S => XL SK MT d 146 (289, lv, v.toList ++ [], S) r) := X_inv (n := 2) (kd := 2) (st0 := [.int x1, .ref 9]) rfl (Or.inr ⟨rfl, rfl⟩) rfl (Nat.le_of_ble_eq_true rfl) (Nat.le_of_ble_eq_true rfl) (by decide) rfl
theorem rX5_layRaise_289 {d : Nat} {lv : xLV} {st : List Value} {S : xS} {r : xO} : XL SK MT d 146 (289, lv, st, S) r ↔ xA (xlook lv 0) (fun x => XL SK MT d 146 (290, lv, .ref x :: st, S) r) := X_ldA rfl rfl (fun _ => rfl) rfl rfl rfl rfl
theorem rX5_layRaise_290 {d : Nat} {lv : xLV} {st : List Value} {S : xS} {r : xO} : XL SK MT d 146 (290, lv, .ref 10 :: st, S) r ↔ XL SK MT d 146 (293, lv, .ref 9 :: st, S) r := X_heap rfl rfl rfl rfl rfl
theorem rX5_layRaise_293 {d : Nat} {lv : xLV} {st : List Value} {S : xS} {r : xO} : XL SK MT d 146 (293, lv, st, S) r ↔ XL SK MT d 146 (295, lv, .int 8 :: st, S) r := X_pure rfl rfl rfl
theorem rX5_layRaise_295 {d : Nat} {lv : xLV} {st : List Value} {S : xS} {r : xO} : XL SK MT d 146 (295, lv, st, S) r ↔ XL SK MT d 146 (297, lv, .int (-16) :: st, S) r := X_pure rfl rfl rfl
theorem rX5_layRaise_297 {d : Nat} {lv : xLV} {st : List Value} {S : xS} {r : xO} : XL SK MT d 146 (297, lv, st, S) r ↔ XL SK MT d 146 (299, lv, .int 16 :: st, S) r := X_pure rfl rfl rfl
theorem rX5_layRaise_299 {d : Nat} {lv : xLV} {S : xS} {r : xO} {x1 : Int32} {x2 : Int32} {x3 : Int32} : XL SK MT d 146 (299, lv, [.int x3, .int x2, .int x1, .ref 9], S) r ↔ xK (XC SK MT d 18 [.ref 9, .int x1, .int x2, .int x3] S) (fun v S => XL SK MT d 146 (302, lv, v.toList ++ [], S) r) := X_inv (n := 4) (kd := 2) (st0 := [.int x3, .int x2, .int x1, .ref 9]) rfl (Or.inr ⟨rfl, rfl⟩) rfl (Nat.le_of_ble_eq_true rfl) (Nat.le_of_ble_eq_true rfl) (by decide) rfl
theorem rX5_layRaise_302 {d : Nat} {lv : xLV} {st : List Value} {S : xS} {r : xO} : XL SK MT d 146 (302, lv, st, S) r ↔ xA (xlook lv 0) (fun x => XL SK MT d 146 (303, lv, .ref x :: st, S) r) := X_ldA rfl rfl (fun _ => rfl) rfl rfl rfl rfl
theorem rX5_layRaise_303 {d : Nat} {lv : xLV} {st : List Value} {S : xS} {r : xO} : XL SK MT d 146 (303, lv, .ref 10 :: st, S) r ↔ XL SK MT d 146 (306, lv, .ref 9 :: st, S) r := X_heap rfl rfl rfl rfl rfl
theorem rX5_layRaise_306 {d : Nat} {lv : xLV} {st : List Value} {S : xS} {r : xO} : XL SK MT d 146 (306, lv, st, S) r ↔ XL SK MT d 146 (308, lv, .int 9 :: st, S) r := X_pure rfl rfl rfl
theorem rX5_layRaise_308 {d : Nat} {lv : xLV} {st : List Value} {S : xS} {r : xO} : XL SK MT d 146 (308, lv, st, S) r ↔ XL SK MT d 146 (310, lv, .int (-4) :: st, S) r := X_pure rfl rfl rfl
theorem rX5_layRaise_310 {d : Nat} {lv : xLV} {st : List Value} {S : xS} {r : xO} : XL SK MT d 146 (310, lv, st, S) r ↔ XL SK MT d 146 (312, lv, .int 16 :: st, S) r := X_pure rfl rfl rfl
theorem rX5_layRaise_312 {d : Nat} {lv : xLV} {S : xS} {r : xO} {x1 : Int32} {x2 : Int32} {x3 : Int32} : XL SK MT d 146 (312, lv, [.int x3, .int x2, .int x1, .ref 9], S) r ↔ xK (XC SK MT d 18 [.ref 9, .int x1, .int x2, .int x3] S) (fun v S => XL SK MT d 146 (315, lv, v.toList ++ [], S) r) := X_inv (n := 4) (kd := 2) (st0 := [.int x3, .int x2, .int x1, .ref 9]) rfl (Or.inr ⟨rfl, rfl⟩) rfl (Nat.le_of_ble_eq_true rfl) (Nat.le_of_ble_eq_true rfl) (by decide) rfl
theorem rX5_layRaise_315 {d : Nat} {lv : xLV} {st : List Value} {S : xS} {r : xO} : XL SK MT d 146 (315, lv, st, S) r ↔ xA (xlook lv 0) (fun x => XL SK MT d 146 (316, lv, .ref x :: st, S) r) := X_ldA rfl rfl (fun _ => rfl) rfl rfl rfl rfl
theorem rX5_layRaise_316 {d : Nat} {lv : xLV} {st : List Value} {S : xS} {r : xO} : XL SK MT d 146 (316, lv, .ref 10 :: st, S) r ↔ XL SK MT d 146 (319, lv, .ref 9 :: st, S) r := X_heap rfl rfl rfl rfl rfl
theorem rX5_layRaise_319 {d : Nat} {lv : xLV} {st : List Value} {S : xS} {r : xO} : XL SK MT d 146 (319, lv, st, S) r ↔ XL SK MT d 146 (321, lv, .int 21 :: st, S) r := X_pure rfl rfl rfl
theorem rX5_layRaise_321 {d : Nat} {lv : xLV} {st : List Value} {S : xS} {r : xO} : XL SK MT d 146 (321, lv, st, S) r ↔ XL SK MT d 146 (323, lv, .int 8 :: st, S) r := X_pure rfl rfl rfl
theorem rX5_layRaise_323 {d : Nat} {lv : xLV} {st : List Value} {S : xS} {r : xO} : XL SK MT d 146 (323, lv, st, S) r ↔ XL SK MT d 146 (324, lv, .int (-1) :: st, S) r := X_pure rfl rfl rfl
theorem rX5_layRaise_324 {d : Nat} {lv : xLV} {S : xS} {r : xO} {x1 : Int32} {x2 : Int32} {x3 : Int32} : XL SK MT d 146 (324, lv, [.int x3, .int x2, .int x1, .ref 9], S) r ↔ xK (XC SK MT d 20 [.ref 9, .int x1, .int x2, .int x3] S) (fun v S => XL SK MT d 146 (327, lv, v.toList ++ [], S) r) := X_inv (n := 4) (kd := 2) (st0 := [.int x3, .int x2, .int x1, .ref 9]) rfl (Or.inr ⟨rfl, rfl⟩) rfl (Nat.le_of_ble_eq_true rfl) (Nat.le_of_ble_eq_true rfl) (by decide) rfl
theorem rX5_layRaise_327 {d : Nat} {lv : xLV} {st : List Value} {S : xS} {r : xO} : XL SK MT d 146 (327, lv, st, S) r ↔ xA (xlook lv 0) (fun x => XL SK MT d 146 (328, lv, .ref x :: st, S) r) := X_ldA rfl rfl (fun _ => rfl) rfl rfl rfl rfl
theorem rX5_layRaise_328 {d : Nat} {lv : xLV} {st : List Value} {S : xS} {r : xO} : XL SK MT d 146 (328, lv, .ref 10 :: st, S) r ↔ XL SK MT d 146 (331, lv, .ref 9 :: st, S) r := X_heap rfl rfl rfl rfl rfl
theorem rX5_layRaise_331 {d : Nat} {lv : xLV} {st : List Value} {S : xS} {r : xO} : XL SK MT d 146 (331, lv, st, S) r ↔ XL SK MT d 146 (333, lv, .int 16 :: st, S) r := X_pure rfl rfl rfl
theorem rX5_layRaise_333 {d : Nat} {lv : xLV} {st : List Value} {S : xS} {r : xO} : XL SK MT d 146 (333, lv, st, S) r ↔ XL SK MT d 146 (335, lv, .int 16 :: st, S) r := X_pure rfl rfl rfl
theorem rX5_layRaise_335 {d : Nat} {lv : xLV} {st : List Value} {S : xS} {r : xO} : XL SK MT d 146 (335, lv, st, S) r ↔ XL SK MT d 146 (337, lv, .int (-12) :: st, S) r := X_pure rfl rfl rfl
theorem rX5_layRaise_337 {d : Nat} {lv : xLV} {S : xS} {r : xO} {x1 : Int32} {x2 : Int32} {x3 : Int32} : XL SK MT d 146 (337, lv, [.int x3, .int x2, .int x1, .ref 9], S) r ↔ xK (XC SK MT d 20 [.ref 9, .int x1, .int x2, .int x3] S) (fun v S => XL SK MT d 146 (340, lv, v.toList ++ [], S) r) := X_inv (n := 4) (kd := 2) (st0 := [.int x3, .int x2, .int x1, .ref 9]) rfl (Or.inr ⟨rfl, rfl⟩) rfl (Nat.le_of_ble_eq_true rfl) (Nat.le_of_ble_eq_true rfl) (by decide) rfl
theorem rX5_layRaise_340 {d : Nat} {lv : xLV} {st : List Value} {S : xS} {r : xO} : XL SK MT d 146 (340, lv, st, S) r ↔ xA (xlook lv 0) (fun x => XL SK MT d 146 (341, lv, .ref x :: st, S) r) := X_ldA rfl rfl (fun _ => rfl) rfl rfl rfl rfl
theorem rX5_layRaise_341 {d : Nat} {lv : xLV} {st : List Value} {S : xS} {r : xO} : XL SK MT d 146 (341, lv, .ref 10 :: st, S) r ↔ XL SK MT d 146 (344, lv, .ref 9 :: st, S) r := X_heap rfl rfl rfl rfl rfl
theorem rX5_layRaise_344 {d : Nat} {lv : xLV} {st : List Value} {S : xS} {r : xO} : XL SK MT d 146 (344, lv, st, S) r ↔ XL SK MT d 146 (346, lv, .int 9 :: st, S) r := X_pure rfl rfl rfl
theorem rX5_layRaise_346 {d : Nat} {lv : xLV} {st : List Value} {S : xS} {r : xO} : XL SK MT d 146 (346, lv, st, S) r ↔ XL SK MT d 146 (348, lv, .int (-4) :: st, S) r := X_pure rfl rfl rfl
theorem rX5_layRaise_348 {d : Nat} {lv : xLV} {st : List Value} {S : xS} {r : xO} : XL SK MT d 146 (348, lv, st, S) r ↔ XL SK MT d 146 (350, lv, .int 16 :: st, S) r := X_pure rfl rfl rfl
theorem rX5_layRaise_350 {d : Nat} {lv : xLV} {S : xS} {r : xO} {x1 : Int32} {x2 : Int32} {x3 : Int32} : XL SK MT d 146 (350, lv, [.int x3, .int x2, .int x1, .ref 9], S) r ↔ xK (XC SK MT d 19 [.ref 9, .int x1, .int x2, .int x3] S) (fun v S => XL SK MT d 146 (353, lv, v.toList ++ [], S) r) := X_inv (n := 4) (kd := 2) (st0 := [.int x3, .int x2, .int x1, .ref 9]) rfl (Or.inr ⟨rfl, rfl⟩) rfl (Nat.le_of_ble_eq_true rfl) (Nat.le_of_ble_eq_true rfl) (by decide) rfl
theorem rX5_layRaise_353 {d : Nat} {lv : xLV} {st : List Value} {S : xS} {r : xO} : XL SK MT d 146 (353, lv, st, S) r ↔ xA (xlook lv 0) (fun x => XL SK MT d 146 (354, lv, .ref x :: st, S) r) := X_ldA rfl rfl (fun _ => rfl) rfl rfl rfl rfl
theorem rX5_layRaise_354 {d : Nat} {lv : xLV} {st : List Value} {S : xS} {r : xO} : XL SK MT d 146 (354, lv, .ref 10 :: st, S) r ↔ XL SK MT d 146 (357, lv, .ref 9 :: st, S) r := X_heap rfl rfl rfl rfl rfl
theorem rX5_layRaise_357 {d : Nat} {lv : xLV} {st : List Value} {S : xS} {r : xO} : XL SK MT d 146 (357, lv, st, S) r ↔ XL SK MT d 146 (359, lv, .int 31 :: st, S) r := X_pure rfl rfl rfl
theorem rX5_layRaise_359 {d : Nat} {lv : xLV} {S : xS} {r : xO} {x1 : Int32} : XL SK MT d 146 (359, lv, [.int x1, .ref 9], S) r ↔ xK (XC SK MT d 29 [.ref 9, .int x1] S) (fun v S => XL SK MT d 146 (362, lv, v.toList ++ [], S) r) := X_inv (n := 2) (kd := 2) (st0 := [.int x1, .ref 9]) rfl (Or.inr ⟨rfl, rfl⟩) rfl (Nat.le_of_ble_eq_true rfl) (Nat.le_of_ble_eq_true rfl) (by decide) rfl
theorem rX5_layRaise_362 {d : Nat} {lv : xLV} {S : xS} {r : xO} : XL SK MT d 146 (362, lv, [], S) r ↔ (none, S) = r := X_ret rfl rfl rfl rfl rfl rfl

/-! Library: layDivide, layRaise. -/
def pL_layDivide (a0 : PA) : PA :=
  let a1 := pLb a0
  let a2 := pLb a1
  let a3 := pLb a2
  let a4 := pLd a3 65549
  let a5 := pEm a4 (wLw 8 (-8) 16)
  let a6 := pEm a5 (wLw 9 (-4) 16)
  let a7 := pEm a6 (wShift 3 8 8 1)
  let a8 := pEm a7 (wShift 3 9 9 1)
  let a9 := pLp a8 (wBr 4 9 0) 65601
  let a10 := pEm a9 (wThree 26 0 8 9)
  let a11 := pEm a10 (wThree 18 10 0 0)
  let a12 := pEm a11 (wThree 16 11 0 0)
  let a13 := pLp a12 (wBr 4 11 0) 65602
  let a14 := pEm a13 (wThree 38 12 11 9)
  let a15 := pLp a14 (wBnb 12) 65602
  let a16 := pEm a15 (wAdd 10 10 (-1))
  let a17 := pEm a16 (wThree 33 11 11 9)
  let a18 := pLd a17 65602
  let a19 := pLp a18 (wBr 4 5 0) 65603
  let a20 := pEm a19 (wMove 10 11)
  let a21 := pLd a20 65603
  let a22 := pEm a21 (wShift 0 10 10 1)
  let a23 := pEm a22 (wAdd 10 10 1)
  let a24 := pEm a23 (wAdd 16 16 (-4))
  let a25 := pEm a24 (wSw 10 (-4) 16)
  let a26 := pLp a25 (wJr 31) (-1)
  let a27 := pLd a26 65601
  let a28 := pSe a27 4 26
  let a29 := pLp a28 wJ 65550
  a29
set_option maxHeartbeats 4000000 in
set_option maxRecDepth 100000 in
theorem l_layDivide {S0 S : xS} {a0 : PA} (h : AS S0 S a0) (hq : a0.own = 65601) : ∃ S', (∀ d, XC SK MT (d + 5) 145 [.ref 10] S = some (none, S')) ∧ AS S0 S' (pL_layDivide a0) := by
  obtain ⟨S1, n0, e1, z0, h1⟩ := o_label h
  have y0 : n0 = 65601 := by rw [z0]; simp only [pEm_own, pSe_own, pLp_own, pLd_own, pSt_own, pSc_own, pLb_own, pL_size_own, pL_copyWords_own, pL_step_own, pL_enterObject_own, hq] <;> rfl
  subst y0
  obtain ⟨S2, n1, e2, z1, h2⟩ := o_label h1
  have y1 : n1 = 65602 := by rw [z1]; simp only [pEm_own, pSe_own, pLp_own, pLd_own, pSt_own, pSc_own, pLb_own, pL_size_own, pL_copyWords_own, pL_step_own, pL_enterObject_own, hq] <;> rfl
  subst y1
  obtain ⟨S3, n2, e3, z2, h3⟩ := o_label h2
  have y2 : n2 = 65603 := by rw [z2]; simp only [pEm_own, pSe_own, pLp_own, pLd_own, pSt_own, pSc_own, pLb_own, pL_size_own, pL_copyWords_own, pL_step_own, pL_enterObject_own, hq] <;> rfl
  subst y2
  obtain ⟨S4, e4, h4⟩ := o_land h3 65549
  obtain ⟨S5, e5, h5⟩ := o_lw h4 8 (-8) 16
  obtain ⟨S6, e6, h6⟩ := o_lw h5 9 (-4) 16
  obtain ⟨S7, e7, h7⟩ := o_shift h6 3 8 8 1
  obtain ⟨S8, e8, h8⟩ := o_shift h7 3 9 9 1
  obtain ⟨S9, e9, h9⟩ := o_branch h8 4 9 0 65601
  obtain ⟨S10, e10, h10⟩ := o_three h9 26 0 8 9
  obtain ⟨S11, e11, h11⟩ := o_three h10 18 10 0 0
  obtain ⟨S12, e12, h12⟩ := o_three h11 16 11 0 0
  obtain ⟨S13, e13, h13⟩ := o_branch h12 4 11 0 65602
  obtain ⟨S14, e14, h14⟩ := o_three h13 38 12 11 9
  obtain ⟨S15, e15, h15⟩ := o_branchNotBelow h14 12 65602
  obtain ⟨S16, e16, h16⟩ := o_add h15 10 10 (-1)
  obtain ⟨S17, e17, h17⟩ := o_three h16 33 11 11 9
  obtain ⟨S18, e18, h18⟩ := o_land h17 65602
  obtain ⟨S19, e19, h19⟩ := o_branch h18 4 5 0 65603
  obtain ⟨S20, e20, h20⟩ := o_move h19 10 11
  obtain ⟨S21, e21, h21⟩ := o_land h20 65603
  obtain ⟨S22, e22, h22⟩ := o_shift h21 0 10 10 1
  obtain ⟨S23, e23, h23⟩ := o_add h22 10 10 1
  obtain ⟨S24, e24, h24⟩ := o_add h23 16 16 (-4)
  obtain ⟨S25, e25, h25⟩ := o_sw h24 10 (-4) 16
  obtain ⟨S26, e26, h26⟩ := o_back h25 31
  obtain ⟨S27, e27, h27⟩ := o_land h26 65601
  obtain ⟨S28, e28, h28⟩ := o_set h27 4 26
  obtain ⟨S29, e29, h29⟩ := o_jump h28 65550
  refine ⟨S29, fun d => ?_, ?_⟩
  · rw [XC_iff]
    refine ⟨Nat.le_of_ble_eq_true rfl, ?_⟩
    show XL SK MT (d + 4) 145 (0, [some (.ref 10), none, none, none], [], S) _
    simp (config := { decide := true }) only [rX5_layDivide_0, rX5_layDivide_1, rX5_layDivide_4, rX5_layDivide_7, rX5_layDivide_8, rX5_layDivide_9, rX5_layDivide_12, rX5_layDivide_15, rX5_layDivide_16, rX5_layDivide_17, rX5_layDivide_20, rX5_layDivide_23, rX5_layDivide_24, rX5_layDivide_25, rX5_layDivide_28, rX5_layDivide_30, rX5_layDivide_33, rX5_layDivide_34, rX5_layDivide_37, rX5_layDivide_39, rX5_layDivide_41, rX5_layDivide_43, rX5_layDivide_46, rX5_layDivide_47, rX5_layDivide_50, rX5_layDivide_52, rX5_layDivide_54, rX5_layDivide_56, rX5_layDivide_59, rX5_layDivide_60, rX5_layDivide_63, rX5_layDivide_64, rX5_layDivide_66, rX5_layDivide_68, rX5_layDivide_69, rX5_layDivide_72, rX5_layDivide_73, rX5_layDivide_76, rX5_layDivide_77, rX5_layDivide_79, rX5_layDivide_81, rX5_layDivide_82, rX5_layDivide_85, rX5_layDivide_86, rX5_layDivide_89, rX5_layDivide_90, rX5_layDivide_92, rX5_layDivide_93, rX5_layDivide_94, rX5_layDivide_97, rX5_layDivide_98, rX5_layDivide_101, rX5_layDivide_103, rX5_layDivide_104, rX5_layDivide_106, rX5_layDivide_108, rX5_layDivide_111, rX5_layDivide_112, rX5_layDivide_115, rX5_layDivide_117, rX5_layDivide_119, rX5_layDivide_120, rX5_layDivide_121, rX5_layDivide_124, rX5_layDivide_125, rX5_layDivide_128, rX5_layDivide_130, rX5_layDivide_132, rX5_layDivide_133, rX5_layDivide_134, rX5_layDivide_137, rX5_layDivide_138, rX5_layDivide_141, rX5_layDivide_142, rX5_layDivide_144, rX5_layDivide_145, rX5_layDivide_146, rX5_layDivide_149, rX5_layDivide_150, rX5_layDivide_153, rX5_layDivide_155, rX5_layDivide_157, rX5_layDivide_159, rX5_layDivide_161, rX5_layDivide_164, rX5_layDivide_165, rX5_layDivide_168, rX5_layDivide_170, rX5_layDivide_171, rX5_layDivide_174, rX5_layDivide_175, rX5_layDivide_178, rX5_layDivide_180, rX5_layDivide_182, rX5_layDivide_183, rX5_layDivide_186, rX5_layDivide_187, rX5_layDivide_190, rX5_layDivide_192, rX5_layDivide_194, rX5_layDivide_196, rX5_layDivide_198, rX5_layDivide_201, rX5_layDivide_202, rX5_layDivide_205, rX5_layDivide_206, rX5_layDivide_209, rX5_layDivide_210, rX5_layDivide_213, rX5_layDivide_214, rX5_layDivide_215, rX5_layDivide_216, rX5_layDivide_217, rX5_layDivide_220, rX5_layDivide_221, rX5_layDivide_224, rX5_layDivide_226, rX5_layDivide_228, rX5_layDivide_231, rX5_layDivide_232, rX5_layDivide_235, rX5_layDivide_236, rX5_layDivide_239, rX5_layDivide_240, rX5_layDivide_243, rX5_layDivide_244, rX5_layDivide_246, rX5_layDivide_248, rX5_layDivide_249, rX5_layDivide_252, rX5_layDivide_253, rX5_layDivide_256, rX5_layDivide_258, rX5_layDivide_260, rX5_layDivide_261, rX5_layDivide_264, rX5_layDivide_265, rX5_layDivide_268, rX5_layDivide_270, rX5_layDivide_272, rX5_layDivide_274, rX5_layDivide_277, rX5_layDivide_278, rX5_layDivide_281, rX5_layDivide_283, rX5_layDivide_285, rX5_layDivide_287, rX5_layDivide_290, rX5_layDivide_291, rX5_layDivide_294, rX5_layDivide_296, rX5_layDivide_299, rX5_layDivide_300, rX5_layDivide_303, rX5_layDivide_304, rX5_layDivide_307, rX5_layDivide_308, rX5_layDivide_311, rX5_layDivide_312, rX5_layDivide_314, rX5_layDivide_317, rX5_layDivide_318, rX5_layDivide_321, rX5_layDivide_323, rX5_layDivide_326, ↓reduceIte, m1_le, m1_lt, m1_eq, ofInt_m1, ex_ret, Int32.reduceAdd, Int32.reduceSub, Int32.reduceMul, Int32.reduceLT, Int32.reduceLE, xsI, Nat.reduceEqDiff, and_false, false_and, and_true, true_and, if_true, if_false, ite_true, ite_false, xlook_0, xlook_s, xI_int, xA_ref, xJ_long, xK_some, xRow_row, xTo_some, xst1, xclr, List.set_cons_zero, List.set_cons_succ, xsum_nil, xsum_int, xsum_ref, xsum_long, Option.toList_some, Option.toList_none, List.nil_append, List.cons_append, e1, e2, e3, e4, e5, e6, e7, e8, e9, e10, e11, e12, e13, e14, e15, e16, e17, e18, e19, e20, e21, e22, e23, e24, e25, e26, e27, e28, e29]
  · exact h29
def pL_layRaise (a0 : PA) : PA :=
  let a1 := pLb a0
  let a2 := pLd a1 65550
  let a3 := pLp a2 (wBr 5 21 0) 65604
  let a4 := pEm a3 (wMove 3 4)
  let a5 := pSe a4 2 1
  let a6 := pLp a5 wJ 65561
  let a7 := pLd a6 65604
  let a8 := pEm a7 (wMove 16 21)
  let a9 := pEm a8 (wLw 8 0 16)
  let a10 := pEm a9 (wLw 9 4 16)
  let a11 := pEm a10 (wLw 10 8 16)
  let a12 := pEm a11 (wSw 4 0 16)
  let a13 := pEm a12 (wAdd 16 16 4)
  let a14 := pEm a13 (wAdd 21 8 (-1))
  let a15 := pEm a14 (wAdd 9 9 (-1))
  let a16 := pEm a15 (wAdd 17 10 (-1))
  let a17 := pLp a16 (wJr 9) (-1)
  let a18 := pLd a17 65551
  let a19 := pEm a18 (wMove 25 31)
  let a20 := pEm a19 (wAdd 4 21 1)
  let a21 := pLp a20 wJal 65536
  let a22 := pEm a21 (wMove 4 5)
  let a23 := pLp a22 wJal 65536
  let a24 := pEm a23 (wAdd 4 17 1)
  let a25 := pLp a24 wJal 65536
  let a26 := pEm a25 (wAdd 21 16 (-12))
  let a27 := pLp a26 (wJr 25) (-1)
  let a28 := pLd a27 65552
  let a29 := pEm a28 (wLw 8 (-16) 16)
  let a30 := pEm a29 (wLw 9 (-4) 16)
  let a31 := pEm a30 (wAdd 21 8 (-1))
  let a32 := pEm a31 (wAdd 16 16 (-12))
  let a33 := pEm a32 (wSw 9 (-4) 16)
  let a34 := pLp a33 (wJr 31) (-1)
  a34
set_option maxHeartbeats 4000000 in
set_option maxRecDepth 100000 in
theorem l_layRaise {S0 S : xS} {a0 : PA} (h : AS S0 S a0) (hq : a0.own = 65604) : ∃ S', (∀ d, XC SK MT (d + 5) 146 [.ref 10] S = some (none, S')) ∧ AS S0 S' (pL_layRaise a0) := by
  obtain ⟨S1, n0, e1, z0, h1⟩ := o_label h
  have y0 : n0 = 65604 := by rw [z0]; simp only [pEm_own, pSe_own, pLp_own, pLd_own, pSt_own, pSc_own, pLb_own, pL_size_own, pL_copyWords_own, pL_step_own, pL_enterObject_own, hq] <;> rfl
  subst y0
  obtain ⟨S2, e2, h2⟩ := o_land h1 65550
  obtain ⟨S3, e3, h3⟩ := o_branch h2 5 21 0 65604
  obtain ⟨S4, e4, h4⟩ := o_move h3 3 4
  obtain ⟨S5, e5, h5⟩ := o_set h4 2 1
  obtain ⟨S6, e6, h6⟩ := o_jump h5 65561
  obtain ⟨S7, e7, h7⟩ := o_land h6 65604
  obtain ⟨S8, e8, h8⟩ := o_move h7 16 21
  obtain ⟨S9, e9, h9⟩ := o_lw h8 8 0 16
  obtain ⟨S10, e10, h10⟩ := o_lw h9 9 4 16
  obtain ⟨S11, e11, h11⟩ := o_lw h10 10 8 16
  obtain ⟨S12, e12, h12⟩ := o_sw h11 4 0 16
  obtain ⟨S13, e13, h13⟩ := o_add h12 16 16 4
  obtain ⟨S14, e14, h14⟩ := o_add h13 21 8 (-1)
  obtain ⟨S15, e15, h15⟩ := o_add h14 9 9 (-1)
  obtain ⟨S16, e16, h16⟩ := o_add h15 17 10 (-1)
  obtain ⟨S17, e17, h17⟩ := o_back h16 9
  obtain ⟨S18, e18, h18⟩ := o_land h17 65551
  obtain ⟨S19, e19, h19⟩ := o_move h18 25 31
  obtain ⟨S20, e20, h20⟩ := o_add h19 4 21 1
  obtain ⟨S21, e21, h21⟩ := o_jumpAndLink h20 65536
  obtain ⟨S22, e22, h22⟩ := o_move h21 4 5
  obtain ⟨S23, e23, h23⟩ := o_jumpAndLink h22 65536
  obtain ⟨S24, e24, h24⟩ := o_add h23 4 17 1
  obtain ⟨S25, e25, h25⟩ := o_jumpAndLink h24 65536
  obtain ⟨S26, e26, h26⟩ := o_add h25 21 16 (-12)
  obtain ⟨S27, e27, h27⟩ := o_back h26 25
  obtain ⟨S28, e28, h28⟩ := o_land h27 65552
  obtain ⟨S29, e29, h29⟩ := o_lw h28 8 (-16) 16
  obtain ⟨S30, e30, h30⟩ := o_lw h29 9 (-4) 16
  obtain ⟨S31, e31, h31⟩ := o_add h30 21 8 (-1)
  obtain ⟨S32, e32, h32⟩ := o_add h31 16 16 (-12)
  obtain ⟨S33, e33, h33⟩ := o_sw h32 9 (-4) 16
  obtain ⟨S34, e34, h34⟩ := o_back h33 31
  refine ⟨S34, fun d => ?_, ?_⟩
  · rw [XC_iff]
    refine ⟨Nat.le_of_ble_eq_true rfl, ?_⟩
    show XL SK MT (d + 4) 146 (0, [some (.ref 10), none], [], S) _
    simp (config := { decide := true }) only [rX5_layRaise_0, rX5_layRaise_1, rX5_layRaise_4, rX5_layRaise_7, rX5_layRaise_8, rX5_layRaise_9, rX5_layRaise_12, rX5_layRaise_14, rX5_layRaise_17, rX5_layRaise_18, rX5_layRaise_21, rX5_layRaise_22, rX5_layRaise_24, rX5_layRaise_25, rX5_layRaise_26, rX5_layRaise_29, rX5_layRaise_30, rX5_layRaise_33, rX5_layRaise_34, rX5_layRaise_35, rX5_layRaise_38, rX5_layRaise_39, rX5_layRaise_42, rX5_layRaise_43, rX5_layRaise_44, rX5_layRaise_47, rX5_layRaise_48, rX5_layRaise_51, rX5_layRaise_53, rX5_layRaise_56, rX5_layRaise_57, rX5_layRaise_60, rX5_layRaise_61, rX5_layRaise_64, rX5_layRaise_65, rX5_layRaise_68, rX5_layRaise_70, rX5_layRaise_72, rX5_layRaise_75, rX5_layRaise_76, rX5_layRaise_79, rX5_layRaise_81, rX5_layRaise_82, rX5_layRaise_84, rX5_layRaise_87, rX5_layRaise_88, rX5_layRaise_91, rX5_layRaise_93, rX5_layRaise_94, rX5_layRaise_96, rX5_layRaise_99, rX5_layRaise_100, rX5_layRaise_103, rX5_layRaise_105, rX5_layRaise_107, rX5_layRaise_109, rX5_layRaise_112, rX5_layRaise_113, rX5_layRaise_116, rX5_layRaise_117, rX5_layRaise_118, rX5_layRaise_120, rX5_layRaise_123, rX5_layRaise_124, rX5_layRaise_127, rX5_layRaise_129, rX5_layRaise_131, rX5_layRaise_132, rX5_layRaise_135, rX5_layRaise_136, rX5_layRaise_139, rX5_layRaise_141, rX5_layRaise_143, rX5_layRaise_144, rX5_layRaise_147, rX5_layRaise_148, rX5_layRaise_151, rX5_layRaise_153, rX5_layRaise_155, rX5_layRaise_156, rX5_layRaise_159, rX5_layRaise_160, rX5_layRaise_163, rX5_layRaise_165, rX5_layRaise_167, rX5_layRaise_168, rX5_layRaise_171, rX5_layRaise_172, rX5_layRaise_175, rX5_layRaise_177, rX5_layRaise_180, rX5_layRaise_181, rX5_layRaise_184, rX5_layRaise_186, rX5_layRaise_189, rX5_layRaise_190, rX5_layRaise_193, rX5_layRaise_195, rX5_layRaise_197, rX5_layRaise_200, rX5_layRaise_201, rX5_layRaise_204, rX5_layRaise_205, rX5_layRaise_207, rX5_layRaise_208, rX5_layRaise_211, rX5_layRaise_212, rX5_layRaise_215, rX5_layRaise_217, rX5_layRaise_220, rX5_layRaise_221, rX5_layRaise_224, rX5_layRaise_225, rX5_layRaise_226, rX5_layRaise_229, rX5_layRaise_230, rX5_layRaise_233, rX5_layRaise_235, rX5_layRaise_238, rX5_layRaise_239, rX5_layRaise_242, rX5_layRaise_243, rX5_layRaise_245, rX5_layRaise_246, rX5_layRaise_249, rX5_layRaise_250, rX5_layRaise_253, rX5_layRaise_255, rX5_layRaise_258, rX5_layRaise_259, rX5_layRaise_262, rX5_layRaise_264, rX5_layRaise_266, rX5_layRaise_268, rX5_layRaise_271, rX5_layRaise_272, rX5_layRaise_275, rX5_layRaise_277, rX5_layRaise_280, rX5_layRaise_281, rX5_layRaise_284, rX5_layRaise_286, rX5_layRaise_289, rX5_layRaise_290, rX5_layRaise_293, rX5_layRaise_295, rX5_layRaise_297, rX5_layRaise_299, rX5_layRaise_302, rX5_layRaise_303, rX5_layRaise_306, rX5_layRaise_308, rX5_layRaise_310, rX5_layRaise_312, rX5_layRaise_315, rX5_layRaise_316, rX5_layRaise_319, rX5_layRaise_321, rX5_layRaise_323, rX5_layRaise_324, rX5_layRaise_327, rX5_layRaise_328, rX5_layRaise_331, rX5_layRaise_333, rX5_layRaise_335, rX5_layRaise_337, rX5_layRaise_340, rX5_layRaise_341, rX5_layRaise_344, rX5_layRaise_346, rX5_layRaise_348, rX5_layRaise_350, rX5_layRaise_353, rX5_layRaise_354, rX5_layRaise_357, rX5_layRaise_359, rX5_layRaise_362, ↓reduceIte, m1_le, m1_lt, m1_eq, ofInt_m1, ex_ret, Int32.reduceAdd, Int32.reduceSub, Int32.reduceMul, Int32.reduceLT, Int32.reduceLE, xsI, Nat.reduceEqDiff, and_false, false_and, and_true, true_and, if_true, if_false, ite_true, ite_false, xlook_0, xlook_s, xI_int, xA_ref, xJ_long, xK_some, xRow_row, xTo_some, xst1, xclr, List.set_cons_zero, List.set_cons_succ, xsum_nil, xsum_int, xsum_ref, xsum_long, Option.toList_some, Option.toList_none, List.nil_append, List.cons_append, e1, e2, e3, e4, e5, e6, e7, e8, e9, e10, e11, e12, e13, e14, e15, e16, e17, e18, e19, e20, e21, e22, e23, e24, e25, e26, e27, e28, e29, e30, e31, e32, e33, e34]
  · exact h34
