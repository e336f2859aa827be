/-! XF: rows, then what is proved of them. -/
theorem rX5_layObjects_0 {d : Nat} {lv : xLV} {st : List Value} {S : xS} {r : xO} : XL SK MT d 141 (0, lv, st, S) r ↔ xA (xlook lv 0) (fun x => XL SK MT d 141 (1, lv, .ref x :: st, S) r) := X_ldA rfl rfl (fun _ => rfl) rfl rfl rfl rfl
theorem rX5_layObjects_1 {d : Nat} {lv : xLV} {st : List Value} {S : xS} {r : xO} : XL SK MT d 141 (1, lv, .ref 10 :: st, S) r ↔ XL SK MT d 141 (4, lv, .ref 9 :: st, S) r := X_heap rfl rfl rfl rfl rfl
theorem rX5_layObjects_4 {d : Nat} {lv : xLV} {st : List Value} {S : xS} {r : xO} : XL SK MT d 141 (4, lv, st, S) r ↔ XL SK MT d 141 (6, lv, .int 65540 :: st, S) r := X_pure rfl rfl rfl
theorem rX5_layObjects_6 {d : Nat} {lv : xLV} {S : xS} {r : xO} {x1 : Int32} : XL SK MT d 141 (6, lv, [.int x1, .ref 9], S) r ↔ xK (XC SK MT d 3 [.ref 9, .int x1] S) (fun v S => XL SK MT d 141 (9, lv, v.toList ++ [], S) r) := X_inv (n := 2) (kd := 2) (st0 := [.int x1, .ref 9]) rfl (Or.inr ⟨rfl, rfl⟩) rfl (Nat.le_of_ble_eq_true rfl) (Nat.le_of_ble_eq_true rfl) (by decide) rfl
theorem rX5_layObjects_9 {d : Nat} {lv : xLV} {st : List Value} {S : xS} {r : xO} : XL SK MT d 141 (9, lv, st, S) r ↔ xA (xlook lv 0) (fun x => XL SK MT d 141 (10, lv, .ref x :: st, S) r) := X_ldA rfl rfl (fun _ => rfl) rfl rfl rfl rfl
theorem rX5_layObjects_10 {d : Nat} {lv : xLV} {st : List Value} {S : xS} {r : xO} : XL SK MT d 141 (10, lv, .ref 10 :: st, S) r ↔ XL SK MT d 141 (13, lv, .ref 9 :: st, S) r := X_heap rfl rfl rfl rfl rfl
theorem rX5_layObjects_13 {d : Nat} {lv : xLV} {st : List Value} {S : xS} {r : xO} : XL SK MT d 141 (13, lv, st, S) r ↔ XL SK MT d 141 (15, lv, .int 14 :: st, S) r := X_pure rfl rfl rfl
theorem rX5_layObjects_15 {d : Nat} {lv : xLV} {st : List Value} {S : xS} {r : xO} : XL SK MT d 141 (15, lv, st, S) r ↔ XL SK MT d 141 (16, lv, .int 0 :: st, S) r := X_pure rfl rfl rfl
theorem rX5_layObjects_16 {d : Nat} {lv : xLV} {st : List Value} {S : xS} {r : xO} : XL SK MT d 141 (16, lv, st, S) r ↔ XL SK MT d 141 (17, lv, .int 5 :: st, S) r := X_pure rfl rfl rfl
theorem rX5_layObjects_17 {d : Nat} {lv : xLV} {S : xS} {r : xO} {x1 : Int32} {x2 : Int32} {x3 : Int32} : XL SK MT d 141 (17, lv, [.int x3, .int x2, .int x1, .ref 9], S) r ↔ xK (XC SK MT d 18 [.ref 9, .int x1, .int x2, .int x3] S) (fun v S => XL SK MT d 141 (20, lv, v.toList ++ [], S) r) := X_inv (n := 4) (kd := 2) (st0 := [.int x3, .int x2, .int x1, .ref 9]) rfl (Or.inr ⟨rfl, rfl⟩) rfl (Nat.le_of_ble_eq_true rfl) (Nat.le_of_ble_eq_true rfl) (by decide) rfl
theorem rX5_layObjects_20 {d : Nat} {lv : xLV} {st : List Value} {S : xS} {r : xO} : XL SK MT d 141 (20, lv, st, S) r ↔ xA (xlook lv 0) (fun x => XL SK MT d 141 (21, lv, .ref x :: st, S) r) := X_ldA rfl rfl (fun _ => rfl) rfl rfl rfl rfl
theorem rX5_layObjects_21 {d : Nat} {lv : xLV} {st : List Value} {S : xS} {r : xO} : XL SK MT d 141 (21, lv, .ref 10 :: st, S) r ↔ XL SK MT d 141 (24, lv, .ref 9 :: st, S) r := X_heap rfl rfl rfl rfl rfl
theorem rX5_layObjects_24 {d : Nat} {lv : xLV} {st : List Value} {S : xS} {r : xO} : XL SK MT d 141 (24, lv, st, S) r ↔ XL SK MT d 141 (26, lv, .int 25 :: st, S) r := X_pure rfl rfl rfl
theorem rX5_layObjects_26 {d : Nat} {lv : xLV} {st : List Value} {S : xS} {r : xO} : XL SK MT d 141 (26, lv, st, S) r ↔ XL SK MT d 141 (28, lv, .int 31 :: st, S) r := X_pure rfl rfl rfl
theorem rX5_layObjects_28 {d : Nat} {lv : xLV} {S : xS} {r : xO} {x1 : Int32} {x2 : Int32} : XL SK MT d 141 (28, lv, [.int x2, .int x1, .ref 9], S) r ↔ xK (XC SK MT d 21 [.ref 9, .int x1, .int x2] S) (fun v S => XL SK MT d 141 (31, lv, v.toList ++ [], S) r) := X_inv (n := 3) (kd := 2) (st0 := [.int x2, .int x1, .ref 9]) rfl (Or.inr ⟨rfl, rfl⟩) rfl (Nat.le_of_ble_eq_true rfl) (Nat.le_of_ble_eq_true rfl) (by decide) rfl
theorem rX5_layObjects_31 {d : Nat} {lv : xLV} {st : List Value} {S : xS} {r : xO} : XL SK MT d 141 (31, lv, st, S) r ↔ xA (xlook lv 0) (fun x => XL SK MT d 141 (32, lv, .ref x :: st, S) r) := X_ldA rfl rfl (fun _ => rfl) rfl rfl rfl rfl
theorem rX5_layObjects_32 {d : Nat} {lv : xLV} {S : xS} {r : xO} : XL SK MT d 141 (32, lv, [.ref 10], S) r ↔ xK (XC SK MT d 137 [.ref 10] S) (fun v S => XL SK MT d 141 (35, lv, v.toList ++ [], S) r) := X_inv (n := 1) (kd := 7) (st0 := [.ref 10]) rfl (Or.inr ⟨rfl, rfl⟩) rfl (Nat.le_of_ble_eq_true rfl) (Nat.le_of_ble_eq_true rfl) (by decide) rfl
theorem rX5_layObjects_35 {d : Nat} {lv : xLV} {st : List Value} {S : xS} {r : xO} : XL SK MT d 141 (35, lv, st, S) r ↔ xA (xlook lv 0) (fun x => XL SK MT d 141 (36, lv, .ref x :: st, S) r) := X_ldA rfl rfl (fun _ => rfl) rfl rfl rfl rfl
theorem rX5_layObjects_36 {d : Nat} {lv : xLV} {st : List Value} {S : xS} {r : xO} : XL SK MT d 141 (36, lv, .ref 10 :: st, S) r ↔ XL SK MT d 141 (39, lv, .ref 9 :: st, S) r := X_heap rfl rfl rfl rfl rfl
theorem rX5_layObjects_39 {d : Nat} {lv : xLV} {st : List Value} {S : xS} {r : xO} : XL SK MT d 141 (39, lv, st, S) r ↔ XL SK MT d 141 (40, lv, .int 4 :: st, S) r := X_pure rfl rfl rfl
theorem rX5_layObjects_40 {d : Nat} {lv : xLV} {st : List Value} {S : xS} {r : xO} : XL SK MT d 141 (40, lv, st, S) r ↔ XL SK MT d 141 (42, lv, .int 13 :: st, S) r := X_pure rfl rfl rfl
theorem rX5_layObjects_42 {d : Nat} {lv : xLV} {S : xS} {r : xO} {x1 : Int32} {x2 : Int32} : XL SK MT d 141 (42, lv, [.int x2, .int x1, .ref 9], S) r ↔ xK (XC SK MT d 21 [.ref 9, .int x1, .int x2] S) (fun v S => XL SK MT d 141 (45, lv, v.toList ++ [], S) r) := X_inv (n := 3) (kd := 2) (st0 := [.int x2, .int x1, .ref 9]) rfl (Or.inr ⟨rfl, rfl⟩) rfl (Nat.le_of_ble_eq_true rfl) (Nat.le_of_ble_eq_true rfl) (by decide) rfl
theorem rX5_layObjects_45 {d : Nat} {lv : xLV} {st : List Value} {S : xS} {r : xO} : XL SK MT d 141 (45, lv, st, S) r ↔ xA (xlook lv 0) (fun x => XL SK MT d 141 (46, lv, .ref x :: st, S) r) := X_ldA rfl rfl (fun _ => rfl) rfl rfl rfl rfl
theorem rX5_layObjects_46 {d : Nat} {lv : xLV} {st : List Value} {S : xS} {r : xO} : XL SK MT d 141 (46, lv, .ref 10 :: st, S) r ↔ XL SK MT d 141 (49, lv, .ref 9 :: st, S) r := X_heap rfl rfl rfl rfl rfl
theorem rX5_layObjects_49 {d : Nat} {lv : xLV} {st : List Value} {S : xS} {r : xO} : XL SK MT d 141 (49, lv, st, S) r ↔ XL SK MT d 141 (51, lv, .int 65537 :: st, S) r := X_pure rfl rfl rfl
theorem rX5_layObjects_51 {d : Nat} {lv : xLV} {S : xS} {r : xO} {x1 : Int32} : XL SK MT d 141 (51, lv, [.int x1, .ref 9], S) r ↔ xK (XC SK MT d 28 [.ref 9, .int x1] S) (fun v S => XL SK MT d 141 (54, lv, v.toList ++ [], S) r) := X_inv (n := 2) (kd := 2) (st0 := [.int x1, .ref 9]) rfl (Or.inr ⟨rfl, rfl⟩) rfl (Nat.le_of_ble_eq_true rfl) (Nat.le_of_ble_eq_true rfl) (by decide) rfl
theorem rX5_layObjects_54 {d : Nat} {lv : xLV} {st : List Value} {S : xS} {r : xO} : XL SK MT d 141 (54, lv, st, S) r ↔ xA (xlook lv 0) (fun x => XL SK MT d 141 (55, lv, .ref x :: st, S) r) := X_ldA rfl rfl (fun _ => rfl) rfl rfl rfl rfl
theorem rX5_layObjects_55 {d : Nat} {lv : xLV} {st : List Value} {S : xS} {r : xO} : XL SK MT d 141 (55, lv, .ref 10 :: st, S) r ↔ XL SK MT d 141 (58, lv, .ref 9 :: st, S) r := X_heap rfl rfl rfl rfl rfl
theorem rX5_layObjects_58 {d : Nat} {lv : xLV} {st : List Value} {S : xS} {r : xO} : XL SK MT d 141 (58, lv, st, S) r ↔ XL SK MT d 141 (60, lv, .int 10 :: st, S) r := X_pure rfl rfl rfl
theorem rX5_layObjects_60 {d : Nat} {lv : xLV} {st : List Value} {S : xS} {r : xO} : XL SK MT d 141 (60, lv, st, S) r ↔ XL SK MT d 141 (61, lv, .int 5 :: st, S) r := X_pure rfl rfl rfl
theorem rX5_layObjects_61 {d : Nat} {lv : xLV} {S : xS} {r : xO} {x1 : Int32} {x2 : Int32} : XL SK MT d 141 (61, lv, [.int x2, .int x1, .ref 9], S) r ↔ xK (XC SK MT d 21 [.ref 9, .int x1, .int x2] S) (fun v S => XL SK MT d 141 (64, lv, v.toList ++ [], S) r) := X_inv (n := 3) (kd := 2) (st0 := [.int x2, .int x1, .ref 9]) rfl (Or.inr ⟨rfl, rfl⟩) rfl (Nat.le_of_ble_eq_true rfl) (Nat.le_of_ble_eq_true rfl) (by decide) rfl
theorem rX5_layObjects_64 {d : Nat} {lv : xLV} {st : List Value} {S : xS} {r : xO} : XL SK MT d 141 (64, lv, st, S) r ↔ xA (xlook lv 0) (fun x => XL SK MT d 141 (65, lv, .ref x :: st, S) r) := X_ldA rfl rfl (fun _ => rfl) rfl rfl rfl rfl
theorem rX5_layObjects_65 {d : Nat} {lv : xLV} {st : List Value} {S : xS} {r : xO} : XL SK MT d 141 (65, lv, .ref 10 :: st, S) r ↔ XL SK MT d 141 (68, lv, .ref 9 :: st, S) r := X_heap rfl rfl rfl rfl rfl
theorem rX5_layObjects_68 {d : Nat} {lv : xLV} {st : List Value} {S : xS} {r : xO} : XL SK MT d 141 (68, lv, st, S) r ↔ XL SK MT d 141 (70, lv, .int 11 :: st, S) r := X_pure rfl rfl rfl
theorem rX5_layObjects_70 {d : Nat} {lv : xLV} {st : List Value} {S : xS} {r : xO} : XL SK MT d 141 (70, lv, st, S) r ↔ XL SK MT d 141 (71, lv, .int 2 :: st, S) r := X_pure rfl rfl rfl
theorem rX5_layObjects_71 {d : Nat} {lv : xLV} {S : xS} {r : xO} {x1 : Int32} {x2 : Int32} : XL SK MT d 141 (71, lv, [.int x2, .int x1, .ref 9], S) r ↔ xK (XC SK MT d 21 [.ref 9, .int x1, .int x2] S) (fun v S => XL SK MT d 141 (74, lv, v.toList ++ [], S) r) := X_inv (n := 3) (kd := 2) (st0 := [.int x2, .int x1, .ref 9]) rfl (Or.inr ⟨rfl, rfl⟩) rfl (Nat.le_of_ble_eq_true rfl) (Nat.le_of_ble_eq_true rfl) (by decide) rfl
theorem rX5_layObjects_74 {d : Nat} {lv : xLV} {st : List Value} {S : xS} {r : xO} : XL SK MT d 141 (74, lv, st, S) r ↔ xA (xlook lv 0) (fun x => XL SK MT d 141 (75, lv, .ref x :: st, S) r) := X_ldA rfl rfl (fun _ => rfl) rfl rfl rfl rfl
theorem rX5_layObjects_75 {d : Nat} {lv : xLV} {st : List Value} {S : xS} {r : xO} : XL SK MT d 141 (75, lv, .ref 10 :: st, S) r ↔ XL SK MT d 141 (78, lv, .ref 9 :: st, S) r := X_heap rfl rfl rfl rfl rfl
theorem rX5_layObjects_78 {d : Nat} {lv : xLV} {st : List Value} {S : xS} {r : xO} : XL SK MT d 141 (78, lv, st, S) r ↔ XL SK MT d 141 (80, lv, .int 33 :: st, S) r := X_pure rfl rfl rfl
theorem rX5_layObjects_80 {d : Nat} {lv : xLV} {st : List Value} {S : xS} {r : xO} : XL SK MT d 141 (80, lv, st, S) r ↔ XL SK MT d 141 (82, lv, .int 12 :: st, S) r := X_pure rfl rfl rfl
theorem rX5_layObjects_82 {d : Nat} {lv : xLV} {st : List Value} {S : xS} {r : xO} : XL SK MT d 141 (82, lv, st, S) r ↔ XL SK MT d 141 (83, lv, .int 2 :: st, S) r := X_pure rfl rfl rfl
theorem rX5_layObjects_83 {d : Nat} {lv : xLV} {st : List Value} {S : xS} {r : xO} : XL SK MT d 141 (83, lv, st, S) r ↔ XL SK MT d 141 (84, lv, .int 4 :: st, S) r := X_pure rfl rfl rfl
theorem rX5_layObjects_84 {d : Nat} {lv : xLV} {S : xS} {r : xO} {x1 : Int32} {x2 : Int32} {x3 : Int32} {x4 : Int32} : XL SK MT d 141 (84, lv, [.int x4, .int x3, .int x2, .int x1, .ref 9], S) r ↔ xK (XC SK MT d 15 [.ref 9, .int x1, .int x2, .int x3, .int x4] S) (fun v S => XL SK MT d 141 (87, lv, v.toList ++ [], S) r) := X_inv (n := 5) (kd := 2) (st0 := [.int x4, .int x3, .int x2, .int x1, .ref 9]) rfl (Or.inr ⟨rfl, rfl⟩) rfl (Nat.le_of_ble_eq_true rfl) (Nat.le_of_ble_eq_true rfl) (by decide) rfl
theorem rX5_layObjects_87 {d : Nat} {lv : xLV} {st : List Value} {S : xS} {r : xO} : XL SK MT d 141 (87, lv, st, S) r ↔ xA (xlook lv 0) (fun x => XL SK MT d 141 (88, lv, .ref x :: st, S) r) := X_ldA rfl rfl (fun _ => rfl) rfl rfl rfl rfl
theorem rX5_layObjects_88 {d : Nat} {lv : xLV} {S : xS} {r : xO} : XL SK MT d 141 (88, lv, [.ref 10], S) r ↔ xK (XC SK MT d 140 [.ref 10] S) (fun v S => XL SK MT d 141 (91, lv, v.toList ++ [], S) r) := X_inv (n := 1) (kd := 7) (st0 := [.ref 10]) rfl (Or.inr ⟨rfl, rfl⟩) rfl (Nat.le_of_ble_eq_true rfl) (Nat.le_of_ble_eq_true rfl) (by decide) rfl
theorem rX5_layObjects_91 {d : Nat} {lv : xLV} {st : List Value} {S : xS} {r : xO} : XL SK MT d 141 (91, lv, st, S) r ↔ xA (xlook lv 0) (fun x => XL SK MT d 141 (92, lv, .ref x :: st, S) r) := X_ldA rfl rfl (fun _ => rfl) rfl rfl rfl rfl
theorem rX5_layObjects_92 {d : Nat} {lv : xLV} {st : List Value} {S : xS} {r : xO} : XL SK MT d 141 (92, lv, .ref 10 :: st, S) r ↔ XL SK MT d 141 (95, lv, .ref 9 :: st, S) r := X_heap rfl rfl rfl rfl rfl
theorem rX5_layObjects_95 {d : Nat} {lv : xLV} {st : List Value} {S : xS} {r : xO} : XL SK MT d 141 (95, lv, st, S) r ↔ XL SK MT d 141 (96, lv, .int 4 :: st, S) r := X_pure rfl rfl rfl
theorem rX5_layObjects_96 {d : Nat} {lv : xLV} {st : List Value} {S : xS} {r : xO} : XL SK MT d 141 (96, lv, st, S) r ↔ XL SK MT d 141 (97, lv, .int 2 :: st, S) r := X_pure rfl rfl rfl
theorem rX5_layObjects_97 {d : Nat} {lv : xLV} {S : xS} {r : xO} {x1 : Int32} {x2 : Int32} : XL SK MT d 141 (97, lv, [.int x2, .int x1, .ref 9], S) r ↔ xK (XC SK MT d 21 [.ref 9, .int x1, .int x2] S) (fun v S => XL SK MT d 141 (100, lv, v.toList ++ [], S) r) := X_inv (n := 3) (kd := 2) (st0 := [.int x2, .int x1, .ref 9]) rfl (Or.inr ⟨rfl, rfl⟩) rfl (Nat.le_of_ble_eq_true rfl) (Nat.le_of_ble_eq_true rfl) (by decide) rfl
theorem rX5_layObjects_100 {d : Nat} {lv : xLV} {st : List Value} {S : xS} {r : xO} : XL SK MT d 141 (100, lv, st, S) r ↔ xA (xlook lv 0) (fun x => XL SK MT d 141 (101, lv, .ref x :: st, S) r) := X_ldA rfl rfl (fun _ => rfl) rfl rfl rfl rfl
theorem rX5_layObjects_101 {d : Nat} {lv : xLV} {st : List Value} {S : xS} {r : xO} : XL SK MT d 141 (101, lv, .ref 10 :: st, S) r ↔ XL SK MT d 141 (104, lv, .ref 9 :: st, S) r := X_heap rfl rfl rfl rfl rfl
theorem rX5_layObjects_104 {d : Nat} {lv : xLV} {st : List Value} {S : xS} {r : xO} : XL SK MT d 141 (104, lv, st, S) r ↔ XL SK MT d 141 (106, lv, .int 31 :: st, S) r := X_pure rfl rfl rfl
theorem rX5_layObjects_106 {d : Nat} {lv : xLV} {st : List Value} {S : xS} {r : xO} : XL SK MT d 141 (106, lv, st, S) r ↔ XL SK MT d 141 (108, lv, .int 25 :: st, S) r := X_pure rfl rfl rfl
theorem rX5_layObjects_108 {d : Nat} {lv : xLV} {S : xS} {r : xO} {x1 : Int32} {x2 : Int32} : XL SK MT d 141 (108, lv, [.int x2, .int x1, .ref 9], S) r ↔ xK (XC SK MT d 21 [.ref 9, .int x1, .int x2] S) (fun v S => XL SK MT d 141 (111, lv, v.toList ++ [], S) r) := X_inv (n := 3) (kd := 2) (st0 := [.int x2, .int x1, .ref 9]) rfl (Or.inr ⟨rfl, rfl⟩) rfl (Nat.le_of_ble_eq_true rfl) (Nat.le_of_ble_eq_true rfl) (by decide) rfl
theorem rX5_layObjects_111 {d : Nat} {lv : xLV} {st : List Value} {S : xS} {r : xO} : XL SK MT d 141 (111, lv, st, S) r ↔ xA (xlook lv 0) (fun x => XL SK MT d 141 (112, lv, .ref x :: st, S) r) := X_ldA rfl rfl (fun _ => rfl) rfl rfl rfl rfl
theorem rX5_layObjects_112 {d : Nat} {lv : xLV} {st : List Value} {S : xS} {r : xO} : XL SK MT d 141 (112, lv, .ref 10 :: st, S) r ↔ XL SK MT d 141 (115, lv, .ref 9 :: st, S) r := X_heap rfl rfl rfl rfl rfl
theorem rX5_layObjects_115 {d : Nat} {lv : xLV} {st : List Value} {S : xS} {r : xO} : XL SK MT d 141 (115, lv, st, S) r ↔ XL SK MT d 141 (117, lv, .int 65536 :: st, S) r := X_pure rfl rfl rfl
theorem rX5_layObjects_117 {d : Nat} {lv : xLV} {S : xS} {r : xO} {x1 : Int32} : XL SK MT d 141 (117, lv, [.int x1, .ref 9], S) r ↔ xK (XC SK MT d 27 [.ref 9, .int x1] S) (fun v S => XL SK MT d 141 (120, lv, v.toList ++ [], S) r) := X_inv (n := 2) (kd := 2) (st0 := [.int x1, .ref 9]) rfl (Or.inr ⟨rfl, rfl⟩) rfl (Nat.le_of_ble_eq_true rfl) (Nat.le_of_ble_eq_true rfl) (by decide) rfl
theorem rX5_layObjects_120 {d : Nat} {lv : xLV} {st : List Value} {S : xS} {r : xO} : XL SK MT d 141 (120, lv, st, S) r ↔ xA (xlook lv 0) (fun x => XL SK MT d 141 (121, lv, .ref x :: st, S) r) := X_ldA rfl rfl (fun _ => rfl) rfl rfl rfl rfl
theorem rX5_layObjects_121 {d : Nat} {lv : xLV} {st : List Value} {S : xS} {r : xO} : XL SK MT d 141 (121, lv, .ref 10 :: st, S) r ↔ XL SK MT d 141 (124, lv, .ref 9 :: st, S) r := X_heap rfl rfl rfl rfl rfl
theorem rX5_layObjects_124 {d : Nat} {lv : xLV} {st : List Value} {S : xS} {r : xO} : XL SK MT d 141 (124, lv, st, S) r ↔ XL SK MT d 141 (126, lv, .int 65541 :: st, S) r := X_pure rfl rfl rfl
theorem rX5_layObjects_126 {d : Nat} {lv : xLV} {S : xS} {r : xO} {x1 : Int32} : XL SK MT d 141 (126, lv, [.int x1, .ref 9], S) r ↔ xK (XC SK MT d 3 [.ref 9, .int x1] S) (fun v S => XL SK MT d 141 (129, lv, v.toList ++ [], S) r) := X_inv (n := 2) (kd := 2) (st0 := [.int x1, .ref 9]) rfl (Or.inr ⟨rfl, rfl⟩) rfl (Nat.le_of_ble_eq_true rfl) (Nat.le_of_ble_eq_true rfl) (by decide) rfl
theorem rX5_layObjects_129 {d : Nat} {lv : xLV} {st : List Value} {S : xS} {r : xO} : XL SK MT d 141 (129, lv, st, S) r ↔ xA (xlook lv 0) (fun x => XL SK MT d 141 (130, lv, .ref x :: st, S) r) := X_ldA rfl rfl (fun _ => rfl) rfl rfl rfl rfl
theorem rX5_layObjects_130 {d : Nat} {lv : xLV} {st : List Value} {S : xS} {r : xO} : XL SK MT d 141 (130, lv, .ref 10 :: st, S) r ↔ XL SK MT d 141 (133, lv, .ref 9 :: st, S) r := X_heap rfl rfl rfl rfl rfl
theorem rX5_layObjects_133 {d : Nat} {lv : xLV} {st : List Value} {S : xS} {r : xO} : XL SK MT d 141 (133, lv, st, S) r ↔ XL SK MT d 141 (135, lv, .int 25 :: st, S) r := X_pure rfl rfl rfl
theorem rX5_layObjects_135 {d : Nat} {lv : xLV} {st : List Value} {S : xS} {r : xO} : XL SK MT d 141 (135, lv, st, S) r ↔ XL SK MT d 141 (137, lv, .int 31 :: st, S) r := X_pure rfl rfl rfl
theorem rX5_layObjects_137 {d : Nat} {lv : xLV} {S : xS} {r : xO} {x1 : Int32} {x2 : Int32} : XL SK MT d 141 (137, lv, [.int x2, .int x1, .ref 9], S) r ↔ xK (XC SK MT d 21 [.ref 9, .int x1, .int x2] S) (fun v S => XL SK MT d 141 (140, lv, v.toList ++ [], S) r) := X_inv (n := 3) (kd := 2) (st0 := [.int x2, .int x1, .ref 9]) rfl (Or.inr ⟨rfl, rfl⟩) rfl (Nat.le_of_ble_eq_true rfl) (Nat.le_of_ble_eq_true rfl) (by decide) rfl
theorem rX5_layObjects_140 {d : Nat} {lv : xLV} {st : List Value} {S : xS} {r : xO} : XL SK MT d 141 (140, lv, st, S) r ↔ xA (xlook lv 0) (fun x => XL SK MT d 141 (141, lv, .ref x :: st, S) r) := X_ldA rfl rfl (fun _ => rfl) rfl rfl rfl rfl
theorem rX5_layObjects_141 {d : Nat} {lv : xLV} {st : List Value} {S : xS} {r : xO} : XL SK MT d 141 (141, lv, .ref 10 :: st, S) r ↔ XL SK MT d 141 (144, lv, .ref 9 :: st, S) r := X_heap rfl rfl rfl rfl rfl
theorem rX5_layObjects_144 {d : Nat} {lv : xLV} {st : List Value} {S : xS} {r : xO} : XL SK MT d 141 (144, lv, st, S) r ↔ XL SK MT d 141 (145, lv, .int 0 :: st, S) r := X_pure rfl rfl rfl
theorem rX5_layObjects_145 {d : Nat} {lv : xLV} {st : List Value} {S : xS} {r : xO} : XL SK MT d 141 (145, lv, st, S) r ↔ XL SK MT d 141 (146, lv, .int 4 :: st, S) r := X_pure rfl rfl rfl
theorem rX5_layObjects_146 {d : Nat} {lv : xLV} {st : List Value} {S : xS} {r : xO} : XL SK MT d 141 (146, lv, st, S) r ↔ XL SK MT d 141 (147, lv, .int 5 :: st, S) r := X_pure rfl rfl rfl
theorem rX5_layObjects_147 {d : Nat} {lv : xLV} {st : List Value} {S : xS} {r : xO} : XL SK MT d 141 (147, lv, st, S) r ↔ XL SK MT d 141 (148, lv, .int 2 :: st, S) r := X_pure rfl rfl rfl
theorem rX5_layObjects_148 {d : Nat} {lv : xLV} {S : xS} {r : xO} {x1 : Int32} {x2 : Int32} {x3 : Int32} {x4 : Int32} : XL SK MT d 141 (148, lv, [.int x4, .int x3, .int x2, .int x1, .ref 9], S) r ↔ xK (XC SK MT d 16 [.ref 9, .int x1, .int x2, .int x3, .int x4] S) (fun v S => XL SK MT d 141 (151, lv, v.toList ++ [], S) r) := X_inv (n := 5) (kd := 2) (st0 := [.int x4, .int x3, .int x2, .int x1, .ref 9]) rfl (Or.inr ⟨rfl, rfl⟩) rfl (Nat.le_of_ble_eq_true rfl) (Nat.le_of_ble_eq_true rfl) (by decide) rfl
theorem rX5_layObjects_151 {d : Nat} {lv : xLV} {st : List Value} {S : xS} {r : xO} : XL SK MT d 141 (151, lv, st, S) r ↔ xA (xlook lv 0) (fun x => XL SK MT d 141 (152, lv, .ref x :: st, S) r) := X_ldA rfl rfl (fun _ => rfl) rfl rfl rfl rfl
theorem rX5_layObjects_152 {d : Nat} {lv : xLV} {st : List Value} {S : xS} {r : xO} : XL SK MT d 141 (152, lv, .ref 10 :: st, S) r ↔ XL SK MT d 141 (155, lv, .ref 9 :: st, S) r := X_heap rfl rfl rfl rfl rfl
theorem rX5_layObjects_155 {d : Nat} {lv : xLV} {st : List Value} {S : xS} {r : xO} : XL SK MT d 141 (155, lv, st, S) r ↔ XL SK MT d 141 (156, lv, .int 4 :: st, S) r := X_pure rfl rfl rfl
theorem rX5_layObjects_156 {d : Nat} {lv : xLV} {st : List Value} {S : xS} {r : xO} : XL SK MT d 141 (156, lv, st, S) r ↔ XL SK MT d 141 (157, lv, .int 4 :: st, S) r := X_pure rfl rfl rfl
theorem rX5_layObjects_157 {d : Nat} {lv : xLV} {st : List Value} {S : xS} {r : xO} : XL SK MT d 141 (157, lv, st, S) r ↔ XL SK MT d 141 (158, lv, .int 4 :: st, S) r := X_pure rfl rfl rfl
theorem rX5_layObjects_158 {d : Nat} {lv : xLV} {S : xS} {r : xO} {x1 : Int32} {x2 : Int32} {x3 : Int32} : XL SK MT d 141 (158, lv, [.int x3, .int x2, .int x1, .ref 9], S) r ↔ xK (XC SK MT d 20 [.ref 9, .int x1, .int x2, .int x3] S) (fun v S => XL SK MT d 141 (161, lv, v.toList ++ [], S) r) := X_inv (n := 4) (kd := 2) (st0 := [.int x3, .int x2, .int x1, .ref 9]) rfl (Or.inr ⟨rfl, rfl⟩) rfl (Nat.le_of_ble_eq_true rfl) (Nat.le_of_ble_eq_true rfl) (by decide) rfl
theorem rX5_layObjects_161 {d : Nat} {lv : xLV} {st : List Value} {S : xS} {r : xO} : XL SK MT d 141 (161, lv, st, S) r ↔ xA (xlook lv 0) (fun x => XL SK MT d 141 (162, lv, .ref x :: st, S) r) := X_ldA rfl rfl (fun _ => rfl) rfl rfl rfl rfl
theorem rX5_layObjects_162 {d : Nat} {lv : xLV} {st : List Value} {S : xS} {r : xO} : XL SK MT d 141 (162, lv, .ref 10 :: st, S) r ↔ XL SK MT d 141 (165, lv, .ref 9 :: st, S) r := X_heap rfl rfl rfl rfl rfl
theorem rX5_layObjects_165 {d : Nat} {lv : xLV} {st : List Value} {S : xS} {r : xO} : XL SK MT d 141 (165, lv, st, S) r ↔ XL SK MT d 141 (167, lv, .int 65537 :: st, S) r := X_pure rfl rfl rfl
theorem rX5_layObjects_167 {d : Nat} {lv : xLV} {S : xS} {r : xO} {x1 : Int32} : XL SK MT d 141 (167, lv, [.int x1, .ref 9], S) r ↔ xK (XC SK MT d 28 [.ref 9, .int x1] S) (fun v S => XL SK MT d 141 (170, lv, v.toList ++ [], S) r) := X_inv (n := 2) (kd := 2) (st0 := [.int x1, .ref 9]) rfl (Or.inr ⟨rfl, rfl⟩) rfl (Nat.le_of_ble_eq_true rfl) (Nat.le_of_ble_eq_true rfl) (by decide) rfl
theorem rX5_layObjects_170 {d : Nat} {lv : xLV} {st : List Value} {S : xS} {r : xO} : XL SK MT d 141 (170, lv, st, S) r ↔ xA (xlook lv 0) (fun x => XL SK MT d 141 (171, lv, .ref x :: st, S) r) := X_ldA rfl rfl (fun _ => rfl) rfl rfl rfl rfl
theorem rX5_layObjects_171 {d : Nat} {lv : xLV} {st : List Value} {S : xS} {r : xO} : XL SK MT d 141 (171, lv, .ref 10 :: st, S) r ↔ XL SK MT d 141 (174, lv, .ref 9 :: st, S) r := X_heap rfl rfl rfl rfl rfl
theorem rX5_layObjects_174 {d : Nat} {lv : xLV} {st : List Value} {S : xS} {r : xO} : XL SK MT d 141 (174, lv, st, S) r ↔ XL SK MT d 141 (175, lv, .int 0 :: st, S) r := X_pure rfl rfl rfl
theorem rX5_layObjects_175 {d : Nat} {lv : xLV} {st : List Value} {S : xS} {r : xO} : XL SK MT d 141 (175, lv, st, S) r ↔ XL SK MT d 141 (177, lv, .int 8 :: st, S) r := X_pure rfl rfl rfl
theorem rX5_layObjects_177 {d : Nat} {lv : xLV} {st : List Value} {S : xS} {r : xO} : XL SK MT d 141 (177, lv, st, S) r ↔ XL SK MT d 141 (178, lv, .int 5 :: st, S) r := X_pure rfl rfl rfl
theorem rX5_layObjects_178 {d : Nat} {lv : xLV} {st : List Value} {S : xS} {r : xO} : XL SK MT d 141 (178, lv, st, S) r ↔ XL SK MT d 141 (179, lv, .int 3 :: st, S) r := X_pure rfl rfl rfl
theorem rX5_layObjects_179 {d : Nat} {lv : xLV} {S : xS} {r : xO} {x1 : Int32} {x2 : Int32} {x3 : Int32} {x4 : Int32} : XL SK MT d 141 (179, lv, [.int x4, .int x3, .int x2, .int x1, .ref 9], S) r ↔ xK (XC SK MT d 16 [.ref 9, .int x1, .int x2, .int x3, .int x4] S) (fun v S => XL SK MT d 141 (182, lv, v.toList ++ [], S) r) := X_inv (n := 5) (kd := 2) (st0 := [.int x4, .int x3, .int x2, .int x1, .ref 9]) rfl (Or.inr ⟨rfl, rfl⟩) rfl (Nat.le_of_ble_eq_true rfl) (Nat.le_of_ble_eq_true rfl) (by decide) rfl
theorem rX5_layObjects_182 {d : Nat} {lv : xLV} {st : List Value} {S : xS} {r : xO} : XL SK MT d 141 (182, lv, st, S) r ↔ xA (xlook lv 0) (fun x => XL SK MT d 141 (183, lv, .ref x :: st, S) r) := X_ldA rfl rfl (fun _ => rfl) rfl rfl rfl rfl
theorem rX5_layObjects_183 {d : Nat} {lv : xLV} {st : List Value} {S : xS} {r : xO} : XL SK MT d 141 (183, lv, .ref 10 :: st, S) r ↔ XL SK MT d 141 (186, lv, .ref 9 :: st, S) r := X_heap rfl rfl rfl rfl rfl
theorem rX5_layObjects_186 {d : Nat} {lv : xLV} {st : List Value} {S : xS} {r : xO} : XL SK MT d 141 (186, lv, st, S) r ↔ XL SK MT d 141 (188, lv, .int 8 :: st, S) r := X_pure rfl rfl rfl
theorem rX5_layObjects_188 {d : Nat} {lv : xLV} {st : List Value} {S : xS} {r : xO} : XL SK MT d 141 (188, lv, st, S) r ↔ XL SK MT d 141 (190, lv, .int 8 :: st, S) r := X_pure rfl rfl rfl
theorem rX5_layObjects_190 {d : Nat} {lv : xLV} {st : List Value} {S : xS} {r : xO} : XL SK MT d 141 (190, lv, st, S) r ↔ XL SK MT d 141 (191, lv, .int 1 :: st, S) r := X_pure rfl rfl rfl
theorem rX5_layObjects_191 {d : Nat} {lv : xLV} {S : xS} {r : xO} {x1 : Int32} {x2 : Int32} {x3 : Int32} : XL SK MT d 141 (191, lv, [.int x3, .int x2, .int x1, .ref 9], S) r ↔ xK (XC SK MT d 20 [.ref 9, .int x1, .int x2, .int x3] S) (fun v S => XL SK MT d 141 (194, lv, v.toList ++ [], S) r) := X_inv (n := 4) (kd := 2) (st0 := [.int x3, .int x2, .int x1, .ref 9]) rfl (Or.inr ⟨rfl, rfl⟩) rfl (Nat.le_of_ble_eq_true rfl) (Nat.le_of_ble_eq_true rfl) (by decide) rfl
theorem rX5_layObjects_194 {d : Nat} {lv : xLV} {st : List Value} {S : xS} {r : xO} : XL SK MT d 141 (194, lv, st, S) r ↔ xA (xlook lv 0) (fun x => XL SK MT d 141 (195, lv, .ref x :: st, S) r) := X_ldA rfl rfl (fun _ => rfl) rfl rfl rfl rfl
theorem rX5_layObjects_195 {d : Nat} {lv : xLV} {st : List Value} {S : xS} {r : xO} : XL SK MT d 141 (195, lv, .ref 10 :: st, S) r ↔ XL SK MT d 141 (198, lv, .ref 9 :: st, S) r := X_heap rfl rfl rfl rfl rfl
theorem rX5_layObjects_198 {d : Nat} {lv : xLV} {st : List Value} {S : xS} {r : xO} : XL SK MT d 141 (198, lv, st, S) r ↔ XL SK MT d 141 (200, lv, .int 8 :: st, S) r := X_pure rfl rfl rfl
theorem rX5_layObjects_200 {d : Nat} {lv : xLV} {st : List Value} {S : xS} {r : xO} : XL SK MT d 141 (200, lv, st, S) r ↔ XL SK MT d 141 (201, lv, .int 0 :: st, S) r := X_pure rfl rfl rfl
theorem rX5_layObjects_201 {d : Nat} {lv : xLV} {st : List Value} {S : xS} {r : xO} : XL SK MT d 141 (201, lv, st, S) r ↔ XL SK MT d 141 (202, lv, .int 2 :: st, S) r := X_pure rfl rfl rfl
theorem rX5_layObjects_202 {d : Nat} {lv : xLV} {S : xS} {r : xO} {x1 : Int32} {x2 : Int32} {x3 : Int32} : XL SK MT d 141 (202, lv, [.int x3, .int x2, .int x1, .ref 9], S) r ↔ xK (XC SK MT d 19 [.ref 9, .int x1, .int x2, .int x3] S) (fun v S => XL SK MT d 141 (205, lv, v.toList ++ [], S) r) := X_inv (n := 4) (kd := 2) (st0 := [.int x3, .int x2, .int x1, .ref 9]) rfl (Or.inr ⟨rfl, rfl⟩) rfl (Nat.le_of_ble_eq_true rfl) (Nat.le_of_ble_eq_true rfl) (by decide) rfl
theorem rX5_layObjects_205 {d : Nat} {lv : xLV} {st : List Value} {S : xS} {r : xO} : XL SK MT d 141 (205, lv, st, S) r ↔ xA (xlook lv 0) (fun x => XL SK MT d 141 (206, lv, .ref x :: st, S) r) := X_ldA rfl rfl (fun _ => rfl) rfl rfl rfl rfl
theorem rX5_layObjects_206 {d : Nat} {lv : xLV} {st : List Value} {S : xS} {r : xO} : XL SK MT d 141 (206, lv, .ref 10 :: st, S) r ↔ XL SK MT d 141 (209, lv, .ref 9 :: st, S) r := X_heap rfl rfl rfl rfl rfl
theorem rX5_layObjects_209 {d : Nat} {lv : xLV} {st : List Value} {S : xS} {r : xO} : XL SK MT d 141 (209, lv, st, S) r ↔ XL SK MT d 141 (210, lv, .int 0 :: st, S) r := X_pure rfl rfl rfl
theorem rX5_layObjects_210 {d : Nat} {lv : xLV} {st : List Value} {S : xS} {r : xO} : XL SK MT d 141 (210, lv, st, S) r ↔ XL SK MT d 141 (212, lv, .int 9 :: st, S) r := X_pure rfl rfl rfl
theorem rX5_layObjects_212 {d : Nat} {lv : xLV} {st : List Value} {S : xS} {r : xO} : XL SK MT d 141 (212, lv, st, S) r ↔ XL SK MT d 141 (213, lv, .int 5 :: st, S) r := X_pure rfl rfl rfl
theorem rX5_layObjects_213 {d : Nat} {lv : xLV} {st : List Value} {S : xS} {r : xO} : XL SK MT d 141 (213, lv, st, S) r ↔ XL SK MT d 141 (214, lv, .int 2 :: st, S) r := X_pure rfl rfl rfl
theorem rX5_layObjects_214 {d : Nat} {lv : xLV} {S : xS} {r : xO} {x1 : Int32} {x2 : Int32} {x3 : Int32} {x4 : Int32} : XL SK MT d 141 (214, lv, [.int x4, .int x3, .int x2, .int x1, .ref 9], S) r ↔ xK (XC SK MT d 16 [.ref 9, .int x1, .int x2, .int x3, .int x4] S) (fun v S => XL SK MT d 141 (217, lv, v.toList ++ [], S) r) := X_inv (n := 5) (kd := 2) (st0 := [.int x4, .int x3, .int x2, .int x1, .ref 9]) rfl (Or.inr ⟨rfl, rfl⟩) rfl (Nat.le_of_ble_eq_true rfl) (Nat.le_of_ble_eq_true rfl) (by decide) rfl
theorem rX5_layObjects_217 {d : Nat} {lv : xLV} {st : List Value} {S : xS} {r : xO} : XL SK MT d 141 (217, lv, st, S) r ↔ xA (xlook lv 0) (fun x => XL SK MT d 141 (218, lv, .ref x :: st, S) r) := X_ldA rfl rfl (fun _ => rfl) rfl rfl rfl rfl
theorem rX5_layObjects_218 {d : Nat} {lv : xLV} {st : List Value} {S : xS} {r : xO} : XL SK MT d 141 (218, lv, .ref 10 :: st, S) r ↔ XL SK MT d 141 (221, lv, .ref 9 :: st, S) r := X_heap rfl rfl rfl rfl rfl
theorem rX5_layObjects_221 {d : Nat} {lv : xLV} {st : List Value} {S : xS} {r : xO} : XL SK MT d 141 (221, lv, st, S) r ↔ XL SK MT d 141 (223, lv, .int 35 :: st, S) r := X_pure rfl rfl rfl
theorem rX5_layObjects_223 {d : Nat} {lv : xLV} {st : List Value} {S : xS} {r : xO} : XL SK MT d 141 (223, lv, st, S) r ↔ XL SK MT d 141 (225, lv, .int 16 :: st, S) r := X_pure rfl rfl rfl
theorem rX5_layObjects_225 {d : Nat} {lv : xLV} {st : List Value} {S : xS} {r : xO} : XL SK MT d 141 (225, lv, st, S) r ↔ XL SK MT d 141 (227, lv, .int 16 :: st, S) r := X_pure rfl rfl rfl
theorem rX5_layObjects_227 {d : Nat} {lv : xLV} {st : List Value} {S : xS} {r : xO} : XL SK MT d 141 (227, lv, st, S) r ↔ XL SK MT d 141 (229, lv, .int 9 :: st, S) r := X_pure rfl rfl rfl
theorem rX5_layObjects_229 {d : Nat} {lv : xLV} {S : xS} {r : xO} {x1 : Int32} {x2 : Int32} {x3 : Int32} {x4 : Int32} : XL SK MT d 141 (229, lv, [.int x4, .int x3, .int x2, .int x1, .ref 9], S) r ↔ xK (XC SK MT d 15 [.ref 9, .int x1, .int x2, .int x3, .int x4] S) (fun v S => XL SK MT d 141 (232, lv, v.toList ++ [], S) r) := X_inv (n := 5) (kd := 2) (st0 := [.int x4, .int x3, .int x2, .int x1, .ref 9]) rfl (Or.inr ⟨rfl, rfl⟩) rfl (Nat.le_of_ble_eq_true rfl) (Nat.le_of_ble_eq_true rfl) (by decide) rfl
theorem rX5_layObjects_232 {d : Nat} {lv : xLV} {st : List Value} {S : xS} {r : xO} : XL SK MT d 141 (232, lv, st, S) r ↔ xA (xlook lv 0) (fun x => XL SK MT d 141 (233, lv, .ref x :: st, S) r) := X_ldA rfl rfl (fun _ => rfl) rfl rfl rfl rfl
theorem rX5_layObjects_233 {d : Nat} {lv : xLV} {st : List Value} {S : xS} {r : xO} : XL SK MT d 141 (233, lv, .ref 10 :: st, S) r ↔ XL SK MT d 141 (236, lv, .ref 9 :: st, S) r := X_heap rfl rfl rfl rfl rfl
theorem rX5_layObjects_236 {d : Nat} {lv : xLV} {st : List Value} {S : xS} {r : xO} : XL SK MT d 141 (236, lv, st, S) r ↔ XL SK MT d 141 (238, lv, .int 10 :: st, S) r := X_pure rfl rfl rfl
theorem rX5_layObjects_238 {d : Nat} {lv : xLV} {st : List Value} {S : xS} {r : xO} : XL SK MT d 141 (238, lv, st, S) r ↔ XL SK MT d 141 (240, lv, .int 16 :: st, S) r := X_pure rfl rfl rfl
theorem rX5_layObjects_240 {d : Nat} {lv : xLV} {S : xS} {r : xO} {x1 : Int32} {x2 : Int32} : XL SK MT d 141 (240, lv, [.int x2, .int x1, .ref 9], S) r ↔ xK (XC SK MT d 21 [.ref 9, .int x1, .int x2] S) (fun v S => XL SK MT d 141 (243, lv, v.toList ++ [], S) r) := X_inv (n := 3) (kd := 2) (st0 := [.int x2, .int x1, .ref 9]) rfl (Or.inr ⟨rfl, rfl⟩) rfl (Nat.le_of_ble_eq_true rfl) (Nat.le_of_ble_eq_true rfl) (by decide) rfl
theorem rX5_layObjects_243 {d : Nat} {lv : xLV} {st : List Value} {S : xS} {r : xO} : XL SK MT d 141 (243, lv, st, S) r ↔ xA (xlook lv 0) (fun x => XL SK MT d 141 (244, lv, .ref x :: st, S) r) := X_ldA rfl rfl (fun _ => rfl) rfl rfl rfl rfl
theorem rX5_layObjects_244 {d : Nat} {lv : xLV} {st : List Value} {S : xS} {r : xO} : XL SK MT d 141 (244, lv, .ref 10 :: st, S) r ↔ XL SK MT d 141 (247, lv, .ref 9 :: st, S) r := X_heap rfl rfl rfl rfl rfl
theorem rX5_layObjects_247 {d : Nat} {lv : xLV} {st : List Value} {S : xS} {r : xO} : XL SK MT d 141 (247, lv, st, S) r ↔ XL SK MT d 141 (249, lv, .int 11 :: st, S) r := X_pure rfl rfl rfl
theorem rX5_layObjects_249 {d : Nat} {lv : xLV} {st : List Value} {S : xS} {r : xO} : XL SK MT d 141 (249, lv, st, S) r ↔ XL SK MT d 141 (250, lv, .int 2 :: st, S) r := X_pure rfl rfl rfl
theorem rX5_layObjects_250 {d : Nat} {lv : xLV} {st : List Value} {S : xS} {r : xO} : XL SK MT d 141 (250, lv, st, S) r ↔ XL SK MT d 141 (251, lv, .int 4 :: st, S) r := X_pure rfl rfl rfl
theorem rX5_layObjects_251 {d : Nat} {lv : xLV} {S : xS} {r : xO} {x1 : Int32} {x2 : Int32} {x3 : Int32} : XL SK MT d 141 (251, lv, [.int x3, .int x2, .int x1, .ref 9], S) r ↔ xK (XC SK MT d 20 [.ref 9, .int x1, .int x2, .int x3] S) (fun v S => XL SK MT d 141 (254, lv, v.toList ++ [], S) r) := X_inv (n := 4) (kd := 2) (st0 := [.int x3, .int x2, .int x1, .ref 9]) rfl (Or.inr ⟨rfl, rfl⟩) rfl (Nat.le_of_ble_eq_true rfl) (Nat.le_of_ble_eq_true rfl) (by decide) rfl
theorem rX5_layObjects_254 {d : Nat} {lv : xLV} {st : List Value} {S : xS} {r : xO} : XL SK MT d 141 (254, lv, st, S) r ↔ xA (xlook lv 0) (fun x => XL SK MT d 141 (255, lv, .ref x :: st, S) r) := X_ldA rfl rfl (fun _ => rfl) rfl rfl rfl rfl
theorem rX5_layObjects_255 {d : Nat} {lv : xLV} {st : List Value} {S : xS} {r : xO} : XL SK MT d 141 (255, lv, .ref 10 :: st, S) r ↔ XL SK MT d 141 (258, lv, .ref 9 :: st, S) r := X_heap rfl rfl rfl rfl rfl
theorem rX5_layObjects_258 {d : Nat} {lv : xLV} {st : List Value} {S : xS} {r : xO} : XL SK MT d 141 (258, lv, st, S) r ↔ XL SK MT d 141 (260, lv, .int 33 :: st, S) r := X_pure rfl rfl rfl
theorem rX5_layObjects_260 {d : Nat} {lv : xLV} {st : List Value} {S : xS} {r : xO} : XL SK MT d 141 (260, lv, st, S) r ↔ XL SK MT d 141 (262, lv, .int 12 :: st, S) r := X_pure rfl rfl rfl
theorem rX5_layObjects_262 {d : Nat} {lv : xLV} {st : List Value} {S : xS} {r : xO} : XL SK MT d 141 (262, lv, st, S) r ↔ XL SK MT d 141 (264, lv, .int 11 :: st, S) r := X_pure rfl rfl rfl
theorem rX5_layObjects_264 {d : Nat} {lv : xLV} {st : List Value} {S : xS} {r : xO} : XL SK MT d 141 (264, lv, st, S) r ↔ XL SK MT d 141 (266, lv, .int 9 :: st, S) r := X_pure rfl rfl rfl
theorem rX5_layObjects_266 {d : Nat} {lv : xLV} {S : xS} {r : xO} {x1 : Int32} {x2 : Int32} {x3 : Int32} {x4 : Int32} : XL SK MT d 141 (266, lv, [.int x4, .int x3, .int x2, .int x1, .ref 9], S) r ↔ xK (XC SK MT d 15 [.ref 9, .int x1, .int x2, .int x3, .int x4] S) (fun v S => XL SK MT d 141 (269, lv, v.toList ++ [], S) r) := X_inv (n := 5) (kd := 2) (st0 := [.int x4, .int x3, .int x2, .int x1, .ref 9]) rfl (Or.inr ⟨rfl, rfl⟩) rfl (Nat.le_of_ble_eq_true rfl) (Nat.le_of_ble_eq_true rfl) (by decide) rfl
theorem rX5_layObjects_269 {d : Nat} {lv : xLV} {st : List Value} {S : xS} {r : xO} : XL SK MT d 141 (269, lv, st, S) r ↔ xA (xlook lv 0) (fun x => XL SK MT d 141 (270, lv, .ref x :: st, S) r) := X_ldA rfl rfl (fun _ => rfl) rfl rfl rfl rfl
theorem rX5_layObjects_270 {d : Nat} {lv : xLV} {S : xS} {r : xO} : XL SK MT d 141 (270, lv, [.ref 10], S) r ↔ xK (XC SK MT d 140 [.ref 10] S) (fun v S => XL SK MT d 141 (273, lv, v.toList ++ [], S) r) := X_inv (n := 1) (kd := 7) (st0 := [.ref 10]) rfl (Or.inr ⟨rfl, rfl⟩) rfl (Nat.le_of_ble_eq_true rfl) (Nat.le_of_ble_eq_true rfl) (by decide) rfl
theorem rX5_layObjects_273 {d : Nat} {lv : xLV} {st : List Value} {S : xS} {r : xO} : XL SK MT d 141 (273, lv, st, S) r ↔ xA (xlook lv 0) (fun x => XL SK MT d 141 (274, lv, .ref x :: st, S) r) := X_ldA rfl rfl (fun _ => rfl) rfl rfl rfl rfl
theorem rX5_layObjects_274 {d : Nat} {lv : xLV} {st : List Value} {S : xS} {r : xO} : XL SK MT d 141 (274, lv, .ref 10 :: st, S) r ↔ XL SK MT d 141 (277, lv, .ref 9 :: st, S) r := X_heap rfl rfl rfl rfl rfl
theorem rX5_layObjects_277 {d : Nat} {lv : xLV} {st : List Value} {S : xS} {r : xO} : XL SK MT d 141 (277, lv, st, S) r ↔ XL SK MT d 141 (278, lv, .int 2 :: st, S) r := X_pure rfl rfl rfl
theorem rX5_layObjects_278 {d : Nat} {lv : xLV} {st : List Value} {S : xS} {r : xO} : XL SK MT d 141 (278, lv, st, S) r ↔ XL SK MT d 141 (279, lv, .int 0 :: st, S) r := X_pure rfl rfl rfl
theorem rX5_layObjects_279 {d : Nat} {lv : xLV} {st : List Value} {S : xS} {r : xO} : XL SK MT d 141 (279, lv, st, S) r ↔ XL SK MT d 141 (281, lv, .int 16 :: st, S) r := X_pure rfl rfl rfl
theorem rX5_layObjects_281 {d : Nat} {lv : xLV} {S : xS} {r : xO} {x1 : Int32} {x2 : Int32} {x3 : Int32} : XL SK MT d 141 (281, lv, [.int x3, .int x2, .int x1, .ref 9], S) r ↔ xK (XC SK MT d 19 [.ref 9, .int x1, .int x2, .int x3] S) (fun v S => XL SK MT d 141 (284, lv, v.toList ++ [], S) r) := X_inv (n := 4) (kd := 2) (st0 := [.int x3, .int x2, .int x1, .ref 9]) rfl (Or.inr ⟨rfl, rfl⟩) rfl (Nat.le_of_ble_eq_true rfl) (Nat.le_of_ble_eq_true rfl) (by decide) rfl
theorem rX5_layObjects_284 {d : Nat} {lv : xLV} {st : List Value} {S : xS} {r : xO} : XL SK MT d 141 (284, lv, st, S) r ↔ xA (xlook lv 0) (fun x => XL SK MT d 141 (285, lv, .ref x :: st, S) r) := X_ldA rfl rfl (fun _ => rfl) rfl rfl rfl rfl
theorem rX5_layObjects_285 {d : Nat} {lv : xLV} {st : List Value} {S : xS} {r : xO} : XL SK MT d 141 (285, lv, .ref 10 :: st, S) r ↔ XL SK MT d 141 (288, lv, .ref 9 :: st, S) r := X_heap rfl rfl rfl rfl rfl
theorem rX5_layObjects_288 {d : Nat} {lv : xLV} {st : List Value} {S : xS} {r : xO} : XL SK MT d 141 (288, lv, st, S) r ↔ XL SK MT d 141 (290, lv, .int 16 :: st, S) r := X_pure rfl rfl rfl
theorem rX5_layObjects_290 {d : Nat} {lv : xLV} {st : List Value} {S : xS} {r : xO} : XL SK MT d 141 (290, lv, st, S) r ↔ XL SK MT d 141 (292, lv, .int 16 :: st, S) r := X_pure rfl rfl rfl
theorem rX5_layObjects_292 {d : Nat} {lv : xLV} {st : List Value} {S : xS} {r : xO} : XL SK MT d 141 (292, lv, st, S) r ↔ XL SK MT d 141 (293, lv, .int 4 :: st, S) r := X_pure rfl rfl rfl
theorem rX5_layObjects_293 {d : Nat} {lv : xLV} {S : xS} {r : xO} {x1 : Int32} {x2 : Int32} {x3 : Int32} : XL SK MT d 141 (293, lv, [.int x3, .int x2, .int x1, .ref 9], S) r ↔ xK (XC SK MT d 20 [.ref 9, .int x1, .int x2, .int x3] S) (fun v S => XL SK MT d 141 (296, lv, v.toList ++ [], S) r) := X_inv (n := 4) (kd := 2) (st0 := [.int x3, .int x2, .int x1, .ref 9]) rfl (Or.inr ⟨rfl, rfl⟩) rfl (Nat.le_of_ble_eq_true rfl) (Nat.le_of_ble_eq_true rfl) (by decide) rfl
theorem rX5_layObjects_296 {d : Nat} {lv : xLV} {st : List Value} {S : xS} {r : xO} : XL SK MT d 141 (296, lv, st, S) r ↔ xA (xlook lv 0) (fun x => XL SK MT d 141 (297, lv, .ref x :: st, S) r) := X_ldA rfl rfl (fun _ => rfl) rfl rfl rfl rfl
theorem rX5_layObjects_297 {d : Nat} {lv : xLV} {st : List Value} {S : xS} {r : xO} : XL SK MT d 141 (297, lv, .ref 10 :: st, S) r ↔ XL SK MT d 141 (300, lv, .ref 9 :: st, S) r := X_heap rfl rfl rfl rfl rfl
theorem rX5_layObjects_300 {d : Nat} {lv : xLV} {st : List Value} {S : xS} {r : xO} : XL SK MT d 141 (300, lv, st, S) r ↔ XL SK MT d 141 (302, lv, .int 25 :: st, S) r := X_pure rfl rfl rfl
theorem rX5_layObjects_302 {d : Nat} {lv : xLV} {S : xS} {r : xO} {x1 : Int32} : XL SK MT d 141 (302, lv, [.int x1, .ref 9], S) r ↔ xK (XC SK MT d 29 [.ref 9, .int x1] S) (fun v S => XL SK MT d 141 (305, lv, v.toList ++ [], S) r) := X_inv (n := 2) (kd := 2) (st0 := [.int x1, .ref 9]) rfl (Or.inr ⟨rfl, rfl⟩) rfl (Nat.le_of_ble_eq_true rfl) (Nat.le_of_ble_eq_true rfl) (by decide) rfl
theorem rX5_layObjects_305 {d : Nat} {lv : xLV} {st : List Value} {S : xS} {r : xO} : XL SK MT d 141 (305, lv, st, S) r ↔ xA (xlook lv 0) (fun x => XL SK MT d 141 (306, lv, .ref x :: st, S) r) := X_ldA rfl rfl (fun _ => rfl) rfl rfl rfl rfl
theorem rX5_layObjects_306 {d : Nat} {lv : xLV} {st : List Value} {S : xS} {r : xO} : XL SK MT d 141 (306, lv, .ref 10 :: st, S) r ↔ XL SK MT d 141 (309, lv, .ref 9 :: st, S) r := X_heap rfl rfl rfl rfl rfl
theorem rX5_layObjects_309 {d : Nat} {lv : xLV} {st : List Value} {S : xS} {r : xO} : XL SK MT d 141 (309, lv, st, S) r ↔ XL SK MT d 141 (311, lv, .int 65543 :: st, S) r := X_pure rfl rfl rfl
theorem rX5_layObjects_311 {d : Nat} {lv : xLV} {S : xS} {r : xO} {x1 : Int32} : XL SK MT d 141 (311, lv, [.int x1, .ref 9], S) r ↔ xK (XC SK MT d 3 [.ref 9, .int x1] S) (fun v S => XL SK MT d 141 (314, lv, v.toList ++ [], S) r) := X_inv (n := 2) (kd := 2) (st0 := [.int x1, .ref 9]) rfl (Or.inr ⟨rfl, rfl⟩) rfl (Nat.le_of_ble_eq_true rfl) (Nat.le_of_ble_eq_true rfl) (by decide) rfl
theorem rX5_layObjects_314 {d : Nat} {lv : xLV} {st : List Value} {S : xS} {r : xO} : XL SK MT d 141 (314, lv, st, S) r ↔ xA (xlook lv 0) (fun x => XL SK MT d 141 (315, lv, .ref x :: st, S) r) := X_ldA rfl rfl (fun _ => rfl) rfl rfl rfl rfl
theorem rX5_layObjects_315 {d : Nat} {lv : xLV} {st : List Value} {S : xS} {r : xO} : XL SK MT d 141 (315, lv, .ref 10 :: st, S) r ↔ XL SK MT d 141 (318, lv, .ref 9 :: st, S) r := X_heap rfl rfl rfl rfl rfl
theorem rX5_layObjects_318 {d : Nat} {lv : xLV} {st : List Value} {S : xS} {r : xO} : XL SK MT d 141 (318, lv, st, S) r ↔ XL SK MT d 141 (320, lv, .int 10 :: st, S) r := X_pure rfl rfl rfl
theorem rX5_layObjects_320 {d : Nat} {lv : xLV} {st : List Value} {S : xS} {r : xO} : XL SK MT d 141 (320, lv, st, S) r ↔ XL SK MT d 141 (321, lv, .int 0 :: st, S) r := X_pure rfl rfl rfl
theorem rX5_layObjects_321 {d : Nat} {lv : xLV} {st : List Value} {S : xS} {r : xO} : XL SK MT d 141 (321, lv, st, S) r ↔ XL SK MT d 141 (323, lv, .int 17 :: st, S) r := X_pure rfl rfl rfl
theorem rX5_layObjects_323 {d : Nat} {lv : xLV} {S : xS} {r : xO} {x1 : Int32} {x2 : Int32} {x3 : Int32} : XL SK MT d 141 (323, lv, [.int x3, .int x2, .int x1, .ref 9], S) r ↔ xK (XC SK MT d 18 [.ref 9, .int x1, .int x2, .int x3] S) (fun v S => XL SK MT d 141 (326, lv, v.toList ++ [], S) r) := X_inv (n := 4) (kd := 2) (st0 := [.int x3, .int x2, .int x1, .ref 9]) rfl (Or.inr ⟨rfl, rfl⟩) rfl (Nat.le_of_ble_eq_true rfl) (Nat.le_of_ble_eq_true rfl) (by decide) rfl
theorem rX5_layObjects_326 {d : Nat} {lv : xLV} {st : List Value} {S : xS} {r : xO} : XL SK MT d 141 (326, lv, st, S) r ↔ xA (xlook lv 0) (fun x => XL SK MT d 141 (327, lv, .ref x :: st, S) r) := X_ldA rfl rfl (fun _ => rfl) rfl rfl rfl rfl
theorem rX5_layObjects_327 {d : Nat} {lv : xLV} {st : List Value} {S : xS} {r : xO} : XL SK MT d 141 (327, lv, .ref 10 :: st, S) r ↔ XL SK MT d 141 (330, lv, .ref 9 :: st, S) r := X_heap rfl rfl rfl rfl rfl
theorem rX5_layObjects_330 {d : Nat} {lv : xLV} {st : List Value} {S : xS} {r : xO} : XL SK MT d 141 (330, lv, st, S) r ↔ XL SK MT d 141 (332, lv, .int 11 :: st, S) r := X_pure rfl rfl rfl
theorem rX5_layObjects_332 {d : Nat} {lv : xLV} {st : List Value} {S : xS} {r : xO} : XL SK MT d 141 (332, lv, st, S) r ↔ XL SK MT d 141 (334, lv, .int (-4) :: st, S) r := X_pure rfl rfl rfl
theorem rX5_layObjects_334 {d : Nat} {lv : xLV} {st : List Value} {S : xS} {r : xO} : XL SK MT d 141 (334, lv, st, S) r ↔ XL SK MT d 141 (336, lv, .int 16 :: st, S) r := X_pure rfl rfl rfl
theorem rX5_layObjects_336 {d : Nat} {lv : xLV} {S : xS} {r : xO} {x1 : Int32} {x2 : Int32} {x3 : Int32} : XL SK MT d 141 (336, lv, [.int x3, .int x2, .int x1, .ref 9], S) r ↔ xK (XC SK MT d 18 [.ref 9, .int x1, .int x2, .int x3] S) (fun v S => XL SK MT d 141 (339, lv, v.toList ++ [], S) r) := X_inv (n := 4) (kd := 2) (st0 := [.int x3, .int x2, .int x1, .ref 9]) rfl (Or.inr ⟨rfl, rfl⟩) rfl (Nat.le_of_ble_eq_true rfl) (Nat.le_of_ble_eq_true rfl) (by decide) rfl
theorem rX5_layObjects_339 {d : Nat} {lv : xLV} {st : List Value} {S : xS} {r : xO} : XL SK MT d 141 (339, lv, st, S) r ↔ xA (xlook lv 0) (fun x => XL SK MT d 141 (340, lv, .ref x :: st, S) r) := X_ldA rfl rfl (fun _ => rfl) rfl rfl rfl rfl
theorem rX5_layObjects_340 {d : Nat} {lv : xLV} {st : List Value} {S : xS} {r : xO} : XL SK MT d 141 (340, lv, .ref 10 :: st, S) r ↔ XL SK MT d 141 (343, lv, .ref 9 :: st, S) r := X_heap rfl rfl rfl rfl rfl
theorem rX5_layObjects_343 {d : Nat} {lv : xLV} {st : List Value} {S : xS} {r : xO} : XL SK MT d 141 (343, lv, st, S) r ↔ XL SK MT d 141 (345, lv, .int 10 :: st, S) r := X_pure rfl rfl rfl
theorem rX5_layObjects_345 {d : Nat} {lv : xLV} {st : List Value} {S : xS} {r : xO} : XL SK MT d 141 (345, lv, st, S) r ↔ XL SK MT d 141 (347, lv, .int 10 :: st, S) r := X_pure rfl rfl rfl
theorem rX5_layObjects_347 {d : Nat} {lv : xLV} {st : List Value} {S : xS} {r : xO} : XL SK MT d 141 (347, lv, st, S) r ↔ XL SK MT d 141 (349, lv, .int 8 :: st, S) r := X_pure rfl rfl rfl
theorem rX5_layObjects_349 {d : Nat} {lv : xLV} {S : xS} {r : xO} {x1 : Int32} {x2 : Int32} {x3 : Int32} : XL SK MT d 141 (349, lv, [.int x3, .int x2, .int x1, .ref 9], S) r ↔ xK (XC SK MT d 20 [.ref 9, .int x1, .int x2, .int x3] S) (fun v S => XL SK MT d 141 (352, lv, v.toList ++ [], S) r) := X_inv (n := 4) (kd := 2) (st0 := [.int x3, .int x2, .int x1, .ref 9]) rfl (Or.inr ⟨rfl, rfl⟩) rfl (Nat.le_of_ble_eq_true rfl) (Nat.le_of_ble_eq_true rfl) (by decide) rfl
theorem rX5_layObjects_352 {d : Nat} {lv : xLV} {st : List Value} {S : xS} {r : xO} : XL SK MT d 141 (352, lv, st, S) r ↔ xA (xlook lv 0) (fun x => XL SK MT d 141 (353, lv, .ref x :: st, S) r) := X_ldA rfl rfl (fun _ => rfl) rfl rfl rfl rfl
theorem rX5_layObjects_353 {d : Nat} {lv : xLV} {st : List Value} {S : xS} {r : xO} : XL SK MT d 141 (353, lv, .ref 10 :: st, S) r ↔ XL SK MT d 141 (356, lv, .ref 9 :: st, S) r := X_heap rfl rfl rfl rfl rfl
theorem rX5_layObjects_356 {d : Nat} {lv : xLV} {st : List Value} {S : xS} {r : xO} : XL SK MT d 141 (356, lv, st, S) r ↔ XL SK MT d 141 (358, lv, .int 11 :: st, S) r := X_pure rfl rfl rfl
theorem rX5_layObjects_358 {d : Nat} {lv : xLV} {st : List Value} {S : xS} {r : xO} : XL SK MT d 141 (358, lv, st, S) r ↔ XL SK MT d 141 (360, lv, .int 11 :: st, S) r := X_pure rfl rfl rfl
theorem rX5_layObjects_360 {d : Nat} {lv : xLV} {st : List Value} {S : xS} {r : xO} : XL SK MT d 141 (360, lv, st, S) r ↔ XL SK MT d 141 (362, lv, .int 8 :: st, S) r := X_pure rfl rfl rfl
theorem rX5_layObjects_362 {d : Nat} {lv : xLV} {S : xS} {r : xO} {x1 : Int32} {x2 : Int32} {x3 : Int32} : XL SK MT d 141 (362, lv, [.int x3, .int x2, .int x1, .ref 9], S) r ↔ xK (XC SK MT d 20 [.ref 9, .int x1, .int x2, .int x3] S) (fun v S => XL SK MT d 141 (365, lv, v.toList ++ [], S) r) := X_inv (n := 4) (kd := 2) (st0 := [.int x3, .int x2, .int x1, .ref 9]) rfl (Or.inr ⟨rfl, rfl⟩) rfl (Nat.le_of_ble_eq_true rfl) (Nat.le_of_ble_eq_true rfl) (by decide) rfl
theorem rX5_layObjects_365 {d : Nat} {lv : xLV} {st : List Value} {S : xS} {r : xO} : XL SK MT d 141 (365, lv, st, S) r ↔ xA (xlook lv 0) (fun x => XL SK MT d 141 (366, lv, .ref x :: st, S) r) := X_ldA rfl rfl (fun _ => rfl) rfl rfl rfl rfl
theorem rX5_layObjects_366 {d : Nat} {lv : xLV} {st : List Value} {S : xS} {r : xO} : XL SK MT d 141 (366, lv, .ref 10 :: st, S) r ↔ XL SK MT d 141 (369, lv, .ref 9 :: st, S) r := X_heap rfl rfl rfl rfl rfl
theorem rX5_layObjects_369 {d : Nat} {lv : xLV} {st : List Value} {S : xS} {r : xO} : XL SK MT d 141 (369, lv, st, S) r ↔ XL SK MT d 141 (371, lv, .int 33 :: st, S) r := X_pure rfl rfl rfl
theorem rX5_layObjects_371 {d : Nat} {lv : xLV} {st : List Value} {S : xS} {r : xO} : XL SK MT d 141 (371, lv, st, S) r ↔ XL SK MT d 141 (373, lv, .int 12 :: st, S) r := X_pure rfl rfl rfl
theorem rX5_layObjects_373 {d : Nat} {lv : xLV} {st : List Value} {S : xS} {r : xO} : XL SK MT d 141 (373, lv, st, S) r ↔ XL SK MT d 141 (375, lv, .int 11 :: st, S) r := X_pure rfl rfl rfl
theorem rX5_layObjects_375 {d : Nat} {lv : xLV} {st : List Value} {S : xS} {r : xO} : XL SK MT d 141 (375, lv, st, S) r ↔ XL SK MT d 141 (376, lv, .int 5 :: st, S) r := X_pure rfl rfl rfl
theorem rX5_layObjects_376 {d : Nat} {lv : xLV} {S : xS} {r : xO} {x1 : Int32} {x2 : Int32} {x3 : Int32} {x4 : Int32} : XL SK MT d 141 (376, lv, [.int x4, .int x3, .int x2, .int x1, .ref 9], S) r ↔ xK (XC SK MT d 15 [.ref 9, .int x1, .int x2, .int x3, .int x4] S) (fun v S => XL SK MT d 141 (379, lv, v.toList ++ [], S) r) := X_inv (n := 5) (kd := 2) (st0 := [.int x4, .int x3, .int x2, .int x1, .ref 9]) rfl (Or.inr ⟨rfl, rfl⟩) rfl (Nat.le_of_ble_eq_true rfl) (Nat.le_of_ble_eq_true rfl) (by decide) rfl
theorem rX5_layObjects_379 {d : Nat} {lv : xLV} {st : List Value} {S : xS} {r : xO} : XL SK MT d 141 (379, lv, st, S) r ↔ xA (xlook lv 0) (fun x => XL SK MT d 141 (380, lv, .ref x :: st, S) r) := X_ldA rfl rfl (fun _ => rfl) rfl rfl rfl rfl
theorem rX5_layObjects_380 {d : Nat} {lv : xLV} {S : xS} {r : xO} : XL SK MT d 141 (380, lv, [.ref 10], S) r ↔ xK (XC SK MT d 140 [.ref 10] S) (fun v S => XL SK MT d 141 (383, lv, v.toList ++ [], S) r) := X_inv (n := 1) (kd := 7) (st0 := [.ref 10]) rfl (Or.inr ⟨rfl, rfl⟩) rfl (Nat.le_of_ble_eq_true rfl) (Nat.le_of_ble_eq_true rfl) (by decide) rfl
theorem rX5_layObjects_383 {d : Nat} {lv : xLV} {st : List Value} {S : xS} {r : xO} : XL SK MT d 141 (383, lv, st, S) r ↔ xA (xlook lv 0) (fun x => XL SK MT d 141 (384, lv, .ref x :: st, S) r) := X_ldA rfl rfl (fun _ => rfl) rfl rfl rfl rfl
theorem rX5_layObjects_384 {d : Nat} {lv : xLV} {st : List Value} {S : xS} {r : xO} : XL SK MT d 141 (384, lv, .ref 10 :: st, S) r ↔ XL SK MT d 141 (387, lv, .ref 9 :: st, S) r := X_heap rfl rfl rfl rfl rfl
theorem rX5_layObjects_387 {d : Nat} {lv : xLV} {st : List Value} {S : xS} {r : xO} : XL SK MT d 141 (387, lv, st, S) r ↔ XL SK MT d 141 (389, lv, .int 31 :: st, S) r := X_pure rfl rfl rfl
theorem rX5_layObjects_389 {d : Nat} {lv : xLV} {S : xS} {r : xO} {x1 : Int32} : XL SK MT d 141 (389, lv, [.int x1, .ref 9], S) r ↔ xK (XC SK MT d 29 [.ref 9, .int x1] S) (fun v S => XL SK MT d 141 (392, lv, v.toList ++ [], S) r) := X_inv (n := 2) (kd := 2) (st0 := [.int x1, .ref 9]) rfl (Or.inr ⟨rfl, rfl⟩) rfl (Nat.le_of_ble_eq_true rfl) (Nat.le_of_ble_eq_true rfl) (by decide) rfl
theorem rX5_layObjects_392 {d : Nat} {lv : xLV} {st : List Value} {S : xS} {r : xO} : XL SK MT d 141 (392, lv, st, S) r ↔ xA (xlook lv 0) (fun x => XL SK MT d 141 (393, lv, .ref x :: st, S) r) := X_ldA rfl rfl (fun _ => rfl) rfl rfl rfl rfl
theorem rX5_layObjects_393 {d : Nat} {lv : xLV} {st : List Value} {S : xS} {r : xO} : XL SK MT d 141 (393, lv, .ref 10 :: st, S) r ↔ XL SK MT d 141 (396, lv, .ref 9 :: st, S) r := X_heap rfl rfl rfl rfl rfl
theorem rX5_layObjects_396 {d : Nat} {lv : xLV} {st : List Value} {S : xS} {r : xO} : XL SK MT d 141 (396, lv, st, S) r ↔ XL SK MT d 141 (398, lv, .int 65544 :: st, S) r := X_pure rfl rfl rfl
theorem rX5_layObjects_398 {d : Nat} {lv : xLV} {S : xS} {r : xO} {x1 : Int32} : XL SK MT d 141 (398, lv, [.int x1, .ref 9], S) r ↔ xK (XC SK MT d 3 [.ref 9, .int x1] S) (fun v S => XL SK MT d 141 (401, lv, v.toList ++ [], S) r) := X_inv (n := 2) (kd := 2) (st0 := [.int x1, .ref 9]) rfl (Or.inr ⟨rfl, rfl⟩) rfl (Nat.le_of_ble_eq_true rfl) (Nat.le_of_ble_eq_true rfl) (by decide) rfl
theorem rX5_layObjects_401 {d : Nat} {lv : xLV} {st : List Value} {S : xS} {r : xO} : XL SK MT d 141 (401, lv, st, S) r ↔ xA (xlook lv 0) (fun x => XL SK MT d 141 (402, lv, .ref x :: st, S) r) := X_ldA rfl rfl (fun _ => rfl) rfl rfl rfl rfl
theorem rX5_layObjects_402 {d : Nat} {lv : xLV} {st : List Value} {S : xS} {r : xO} : XL SK MT d 141 (402, lv, .ref 10 :: st, S) r ↔ XL SK MT d 141 (405, lv, .ref 9 :: st, S) r := X_heap rfl rfl rfl rfl rfl
theorem rX5_layObjects_405 {d : Nat} {lv : xLV} {st : List Value} {S : xS} {r : xO} : XL SK MT d 141 (405, lv, st, S) r ↔ XL SK MT d 141 (407, lv, .int 25 :: st, S) r := X_pure rfl rfl rfl
theorem rX5_layObjects_407 {d : Nat} {lv : xLV} {st : List Value} {S : xS} {r : xO} : XL SK MT d 141 (407, lv, st, S) r ↔ XL SK MT d 141 (409, lv, .int 31 :: st, S) r := X_pure rfl rfl rfl
theorem rX5_layObjects_409 {d : Nat} {lv : xLV} {S : xS} {r : xO} {x1 : Int32} {x2 : Int32} : XL SK MT d 141 (409, lv, [.int x2, .int x1, .ref 9], S) r ↔ xK (XC SK MT d 21 [.ref 9, .int x1, .int x2] S) (fun v S => XL SK MT d 141 (412, lv, v.toList ++ [], S) r) := X_inv (n := 3) (kd := 2) (st0 := [.int x2, .int x1, .ref 9]) rfl (Or.inr ⟨rfl, rfl⟩) rfl (Nat.le_of_ble_eq_true rfl) (Nat.le_of_ble_eq_true rfl) (by decide) rfl
theorem rX5_layObjects_412 {d : Nat} {lv : xLV} {st : List Value} {S : xS} {r : xO} : XL SK MT d 141 (412, lv, st, S) r ↔ xA (xlook lv 0) (fun x => XL SK MT d 141 (413, lv, .ref x :: st, S) r) := X_ldA rfl rfl (fun _ => rfl) rfl rfl rfl rfl
theorem rX5_layObjects_413 {d : Nat} {lv : xLV} {st : List Value} {S : xS} {r : xO} : XL SK MT d 141 (413, lv, .ref 10 :: st, S) r ↔ XL SK MT d 141 (416, lv, .ref 9 :: st, S) r := X_heap rfl rfl rfl rfl rfl
theorem rX5_layObjects_416 {d : Nat} {lv : xLV} {st : List Value} {S : xS} {r : xO} : XL SK MT d 141 (416, lv, st, S) r ↔ XL SK MT d 141 (418, lv, .int 10 :: st, S) r := X_pure rfl rfl rfl
theorem rX5_layObjects_418 {d : Nat} {lv : xLV} {st : List Value} {S : xS} {r : xO} : XL SK MT d 141 (418, lv, st, S) r ↔ XL SK MT d 141 (419, lv, .int 0 :: st, S) r := X_pure rfl rfl rfl
theorem rX5_layObjects_419 {d : Nat} {lv : xLV} {S : xS} {r : xO} {x1 : Int32} {x2 : Int32} : XL SK MT d 141 (419, lv, [.int x2, .int x1, .ref 9], S) r ↔ xK (XC SK MT d 22 [.ref 9, .int x1, .int x2] S) (fun v S => XL SK MT d 141 (422, lv, v.toList ++ [], S) r) := X_inv (n := 3) (kd := 2) (st0 := [.int x2, .int x1, .ref 9]) rfl (Or.inr ⟨rfl, rfl⟩) rfl (Nat.le_of_ble_eq_true rfl) (Nat.le_of_ble_eq_true rfl) (by decide) rfl
theorem rX5_layObjects_422 {d : Nat} {lv : xLV} {st : List Value} {S : xS} {r : xO} : XL SK MT d 141 (422, lv, st, S) r ↔ xA (xlook lv 0) (fun x => XL SK MT d 141 (423, lv, .ref x :: st, S) r) := X_ldA rfl rfl (fun _ => rfl) rfl rfl rfl rfl
theorem rX5_layObjects_423 {d : Nat} {lv : xLV} {st : List Value} {S : xS} {r : xO} : XL SK MT d 141 (423, lv, .ref 10 :: st, S) r ↔ XL SK MT d 141 (426, lv, .ref 9 :: st, S) r := X_heap rfl rfl rfl rfl rfl
theorem rX5_layObjects_426 {d : Nat} {lv : xLV} {S : xS} {r : xO} : XL SK MT d 141 (426, lv, [.ref 9], S) r ↔ xK (XC SK MT d 2 [.ref 9] S) (fun v S => XL SK MT d 141 (429, lv, v.toList ++ [], S) r) := X_inv (n := 1) (kd := 2) (st0 := [.ref 9]) rfl (Or.inr ⟨rfl, rfl⟩) rfl (Nat.le_of_ble_eq_true rfl) (Nat.le_of_ble_eq_true rfl) (by decide) rfl
theorem rX5_layObjects_429 {d : Nat} {lv : xLV} {st : List Value} {S : xS} {r : xO} {x : Int32} : XL SK MT d 141 (429, lv, .int x :: st, S) r ↔ XL SK MT d 141 (430, xst1 lv 1 (.int x), st, S) r := X_pure rfl rfl rfl
theorem rX5_layObjects_430 {d : Nat} {lv : xLV} {st : List Value} {S : xS} {r : xO} : XL SK MT d 141 (430, lv, st, S) r ↔ xA (xlook lv 0) (fun x => XL SK MT d 141 (431, lv, .ref x :: st, S) r) := X_ldA rfl rfl (fun _ => rfl) rfl rfl rfl rfl
theorem rX5_layObjects_431 {d : Nat} {lv : xLV} {st : List Value} {S : xS} {r : xO} : XL SK MT d 141 (431, lv, .ref 10 :: st, S) r ↔ XL SK MT d 141 (434, lv, .ref 9 :: st, S) r := X_heap rfl rfl rfl rfl rfl
theorem rX5_layObjects_434 {d : Nat} {lv : xLV} {st : List Value} {S : xS} {r : xO} : XL SK MT d 141 (434, lv, st, S) r ↔ XL SK MT d 141 (435, lv, .int 4 :: st, S) r := X_pure rfl rfl rfl
theorem rX5_layObjects_435 {d : Nat} {lv : xLV} {st : List Value} {S : xS} {r : xO} : XL SK MT d 141 (435, lv, st, S) r ↔ XL SK MT d 141 (438, lv, .int 576 :: st, S) r := X_pure rfl rfl rfl
theorem rX5_layObjects_438 {d : Nat} {lv : xLV} {st : List Value} {S : xS} {r : xO} : XL SK MT d 141 (438, lv, st, S) r ↔ XL SK MT d 141 (440, lv, .int 10 :: st, S) r := X_pure rfl rfl rfl
theorem rX5_layObjects_440 {d : Nat} {lv : xLV} {S : xS} {r : xO} {x1 : Int32} {x2 : Int32} {x3 : Int32} : XL SK MT d 141 (440, lv, [.int x3, .int x2, .int x1, .ref 9], S) r ↔ xK (XC SK MT d 18 [.ref 9, .int x1, .int x2, .int x3] S) (fun v S => XL SK MT d 141 (443, lv, v.toList ++ [], S) r) := X_inv (n := 4) (kd := 2) (st0 := [.int x3, .int x2, .int x1, .ref 9]) rfl (Or.inr ⟨rfl, rfl⟩) rfl (Nat.le_of_ble_eq_true rfl) (Nat.le_of_ble_eq_true rfl) (by decide) rfl
theorem rX5_layObjects_443 {d : Nat} {lv : xLV} {st : List Value} {S : xS} {r : xO} : XL SK MT d 141 (443, lv, st, S) r ↔ xA (xlook lv 0) (fun x => XL SK MT d 141 (444, lv, .ref x :: st, S) r) := X_ldA rfl rfl (fun _ => rfl) rfl rfl rfl rfl
theorem rX5_layObjects_444 {d : Nat} {lv : xLV} {st : List Value} {S : xS} {r : xO} : XL SK MT d 141 (444, lv, .ref 10 :: st, S) r ↔ XL SK MT d 141 (447, lv, .ref 9 :: st, S) r := X_heap rfl rfl rfl rfl rfl
theorem rX5_layObjects_447 {d : Nat} {lv : xLV} {st : List Value} {S : xS} {r : xO} : XL SK MT d 141 (447, lv, st, S) r ↔ XL SK MT d 141 (449, lv, .int 65536 :: st, S) r := X_pure rfl rfl rfl
theorem rX5_layObjects_449 {d : Nat} {lv : xLV} {S : xS} {r : xO} {x1 : Int32} : XL SK MT d 141 (449, lv, [.int x1, .ref 9], S) r ↔ xK (XC SK MT d 28 [.ref 9, .int x1] S) (fun v S => XL SK MT d 141 (452, lv, v.toList ++ [], S) r) := X_inv (n := 2) (kd := 2) (st0 := [.int x1, .ref 9]) rfl (Or.inr ⟨rfl, rfl⟩) rfl (Nat.le_of_ble_eq_true rfl) (Nat.le_of_ble_eq_true rfl) (by decide) rfl
theorem rX5_layObjects_452 {d : Nat} {lv : xLV} {st : List Value} {S : xS} {r : xO} : XL SK MT d 141 (452, lv, st, S) r ↔ xA (xlook lv 0) (fun x => XL SK MT d 141 (453, lv, .ref x :: st, S) r) := X_ldA rfl rfl (fun _ => rfl) rfl rfl rfl rfl
theorem rX5_layObjects_453 {d : Nat} {lv : xLV} {st : List Value} {S : xS} {r : xO} : XL SK MT d 141 (453, lv, .ref 10 :: st, S) r ↔ XL SK MT d 141 (456, lv, .ref 9 :: st, S) r := X_heap rfl rfl rfl rfl rfl
theorem rX5_layObjects_456 {d : Nat} {lv : xLV} {st : List Value} {S : xS} {r : xO} : XL SK MT d 141 (456, lv, st, S) r ↔ XL SK MT d 141 (458, lv, .int 10 :: st, S) r := X_pure rfl rfl rfl
theorem rX5_layObjects_458 {d : Nat} {lv : xLV} {st : List Value} {S : xS} {r : xO} : XL SK MT d 141 (458, lv, st, S) r ↔ XL SK MT d 141 (460, lv, .int 10 :: st, S) r := X_pure rfl rfl rfl
theorem rX5_layObjects_460 {d : Nat} {lv : xLV} {st : List Value} {S : xS} {r : xO} : XL SK MT d 141 (460, lv, st, S) r ↔ XL SK MT d 141 (461, lv, .int 4 :: st, S) r := X_pure rfl rfl rfl
theorem rX5_layObjects_461 {d : Nat} {lv : xLV} {S : xS} {r : xO} {x1 : Int32} {x2 : Int32} {x3 : Int32} : XL SK MT d 141 (461, lv, [.int x3, .int x2, .int x1, .ref 9], S) r ↔ xK (XC SK MT d 20 [.ref 9, .int x1, .int x2, .int x3] S) (fun v S => XL SK MT d 141 (464, lv, v.toList ++ [], S) r) := X_inv (n := 4) (kd := 2) (st0 := [.int x3, .int x2, .int x1, .ref 9]) rfl (Or.inr ⟨rfl, rfl⟩) rfl (Nat.le_of_ble_eq_true rfl) (Nat.le_of_ble_eq_true rfl) (by decide) rfl
theorem rX5_layObjects_464 {d : Nat} {lv : xLV} {st : List Value} {S : xS} {r : xO} : XL SK MT d 141 (464, lv, st, S) r ↔ xA (xlook lv 0) (fun x => XL SK MT d 141 (465, lv, .ref x :: st, S) r) := X_ldA rfl rfl (fun _ => rfl) rfl rfl rfl rfl
theorem rX5_layObjects_465 {d : Nat} {lv : xLV} {st : List Value} {S : xS} {r : xO} : XL SK MT d 141 (465, lv, .ref 10 :: st, S) r ↔ XL SK MT d 141 (468, lv, .ref 9 :: st, S) r := X_heap rfl rfl rfl rfl rfl
theorem rX5_layObjects_468 {d : Nat} {lv : xLV} {st : List Value} {S : xS} {r : xO} : XL SK MT d 141 (468, lv, st, S) r ↔ XL SK MT d 141 (469, lv, .int 5 :: st, S) r := X_pure rfl rfl rfl
theorem rX5_layObjects_469 {d : Nat} {lv : xLV} {st : List Value} {S : xS} {r : xO} : XL SK MT d 141 (469, lv, st, S) r ↔ XL SK MT d 141 (471, lv, .int 10 :: st, S) r := X_pure rfl rfl rfl
theorem rX5_layObjects_471 {d : Nat} {lv : xLV} {st : List Value} {S : xS} {r : xO} : XL SK MT d 141 (471, lv, st, S) r ↔ XL SK MT d 141 (472, lv, .int 5 :: st, S) r := X_pure rfl rfl rfl
theorem rX5_layObjects_472 {d : Nat} {lv : xLV} {st : List Value} {S : xS} {r : xO} : XL SK MT d 141 (472, lv, st, S) r ↔ xI (xlook lv 1) (fun x => XL SK MT d 141 (473, lv, .int x :: st, S) r) := X_ldI rfl rfl (fun _ => rfl) rfl rfl rfl rfl
theorem rX5_layObjects_473 {d : Nat} {lv : xLV} {S : xS} {r : xO} {x1 : Int32} {x2 : Int32} {x3 : Int32} {x4 : Int32} : XL SK MT d 141 (473, lv, [.int x4, .int x3, .int x2, .int x1, .ref 9], S) r ↔ xK (XC SK MT d 24 [.ref 9, .int x1, .int x2, .int x3, .int x4] S) (fun v S => XL SK MT d 141 (476, lv, v.toList ++ [], S) r) := X_inv (n := 5) (kd := 2) (st0 := [.int x4, .int x3, .int x2, .int x1, .ref 9]) rfl (Or.inr ⟨rfl, rfl⟩) rfl (Nat.le_of_ble_eq_true rfl) (Nat.le_of_ble_eq_true rfl) (by decide) rfl
theorem rX5_layObjects_476 {d : Nat} {lv : xLV} {st : List Value} {S : xS} {r : xO} : XL SK MT d 141 (476, lv, st, S) r ↔ xA (xlook lv 0) (fun x => XL SK MT d 141 (477, lv, .ref x :: st, S) r) := X_ldA rfl rfl (fun _ => rfl) rfl rfl rfl rfl
theorem rX5_layObjects_477 {d : Nat} {lv : xLV} {st : List Value} {S : xS} {r : xO} : XL SK MT d 141 (477, lv, .ref 10 :: st, S) r ↔ XL SK MT d 141 (480, lv, .ref 9 :: st, S) r := X_heap rfl rfl rfl rfl rfl
theorem rX5_layObjects_480 {d : Nat} {lv : xLV} {st : List Value} {S : xS} {r : xO} : XL SK MT d 141 (480, lv, st, S) r ↔ XL SK MT d 141 (482, lv, .int 25 :: st, S) r := X_pure rfl rfl rfl
theorem rX5_layObjects_482 {d : Nat} {lv : xLV} {S : xS} {r : xO} {x1 : Int32} : XL SK MT d 141 (482, lv, [.int x1, .ref 9], S) r ↔ xK (XC SK MT d 29 [.ref 9, .int x1] S) (fun v S => XL SK MT d 141 (485, lv, v.toList ++ [], S) r) := X_inv (n := 2) (kd := 2) (st0 := [.int x1, .ref 9]) rfl (Or.inr ⟨rfl, rfl⟩) rfl (Nat.le_of_ble_eq_true rfl) (Nat.le_of_ble_eq_true rfl) (by decide) rfl
theorem rX5_layObjects_485 {d : Nat} {lv : xLV} {S : xS} {r : xO} : XL SK MT d 141 (485, lv, [], S) r ↔ (none, S) = r := X_ret rfl rfl rfl rfl rfl rfl

theorem rX5_layCons_0 {d : Nat} {lv : xLV} {st : List Value} {S : xS} {r : xO} : XL SK MT d 142 (0, lv, st, S) r ↔ xA (xlook lv 0) (fun x => XL SK MT d 142 (1, lv, .ref x :: st, S) r) := X_ldA rfl rfl (fun _ => rfl) rfl rfl rfl rfl
theorem rX5_layCons_1 {d : Nat} {lv : xLV} {st : List Value} {S : xS} {r : xO} : XL SK MT d 142 (1, lv, .ref 10 :: st, S) r ↔ XL SK MT d 142 (4, lv, .ref 9 :: st, S) r := X_heap rfl rfl rfl rfl rfl
theorem rX5_layCons_4 {d : Nat} {lv : xLV} {st : List Value} {S : xS} {r : xO} : XL SK MT d 142 (4, lv, st, S) r ↔ XL SK MT d 142 (6, lv, .int 65542 :: st, S) r := X_pure rfl rfl rfl
theorem rX5_layCons_6 {d : Nat} {lv : xLV} {S : xS} {r : xO} {x1 : Int32} : XL SK MT d 142 (6, lv, [.int x1, .ref 9], S) r ↔ xK (XC SK MT d 3 [.ref 9, .int x1] S) (fun v S => XL SK MT d 142 (9, lv, v.toList ++ [], S) r) := X_inv (n := 2) (kd := 2) (st0 := [.int x1, .ref 9]) rfl (Or.inr ⟨rfl, rfl⟩) rfl (Nat.le_of_ble_eq_true rfl) (Nat.le_of_ble_eq_true rfl) (by decide) rfl
theorem rX5_layCons_9 {d : Nat} {lv : xLV} {st : List Value} {S : xS} {r : xO} : XL SK MT d 142 (9, lv, st, S) r ↔ xA (xlook lv 0) (fun x => XL SK MT d 142 (10, lv, .ref x :: st, S) r) := X_ldA rfl rfl (fun _ => rfl) rfl rfl rfl rfl
theorem rX5_layCons_10 {d : Nat} {lv : xLV} {st : List Value} {S : xS} {r : xO} : XL SK MT d 142 (10, lv, .ref 10 :: st, S) r ↔ XL SK MT d 142 (13, lv, .ref 9 :: st, S) r := X_heap rfl rfl rfl rfl rfl
theorem rX5_layCons_13 {d : Nat} {lv : xLV} {st : List Value} {S : xS} {r : xO} : XL SK MT d 142 (13, lv, st, S) r ↔ XL SK MT d 142 (15, lv, .int 25 :: st, S) r := X_pure rfl rfl rfl
theorem rX5_layCons_15 {d : Nat} {lv : xLV} {st : List Value} {S : xS} {r : xO} : XL SK MT d 142 (15, lv, st, S) r ↔ XL SK MT d 142 (17, lv, .int 31 :: st, S) r := X_pure rfl rfl rfl
theorem rX5_layCons_17 {d : Nat} {lv : xLV} {S : xS} {r : xO} {x1 : Int32} {x2 : Int32} : XL SK MT d 142 (17, lv, [.int x2, .int x1, .ref 9], S) r ↔ xK (XC SK MT d 21 [.ref 9, .int x1, .int x2] S) (fun v S => XL SK MT d 142 (20, lv, v.toList ++ [], S) r) := X_inv (n := 3) (kd := 2) (st0 := [.int x2, .int x1, .ref 9]) rfl (Or.inr ⟨rfl, rfl⟩) rfl (Nat.le_of_ble_eq_true rfl) (Nat.le_of_ble_eq_true rfl) (by decide) rfl
theorem rX5_layCons_20 {d : Nat} {lv : xLV} {st : List Value} {S : xS} {r : xO} : XL SK MT d 142 (20, lv, st, S) r ↔ xA (xlook lv 0) (fun x => XL SK MT d 142 (21, lv, .ref x :: st, S) r) := X_ldA rfl rfl (fun _ => rfl) rfl rfl rfl rfl
theorem rX5_layCons_21 {d : Nat} {lv : xLV} {st : List Value} {S : xS} {r : xO} : XL SK MT d 142 (21, lv, .ref 10 :: st, S) r ↔ XL SK MT d 142 (24, lv, .ref 9 :: st, S) r := X_heap rfl rfl rfl rfl rfl
theorem rX5_layCons_24 {d : Nat} {lv : xLV} {st : List Value} {S : xS} {r : xO} : XL SK MT d 142 (24, lv, st, S) r ↔ XL SK MT d 142 (25, lv, .int 4 :: st, S) r := X_pure rfl rfl rfl
theorem rX5_layCons_25 {d : Nat} {lv : xLV} {st : List Value} {S : xS} {r : xO} : XL SK MT d 142 (25, lv, st, S) r ↔ XL SK MT d 142 (27, lv, .int 20 :: st, S) r := X_pure rfl rfl rfl
theorem rX5_layCons_27 {d : Nat} {lv : xLV} {S : xS} {r : xO} {x1 : Int32} {x2 : Int32} : XL SK MT d 142 (27, lv, [.int x2, .int x1, .ref 9], S) r ↔ xK (XC SK MT d 22 [.ref 9, .int x1, .int x2] S) (fun v S => XL SK MT d 142 (30, lv, v.toList ++ [], S) r) := X_inv (n := 3) (kd := 2) (st0 := [.int x2, .int x1, .ref 9]) rfl (Or.inr ⟨rfl, rfl⟩) rfl (Nat.le_of_ble_eq_true rfl) (Nat.le_of_ble_eq_true rfl) (by decide) rfl
theorem rX5_layCons_30 {d : Nat} {lv : xLV} {st : List Value} {S : xS} {r : xO} : XL SK MT d 142 (30, lv, st, S) r ↔ xA (xlook lv 0) (fun x => XL SK MT d 142 (31, lv, .ref x :: st, S) r) := X_ldA rfl rfl (fun _ => rfl) rfl rfl rfl rfl
theorem rX5_layCons_31 {d : Nat} {lv : xLV} {st : List Value} {S : xS} {r : xO} : XL SK MT d 142 (31, lv, .ref 10 :: st, S) r ↔ XL SK MT d 142 (34, lv, .ref 9 :: st, S) r := X_heap rfl rfl rfl rfl rfl
theorem rX5_layCons_34 {d : Nat} {lv : xLV} {st : List Value} {S : xS} {r : xO} : XL SK MT d 142 (34, lv, st, S) r ↔ XL SK MT d 142 (36, lv, .int 65537 :: st, S) r := X_pure rfl rfl rfl
theorem rX5_layCons_36 {d : Nat} {lv : xLV} {S : xS} {r : xO} {x1 : Int32} : XL SK MT d 142 (36, lv, [.int x1, .ref 9], S) r ↔ xK (XC SK MT d 28 [.ref 9, .int x1] S) (fun v S => XL SK MT d 142 (39, lv, v.toList ++ [], S) r) := X_inv (n := 2) (kd := 2) (st0 := [.int x1, .ref 9]) rfl (Or.inr ⟨rfl, rfl⟩) rfl (Nat.le_of_ble_eq_true rfl) (Nat.le_of_ble_eq_true rfl) (by decide) rfl
theorem rX5_layCons_39 {d : Nat} {lv : xLV} {st : List Value} {S : xS} {r : xO} : XL SK MT d 142 (39, lv, st, S) r ↔ xA (xlook lv 0) (fun x => XL SK MT d 142 (40, lv, .ref x :: st, S) r) := X_ldA rfl rfl (fun _ => rfl) rfl rfl rfl rfl
theorem rX5_layCons_40 {d : Nat} {lv : xLV} {st : List Value} {S : xS} {r : xO} : XL SK MT d 142 (40, lv, .ref 10 :: st, S) r ↔ XL SK MT d 142 (43, lv, .ref 9 :: st, S) r := X_heap rfl rfl rfl rfl rfl
theorem rX5_layCons_43 {d : Nat} {lv : xLV} {st : List Value} {S : xS} {r : xO} : XL SK MT d 142 (43, lv, st, S) r ↔ XL SK MT d 142 (45, lv, .int 8 :: st, S) r := X_pure rfl rfl rfl
theorem rX5_layCons_45 {d : Nat} {lv : xLV} {st : List Value} {S : xS} {r : xO} : XL SK MT d 142 (45, lv, st, S) r ↔ XL SK MT d 142 (47, lv, .int 17 :: st, S) r := X_pure rfl rfl rfl
theorem rX5_layCons_47 {d : Nat} {lv : xLV} {S : xS} {r : xO} {x1 : Int32} {x2 : Int32} : XL SK MT d 142 (47, lv, [.int x2, .int x1, .ref 9], S) r ↔ xK (XC SK MT d 22 [.ref 9, .int x1, .int x2] S) (fun v S => XL SK MT d 142 (50, lv, v.toList ++ [], S) r) := X_inv (n := 3) (kd := 2) (st0 := [.int x2, .int x1, .ref 9]) rfl (Or.inr ⟨rfl, rfl⟩) rfl (Nat.le_of_ble_eq_true rfl) (Nat.le_of_ble_eq_true rfl) (by decide) rfl
theorem rX5_layCons_50 {d : Nat} {lv : xLV} {st : List Value} {S : xS} {r : xO} : XL SK MT d 142 (50, lv, st, S) r ↔ xA (xlook lv 0) (fun x => XL SK MT d 142 (51, lv, .ref x :: st, S) r) := X_ldA rfl rfl (fun _ => rfl) rfl rfl rfl rfl
theorem rX5_layCons_51 {d : Nat} {lv : xLV} {st : List Value} {S : xS} {r : xO} : XL SK MT d 142 (51, lv, .ref 10 :: st, S) r ↔ XL SK MT d 142 (54, lv, .ref 9 :: st, S) r := X_heap rfl rfl rfl rfl rfl
theorem rX5_layCons_54 {d : Nat} {lv : xLV} {st : List Value} {S : xS} {r : xO} : XL SK MT d 142 (54, lv, st, S) r ↔ XL SK MT d 142 (56, lv, .int 9 :: st, S) r := X_pure rfl rfl rfl
theorem rX5_layCons_56 {d : Nat} {lv : xLV} {st : List Value} {S : xS} {r : xO} : XL SK MT d 142 (56, lv, st, S) r ↔ XL SK MT d 142 (58, lv, .int (-8) :: st, S) r := X_pure rfl rfl rfl
theorem rX5_layCons_58 {d : Nat} {lv : xLV} {st : List Value} {S : xS} {r : xO} : XL SK MT d 142 (58, lv, st, S) r ↔ XL SK MT d 142 (60, lv, .int 16 :: st, S) r := X_pure rfl rfl rfl
theorem rX5_layCons_60 {d : Nat} {lv : xLV} {S : xS} {r : xO} {x1 : Int32} {x2 : Int32} {x3 : Int32} : XL SK MT d 142 (60, lv, [.int x3, .int x2, .int x1, .ref 9], S) r ↔ xK (XC SK MT d 18 [.ref 9, .int x1, .int x2, .int x3] S) (fun v S => XL SK MT d 142 (63, lv, v.toList ++ [], S) r) := X_inv (n := 4) (kd := 2) (st0 := [.int x3, .int x2, .int x1, .ref 9]) rfl (Or.inr ⟨rfl, rfl⟩) rfl (Nat.le_of_ble_eq_true rfl) (Nat.le_of_ble_eq_true rfl) (by decide) rfl
theorem rX5_layCons_63 {d : Nat} {lv : xLV} {st : List Value} {S : xS} {r : xO} : XL SK MT d 142 (63, lv, st, S) r ↔ xA (xlook lv 0) (fun x => XL SK MT d 142 (64, lv, .ref x :: st, S) r) := X_ldA rfl rfl (fun _ => rfl) rfl rfl rfl rfl
theorem rX5_layCons_64 {d : Nat} {lv : xLV} {st : List Value} {S : xS} {r : xO} : XL SK MT d 142 (64, lv, .ref 10 :: st, S) r ↔ XL SK MT d 142 (67, lv, .ref 9 :: st, S) r := X_heap rfl rfl rfl rfl rfl
theorem rX5_layCons_67 {d : Nat} {lv : xLV} {st : List Value} {S : xS} {r : xO} : XL SK MT d 142 (67, lv, st, S) r ↔ XL SK MT d 142 (69, lv, .int 10 :: st, S) r := X_pure rfl rfl rfl
theorem rX5_layCons_69 {d : Nat} {lv : xLV} {st : List Value} {S : xS} {r : xO} : XL SK MT d 142 (69, lv, st, S) r ↔ XL SK MT d 142 (71, lv, .int (-4) :: st, S) r := X_pure rfl rfl rfl
theorem rX5_layCons_71 {d : Nat} {lv : xLV} {st : List Value} {S : xS} {r : xO} : XL SK MT d 142 (71, lv, st, S) r ↔ XL SK MT d 142 (73, lv, .int 16 :: st, S) r := X_pure rfl rfl rfl
theorem rX5_layCons_73 {d : Nat} {lv : xLV} {S : xS} {r : xO} {x1 : Int32} {x2 : Int32} {x3 : Int32} : XL SK MT d 142 (73, lv, [.int x3, .int x2, .int x1, .ref 9], S) r ↔ xK (XC SK MT d 18 [.ref 9, .int x1, .int x2, .int x3] S) (fun v S => XL SK MT d 142 (76, lv, v.toList ++ [], S) r) := X_inv (n := 4) (kd := 2) (st0 := [.int x3, .int x2, .int x1, .ref 9]) rfl (Or.inr ⟨rfl, rfl⟩) rfl (Nat.le_of_ble_eq_true rfl) (Nat.le_of_ble_eq_true rfl) (by decide) rfl
theorem rX5_layCons_76 {d : Nat} {lv : xLV} {st : List Value} {S : xS} {r : xO} : XL SK MT d 142 (76, lv, st, S) r ↔ xA (xlook lv 0) (fun x => XL SK MT d 142 (77, lv, .ref x :: st, S) r) := X_ldA rfl rfl (fun _ => rfl) rfl rfl rfl rfl
theorem rX5_layCons_77 {d : Nat} {lv : xLV} {st : List Value} {S : xS} {r : xO} : XL SK MT d 142 (77, lv, .ref 10 :: st, S) r ↔ XL SK MT d 142 (80, lv, .ref 9 :: st, S) r := X_heap rfl rfl rfl rfl rfl
theorem rX5_layCons_80 {d : Nat} {lv : xLV} {st : List Value} {S : xS} {r : xO} : XL SK MT d 142 (80, lv, st, S) r ↔ XL SK MT d 142 (82, lv, .int 8 :: st, S) r := X_pure rfl rfl rfl
theorem rX5_layCons_82 {d : Nat} {lv : xLV} {st : List Value} {S : xS} {r : xO} : XL SK MT d 142 (82, lv, st, S) r ↔ XL SK MT d 142 (83, lv, .int 0 :: st, S) r := X_pure rfl rfl rfl
theorem rX5_layCons_83 {d : Nat} {lv : xLV} {st : List Value} {S : xS} {r : xO} : XL SK MT d 142 (83, lv, st, S) r ↔ XL SK MT d 142 (84, lv, .int 2 :: st, S) r := X_pure rfl rfl rfl
theorem rX5_layCons_84 {d : Nat} {lv : xLV} {S : xS} {r : xO} {x1 : Int32} {x2 : Int32} {x3 : Int32} : XL SK MT d 142 (84, lv, [.int x3, .int x2, .int x1, .ref 9], S) r ↔ xK (XC SK MT d 19 [.ref 9, .int x1, .int x2, .int x3] S) (fun v S => XL SK MT d 142 (87, lv, v.toList ++ [], S) r) := X_inv (n := 4) (kd := 2) (st0 := [.int x3, .int x2, .int x1, .ref 9]) rfl (Or.inr ⟨rfl, rfl⟩) rfl (Nat.le_of_ble_eq_true rfl) (Nat.le_of_ble_eq_true rfl) (by decide) rfl
theorem rX5_layCons_87 {d : Nat} {lv : xLV} {st : List Value} {S : xS} {r : xO} : XL SK MT d 142 (87, lv, st, S) r ↔ xA (xlook lv 0) (fun x => XL SK MT d 142 (88, lv, .ref x :: st, S) r) := X_ldA rfl rfl (fun _ => rfl) rfl rfl rfl rfl
theorem rX5_layCons_88 {d : Nat} {lv : xLV} {st : List Value} {S : xS} {r : xO} : XL SK MT d 142 (88, lv, .ref 10 :: st, S) r ↔ XL SK MT d 142 (91, lv, .ref 9 :: st, S) r := X_heap rfl rfl rfl rfl rfl
theorem rX5_layCons_91 {d : Nat} {lv : xLV} {st : List Value} {S : xS} {r : xO} : XL SK MT d 142 (91, lv, st, S) r ↔ XL SK MT d 142 (93, lv, .int 9 :: st, S) r := X_pure rfl rfl rfl
theorem rX5_layCons_93 {d : Nat} {lv : xLV} {st : List Value} {S : xS} {r : xO} : XL SK MT d 142 (93, lv, st, S) r ↔ XL SK MT d 142 (94, lv, .int 4 :: st, S) r := X_pure rfl rfl rfl
theorem rX5_layCons_94 {d : Nat} {lv : xLV} {st : List Value} {S : xS} {r : xO} : XL SK MT d 142 (94, lv, st, S) r ↔ XL SK MT d 142 (95, lv, .int 2 :: st, S) r := X_pure rfl rfl rfl
theorem rX5_layCons_95 {d : Nat} {lv : xLV} {S : xS} {r : xO} {x1 : Int32} {x2 : Int32} {x3 : Int32} : XL SK MT d 142 (95, lv, [.int x3, .int x2, .int x1, .ref 9], S) r ↔ xK (XC SK MT d 19 [.ref 9, .int x1, .int x2, .int x3] S) (fun v S => XL SK MT d 142 (98, lv, v.toList ++ [], S) r) := X_inv (n := 4) (kd := 2) (st0 := [.int x3, .int x2, .int x1, .ref 9]) rfl (Or.inr ⟨rfl, rfl⟩) rfl (Nat.le_of_ble_eq_true rfl) (Nat.le_of_ble_eq_true rfl) (by decide) rfl
theorem rX5_layCons_98 {d : Nat} {lv : xLV} {st : List Value} {S : xS} {r : xO} : XL SK MT d 142 (98, lv, st, S) r ↔ xA (xlook lv 0) (fun x => XL SK MT d 142 (99, lv, .ref x :: st, S) r) := X_ldA rfl rfl (fun _ => rfl) rfl rfl rfl rfl
theorem rX5_layCons_99 {d : Nat} {lv : xLV} {st : List Value} {S : xS} {r : xO} : XL SK MT d 142 (99, lv, .ref 10 :: st, S) r ↔ XL SK MT d 142 (102, lv, .ref 9 :: st, S) r := X_heap rfl rfl rfl rfl rfl
theorem rX5_layCons_102 {d : Nat} {lv : xLV} {st : List Value} {S : xS} {r : xO} : XL SK MT d 142 (102, lv, st, S) r ↔ XL SK MT d 142 (104, lv, .int 10 :: st, S) r := X_pure rfl rfl rfl
theorem rX5_layCons_104 {d : Nat} {lv : xLV} {st : List Value} {S : xS} {r : xO} : XL SK MT d 142 (104, lv, st, S) r ↔ XL SK MT d 142 (106, lv, .int 8 :: st, S) r := X_pure rfl rfl rfl
theorem rX5_layCons_106 {d : Nat} {lv : xLV} {st : List Value} {S : xS} {r : xO} : XL SK MT d 142 (106, lv, st, S) r ↔ XL SK MT d 142 (107, lv, .int 2 :: st, S) r := X_pure rfl rfl rfl
theorem rX5_layCons_107 {d : Nat} {lv : xLV} {S : xS} {r : xO} {x1 : Int32} {x2 : Int32} {x3 : Int32} : XL SK MT d 142 (107, lv, [.int x3, .int x2, .int x1, .ref 9], S) r ↔ xK (XC SK MT d 19 [.ref 9, .int x1, .int x2, .int x3] S) (fun v S => XL SK MT d 142 (110, lv, v.toList ++ [], S) r) := X_inv (n := 4) (kd := 2) (st0 := [.int x3, .int x2, .int x1, .ref 9]) rfl (Or.inr ⟨rfl, rfl⟩) rfl (Nat.le_of_ble_eq_true rfl) (Nat.le_of_ble_eq_true rfl) (by decide) rfl
theorem rX5_layCons_110 {d : Nat} {lv : xLV} {st : List Value} {S : xS} {r : xO} : XL SK MT d 142 (110, lv, st, S) r ↔ xA (xlook lv 0) (fun x => XL SK MT d 142 (111, lv, .ref x :: st, S) r) := X_ldA rfl rfl (fun _ => rfl) rfl rfl rfl rfl
theorem rX5_layCons_111 {d : Nat} {lv : xLV} {st : List Value} {S : xS} {r : xO} : XL SK MT d 142 (111, lv, .ref 10 :: st, S) r ↔ XL SK MT d 142 (114, lv, .ref 9 :: st, S) r := X_heap rfl rfl rfl rfl rfl
theorem rX5_layCons_114 {d : Nat} {lv : xLV} {st : List Value} {S : xS} {r : xO} : XL SK MT d 142 (114, lv, st, S) r ↔ XL SK MT d 142 (116, lv, .int 11 :: st, S) r := X_pure rfl rfl rfl
theorem rX5_layCons_116 {d : Nat} {lv : xLV} {st : List Value} {S : xS} {r : xO} : XL SK MT d 142 (116, lv, st, S) r ↔ XL SK MT d 142 (118, lv, .int 27 :: st, S) r := X_pure rfl rfl rfl
theorem rX5_layCons_118 {d : Nat} {lv : xLV} {S : xS} {r : xO} {x1 : Int32} {x2 : Int32} : XL SK MT d 142 (118, lv, [.int x2, .int x1, .ref 9], S) r ↔ xK (XC SK MT d 22 [.ref 9, .int x1, .int x2] S) (fun v S => XL SK MT d 142 (121, lv, v.toList ++ [], S) r) := X_inv (n := 3) (kd := 2) (st0 := [.int x2, .int x1, .ref 9]) rfl (Or.inr ⟨rfl, rfl⟩) rfl (Nat.le_of_ble_eq_true rfl) (Nat.le_of_ble_eq_true rfl) (by decide) rfl
theorem rX5_layCons_121 {d : Nat} {lv : xLV} {st : List Value} {S : xS} {r : xO} : XL SK MT d 142 (121, lv, st, S) r ↔ xA (xlook lv 0) (fun x => XL SK MT d 142 (122, lv, .ref x :: st, S) r) := X_ldA rfl rfl (fun _ => rfl) rfl rfl rfl rfl
theorem rX5_layCons_122 {d : Nat} {lv : xLV} {st : List Value} {S : xS} {r : xO} : XL SK MT d 142 (122, lv, .ref 10 :: st, S) r ↔ XL SK MT d 142 (125, lv, .ref 9 :: st, S) r := X_heap rfl rfl rfl rfl rfl
theorem rX5_layCons_125 {d : Nat} {lv : xLV} {st : List Value} {S : xS} {r : xO} : XL SK MT d 142 (125, lv, st, S) r ↔ XL SK MT d 142 (127, lv, .int 11 :: st, S) r := X_pure rfl rfl rfl
theorem rX5_layCons_127 {d : Nat} {lv : xLV} {st : List Value} {S : xS} {r : xO} : XL SK MT d 142 (127, lv, st, S) r ↔ XL SK MT d 142 (129, lv, .int 12 :: st, S) r := X_pure rfl rfl rfl
theorem rX5_layCons_129 {d : Nat} {lv : xLV} {st : List Value} {S : xS} {r : xO} : XL SK MT d 142 (129, lv, st, S) r ↔ XL SK MT d 142 (130, lv, .int 2 :: st, S) r := X_pure rfl rfl rfl
theorem rX5_layCons_130 {d : Nat} {lv : xLV} {S : xS} {r : xO} {x1 : Int32} {x2 : Int32} {x3 : Int32} : XL SK MT d 142 (130, lv, [.int x3, .int x2, .int x1, .ref 9], S) r ↔ xK (XC SK MT d 19 [.ref 9, .int x1, .int x2, .int x3] S) (fun v S => XL SK MT d 142 (133, lv, v.toList ++ [], S) r) := X_inv (n := 4) (kd := 2) (st0 := [.int x3, .int x2, .int x1, .ref 9]) rfl (Or.inr ⟨rfl, rfl⟩) rfl (Nat.le_of_ble_eq_true rfl) (Nat.le_of_ble_eq_true rfl) (by decide) rfl
theorem rX5_layCons_133 {d : Nat} {lv : xLV} {st : List Value} {S : xS} {r : xO} : XL SK MT d 142 (133, lv, st, S) r ↔ xA (xlook lv 0) (fun x => XL SK MT d 142 (134, lv, .ref x :: st, S) r) := X_ldA rfl rfl (fun _ => rfl) rfl rfl rfl rfl
theorem rX5_layCons_134 {d : Nat} {lv : xLV} {st : List Value} {S : xS} {r : xO} : XL SK MT d 142 (134, lv, .ref 10 :: st, S) r ↔ XL SK MT d 142 (137, lv, .ref 9 :: st, S) r := X_heap rfl rfl rfl rfl rfl
theorem rX5_layCons_137 {d : Nat} {lv : xLV} {st : List Value} {S : xS} {r : xO} : XL SK MT d 142 (137, lv, st, S) r ↔ XL SK MT d 142 (138, lv, .int 2 :: st, S) r := X_pure rfl rfl rfl
theorem rX5_layCons_138 {d : Nat} {lv : xLV} {st : List Value} {S : xS} {r : xO} : XL SK MT d 142 (138, lv, st, S) r ↔ XL SK MT d 142 (140, lv, .int 16 :: st, S) r := X_pure rfl rfl rfl
theorem rX5_layCons_140 {d : Nat} {lv : xLV} {st : List Value} {S : xS} {r : xO} : XL SK MT d 142 (140, lv, st, S) r ↔ XL SK MT d 142 (141, lv, .int 2 :: st, S) r := X_pure rfl rfl rfl
theorem rX5_layCons_141 {d : Nat} {lv : xLV} {S : xS} {r : xO} {x1 : Int32} {x2 : Int32} {x3 : Int32} : XL SK MT d 142 (141, lv, [.int x3, .int x2, .int x1, .ref 9], S) r ↔ xK (XC SK MT d 19 [.ref 9, .int x1, .int x2, .int x3] S) (fun v S => XL SK MT d 142 (144, lv, v.toList ++ [], S) r) := X_inv (n := 4) (kd := 2) (st0 := [.int x3, .int x2, .int x1, .ref 9]) rfl (Or.inr ⟨rfl, rfl⟩) rfl (Nat.le_of_ble_eq_true rfl) (Nat.le_of_ble_eq_true rfl) (by decide) rfl
theorem rX5_layCons_144 {d : Nat} {lv : xLV} {st : List Value} {S : xS} {r : xO} : XL SK MT d 142 (144, lv, st, S) r ↔ xA (xlook lv 0) (fun x => XL SK MT d 142 (145, lv, .ref x :: st, S) r) := X_ldA rfl rfl (fun _ => rfl) rfl rfl rfl rfl
theorem rX5_layCons_145 {d : Nat} {lv : xLV} {st : List Value} {S : xS} {r : xO} : XL SK MT d 142 (145, lv, .ref 10 :: st, S) r ↔ XL SK MT d 142 (148, lv, .ref 9 :: st, S) r := X_heap rfl rfl rfl rfl rfl
theorem rX5_layCons_148 {d : Nat} {lv : xLV} {st : List Value} {S : xS} {r : xO} : XL SK MT d 142 (148, lv, st, S) r ↔ XL SK MT d 142 (150, lv, .int 12 :: st, S) r := X_pure rfl rfl rfl
theorem rX5_layCons_150 {d : Nat} {lv : xLV} {st : List Value} {S : xS} {r : xO} : XL SK MT d 142 (150, lv, st, S) r ↔ XL SK MT d 142 (151, lv, .int 2 :: st, S) r := X_pure rfl rfl rfl
theorem rX5_layCons_151 {d : Nat} {lv : xLV} {st : List Value} {S : xS} {r : xO} : XL SK MT d 142 (151, lv, st, S) r ↔ XL SK MT d 142 (153, lv, .int 12 :: st, S) r := X_pure rfl rfl rfl
theorem rX5_layCons_153 {d : Nat} {lv : xLV} {S : xS} {r : xO} {x1 : Int32} {x2 : Int32} {x3 : Int32} : XL SK MT d 142 (153, lv, [.int x3, .int x2, .int x1, .ref 9], S) r ↔ xK (XC SK MT d 20 [.ref 9, .int x1, .int x2, .int x3] S) (fun v S => XL SK MT d 142 (156, lv, v.toList ++ [], S) r) := X_inv (n := 4) (kd := 2) (st0 := [.int x3, .int x2, .int x1, .ref 9]) rfl (Or.inr ⟨rfl, rfl⟩) rfl (Nat.le_of_ble_eq_true rfl) (Nat.le_of_ble_eq_true rfl) (by decide) rfl
theorem rX5_layCons_156 {d : Nat} {lv : xLV} {st : List Value} {S : xS} {r : xO} : XL SK MT d 142 (156, lv, st, S) r ↔ xA (xlook lv 0) (fun x => XL SK MT d 142 (157, lv, .ref x :: st, S) r) := X_ldA rfl rfl (fun _ => rfl) rfl rfl rfl rfl
theorem rX5_layCons_157 {d : Nat} {lv : xLV} {st : List Value} {S : xS} {r : xO} : XL SK MT d 142 (157, lv, .ref 10 :: st, S) r ↔ XL SK MT d 142 (160, lv, .ref 9 :: st, S) r := X_heap rfl rfl rfl rfl rfl
theorem rX5_layCons_160 {d : Nat} {lv : xLV} {st : List Value} {S : xS} {r : xO} : XL SK MT d 142 (160, lv, st, S) r ↔ XL SK MT d 142 (162, lv, .int 12 :: st, S) r := X_pure rfl rfl rfl
theorem rX5_layCons_162 {d : Nat} {lv : xLV} {st : List Value} {S : xS} {r : xO} : XL SK MT d 142 (162, lv, st, S) r ↔ XL SK MT d 142 (164, lv, .int (-8) :: st, S) r := X_pure rfl rfl rfl
theorem rX5_layCons_164 {d : Nat} {lv : xLV} {st : List Value} {S : xS} {r : xO} : XL SK MT d 142 (164, lv, st, S) r ↔ XL SK MT d 142 (166, lv, .int 16 :: st, S) r := X_pure rfl rfl rfl
theorem rX5_layCons_166 {d : Nat} {lv : xLV} {S : xS} {r : xO} {x1 : Int32} {x2 : Int32} {x3 : Int32} : XL SK MT d 142 (166, lv, [.int x3, .int x2, .int x1, .ref 9], S) r ↔ xK (XC SK MT d 19 [.ref 9, .int x1, .int x2, .int x3] S) (fun v S => XL SK MT d 142 (169, lv, v.toList ++ [], S) r) := X_inv (n := 4) (kd := 2) (st0 := [.int x3, .int x2, .int x1, .ref 9]) rfl (Or.inr ⟨rfl, rfl⟩) rfl (Nat.le_of_ble_eq_true rfl) (Nat.le_of_ble_eq_true rfl) (by decide) rfl
theorem rX5_layCons_169 {d : Nat} {lv : xLV} {st : List Value} {S : xS} {r : xO} : XL SK MT d 142 (169, lv, st, S) r ↔ xA (xlook lv 0) (fun x => XL SK MT d 142 (170, lv, .ref x :: st, S) r) := X_ldA rfl rfl (fun _ => rfl) rfl rfl rfl rfl
theorem rX5_layCons_170 {d : Nat} {lv : xLV} {st : List Value} {S : xS} {r : xO} : XL SK MT d 142 (170, lv, .ref 10 :: st, S) r ↔ XL SK MT d 142 (173, lv, .ref 9 :: st, S) r := X_heap rfl rfl rfl rfl rfl
theorem rX5_layCons_173 {d : Nat} {lv : xLV} {st : List Value} {S : xS} {r : xO} : XL SK MT d 142 (173, lv, st, S) r ↔ XL SK MT d 142 (175, lv, .int 16 :: st, S) r := X_pure rfl rfl rfl
theorem rX5_layCons_175 {d : Nat} {lv : xLV} {st : List Value} {S : xS} {r : xO} : XL SK MT d 142 (175, lv, st, S) r ↔ XL SK MT d 142 (177, lv, .int 16 :: st, S) r := X_pure rfl rfl rfl
theorem rX5_layCons_177 {d : Nat} {lv : xLV} {st : List Value} {S : xS} {r : xO} : XL SK MT d 142 (177, lv, st, S) r ↔ XL SK MT d 142 (179, lv, .int (-4) :: st, S) r := X_pure rfl rfl rfl
theorem rX5_layCons_179 {d : Nat} {lv : xLV} {S : xS} {r : xO} {x1 : Int32} {x2 : Int32} {x3 : Int32} : XL SK MT d 142 (179, lv, [.int x3, .int x2, .int x1, .ref 9], S) r ↔ xK (XC SK MT d 20 [.ref 9, .int x1, .int x2, .int x3] S) (fun v S => XL SK MT d 142 (182, lv, v.toList ++ [], S) r) := X_inv (n := 4) (kd := 2) (st0 := [.int x3, .int x2, .int x1, .ref 9]) rfl (Or.inr ⟨rfl, rfl⟩) rfl (Nat.le_of_ble_eq_true rfl) (Nat.le_of_ble_eq_true rfl) (by decide) rfl
theorem rX5_layCons_182 {d : Nat} {lv : xLV} {st : List Value} {S : xS} {r : xO} : XL SK MT d 142 (182, lv, st, S) r ↔ xA (xlook lv 0) (fun x => XL SK MT d 142 (183, lv, .ref x :: st, S) r) := X_ldA rfl rfl (fun _ => rfl) rfl rfl rfl rfl
theorem rX5_layCons_183 {d : Nat} {lv : xLV} {st : List Value} {S : xS} {r : xO} : XL SK MT d 142 (183, lv, .ref 10 :: st, S) r ↔ XL SK MT d 142 (186, lv, .ref 9 :: st, S) r := X_heap rfl rfl rfl rfl rfl
theorem rX5_layCons_186 {d : Nat} {lv : xLV} {st : List Value} {S : xS} {r : xO} : XL SK MT d 142 (186, lv, st, S) r ↔ XL SK MT d 142 (188, lv, .int 25 :: st, S) r := X_pure rfl rfl rfl
theorem rX5_layCons_188 {d : Nat} {lv : xLV} {S : xS} {r : xO} {x1 : Int32} : XL SK MT d 142 (188, lv, [.int x1, .ref 9], S) r ↔ xK (XC SK MT d 29 [.ref 9, .int x1] S) (fun v S => XL SK MT d 142 (191, lv, v.toList ++ [], S) r) := X_inv (n := 2) (kd := 2) (st0 := [.int x1, .ref 9]) rfl (Or.inr ⟨rfl, rfl⟩) rfl (Nat.le_of_ble_eq_true rfl) (Nat.le_of_ble_eq_true rfl) (by decide) rfl
theorem rX5_layCons_191 {d : Nat} {lv : xLV} {S : xS} {r : xO} : XL SK MT d 142 (191, lv, [], S) r ↔ (none, S) = r := X_ret rfl rfl rfl rfl rfl rfl

/-! Library: layObjects, layCons. -/
def pL_layObjects (a0 : PA) : PA :=
  let a1 := pLd a0 65540
  let a2 := pEm a1 (wLw 14 0 5)
  let a3 := pEm a2 (wMove 25 31)
  let a4 := pL_size a3 65590 65591
  let a5 := pEm a4 (wMove 4 13)
  let a6 := pLp a5 wJal 65537
  let a7 := pEm a6 (wMove 10 5)
  let a8 := pEm a7 (wMove 11 2)
  let a9 := pEm a8 (wThree 33 12 2 4)
  let a10 := pL_copyWords a9 65592
  let a11 := pEm a10 (wMove 4 2)
  let a12 := pEm a11 (wMove 31 25)
  let a13 := pLp a12 wJ 65536
  let a14 := pLd a13 65541
  let a15 := pEm a14 (wMove 25 31)
  let a16 := pEm a15 (wShift 0 4 5 2)
  let a17 := pEm a16 (wAdd 4 4 4)
  let a18 := pLp a17 wJal 65537
  let a19 := pEm a18 (wShift 0 8 5 3)
  let a20 := pEm a19 (wAdd 8 8 1)
  let a21 := pEm a20 (wSw 8 0 2)
  let a22 := pEm a21 (wShift 0 9 5 2)
  let a23 := pEm a22 (wThree 35 16 16 9)
  let a24 := pEm a23 (wMove 10 16)
  let a25 := pEm a24 (wAdd 11 2 4)
  let a26 := pEm a25 (wThree 33 12 11 9)
  let a27 := pL_copyWords a26 65593
  let a28 := pEm a27 (wSw 2 0 16)
  let a29 := pEm a28 (wAdd 16 16 4)
  let a30 := pLp a29 (wJr 25) (-1)
  let a31 := pLd a30 65543
  let a32 := pEm a31 (wLw 10 0 17)
  let a33 := pEm a32 (wLw 11 (-4) 16)
  let a34 := pEm a33 (wAdd 10 10 8)
  let a35 := pEm a34 (wAdd 11 11 8)
  let a36 := pEm a35 (wThree 33 12 11 5)
  let a37 := pL_copyWords a36 65594
  let a38 := pLp a37 (wJr 31) (-1)
  let a39 := pLd a38 65544
  let a40 := pEm a39 (wMove 25 31)
  let a41 := pSe a40 10 0
  let a42 := pLd (pLb a41) 65595
  let a43 := pEm a42 (wLw 4 576 10)
  let a44 := pLp a43 wJal 65536
  let a45 := pEm a44 (wAdd 10 10 4)
  let a46 := pLp a45 (wBr 5 10 5) 65595
  let a47 := pLp a46 (wJr 25) (-1)
  a47
set_option maxHeartbeats 4000000 in
set_option maxRecDepth 100000 in
theorem l_layObjects {S0 S : xS} {a0 : PA} (h : AS S0 S a0) (hq : a0.own = 65590) : ∃ S', (∀ d, XC SK MT (d + 6) 141 [.ref 10] S = some (none, S')) ∧ AS S0 S' (pL_layObjects a0) := by
  obtain ⟨S1, e1, h1⟩ := o_land h 65540
  obtain ⟨S2, e2, h2⟩ := o_lw h1 14 0 5
  obtain ⟨S3, e3, h3⟩ := o_move h2 25 31
  obtain ⟨S4, e4, h4⟩ := l_size h3 (r0 := 65590) (r1 := 65591) (by simp only [pEm_own, pSe_own, pLp_own, pLd_own, pSt_own, pSc_own, pLb_own, pL_size_own, pL_copyWords_own, pL_step_own, pL_enterObject_own, hq] <;> rfl) (by simp only [pEm_own, pSe_own, pLp_own, pLd_own, pSt_own, pSc_own, pLb_own, pL_size_own, pL_copyWords_own, pL_step_own, pL_enterObject_own, hq] <;> rfl)
  obtain ⟨S5, e5, h5⟩ := o_move h4 4 13
  obtain ⟨S6, e6, h6⟩ := o_jumpAndLink h5 65537
  obtain ⟨S7, e7, h7⟩ := o_move h6 10 5
  obtain ⟨S8, e8, h8⟩ := o_move h7 11 2
  obtain ⟨S9, e9, h9⟩ := o_three h8 33 12 2 4
  obtain ⟨S10, e10, h10⟩ := l_copyWords h9 (r0 := 65592) (by simp only [pEm_own, pSe_own, pLp_own, pLd_own, pSt_own, pSc_own, pLb_own, pL_size_own, pL_copyWords_own, pL_step_own, pL_enterObject_own, hq] <;> rfl)
  obtain ⟨S11, e11, h11⟩ := o_move h10 4 2
  obtain ⟨S12, e12, h12⟩ := o_move h11 31 25
  obtain ⟨S13, e13, h13⟩ := o_jump h12 65536
  obtain ⟨S14, e14, h14⟩ := o_land h13 65541
  obtain ⟨S15, e15, h15⟩ := o_move h14 25 31
  obtain ⟨S16, e16, h16⟩ := o_shift h15 0 4 5 2
  obtain ⟨S17, e17, h17⟩ := o_add h16 4 4 4
  obtain ⟨S18, e18, h18⟩ := o_jumpAndLink h17 65537
  obtain ⟨S19, e19, h19⟩ := o_shift h18 0 8 5 3
  obtain ⟨S20, e20, h20⟩ := o_add h19 8 8 1
  obtain ⟨S21, e21, h21⟩ := o_sw h20 8 0 2
  obtain ⟨S22, e22, h22⟩ := o_shift h21 0 9 5 2
  obtain ⟨S23, e23, h23⟩ := o_three h22 35 16 16 9
  obtain ⟨S24, e24, h24⟩ := o_move h23 10 16
  obtain ⟨S25, e25, h25⟩ := o_add h24 11 2 4
  obtain ⟨S26, e26, h26⟩ := o_three h25 33 12 11 9
  obtain ⟨S27, e27, h27⟩ := l_copyWords h26 (r0 := 65593) (by simp only [pEm_own, pSe_own, pLp_own, pLd_own, pSt_own, pSc_own, pLb_own, pL_size_own, pL_copyWords_own, pL_step_own, pL_enterObject_own, hq] <;> rfl)
  obtain ⟨S28, e28, h28⟩ := o_sw h27 2 0 16
  obtain ⟨S29, e29, h29⟩ := o_add h28 16 16 4
  obtain ⟨S30, e30, h30⟩ := o_back h29 25
  obtain ⟨S31, e31, h31⟩ := o_land h30 65543
  obtain ⟨S32, e32, h32⟩ := o_lw h31 10 0 17
  obtain ⟨S33, e33, h33⟩ := o_lw h32 11 (-4) 16
  obtain ⟨S34, e34, h34⟩ := o_add h33 10 10 8
  obtain ⟨S35, e35, h35⟩ := o_add h34 11 11 8
  obtain ⟨S36, e36, h36⟩ := o_three h35 33 12 11 5
  obtain ⟨S37, e37, h37⟩ := l_copyWords h36 (r0 := 65594) (by simp only [pEm_own, pSe_own, pLp_own, pLd_own, pSt_own, pSc_own, pLb_own, pL_size_own, pL_copyWords_own, pL_step_own, pL_enterObject_own, hq] <;> rfl)
  obtain ⟨S38, e38, h38⟩ := o_back h37 31
  obtain ⟨S39, e39, h39⟩ := o_land h38 65544
  obtain ⟨S40, e40, h40⟩ := o_move h39 25 31
  obtain ⟨S41, e41, h41⟩ := o_set h40 10 0
  obtain ⟨S42, n0, e42, z0, h42⟩ := o_labelHere h41
  rw [← z0] at h42
  have y0 : n0 = 65595 := by rw [z0]; simp only [pEm_own, pSe_own, pLp_own, pLd_own, pSt_own, pSc_own, pLb_own, pL_size_own, pL_copyWords_own, pL_step_own, pL_enterObject_own, hq] <;> rfl
  subst y0
  obtain ⟨S43, e43, h43⟩ := o_lw h42 4 576 10
  obtain ⟨S44, e44, h44⟩ := o_jumpAndLink h43 65536
  obtain ⟨S45, e45, h45⟩ := o_add h44 10 10 4
  obtain ⟨S46, e46, h46⟩ := o_branch h45 5 10 5 65595
  obtain ⟨S47, e47, h47⟩ := o_back h46 25
  refine ⟨S47, fun d => ?_, ?_⟩
  · rw [XC_iff]
    refine ⟨Nat.le_of_ble_eq_true rfl, ?_⟩
    show XL SK MT (d + 5) 141 (0, [some (.ref 10), none], [], S) _
    simp (config := { decide := true }) only [rX5_layObjects_0, rX5_layObjects_1, rX5_layObjects_4, rX5_layObjects_6, rX5_layObjects_9, rX5_layObjects_10, rX5_layObjects_13, rX5_layObjects_15, rX5_layObjects_16, rX5_layObjects_17, rX5_layObjects_20, rX5_layObjects_21, rX5_layObjects_24, rX5_layObjects_26, rX5_layObjects_28, rX5_layObjects_31, rX5_layObjects_32, rX5_layObjects_35, rX5_layObjects_36, rX5_layObjects_39, rX5_layObjects_40, rX5_layObjects_42, rX5_layObjects_45, rX5_layObjects_46, rX5_layObjects_49, rX5_layObjects_51, rX5_layObjects_54, rX5_layObjects_55, rX5_layObjects_58, rX5_layObjects_60, rX5_layObjects_61, rX5_layObjects_64, rX5_layObjects_65, rX5_layObjects_68, rX5_layObjects_70, rX5_layObjects_71, rX5_layObjects_74, rX5_layObjects_75, rX5_layObjects_78, rX5_layObjects_80, rX5_layObjects_82, rX5_layObjects_83, rX5_layObjects_84, rX5_layObjects_87, rX5_layObjects_88, rX5_layObjects_91, rX5_layObjects_92, rX5_layObjects_95, rX5_layObjects_96, rX5_layObjects_97, rX5_layObjects_100, rX5_layObjects_101, rX5_layObjects_104, rX5_layObjects_106, rX5_layObjects_108, rX5_layObjects_111, rX5_layObjects_112, rX5_layObjects_115, rX5_layObjects_117, rX5_layObjects_120, rX5_layObjects_121, rX5_layObjects_124, rX5_layObjects_126, rX5_layObjects_129, rX5_layObjects_130, rX5_layObjects_133, rX5_layObjects_135, rX5_layObjects_137, rX5_layObjects_140, rX5_layObjects_141, rX5_layObjects_144, rX5_layObjects_145, rX5_layObjects_146, rX5_layObjects_147, rX5_layObjects_148, rX5_layObjects_151, rX5_layObjects_152, rX5_layObjects_155, rX5_layObjects_156, rX5_layObjects_157, rX5_layObjects_158, rX5_layObjects_161, rX5_layObjects_162, rX5_layObjects_165, rX5_layObjects_167, rX5_layObjects_170, rX5_layObjects_171, rX5_layObjects_174, rX5_layObjects_175, rX5_layObjects_177, rX5_layObjects_178, rX5_layObjects_179, rX5_layObjects_182, rX5_layObjects_183, rX5_layObjects_186, rX5_layObjects_188, rX5_layObjects_190, rX5_layObjects_191, rX5_layObjects_194, rX5_layObjects_195, rX5_layObjects_198, rX5_layObjects_200, rX5_layObjects_201, rX5_layObjects_202, rX5_layObjects_205, rX5_layObjects_206, rX5_layObjects_209, rX5_layObjects_210, rX5_layObjects_212, rX5_layObjects_213, rX5_layObjects_214, rX5_layObjects_217, rX5_layObjects_218, rX5_layObjects_221, rX5_layObjects_223, rX5_layObjects_225, rX5_layObjects_227, rX5_layObjects_229, rX5_layObjects_232, rX5_layObjects_233, rX5_layObjects_236, rX5_layObjects_238, rX5_layObjects_240, rX5_layObjects_243, rX5_layObjects_244, rX5_layObjects_247, rX5_layObjects_249, rX5_layObjects_250, rX5_layObjects_251, rX5_layObjects_254, rX5_layObjects_255, rX5_layObjects_258, rX5_layObjects_260, rX5_layObjects_262, rX5_layObjects_264, rX5_layObjects_266, rX5_layObjects_269, rX5_layObjects_270, rX5_layObjects_273, rX5_layObjects_274, rX5_layObjects_277, rX5_layObjects_278, rX5_layObjects_279, rX5_layObjects_281, rX5_layObjects_284, rX5_layObjects_285, rX5_layObjects_288, rX5_layObjects_290, rX5_layObjects_292, rX5_layObjects_293, rX5_layObjects_296, rX5_layObjects_297, rX5_layObjects_300, rX5_layObjects_302, rX5_layObjects_305, rX5_layObjects_306, rX5_layObjects_309, rX5_layObjects_311, rX5_layObjects_314, rX5_layObjects_315, rX5_layObjects_318, rX5_layObjects_320, rX5_layObjects_321, rX5_layObjects_323, rX5_layObjects_326, rX5_layObjects_327, rX5_layObjects_330, rX5_layObjects_332, rX5_layObjects_334, rX5_layObjects_336, rX5_layObjects_339, rX5_layObjects_340, rX5_layObjects_343, rX5_layObjects_345, rX5_layObjects_347, rX5_layObjects_349, rX5_layObjects_352, rX5_layObjects_353, rX5_layObjects_356, rX5_layObjects_358, rX5_layObjects_360, rX5_layObjects_362, rX5_layObjects_365, rX5_layObjects_366, rX5_layObjects_369, rX5_layObjects_371, rX5_layObjects_373, rX5_layObjects_375, rX5_layObjects_376, rX5_layObjects_379, rX5_layObjects_380, rX5_layObjects_383, rX5_layObjects_384, rX5_layObjects_387, rX5_layObjects_389, rX5_layObjects_392, rX5_layObjects_393, rX5_layObjects_396, rX5_layObjects_398, rX5_layObjects_401, rX5_layObjects_402, rX5_layObjects_405, rX5_layObjects_407, rX5_layObjects_409, rX5_layObjects_412, rX5_layObjects_413, rX5_layObjects_416, rX5_layObjects_418, rX5_layObjects_419, rX5_layObjects_422, rX5_layObjects_423, rX5_layObjects_426, rX5_layObjects_429, rX5_layObjects_430, rX5_layObjects_431, rX5_layObjects_434, rX5_layObjects_435, rX5_layObjects_438, rX5_layObjects_440, rX5_layObjects_443, rX5_layObjects_444, rX5_layObjects_447, rX5_layObjects_449, rX5_layObjects_452, rX5_layObjects_453, rX5_layObjects_456, rX5_layObjects_458, rX5_layObjects_460, rX5_layObjects_461, rX5_layObjects_464, rX5_layObjects_465, rX5_layObjects_468, rX5_layObjects_469, rX5_layObjects_471, rX5_layObjects_472, rX5_layObjects_473, rX5_layObjects_476, rX5_layObjects_477, rX5_layObjects_480, rX5_layObjects_482, rX5_layObjects_485, ↓reduceIte, m1_le, m1_lt, m1_eq, ofInt_m1, ex_ret, Int32.reduceAdd, Int32.reduceSub, Int32.reduceMul, Int32.reduceLT, Int32.reduceLE, xsI, Nat.reduceEqDiff, and_false, false_and, and_true, true_and, if_true, if_false, ite_true, ite_false, xlook_0, xlook_s, xI_int, xA_ref, xJ_long, xK_some, xRow_row, xTo_some, xst1, xclr, List.set_cons_zero, List.set_cons_succ, xsum_nil, xsum_int, xsum_ref, xsum_long, Option.toList_some, Option.toList_none, List.nil_append, List.cons_append, e1, e2, e3, e4, e5, e6, e7, e8, e9, e10, e11, e12, e13, e14, e15, e16, e17, e18, e19, e20, e21, e22, e23, e24, e25, e26, e27, e28, e29, e30, e31, e32, e33, e34, e35, e36, e37, e38, e39, e40, e41, e42, e43, e44, e45, e46, e47]
  · exact h47
def pL_layCons (a0 : PA) : PA :=
  let a1 := pLd a0 65542
  let a2 := pEm a1 (wMove 25 31)
  let a3 := pSe a2 4 20
  let a4 := pLp a3 wJal 65537
  let a5 := pSe a4 8 17
  let a6 := pEm a5 (wLw 9 (-8) 16)
  let a7 := pEm a6 (wLw 10 (-4) 16)
  let a8 := pEm a7 (wSw 8 0 2)
  let a9 := pEm a8 (wSw 9 4 2)
  let a10 := pEm a9 (wSw 10 8 2)
  let a11 := pSe a10 11 27
  let a12 := pEm a11 (wSw 11 12 2)
  let a13 := pEm a12 (wSw 2 16 2)
  let a14 := pEm a13 (wAdd 12 2 12)
  let a15 := pEm a14 (wSw 12 (-8) 16)
  let a16 := pEm a15 (wAdd 16 16 (-4))
  let a17 := pLp a16 (wJr 25) (-1)
  a17
set_option maxHeartbeats 4000000 in
set_option maxRecDepth 100000 in
theorem l_layCons {S0 S : xS} {a0 : PA} (h : AS S0 S a0) : ∃ S', (∀ d, XC SK MT (d + 5) 142 [.ref 10] S = some (none, S')) ∧ AS S0 S' (pL_layCons a0) := by
  obtain ⟨S1, e1, h1⟩ := o_land h 65542
  obtain ⟨S2, e2, h2⟩ := o_move h1 25 31
  obtain ⟨S3, e3, h3⟩ := o_set h2 4 20
  obtain ⟨S4, e4, h4⟩ := o_jumpAndLink h3 65537
  obtain ⟨S5, e5, h5⟩ := o_set h4 8 17
  obtain ⟨S6, e6, h6⟩ := o_lw h5 9 (-8) 16
  obtain ⟨S7, e7, h7⟩ := o_lw h6 10 (-4) 16
  obtain ⟨S8, e8, h8⟩ := o_sw h7 8 0 2
  obtain ⟨S9, e9, h9⟩ := o_sw h8 9 4 2
  obtain ⟨S10, e10, h10⟩ := o_sw h9 10 8 2
  obtain ⟨S11, e11, h11⟩ := o_set h10 11 27
  obtain ⟨S12, e12, h12⟩ := o_sw h11 11 12 2
  obtain ⟨S13, e13, h13⟩ := o_sw h12 2 16 2
  obtain ⟨S14, e14, h14⟩ := o_add h13 12 2 12
  obtain ⟨S15, e15, h15⟩ := o_sw h14 12 (-8) 16
  obtain ⟨S16, e16, h16⟩ := o_add h15 16 16 (-4)
  obtain ⟨S17, e17, h17⟩ := o_back h16 25
  refine ⟨S17, fun d => ?_, ?_⟩
  · rw [XC_iff]
    refine ⟨Nat.le_of_ble_eq_true rfl, ?_⟩
    show XL SK MT (d + 4) 142 (0, [some (.ref 10)], [], S) _
    simp (config := { decide := true }) only [rX5_layCons_0, rX5_layCons_1, rX5_layCons_4, rX5_layCons_6, rX5_layCons_9, rX5_layCons_10, rX5_layCons_13, rX5_layCons_15, rX5_layCons_17, rX5_layCons_20, rX5_layCons_21, rX5_layCons_24, rX5_layCons_25, rX5_layCons_27, rX5_layCons_30, rX5_layCons_31, rX5_layCons_34, rX5_layCons_36, rX5_layCons_39, rX5_layCons_40, rX5_layCons_43, rX5_layCons_45, rX5_layCons_47, rX5_layCons_50, rX5_layCons_51, rX5_layCons_54, rX5_layCons_56, rX5_layCons_58, rX5_layCons_60, rX5_layCons_63, rX5_layCons_64, rX5_layCons_67, rX5_layCons_69, rX5_layCons_71, rX5_layCons_73, rX5_layCons_76, rX5_layCons_77, rX5_layCons_80, rX5_layCons_82, rX5_layCons_83, rX5_layCons_84, rX5_layCons_87, rX5_layCons_88, rX5_layCons_91, rX5_layCons_93, rX5_layCons_94, rX5_layCons_95, rX5_layCons_98, rX5_layCons_99, rX5_layCons_102, rX5_layCons_104, rX5_layCons_106, rX5_layCons_107, rX5_layCons_110, rX5_layCons_111, rX5_layCons_114, rX5_layCons_116, rX5_layCons_118, rX5_layCons_121, rX5_layCons_122, rX5_layCons_125, rX5_layCons_127, rX5_layCons_129, rX5_layCons_130, rX5_layCons_133, rX5_layCons_134, rX5_layCons_137, rX5_layCons_138, rX5_layCons_140, rX5_layCons_141, rX5_layCons_144, rX5_layCons_145, rX5_layCons_148, rX5_layCons_150, rX5_layCons_151, rX5_layCons_153, rX5_layCons_156, rX5_layCons_157, rX5_layCons_160, rX5_layCons_162, rX5_layCons_164, rX5_layCons_166, rX5_layCons_169, rX5_layCons_170, rX5_layCons_173, rX5_layCons_175, rX5_layCons_177, rX5_layCons_179, rX5_layCons_182, rX5_layCons_183, rX5_layCons_186, rX5_layCons_188, rX5_layCons_191, ↓reduceIte, m1_le, m1_lt, m1_eq, ofInt_m1, ex_ret, Int32.reduceAdd, Int32.reduceSub, Int32.reduceMul, Int32.reduceLT, Int32.reduceLE, xsI, Nat.reduceEqDiff, and_false, false_and, and_true, true_and, if_true, if_false, ite_true, ite_false, xlook_0, xlook_s, xI_int, xA_ref, xJ_long, xK_some, xRow_row, xTo_some, xst1, xclr, List.set_cons_zero, List.set_cons_succ, xsum_nil, xsum_int, xsum_ref, xsum_long, Option.toList_some, Option.toList_none, List.nil_append, List.cons_append, e1, e2, e3, e4, e5, e6, e7, e8, e9, e10, e11, e12, e13, e14, e15, e16, e17]
  · exact h17
