/-! XF: rows, then what is proved of them. -/
theorem rX5_layStrings_0 {d : Nat} {lv : xLV} {st : List Value} {S : xS} {r : xO} : XL SK MT d 143 (0, lv, st, S) r ↔ xA (xlook lv 0) (fun x => XL SK MT d 143 (1, lv, .ref x :: st, S) r) := X_ldA rfl rfl (fun _ => rfl) rfl rfl rfl rfl
theorem rX5_layStrings_1 {d : Nat} {lv : xLV} {st : List Value} {S : xS} {r : xO} : XL SK MT d 143 (1, lv, .ref 10 :: st, S) r ↔ XL SK MT d 143 (4, lv, .ref 9 :: st, S) r := X_heap rfl rfl rfl rfl rfl
theorem rX5_layStrings_4 {d : Nat} {lv : xLV} {st : List Value} {S : xS} {r : xO} : XL SK MT d 143 (4, lv, st, S) r ↔ XL SK MT d 143 (6, lv, .int 65545 :: st, S) r := X_pure rfl rfl rfl
theorem rX5_layStrings_6 {d : Nat} {lv : xLV} {S : xS} {r : xO} {x1 : Int32} : XL SK MT d 143 (6, lv, [.int x1, .ref 9], S) r ↔ xK (XC SK MT d 3 [.ref 9, .int x1] S) (fun v S => XL SK MT d 143 (9, lv, v.toList ++ [], S) r) := X_inv (n := 2) (kd := 2) (st0 := [.int x1, .ref 9]) rfl (Or.inr ⟨rfl, rfl⟩) rfl (Nat.le_of_ble_eq_true rfl) (Nat.le_of_ble_eq_true rfl) (by decide) rfl
theorem rX5_layStrings_9 {d : Nat} {lv : xLV} {st : List Value} {S : xS} {r : xO} : XL SK MT d 143 (9, lv, st, S) r ↔ xA (xlook lv 0) (fun x => XL SK MT d 143 (10, lv, .ref x :: st, S) r) := X_ldA rfl rfl (fun _ => rfl) rfl rfl rfl rfl
theorem rX5_layStrings_10 {d : Nat} {lv : xLV} {st : List Value} {S : xS} {r : xO} : XL SK MT d 143 (10, lv, .ref 10 :: st, S) r ↔ XL SK MT d 143 (13, lv, .ref 9 :: st, S) r := X_heap rfl rfl rfl rfl rfl
theorem rX5_layStrings_13 {d : Nat} {lv : xLV} {st : List Value} {S : xS} {r : xO} : XL SK MT d 143 (13, lv, st, S) r ↔ XL SK MT d 143 (15, lv, .int 31 :: st, S) r := X_pure rfl rfl rfl
theorem rX5_layStrings_15 {d : Nat} {lv : xLV} {st : List Value} {S : xS} {r : xO} : XL SK MT d 143 (15, lv, st, S) r ↔ XL SK MT d 143 (18, lv, .int 1120 :: st, S) r := X_pure rfl rfl rfl
theorem rX5_layStrings_18 {d : Nat} {lv : xLV} {st : List Value} {S : xS} {r : xO} : XL SK MT d 143 (18, lv, st, S) r ↔ XL SK MT d 143 (19, lv, .int 0 :: st, S) r := X_pure rfl rfl rfl
theorem rX5_layStrings_19 {d : Nat} {lv : xLV} {S : xS} {r : xO} {x1 : Int32} {x2 : Int32} {x3 : Int32} : XL SK MT d 143 (19, lv, [.int x3, .int x2, .int x1, .ref 9], S) r ↔ xK (XC SK MT d 19 [.ref 9, .int x1, .int x2, .int x3] S) (fun v S => XL SK MT d 143 (22, lv, v.toList ++ [], S) r) := X_inv (n := 4) (kd := 2) (st0 := [.int x3, .int x2, .int x1, .ref 9]) rfl (Or.inr ⟨rfl, rfl⟩) rfl (Nat.le_of_ble_eq_true rfl) (Nat.le_of_ble_eq_true rfl) (by decide) rfl
theorem rX5_layStrings_22 {d : Nat} {lv : xLV} {st : List Value} {S : xS} {r : xO} : XL SK MT d 143 (22, lv, st, S) r ↔ xA (xlook lv 0) (fun x => XL SK MT d 143 (23, lv, .ref x :: st, S) r) := X_ldA rfl rfl (fun _ => rfl) rfl rfl rfl rfl
theorem rX5_layStrings_23 {d : Nat} {lv : xLV} {st : List Value} {S : xS} {r : xO} : XL SK MT d 143 (23, lv, .ref 10 :: st, S) r ↔ XL SK MT d 143 (26, lv, .ref 9 :: st, S) r := X_heap rfl rfl rfl rfl rfl
theorem rX5_layStrings_26 {d : Nat} {lv : xLV} {st : List Value} {S : xS} {r : xO} : XL SK MT d 143 (26, lv, st, S) r ↔ XL SK MT d 143 (28, lv, .int 11 :: st, S) r := X_pure rfl rfl rfl
theorem rX5_layStrings_28 {d : Nat} {lv : xLV} {st : List Value} {S : xS} {r : xO} : XL SK MT d 143 (28, lv, st, S) r ↔ XL SK MT d 143 (31, lv, .int 1124 :: st, S) r := X_pure rfl rfl rfl
theorem rX5_layStrings_31 {d : Nat} {lv : xLV} {st : List Value} {S : xS} {r : xO} : XL SK MT d 143 (31, lv, st, S) r ↔ XL SK MT d 143 (32, lv, .int 0 :: st, S) r := X_pure rfl rfl rfl
theorem rX5_layStrings_32 {d : Nat} {lv : xLV} {S : xS} {r : xO} {x1 : Int32} {x2 : Int32} {x3 : Int32} : XL SK MT d 143 (32, lv, [.int x3, .int x2, .int x1, .ref 9], S) r ↔ xK (XC SK MT d 19 [.ref 9, .int x1, .int x2, .int x3] S) (fun v S => XL SK MT d 143 (35, lv, v.toList ++ [], S) r) := X_inv (n := 4) (kd := 2) (st0 := [.int x3, .int x2, .int x1, .ref 9]) rfl (Or.inr ⟨rfl, rfl⟩) rfl (Nat.le_of_ble_eq_true rfl) (Nat.le_of_ble_eq_true rfl) (by decide) rfl
theorem rX5_layStrings_35 {d : Nat} {lv : xLV} {st : List Value} {S : xS} {r : xO} : XL SK MT d 143 (35, lv, st, S) r ↔ xA (xlook lv 0) (fun x => XL SK MT d 143 (36, lv, .ref x :: st, S) r) := X_ldA rfl rfl (fun _ => rfl) rfl rfl rfl rfl
theorem rX5_layStrings_36 {d : Nat} {lv : xLV} {st : List Value} {S : xS} {r : xO} : XL SK MT d 143 (36, lv, .ref 10 :: st, S) r ↔ XL SK MT d 143 (39, lv, .ref 9 :: st, S) r := X_heap rfl rfl rfl rfl rfl
theorem rX5_layStrings_39 {d : Nat} {lv : xLV} {st : List Value} {S : xS} {r : xO} : XL SK MT d 143 (39, lv, st, S) r ↔ XL SK MT d 143 (40, lv, .int 4 :: st, S) r := X_pure rfl rfl rfl
theorem rX5_layStrings_40 {d : Nat} {lv : xLV} {st : List Value} {S : xS} {r : xO} : XL SK MT d 143 (40, lv, st, S) r ↔ XL SK MT d 143 (42, lv, .int 11 :: st, S) r := X_pure rfl rfl rfl
theorem rX5_layStrings_42 {d : Nat} {lv : xLV} {st : List Value} {S : xS} {r : xO} : XL SK MT d 143 (42, lv, st, S) r ↔ XL SK MT d 143 (43, lv, .int 3 :: st, S) r := X_pure rfl rfl rfl
theorem rX5_layStrings_43 {d : Nat} {lv : xLV} {S : xS} {r : xO} {x1 : Int32} {x2 : Int32} {x3 : Int32} : XL SK MT d 143 (43, lv, [.int x3, .int x2, .int x1, .ref 9], S) r ↔ xK (XC SK MT d 20 [.ref 9, .int x1, .int x2, .int x3] S) (fun v S => XL SK MT d 143 (46, lv, v.toList ++ [], S) r) := X_inv (n := 4) (kd := 2) (st0 := [.int x3, .int x2, .int x1, .ref 9]) rfl (Or.inr ⟨rfl, rfl⟩) rfl (Nat.le_of_ble_eq_true rfl) (Nat.le_of_ble_eq_true rfl) (by decide) rfl
theorem rX5_layStrings_46 {d : Nat} {lv : xLV} {st : List Value} {S : xS} {r : xO} : XL SK MT d 143 (46, lv, st, S) r ↔ xA (xlook lv 0) (fun x => XL SK MT d 143 (47, lv, .ref x :: st, S) r) := X_ldA rfl rfl (fun _ => rfl) rfl rfl rfl rfl
theorem rX5_layStrings_47 {d : Nat} {lv : xLV} {st : List Value} {S : xS} {r : xO} : XL SK MT d 143 (47, lv, .ref 10 :: st, S) r ↔ XL SK MT d 143 (50, lv, .ref 9 :: st, S) r := X_heap rfl rfl rfl rfl rfl
theorem rX5_layStrings_50 {d : Nat} {lv : xLV} {st : List Value} {S : xS} {r : xO} : XL SK MT d 143 (50, lv, st, S) r ↔ XL SK MT d 143 (51, lv, .int 2 :: st, S) r := X_pure rfl rfl rfl
theorem rX5_layStrings_51 {d : Nat} {lv : xLV} {st : List Value} {S : xS} {r : xO} : XL SK MT d 143 (51, lv, st, S) r ↔ XL SK MT d 143 (52, lv, .int 4 :: st, S) r := X_pure rfl rfl rfl
theorem rX5_layStrings_52 {d : Nat} {lv : xLV} {st : List Value} {S : xS} {r : xO} : XL SK MT d 143 (52, lv, st, S) r ↔ XL SK MT d 143 (53, lv, .int 4 :: st, S) r := X_pure rfl rfl rfl
theorem rX5_layStrings_53 {d : Nat} {lv : xLV} {st : List Value} {S : xS} {r : xO} : XL SK MT d 143 (53, lv, st, S) r ↔ XL SK MT d 143 (54, lv, .int 2 :: st, S) r := X_pure rfl rfl rfl
theorem rX5_layStrings_54 {d : Nat} {lv : xLV} {S : xS} {r : xO} {x1 : Int32} {x2 : Int32} {x3 : Int32} {x4 : Int32} : XL SK MT d 143 (54, lv, [.int x4, .int x3, .int x2, .int x1, .ref 9], S) r ↔ xK (XC SK MT d 16 [.ref 9, .int x1, .int x2, .int x3, .int x4] S) (fun v S => XL SK MT d 143 (57, lv, v.toList ++ [], S) r) := X_inv (n := 5) (kd := 2) (st0 := [.int x4, .int x3, .int x2, .int x1, .ref 9]) rfl (Or.inr ⟨rfl, rfl⟩) rfl (Nat.le_of_ble_eq_true rfl) (Nat.le_of_ble_eq_true rfl) (by decide) rfl
theorem rX5_layStrings_57 {d : Nat} {lv : xLV} {st : List Value} {S : xS} {r : xO} : XL SK MT d 143 (57, lv, st, S) r ↔ xA (xlook lv 0) (fun x => XL SK MT d 143 (58, lv, .ref x :: st, S) r) := X_ldA rfl rfl (fun _ => rfl) rfl rfl rfl rfl
theorem rX5_layStrings_58 {d : Nat} {lv : xLV} {st : List Value} {S : xS} {r : xO} : XL SK MT d 143 (58, lv, .ref 10 :: st, S) r ↔ XL SK MT d 143 (61, lv, .ref 9 :: st, S) r := X_heap rfl rfl rfl rfl rfl
theorem rX5_layStrings_61 {d : Nat} {lv : xLV} {st : List Value} {S : xS} {r : xO} : XL SK MT d 143 (61, lv, st, S) r ↔ XL SK MT d 143 (62, lv, .int 0 :: st, S) r := X_pure rfl rfl rfl
theorem rX5_layStrings_62 {d : Nat} {lv : xLV} {st : List Value} {S : xS} {r : xO} : XL SK MT d 143 (62, lv, st, S) r ↔ XL SK MT d 143 (63, lv, .int 4 :: st, S) r := X_pure rfl rfl rfl
theorem rX5_layStrings_63 {d : Nat} {lv : xLV} {st : List Value} {S : xS} {r : xO} : XL SK MT d 143 (63, lv, st, S) r ↔ XL SK MT d 143 (64, lv, .int 4 :: st, S) r := X_pure rfl rfl rfl
theorem rX5_layStrings_64 {d : Nat} {lv : xLV} {st : List Value} {S : xS} {r : xO} : XL SK MT d 143 (64, lv, st, S) r ↔ XL SK MT d 143 (65, lv, .int 2 :: st, S) r := X_pure rfl rfl rfl
theorem rX5_layStrings_65 {d : Nat} {lv : xLV} {S : xS} {r : xO} {x1 : Int32} {x2 : Int32} {x3 : Int32} {x4 : Int32} : XL SK MT d 143 (65, lv, [.int x4, .int x3, .int x2, .int x1, .ref 9], S) r ↔ xK (XC SK MT d 16 [.ref 9, .int x1, .int x2, .int x3, .int x4] S) (fun v S => XL SK MT d 143 (68, lv, v.toList ++ [], S) r) := X_inv (n := 5) (kd := 2) (st0 := [.int x4, .int x3, .int x2, .int x1, .ref 9]) rfl (Or.inr ⟨rfl, rfl⟩) rfl (Nat.le_of_ble_eq_true rfl) (Nat.le_of_ble_eq_true rfl) (by decide) rfl
theorem rX5_layStrings_68 {d : Nat} {lv : xLV} {st : List Value} {S : xS} {r : xO} : XL SK MT d 143 (68, lv, st, S) r ↔ xA (xlook lv 0) (fun x => XL SK MT d 143 (69, lv, .ref x :: st, S) r) := X_ldA rfl rfl (fun _ => rfl) rfl rfl rfl rfl
theorem rX5_layStrings_69 {d : Nat} {lv : xLV} {st : List Value} {S : xS} {r : xO} : XL SK MT d 143 (69, lv, .ref 10 :: st, S) r ↔ XL SK MT d 143 (72, lv, .ref 9 :: st, S) r := X_heap rfl rfl rfl rfl rfl
theorem rX5_layStrings_72 {d : Nat} {lv : xLV} {st : List Value} {S : xS} {r : xO} : XL SK MT d 143 (72, lv, st, S) r ↔ XL SK MT d 143 (73, lv, .int 4 :: st, S) r := X_pure rfl rfl rfl
theorem rX5_layStrings_73 {d : Nat} {lv : xLV} {st : List Value} {S : xS} {r : xO} : XL SK MT d 143 (73, lv, st, S) r ↔ XL SK MT d 143 (74, lv, .int 4 :: st, S) r := X_pure rfl rfl rfl
theorem rX5_layStrings_74 {d : Nat} {lv : xLV} {st : List Value} {S : xS} {r : xO} : XL SK MT d 143 (74, lv, st, S) r ↔ XL SK MT d 143 (75, lv, .int 4 :: st, S) r := X_pure rfl rfl rfl
theorem rX5_layStrings_75 {d : Nat} {lv : xLV} {S : xS} {r : xO} {x1 : Int32} {x2 : Int32} {x3 : Int32} : XL SK MT d 143 (75, lv, [.int x3, .int x2, .int x1, .ref 9], S) r ↔ xK (XC SK MT d 20 [.ref 9, .int x1, .int x2, .int x3] S) (fun v S => XL SK MT d 143 (78, lv, v.toList ++ [], S) r) := X_inv (n := 4) (kd := 2) (st0 := [.int x3, .int x2, .int x1, .ref 9]) rfl (Or.inr ⟨rfl, rfl⟩) rfl (Nat.le_of_ble_eq_true rfl) (Nat.le_of_ble_eq_true rfl) (by decide) rfl
theorem rX5_layStrings_78 {d : Nat} {lv : xLV} {st : List Value} {S : xS} {r : xO} : XL SK MT d 143 (78, lv, st, S) r ↔ xA (xlook lv 0) (fun x => XL SK MT d 143 (79, lv, .ref x :: st, S) r) := X_ldA rfl rfl (fun _ => rfl) rfl rfl rfl rfl
theorem rX5_layStrings_79 {d : Nat} {lv : xLV} {st : List Value} {S : xS} {r : xO} : XL SK MT d 143 (79, lv, .ref 10 :: st, S) r ↔ XL SK MT d 143 (82, lv, .ref 9 :: st, S) r := X_heap rfl rfl rfl rfl rfl
theorem rX5_layStrings_82 {d : Nat} {lv : xLV} {st : List Value} {S : xS} {r : xO} : XL SK MT d 143 (82, lv, st, S) r ↔ XL SK MT d 143 (84, lv, .int 65537 :: st, S) r := X_pure rfl rfl rfl
theorem rX5_layStrings_84 {d : Nat} {lv : xLV} {S : xS} {r : xO} {x1 : Int32} : XL SK MT d 143 (84, lv, [.int x1, .ref 9], S) r ↔ xK (XC SK MT d 28 [.ref 9, .int x1] S) (fun v S => XL SK MT d 143 (87, lv, v.toList ++ [], S) r) := X_inv (n := 2) (kd := 2) (st0 := [.int x1, .ref 9]) rfl (Or.inr ⟨rfl, rfl⟩) rfl (Nat.le_of_ble_eq_true rfl) (Nat.le_of_ble_eq_true rfl) (by decide) rfl
theorem rX5_layStrings_87 {d : Nat} {lv : xLV} {st : List Value} {S : xS} {r : xO} : XL SK MT d 143 (87, lv, st, S) r ↔ xA (xlook lv 0) (fun x => XL SK MT d 143 (88, lv, .ref x :: st, S) r) := X_ldA rfl rfl (fun _ => rfl) rfl rfl rfl rfl
theorem rX5_layStrings_88 {d : Nat} {lv : xLV} {st : List Value} {S : xS} {r : xO} : XL SK MT d 143 (88, lv, .ref 10 :: st, S) r ↔ XL SK MT d 143 (91, lv, .ref 9 :: st, S) r := X_heap rfl rfl rfl rfl rfl
theorem rX5_layStrings_91 {d : Nat} {lv : xLV} {st : List Value} {S : xS} {r : xO} : XL SK MT d 143 (91, lv, st, S) r ↔ XL SK MT d 143 (93, lv, .int 11 :: st, S) r := X_pure rfl rfl rfl
theorem rX5_layStrings_93 {d : Nat} {lv : xLV} {st : List Value} {S : xS} {r : xO} : XL SK MT d 143 (93, lv, st, S) r ↔ XL SK MT d 143 (96, lv, .int 1124 :: st, S) r := X_pure rfl rfl rfl
theorem rX5_layStrings_96 {d : Nat} {lv : xLV} {st : List Value} {S : xS} {r : xO} : XL SK MT d 143 (96, lv, st, S) r ↔ XL SK MT d 143 (97, lv, .int 0 :: st, S) r := X_pure rfl rfl rfl
theorem rX5_layStrings_97 {d : Nat} {lv : xLV} {S : xS} {r : xO} {x1 : Int32} {x2 : Int32} {x3 : Int32} : XL SK MT d 143 (97, lv, [.int x3, .int x2, .int x1, .ref 9], S) r ↔ xK (XC SK MT d 18 [.ref 9, .int x1, .int x2, .int x3] S) (fun v S => XL SK MT d 143 (100, lv, v.toList ++ [], S) r) := X_inv (n := 4) (kd := 2) (st0 := [.int x3, .int x2, .int x1, .ref 9]) rfl (Or.inr ⟨rfl, rfl⟩) rfl (Nat.le_of_ble_eq_true rfl) (Nat.le_of_ble_eq_true rfl) (by decide) rfl
theorem rX5_layStrings_100 {d : Nat} {lv : xLV} {st : List Value} {S : xS} {r : xO} : XL SK MT d 143 (100, lv, st, S) r ↔ xA (xlook lv 0) (fun x => XL SK MT d 143 (101, lv, .ref x :: st, S) r) := X_ldA rfl rfl (fun _ => rfl) rfl rfl rfl rfl
theorem rX5_layStrings_101 {d : Nat} {lv : xLV} {st : List Value} {S : xS} {r : xO} : XL SK MT d 143 (101, lv, .ref 10 :: st, S) r ↔ XL SK MT d 143 (104, lv, .ref 9 :: st, S) r := X_heap rfl rfl rfl rfl rfl
theorem rX5_layStrings_104 {d : Nat} {lv : xLV} {st : List Value} {S : xS} {r : xO} : XL SK MT d 143 (104, lv, st, S) r ↔ XL SK MT d 143 (106, lv, .int 31 :: st, S) r := X_pure rfl rfl rfl
theorem rX5_layStrings_106 {d : Nat} {lv : xLV} {st : List Value} {S : xS} {r : xO} : XL SK MT d 143 (106, lv, st, S) r ↔ XL SK MT d 143 (109, lv, .int 1120 :: st, S) r := X_pure rfl rfl rfl
theorem rX5_layStrings_109 {d : Nat} {lv : xLV} {st : List Value} {S : xS} {r : xO} : XL SK MT d 143 (109, lv, st, S) r ↔ XL SK MT d 143 (110, lv, .int 0 :: st, S) r := X_pure rfl rfl rfl
theorem rX5_layStrings_110 {d : Nat} {lv : xLV} {S : xS} {r : xO} {x1 : Int32} {x2 : Int32} {x3 : Int32} : XL SK MT d 143 (110, lv, [.int x3, .int x2, .int x1, .ref 9], S) r ↔ xK (XC SK MT d 18 [.ref 9, .int x1, .int x2, .int x3] S) (fun v S => XL SK MT d 143 (113, lv, v.toList ++ [], S) r) := X_inv (n := 4) (kd := 2) (st0 := [.int x3, .int x2, .int x1, .ref 9]) rfl (Or.inr ⟨rfl, rfl⟩) rfl (Nat.le_of_ble_eq_true rfl) (Nat.le_of_ble_eq_true rfl) (by decide) rfl
theorem rX5_layStrings_113 {d : Nat} {lv : xLV} {st : List Value} {S : xS} {r : xO} : XL SK MT d 143 (113, lv, st, S) r ↔ xA (xlook lv 0) (fun x => XL SK MT d 143 (114, lv, .ref x :: st, S) r) := X_ldA rfl rfl (fun _ => rfl) rfl rfl rfl rfl
theorem rX5_layStrings_114 {d : Nat} {lv : xLV} {st : List Value} {S : xS} {r : xO} : XL SK MT d 143 (114, lv, .ref 10 :: st, S) r ↔ XL SK MT d 143 (117, lv, .ref 9 :: st, S) r := X_heap rfl rfl rfl rfl rfl
theorem rX5_layStrings_117 {d : Nat} {lv : xLV} {st : List Value} {S : xS} {r : xO} : XL SK MT d 143 (117, lv, st, S) r ↔ XL SK MT d 143 (118, lv, .int 0 :: st, S) r := X_pure rfl rfl rfl
theorem rX5_layStrings_118 {d : Nat} {lv : xLV} {st : List Value} {S : xS} {r : xO} : XL SK MT d 143 (118, lv, st, S) r ↔ XL SK MT d 143 (120, lv, .int 8 :: st, S) r := X_pure rfl rfl rfl
theorem rX5_layStrings_120 {d : Nat} {lv : xLV} {st : List Value} {S : xS} {r : xO} : XL SK MT d 143 (120, lv, st, S) r ↔ XL SK MT d 143 (122, lv, .int 11 :: st, S) r := X_pure rfl rfl rfl
theorem rX5_layStrings_122 {d : Nat} {lv : xLV} {st : List Value} {S : xS} {r : xO} : XL SK MT d 143 (122, lv, st, S) r ↔ XL SK MT d 143 (123, lv, .int 3 :: st, S) r := X_pure rfl rfl rfl
theorem rX5_layStrings_123 {d : Nat} {lv : xLV} {S : xS} {r : xO} {x1 : Int32} {x2 : Int32} {x3 : Int32} {x4 : Int32} : XL SK MT d 143 (123, lv, [.int x4, .int x3, .int x2, .int x1, .ref 9], S) r ↔ xK (XC SK MT d 16 [.ref 9, .int x1, .int x2, .int x3, .int x4] S) (fun v S => XL SK MT d 143 (126, lv, v.toList ++ [], S) r) := X_inv (n := 5) (kd := 2) (st0 := [.int x4, .int x3, .int x2, .int x1, .ref 9]) rfl (Or.inr ⟨rfl, rfl⟩) rfl (Nat.le_of_ble_eq_true rfl) (Nat.le_of_ble_eq_true rfl) (by decide) rfl
theorem rX5_layStrings_126 {d : Nat} {lv : xLV} {st : List Value} {S : xS} {r : xO} : XL SK MT d 143 (126, lv, st, S) r ↔ xA (xlook lv 0) (fun x => XL SK MT d 143 (127, lv, .ref x :: st, S) r) := X_ldA rfl rfl (fun _ => rfl) rfl rfl rfl rfl
theorem rX5_layStrings_127 {d : Nat} {lv : xLV} {st : List Value} {S : xS} {r : xO} : XL SK MT d 143 (127, lv, .ref 10 :: st, S) r ↔ XL SK MT d 143 (130, lv, .ref 9 :: st, S) r := X_heap rfl rfl rfl rfl rfl
theorem rX5_layStrings_130 {d : Nat} {lv : xLV} {st : List Value} {S : xS} {r : xO} : XL SK MT d 143 (130, lv, st, S) r ↔ XL SK MT d 143 (132, lv, .int 8 :: st, S) r := X_pure rfl rfl rfl
theorem rX5_layStrings_132 {d : Nat} {lv : xLV} {st : List Value} {S : xS} {r : xO} : XL SK MT d 143 (132, lv, st, S) r ↔ XL SK MT d 143 (134, lv, .int 8 :: st, S) r := X_pure rfl rfl rfl
theorem rX5_layStrings_134 {d : Nat} {lv : xLV} {st : List Value} {S : xS} {r : xO} : XL SK MT d 143 (134, lv, st, S) r ↔ XL SK MT d 143 (135, lv, .int 5 :: st, S) r := X_pure rfl rfl rfl
theorem rX5_layStrings_135 {d : Nat} {lv : xLV} {S : xS} {r : xO} {x1 : Int32} {x2 : Int32} {x3 : Int32} : XL SK MT d 143 (135, lv, [.int x3, .int x2, .int x1, .ref 9], S) r ↔ xK (XC SK MT d 20 [.ref 9, .int x1, .int x2, .int x3] S) (fun v S => XL SK MT d 143 (138, lv, v.toList ++ [], S) r) := X_inv (n := 4) (kd := 2) (st0 := [.int x3, .int x2, .int x1, .ref 9]) rfl (Or.inr ⟨rfl, rfl⟩) rfl (Nat.le_of_ble_eq_true rfl) (Nat.le_of_ble_eq_true rfl) (by decide) rfl
theorem rX5_layStrings_138 {d : Nat} {lv : xLV} {st : List Value} {S : xS} {r : xO} : XL SK MT d 143 (138, lv, st, S) r ↔ xA (xlook lv 0) (fun x => XL SK MT d 143 (139, lv, .ref x :: st, S) r) := X_ldA rfl rfl (fun _ => rfl) rfl rfl rfl rfl
theorem rX5_layStrings_139 {d : Nat} {lv : xLV} {st : List Value} {S : xS} {r : xO} : XL SK MT d 143 (139, lv, .ref 10 :: st, S) r ↔ XL SK MT d 143 (142, lv, .ref 9 :: st, S) r := X_heap rfl rfl rfl rfl rfl
theorem rX5_layStrings_142 {d : Nat} {lv : xLV} {st : List Value} {S : xS} {r : xO} : XL SK MT d 143 (142, lv, st, S) r ↔ XL SK MT d 143 (144, lv, .int 8 :: st, S) r := X_pure rfl rfl rfl
theorem rX5_layStrings_144 {d : Nat} {lv : xLV} {st : List Value} {S : xS} {r : xO} : XL SK MT d 143 (144, lv, st, S) r ↔ XL SK MT d 143 (145, lv, .int 0 :: st, S) r := X_pure rfl rfl rfl
theorem rX5_layStrings_145 {d : Nat} {lv : xLV} {st : List Value} {S : xS} {r : xO} : XL SK MT d 143 (145, lv, st, S) r ↔ XL SK MT d 143 (146, lv, .int 2 :: st, S) r := X_pure rfl rfl rfl
theorem rX5_layStrings_146 {d : Nat} {lv : xLV} {S : xS} {r : xO} {x1 : Int32} {x2 : Int32} {x3 : Int32} : XL SK MT d 143 (146, lv, [.int x3, .int x2, .int x1, .ref 9], S) r ↔ xK (XC SK MT d 19 [.ref 9, .int x1, .int x2, .int x3] S) (fun v S => XL SK MT d 143 (149, lv, v.toList ++ [], S) r) := X_inv (n := 4) (kd := 2) (st0 := [.int x3, .int x2, .int x1, .ref 9]) rfl (Or.inr ⟨rfl, rfl⟩) rfl (Nat.le_of_ble_eq_true rfl) (Nat.le_of_ble_eq_true rfl) (by decide) rfl
theorem rX5_layStrings_149 {d : Nat} {lv : xLV} {st : List Value} {S : xS} {r : xO} : XL SK MT d 143 (149, lv, st, S) r ↔ xA (xlook lv 0) (fun x => XL SK MT d 143 (150, lv, .ref x :: st, S) r) := X_ldA rfl rfl (fun _ => rfl) rfl rfl rfl rfl
theorem rX5_layStrings_150 {d : Nat} {lv : xLV} {st : List Value} {S : xS} {r : xO} : XL SK MT d 143 (150, lv, .ref 10 :: st, S) r ↔ XL SK MT d 143 (153, lv, .ref 9 :: st, S) r := X_heap rfl rfl rfl rfl rfl
theorem rX5_layStrings_153 {d : Nat} {lv : xLV} {st : List Value} {S : xS} {r : xO} : XL SK MT d 143 (153, lv, st, S) r ↔ XL SK MT d 143 (155, lv, .int 31 :: st, S) r := X_pure rfl rfl rfl
theorem rX5_layStrings_155 {d : Nat} {lv : xLV} {S : xS} {r : xO} {x1 : Int32} : XL SK MT d 143 (155, lv, [.int x1, .ref 9], S) r ↔ xK (XC SK MT d 29 [.ref 9, .int x1] S) (fun v S => XL SK MT d 143 (158, lv, v.toList ++ [], S) r) := X_inv (n := 2) (kd := 2) (st0 := [.int x1, .ref 9]) rfl (Or.inr ⟨rfl, rfl⟩) rfl (Nat.le_of_ble_eq_true rfl) (Nat.le_of_ble_eq_true rfl) (by decide) rfl
theorem rX5_layStrings_158 {d : Nat} {lv : xLV} {st : List Value} {S : xS} {r : xO} : XL SK MT d 143 (158, lv, st, S) r ↔ xA (xlook lv 0) (fun x => XL SK MT d 143 (159, lv, .ref x :: st, S) r) := X_ldA rfl rfl (fun _ => rfl) rfl rfl rfl rfl
theorem rX5_layStrings_159 {d : Nat} {lv : xLV} {st : List Value} {S : xS} {r : xO} : XL SK MT d 143 (159, lv, .ref 10 :: st, S) r ↔ XL SK MT d 143 (162, lv, .ref 9 :: st, S) r := X_heap rfl rfl rfl rfl rfl
theorem rX5_layStrings_162 {d : Nat} {lv : xLV} {S : xS} {r : xO} : XL SK MT d 143 (162, lv, [.ref 9], S) r ↔ xK (XC SK MT d 1 [.ref 9] S) (fun v S => XL SK MT d 143 (165, lv, v.toList ++ [], S) r) := X_inv (n := 1) (kd := 2) (st0 := [.ref 9]) rfl (Or.inr ⟨rfl, rfl⟩) rfl (Nat.le_of_ble_eq_true rfl) (Nat.le_of_ble_eq_true rfl) (by decide) rfl
theorem rX5_layStrings_165 {d : Nat} {lv : xLV} {st : List Value} {S : xS} {r : xO} {x : Int32} : XL SK MT d 143 (165, lv, .int x :: st, S) r ↔ XL SK MT d 143 (166, xst1 lv 1 (.int x), st, S) r := X_pure rfl rfl rfl
theorem rX5_layStrings_166 {d : Nat} {lv : xLV} {st : List Value} {S : xS} {r : xO} : XL SK MT d 143 (166, lv, st, S) r ↔ xA (xlook lv 0) (fun x => XL SK MT d 143 (167, lv, .ref x :: st, S) r) := X_ldA rfl rfl (fun _ => rfl) rfl rfl rfl rfl
theorem rX5_layStrings_167 {d : Nat} {lv : xLV} {st : List Value} {S : xS} {r : xO} : XL SK MT d 143 (167, lv, .ref 10 :: st, S) r ↔ XL SK MT d 143 (170, lv, .ref 9 :: st, S) r := X_heap rfl rfl rfl rfl rfl
theorem rX5_layStrings_170 {d : Nat} {lv : xLV} {st : List Value} {S : xS} {r : xO} : XL SK MT d 143 (170, lv, st, S) r ↔ XL SK MT d 143 (172, lv, .int 65546 :: st, S) r := X_pure rfl rfl rfl
theorem rX5_layStrings_172 {d : Nat} {lv : xLV} {S : xS} {r : xO} {x1 : Int32} : XL SK MT d 143 (172, lv, [.int x1, .ref 9], S) r ↔ xK (XC SK MT d 3 [.ref 9, .int x1] S) (fun v S => XL SK MT d 143 (175, lv, v.toList ++ [], S) r) := X_inv (n := 2) (kd := 2) (st0 := [.int x1, .ref 9]) rfl (Or.inr ⟨rfl, rfl⟩) rfl (Nat.le_of_ble_eq_true rfl) (Nat.le_of_ble_eq_true rfl) (by decide) rfl
theorem rX5_layStrings_175 {d : Nat} {lv : xLV} {st : List Value} {S : xS} {r : xO} : XL SK MT d 143 (175, lv, st, S) r ↔ xA (xlook lv 0) (fun x => XL SK MT d 143 (176, lv, .ref x :: st, S) r) := X_ldA rfl rfl (fun _ => rfl) rfl rfl rfl rfl
theorem rX5_layStrings_176 {d : Nat} {lv : xLV} {st : List Value} {S : xS} {r : xO} : XL SK MT d 143 (176, lv, .ref 10 :: st, S) r ↔ XL SK MT d 143 (179, lv, .ref 9 :: st, S) r := X_heap rfl rfl rfl rfl rfl
theorem rX5_layStrings_179 {d : Nat} {lv : xLV} {st : List Value} {S : xS} {r : xO} : XL SK MT d 143 (179, lv, st, S) r ↔ XL SK MT d 143 (181, lv, .int 9 :: st, S) r := X_pure rfl rfl rfl
theorem rX5_layStrings_181 {d : Nat} {lv : xLV} {st : List Value} {S : xS} {r : xO} : XL SK MT d 143 (181, lv, st, S) r ↔ XL SK MT d 143 (182, lv, .int 0 :: st, S) r := X_pure rfl rfl rfl
theorem rX5_layStrings_182 {d : Nat} {lv : xLV} {st : List Value} {S : xS} {r : xO} : XL SK MT d 143 (182, lv, st, S) r ↔ XL SK MT d 143 (184, lv, .int 8 :: st, S) r := X_pure rfl rfl rfl
theorem rX5_layStrings_184 {d : Nat} {lv : xLV} {S : xS} {r : xO} {x1 : Int32} {x2 : Int32} {x3 : Int32} : XL SK MT d 143 (184, lv, [.int x3, .int x2, .int x1, .ref 9], S) r ↔ xK (XC SK MT d 18 [.ref 9, .int x1, .int x2, .int x3] S) (fun v S => XL SK MT d 143 (187, lv, v.toList ++ [], S) r) := X_inv (n := 4) (kd := 2) (st0 := [.int x3, .int x2, .int x1, .ref 9]) rfl (Or.inr ⟨rfl, rfl⟩) rfl (Nat.le_of_ble_eq_true rfl) (Nat.le_of_ble_eq_true rfl) (by decide) rfl
theorem rX5_layStrings_187 {d : Nat} {lv : xLV} {st : List Value} {S : xS} {r : xO} : XL SK MT d 143 (187, lv, st, S) r ↔ xA (xlook lv 0) (fun x => XL SK MT d 143 (188, lv, .ref x :: st, S) r) := X_ldA rfl rfl (fun _ => rfl) rfl rfl rfl rfl
theorem rX5_layStrings_188 {d : Nat} {lv : xLV} {st : List Value} {S : xS} {r : xO} : XL SK MT d 143 (188, lv, .ref 10 :: st, S) r ↔ XL SK MT d 143 (191, lv, .ref 9 :: st, S) r := X_heap rfl rfl rfl rfl rfl
theorem rX5_layStrings_191 {d : Nat} {lv : xLV} {st : List Value} {S : xS} {r : xO} : XL SK MT d 143 (191, lv, st, S) r ↔ XL SK MT d 143 (193, lv, .int 8 :: st, S) r := X_pure rfl rfl rfl
theorem rX5_layStrings_193 {d : Nat} {lv : xLV} {st : List Value} {S : xS} {r : xO} : XL SK MT d 143 (193, lv, st, S) r ↔ XL SK MT d 143 (195, lv, .int 8 :: st, S) r := X_pure rfl rfl rfl
theorem rX5_layStrings_195 {d : Nat} {lv : xLV} {st : List Value} {S : xS} {r : xO} : XL SK MT d 143 (195, lv, st, S) r ↔ XL SK MT d 143 (196, lv, .int 4 :: st, S) r := X_pure rfl rfl rfl
theorem rX5_layStrings_196 {d : Nat} {lv : xLV} {S : xS} {r : xO} {x1 : Int32} {x2 : Int32} {x3 : Int32} : XL SK MT d 143 (196, lv, [.int x3, .int x2, .int x1, .ref 9], S) r ↔ xK (XC SK MT d 20 [.ref 9, .int x1, .int x2, .int x3] S) (fun v S => XL SK MT d 143 (199, lv, v.toList ++ [], S) r) := X_inv (n := 4) (kd := 2) (st0 := [.int x3, .int x2, .int x1, .ref 9]) rfl (Or.inr ⟨rfl, rfl⟩) rfl (Nat.le_of_ble_eq_true rfl) (Nat.le_of_ble_eq_true rfl) (by decide) rfl
theorem rX5_layStrings_199 {d : Nat} {lv : xLV} {st : List Value} {S : xS} {r : xO} : XL SK MT d 143 (199, lv, st, S) r ↔ xA (xlook lv 0) (fun x => XL SK MT d 143 (200, lv, .ref x :: st, S) r) := X_ldA rfl rfl (fun _ => rfl) rfl rfl rfl rfl
theorem rX5_layStrings_200 {d : Nat} {lv : xLV} {st : List Value} {S : xS} {r : xO} : XL SK MT d 143 (200, lv, .ref 10 :: st, S) r ↔ XL SK MT d 143 (203, lv, .ref 9 :: st, S) r := X_heap rfl rfl rfl rfl rfl
theorem rX5_layStrings_203 {d : Nat} {lv : xLV} {st : List Value} {S : xS} {r : xO} : XL SK MT d 143 (203, lv, st, S) r ↔ XL SK MT d 143 (204, lv, .int 2 :: st, S) r := X_pure rfl rfl rfl
theorem rX5_layStrings_204 {d : Nat} {lv : xLV} {st : List Value} {S : xS} {r : xO} : XL SK MT d 143 (204, lv, st, S) r ↔ XL SK MT d 143 (206, lv, .int 9 :: st, S) r := X_pure rfl rfl rfl
theorem rX5_layStrings_206 {d : Nat} {lv : xLV} {st : List Value} {S : xS} {r : xO} : XL SK MT d 143 (206, lv, st, S) r ↔ XL SK MT d 143 (208, lv, .int 9 :: st, S) r := X_pure rfl rfl rfl
theorem rX5_layStrings_208 {d : Nat} {lv : xLV} {st : List Value} {S : xS} {r : xO} : XL SK MT d 143 (208, lv, st, S) r ↔ XL SK MT d 143 (209, lv, .int 3 :: st, S) r := X_pure rfl rfl rfl
theorem rX5_layStrings_209 {d : Nat} {lv : xLV} {S : xS} {r : xO} {x1 : Int32} {x2 : Int32} {x3 : Int32} {x4 : Int32} : XL SK MT d 143 (209, lv, [.int x4, .int x3, .int x2, .int x1, .ref 9], S) r ↔ xK (XC SK MT d 16 [.ref 9, .int x1, .int x2, .int x3, .int x4] S) (fun v S => XL SK MT d 143 (212, lv, v.toList ++ [], S) r) := X_inv (n := 5) (kd := 2) (st0 := [.int x4, .int x3, .int x2, .int x1, .ref 9]) rfl (Or.inr ⟨rfl, rfl⟩) rfl (Nat.le_of_ble_eq_true rfl) (Nat.le_of_ble_eq_true rfl) (by decide) rfl
theorem rX5_layStrings_212 {d : Nat} {lv : xLV} {st : List Value} {S : xS} {r : xO} : XL SK MT d 143 (212, lv, st, S) r ↔ xA (xlook lv 0) (fun x => XL SK MT d 143 (213, lv, .ref x :: st, S) r) := X_ldA rfl rfl (fun _ => rfl) rfl rfl rfl rfl
theorem rX5_layStrings_213 {d : Nat} {lv : xLV} {st : List Value} {S : xS} {r : xO} : XL SK MT d 143 (213, lv, .ref 10 :: st, S) r ↔ XL SK MT d 143 (216, lv, .ref 9 :: st, S) r := X_heap rfl rfl rfl rfl rfl
theorem rX5_layStrings_216 {d : Nat} {lv : xLV} {st : List Value} {S : xS} {r : xO} : XL SK MT d 143 (216, lv, st, S) r ↔ XL SK MT d 143 (218, lv, .int 33 :: st, S) r := X_pure rfl rfl rfl
theorem rX5_layStrings_218 {d : Nat} {lv : xLV} {st : List Value} {S : xS} {r : xO} : XL SK MT d 143 (218, lv, st, S) r ↔ XL SK MT d 143 (220, lv, .int 9 :: st, S) r := X_pure rfl rfl rfl
theorem rX5_layStrings_220 {d : Nat} {lv : xLV} {st : List Value} {S : xS} {r : xO} : XL SK MT d 143 (220, lv, st, S) r ↔ XL SK MT d 143 (222, lv, .int 8 :: st, S) r := X_pure rfl rfl rfl
theorem rX5_layStrings_222 {d : Nat} {lv : xLV} {st : List Value} {S : xS} {r : xO} : XL SK MT d 143 (222, lv, st, S) r ↔ XL SK MT d 143 (224, lv, .int 9 :: st, S) r := X_pure rfl rfl rfl
theorem rX5_layStrings_224 {d : Nat} {lv : xLV} {S : xS} {r : xO} {x1 : Int32} {x2 : Int32} {x3 : Int32} {x4 : Int32} : XL SK MT d 143 (224, lv, [.int x4, .int x3, .int x2, .int x1, .ref 9], S) r ↔ xK (XC SK MT d 15 [.ref 9, .int x1, .int x2, .int x3, .int x4] S) (fun v S => XL SK MT d 143 (227, lv, v.toList ++ [], S) r) := X_inv (n := 5) (kd := 2) (st0 := [.int x4, .int x3, .int x2, .int x1, .ref 9]) rfl (Or.inr ⟨rfl, rfl⟩) rfl (Nat.le_of_ble_eq_true rfl) (Nat.le_of_ble_eq_true rfl) (by decide) rfl
theorem rX5_layStrings_227 {d : Nat} {lv : xLV} {st : List Value} {S : xS} {r : xO} : XL SK MT d 143 (227, lv, st, S) r ↔ xA (xlook lv 0) (fun x => XL SK MT d 143 (228, lv, .ref x :: st, S) r) := X_ldA rfl rfl (fun _ => rfl) rfl rfl rfl rfl
theorem rX5_layStrings_228 {d : Nat} {lv : xLV} {st : List Value} {S : xS} {r : xO} : XL SK MT d 143 (228, lv, .ref 10 :: st, S) r ↔ XL SK MT d 143 (231, lv, .ref 9 :: st, S) r := X_heap rfl rfl rfl rfl rfl
theorem rX5_layStrings_231 {d : Nat} {lv : xLV} {S : xS} {r : xO} : XL SK MT d 143 (231, lv, [.ref 9], S) r ↔ xK (XC SK MT d 2 [.ref 9] S) (fun v S => XL SK MT d 143 (234, lv, v.toList ++ [], S) r) := X_inv (n := 1) (kd := 2) (st0 := [.ref 9]) rfl (Or.inr ⟨rfl, rfl⟩) rfl (Nat.le_of_ble_eq_true rfl) (Nat.le_of_ble_eq_true rfl) (by decide) rfl
theorem rX5_layStrings_234 {d : Nat} {lv : xLV} {st : List Value} {S : xS} {r : xO} {x : Int32} : XL SK MT d 143 (234, lv, .int x :: st, S) r ↔ XL SK MT d 143 (235, xst1 lv 2 (.int x), st, S) r := X_pure rfl rfl rfl
theorem rX5_layStrings_235 {d : Nat} {lv : xLV} {st : List Value} {S : xS} {r : xO} : XL SK MT d 143 (235, lv, st, S) r ↔ xA (xlook lv 0) (fun x => XL SK MT d 143 (236, lv, .ref x :: st, S) r) := X_ldA rfl rfl (fun _ => rfl) rfl rfl rfl rfl
theorem rX5_layStrings_236 {d : Nat} {lv : xLV} {st : List Value} {S : xS} {r : xO} : XL SK MT d 143 (236, lv, .ref 10 :: st, S) r ↔ XL SK MT d 143 (239, lv, .ref 9 :: st, S) r := X_heap rfl rfl rfl rfl rfl
theorem rX5_layStrings_239 {d : Nat} {lv : xLV} {st : List Value} {S : xS} {r : xO} : XL SK MT d 143 (239, lv, st, S) r ↔ XL SK MT d 143 (240, lv, .int 4 :: st, S) r := X_pure rfl rfl rfl
theorem rX5_layStrings_240 {d : Nat} {lv : xLV} {st : List Value} {S : xS} {r : xO} : XL SK MT d 143 (240, lv, st, S) r ↔ XL SK MT d 143 (242, lv, .int 8 :: st, S) r := X_pure rfl rfl rfl
theorem rX5_layStrings_242 {d : Nat} {lv : xLV} {st : List Value} {S : xS} {r : xO} : XL SK MT d 143 (242, lv, st, S) r ↔ XL SK MT d 143 (244, lv, .int 9 :: st, S) r := X_pure rfl rfl rfl
theorem rX5_layStrings_244 {d : Nat} {lv : xLV} {st : List Value} {S : xS} {r : xO} : XL SK MT d 143 (244, lv, st, S) r ↔ xI (xlook lv 1) (fun x => XL SK MT d 143 (245, lv, .int x :: st, S) r) := X_ldI rfl rfl (fun _ => rfl) rfl rfl rfl rfl
theorem rX5_layStrings_245 {d : Nat} {lv : xLV} {S : xS} {r : xO} {x1 : Int32} {x2 : Int32} {x3 : Int32} {x4 : Int32} : XL SK MT d 143 (245, lv, [.int x4, .int x3, .int x2, .int x1, .ref 9], S) r ↔ xK (XC SK MT d 24 [.ref 9, .int x1, .int x2, .int x3, .int x4] S) (fun v S => XL SK MT d 143 (248, lv, v.toList ++ [], S) r) := X_inv (n := 5) (kd := 2) (st0 := [.int x4, .int x3, .int x2, .int x1, .ref 9]) rfl (Or.inr ⟨rfl, rfl⟩) rfl (Nat.le_of_ble_eq_true rfl) (Nat.le_of_ble_eq_true rfl) (by decide) rfl
theorem rX5_layStrings_248 {d : Nat} {lv : xLV} {st : List Value} {S : xS} {r : xO} : XL SK MT d 143 (248, lv, st, S) r ↔ xA (xlook lv 0) (fun x => XL SK MT d 143 (249, lv, .ref x :: st, S) r) := X_ldA rfl rfl (fun _ => rfl) rfl rfl rfl rfl
theorem rX5_layStrings_249 {d : Nat} {lv : xLV} {st : List Value} {S : xS} {r : xO} : XL SK MT d 143 (249, lv, .ref 10 :: st, S) r ↔ XL SK MT d 143 (252, lv, .ref 9 :: st, S) r := X_heap rfl rfl rfl rfl rfl
theorem rX5_layStrings_252 {d : Nat} {lv : xLV} {st : List Value} {S : xS} {r : xO} : XL SK MT d 143 (252, lv, st, S) r ↔ XL SK MT d 143 (254, lv, .int 36 :: st, S) r := X_pure rfl rfl rfl
theorem rX5_layStrings_254 {d : Nat} {lv : xLV} {st : List Value} {S : xS} {r : xO} : XL SK MT d 143 (254, lv, st, S) r ↔ XL SK MT d 143 (256, lv, .int 10 :: st, S) r := X_pure rfl rfl rfl
theorem rX5_layStrings_256 {d : Nat} {lv : xLV} {st : List Value} {S : xS} {r : xO} : XL SK MT d 143 (256, lv, st, S) r ↔ XL SK MT d 143 (258, lv, .int 8 :: st, S) r := X_pure rfl rfl rfl
theorem rX5_layStrings_258 {d : Nat} {lv : xLV} {st : List Value} {S : xS} {r : xO} : XL SK MT d 143 (258, lv, st, S) r ↔ XL SK MT d 143 (259, lv, .int 0 :: st, S) r := X_pure rfl rfl rfl
theorem rX5_layStrings_259 {d : Nat} {lv : xLV} {S : xS} {r : xO} {x1 : Int32} {x2 : Int32} {x3 : Int32} {x4 : Int32} : XL SK MT d 143 (259, lv, [.int x4, .int x3, .int x2, .int x1, .ref 9], S) r ↔ xK (XC SK MT d 17 [.ref 9, .int x1, .int x2, .int x3, .int x4] S) (fun v S => XL SK MT d 143 (262, lv, v.toList ++ [], S) r) := X_inv (n := 5) (kd := 2) (st0 := [.int x4, .int x3, .int x2, .int x1, .ref 9]) rfl (Or.inr ⟨rfl, rfl⟩) rfl (Nat.le_of_ble_eq_true rfl) (Nat.le_of_ble_eq_true rfl) (by decide) rfl
theorem rX5_layStrings_262 {d : Nat} {lv : xLV} {st : List Value} {S : xS} {r : xO} : XL SK MT d 143 (262, lv, st, S) r ↔ xA (xlook lv 0) (fun x => XL SK MT d 143 (263, lv, .ref x :: st, S) r) := X_ldA rfl rfl (fun _ => rfl) rfl rfl rfl rfl
theorem rX5_layStrings_263 {d : Nat} {lv : xLV} {st : List Value} {S : xS} {r : xO} : XL SK MT d 143 (263, lv, .ref 10 :: st, S) r ↔ XL SK MT d 143 (266, lv, .ref 9 :: st, S) r := X_heap rfl rfl rfl rfl rfl
theorem rX5_layStrings_266 {d : Nat} {lv : xLV} {st : List Value} {S : xS} {r : xO} : XL SK MT d 143 (266, lv, st, S) r ↔ XL SK MT d 143 (268, lv, .int 8 :: st, S) r := X_pure rfl rfl rfl
theorem rX5_layStrings_268 {d : Nat} {lv : xLV} {st : List Value} {S : xS} {r : xO} : XL SK MT d 143 (268, lv, st, S) r ↔ XL SK MT d 143 (270, lv, .int 8 :: st, S) r := X_pure rfl rfl rfl
theorem rX5_layStrings_270 {d : Nat} {lv : xLV} {st : List Value} {S : xS} {r : xO} : XL SK MT d 143 (270, lv, st, S) r ↔ XL SK MT d 143 (271, lv, .int 1 :: st, S) r := X_pure rfl rfl rfl
theorem rX5_layStrings_271 {d : Nat} {lv : xLV} {S : xS} {r : xO} {x1 : Int32} {x2 : Int32} {x3 : Int32} : XL SK MT d 143 (271, lv, [.int x3, .int x2, .int x1, .ref 9], S) r ↔ xK (XC SK MT d 20 [.ref 9, .int x1, .int x2, .int x3] S) (fun v S => XL SK MT d 143 (274, lv, v.toList ++ [], S) r) := X_inv (n := 4) (kd := 2) (st0 := [.int x3, .int x2, .int x1, .ref 9]) rfl (Or.inr ⟨rfl, rfl⟩) rfl (Nat.le_of_ble_eq_true rfl) (Nat.le_of_ble_eq_true rfl) (by decide) rfl
theorem rX5_layStrings_274 {d : Nat} {lv : xLV} {st : List Value} {S : xS} {r : xO} : XL SK MT d 143 (274, lv, st, S) r ↔ xA (xlook lv 0) (fun x => XL SK MT d 143 (275, lv, .ref x :: st, S) r) := X_ldA rfl rfl (fun _ => rfl) rfl rfl rfl rfl
theorem rX5_layStrings_275 {d : Nat} {lv : xLV} {st : List Value} {S : xS} {r : xO} : XL SK MT d 143 (275, lv, .ref 10 :: st, S) r ↔ XL SK MT d 143 (278, lv, .ref 9 :: st, S) r := X_heap rfl rfl rfl rfl rfl
theorem rX5_layStrings_278 {d : Nat} {lv : xLV} {st : List Value} {S : xS} {r : xO} : XL SK MT d 143 (278, lv, st, S) r ↔ XL SK MT d 143 (280, lv, .int 40 :: st, S) r := X_pure rfl rfl rfl
theorem rX5_layStrings_280 {d : Nat} {lv : xLV} {st : List Value} {S : xS} {r : xO} : XL SK MT d 143 (280, lv, st, S) r ↔ XL SK MT d 143 (282, lv, .int 10 :: st, S) r := X_pure rfl rfl rfl
theorem rX5_layStrings_282 {d : Nat} {lv : xLV} {st : List Value} {S : xS} {r : xO} : XL SK MT d 143 (282, lv, st, S) r ↔ XL SK MT d 143 (284, lv, .int 12 :: st, S) r := X_pure rfl rfl rfl
theorem rX5_layStrings_284 {d : Nat} {lv : xLV} {st : List Value} {S : xS} {r : xO} : XL SK MT d 143 (284, lv, st, S) r ↔ XL SK MT d 143 (285, lv, .int 0 :: st, S) r := X_pure rfl rfl rfl
theorem rX5_layStrings_285 {d : Nat} {lv : xLV} {S : xS} {r : xO} {x1 : Int32} {x2 : Int32} {x3 : Int32} {x4 : Int32} : XL SK MT d 143 (285, lv, [.int x4, .int x3, .int x2, .int x1, .ref 9], S) r ↔ xK (XC SK MT d 17 [.ref 9, .int x1, .int x2, .int x3, .int x4] S) (fun v S => XL SK MT d 143 (288, lv, v.toList ++ [], S) r) := X_inv (n := 5) (kd := 2) (st0 := [.int x4, .int x3, .int x2, .int x1, .ref 9]) rfl (Or.inr ⟨rfl, rfl⟩) rfl (Nat.le_of_ble_eq_true rfl) (Nat.le_of_ble_eq_true rfl) (by decide) rfl
theorem rX5_layStrings_288 {d : Nat} {lv : xLV} {st : List Value} {S : xS} {r : xO} : XL SK MT d 143 (288, lv, st, S) r ↔ xA (xlook lv 0) (fun x => XL SK MT d 143 (289, lv, .ref x :: st, S) r) := X_ldA rfl rfl (fun _ => rfl) rfl rfl rfl rfl
theorem rX5_layStrings_289 {d : Nat} {lv : xLV} {st : List Value} {S : xS} {r : xO} : XL SK MT d 143 (289, lv, .ref 10 :: st, S) r ↔ XL SK MT d 143 (292, lv, .ref 9 :: st, S) r := X_heap rfl rfl rfl rfl rfl
theorem rX5_layStrings_292 {d : Nat} {lv : xLV} {st : List Value} {S : xS} {r : xO} : XL SK MT d 143 (292, lv, st, S) r ↔ XL SK MT d 143 (294, lv, .int 12 :: st, S) r := X_pure rfl rfl rfl
theorem rX5_layStrings_294 {d : Nat} {lv : xLV} {st : List Value} {S : xS} {r : xO} : XL SK MT d 143 (294, lv, st, S) r ↔ XL SK MT d 143 (296, lv, .int 12 :: st, S) r := X_pure rfl rfl rfl
theorem rX5_layStrings_296 {d : Nat} {lv : xLV} {st : List Value} {S : xS} {r : xO} : XL SK MT d 143 (296, lv, st, S) r ↔ XL SK MT d 143 (297, lv, .int 1 :: st, S) r := X_pure rfl rfl rfl
theorem rX5_layStrings_297 {d : Nat} {lv : xLV} {S : xS} {r : xO} {x1 : Int32} {x2 : Int32} {x3 : Int32} : XL SK MT d 143 (297, lv, [.int x3, .int x2, .int x1, .ref 9], S) r ↔ xK (XC SK MT d 20 [.ref 9, .int x1, .int x2, .int x3] S) (fun v S => XL SK MT d 143 (300, lv, v.toList ++ [], S) r) := X_inv (n := 4) (kd := 2) (st0 := [.int x3, .int x2, .int x1, .ref 9]) rfl (Or.inr ⟨rfl, rfl⟩) rfl (Nat.le_of_ble_eq_true rfl) (Nat.le_of_ble_eq_true rfl) (by decide) rfl
theorem rX5_layStrings_300 {d : Nat} {lv : xLV} {st : List Value} {S : xS} {r : xO} : XL SK MT d 143 (300, lv, st, S) r ↔ xA (xlook lv 0) (fun x => XL SK MT d 143 (301, lv, .ref x :: st, S) r) := X_ldA rfl rfl (fun _ => rfl) rfl rfl rfl rfl
theorem rX5_layStrings_301 {d : Nat} {lv : xLV} {st : List Value} {S : xS} {r : xO} : XL SK MT d 143 (301, lv, .ref 10 :: st, S) r ↔ XL SK MT d 143 (304, lv, .ref 9 :: st, S) r := X_heap rfl rfl rfl rfl rfl
theorem rX5_layStrings_304 {d : Nat} {lv : xLV} {st : List Value} {S : xS} {r : xO} : XL SK MT d 143 (304, lv, st, S) r ↔ xI (xlook lv 2) (fun x => XL SK MT d 143 (305, lv, .int x :: st, S) r) := X_ldI rfl rfl (fun _ => rfl) rfl rfl rfl rfl
theorem rX5_layStrings_305 {d : Nat} {lv : xLV} {S : xS} {r : xO} {x1 : Int32} : XL SK MT d 143 (305, lv, [.int x1, .ref 9], S) r ↔ xK (XC SK MT d 27 [.ref 9, .int x1] S) (fun v S => XL SK MT d 143 (308, lv, v.toList ++ [], S) r) := X_inv (n := 2) (kd := 2) (st0 := [.int x1, .ref 9]) rfl (Or.inr ⟨rfl, rfl⟩) rfl (Nat.le_of_ble_eq_true rfl) (Nat.le_of_ble_eq_true rfl) (by decide) rfl
theorem rX5_layStrings_308 {d : Nat} {lv : xLV} {st : List Value} {S : xS} {r : xO} : XL SK MT d 143 (308, lv, st, S) r ↔ xA (xlook lv 0) (fun x => XL SK MT d 143 (309, lv, .ref x :: st, S) r) := X_ldA rfl rfl (fun _ => rfl) rfl rfl rfl rfl
theorem rX5_layStrings_309 {d : Nat} {lv : xLV} {st : List Value} {S : xS} {r : xO} : XL SK MT d 143 (309, lv, .ref 10 :: st, S) r ↔ XL SK MT d 143 (312, lv, .ref 9 :: st, S) r := X_heap rfl rfl rfl rfl rfl
theorem rX5_layStrings_312 {d : Nat} {lv : xLV} {st : List Value} {S : xS} {r : xO} : XL SK MT d 143 (312, lv, st, S) r ↔ xI (xlook lv 1) (fun x => XL SK MT d 143 (313, lv, .int x :: st, S) r) := X_ldI rfl rfl (fun _ => rfl) rfl rfl rfl rfl
theorem rX5_layStrings_313 {d : Nat} {lv : xLV} {S : xS} {r : xO} {x1 : Int32} : XL SK MT d 143 (313, lv, [.int x1, .ref 9], S) r ↔ xK (XC SK MT d 3 [.ref 9, .int x1] S) (fun v S => XL SK MT d 143 (316, lv, v.toList ++ [], S) r) := X_inv (n := 2) (kd := 2) (st0 := [.int x1, .ref 9]) rfl (Or.inr ⟨rfl, rfl⟩) rfl (Nat.le_of_ble_eq_true rfl) (Nat.le_of_ble_eq_true rfl) (by decide) rfl
theorem rX5_layStrings_316 {d : Nat} {lv : xLV} {st : List Value} {S : xS} {r : xO} : XL SK MT d 143 (316, lv, st, S) r ↔ xA (xlook lv 0) (fun x => XL SK MT d 143 (317, lv, .ref x :: st, S) r) := X_ldA rfl rfl (fun _ => rfl) rfl rfl rfl rfl
theorem rX5_layStrings_317 {d : Nat} {lv : xLV} {st : List Value} {S : xS} {r : xO} : XL SK MT d 143 (317, lv, .ref 10 :: st, S) r ↔ XL SK MT d 143 (320, lv, .ref 9 :: st, S) r := X_heap rfl rfl rfl rfl rfl
theorem rX5_layStrings_320 {d : Nat} {lv : xLV} {st : List Value} {S : xS} {r : xO} : XL SK MT d 143 (320, lv, st, S) r ↔ XL SK MT d 143 (322, lv, .int 31 :: st, S) r := X_pure rfl rfl rfl
theorem rX5_layStrings_322 {d : Nat} {lv : xLV} {S : xS} {r : xO} {x1 : Int32} : XL SK MT d 143 (322, lv, [.int x1, .ref 9], S) r ↔ xK (XC SK MT d 29 [.ref 9, .int x1] S) (fun v S => XL SK MT d 143 (325, lv, v.toList ++ [], S) r) := X_inv (n := 2) (kd := 2) (st0 := [.int x1, .ref 9]) rfl (Or.inr ⟨rfl, rfl⟩) rfl (Nat.le_of_ble_eq_true rfl) (Nat.le_of_ble_eq_true rfl) (by decide) rfl
theorem rX5_layStrings_325 {d : Nat} {lv : xLV} {st : List Value} {S : xS} {r : xO} : XL SK MT d 143 (325, lv, st, S) r ↔ xA (xlook lv 0) (fun x => XL SK MT d 143 (326, lv, .ref x :: st, S) r) := X_ldA rfl rfl (fun _ => rfl) rfl rfl rfl rfl
theorem rX5_layStrings_326 {d : Nat} {lv : xLV} {st : List Value} {S : xS} {r : xO} : XL SK MT d 143 (326, lv, .ref 10 :: st, S) r ↔ XL SK MT d 143 (329, lv, .ref 9 :: st, S) r := X_heap rfl rfl rfl rfl rfl
theorem rX5_layStrings_329 {d : Nat} {lv : xLV} {st : List Value} {S : xS} {r : xO} : XL SK MT d 143 (329, lv, st, S) r ↔ XL SK MT d 143 (331, lv, .int 65547 :: st, S) r := X_pure rfl rfl rfl
theorem rX5_layStrings_331 {d : Nat} {lv : xLV} {S : xS} {r : xO} {x1 : Int32} : XL SK MT d 143 (331, lv, [.int x1, .ref 9], S) r ↔ xK (XC SK MT d 3 [.ref 9, .int x1] S) (fun v S => XL SK MT d 143 (334, lv, v.toList ++ [], S) r) := X_inv (n := 2) (kd := 2) (st0 := [.int x1, .ref 9]) rfl (Or.inr ⟨rfl, rfl⟩) rfl (Nat.le_of_ble_eq_true rfl) (Nat.le_of_ble_eq_true rfl) (by decide) rfl
theorem rX5_layStrings_334 {d : Nat} {lv : xLV} {st : List Value} {S : xS} {r : xO} : XL SK MT d 143 (334, lv, st, S) r ↔ xA (xlook lv 0) (fun x => XL SK MT d 143 (335, lv, .ref x :: st, S) r) := X_ldA rfl rfl (fun _ => rfl) rfl rfl rfl rfl
theorem rX5_layStrings_335 {d : Nat} {lv : xLV} {st : List Value} {S : xS} {r : xO} : XL SK MT d 143 (335, lv, .ref 10 :: st, S) r ↔ XL SK MT d 143 (338, lv, .ref 9 :: st, S) r := X_heap rfl rfl rfl rfl rfl
theorem rX5_layStrings_338 {d : Nat} {lv : xLV} {st : List Value} {S : xS} {r : xO} : XL SK MT d 143 (338, lv, st, S) r ↔ XL SK MT d 143 (340, lv, .int 25 :: st, S) r := X_pure rfl rfl rfl
theorem rX5_layStrings_340 {d : Nat} {lv : xLV} {st : List Value} {S : xS} {r : xO} : XL SK MT d 143 (340, lv, st, S) r ↔ XL SK MT d 143 (342, lv, .int 31 :: st, S) r := X_pure rfl rfl rfl
theorem rX5_layStrings_342 {d : Nat} {lv : xLV} {S : xS} {r : xO} {x1 : Int32} {x2 : Int32} : XL SK MT d 143 (342, lv, [.int x2, .int x1, .ref 9], S) r ↔ xK (XC SK MT d 21 [.ref 9, .int x1, .int x2] S) (fun v S => XL SK MT d 143 (345, lv, v.toList ++ [], S) r) := X_inv (n := 3) (kd := 2) (st0 := [.int x2, .int x1, .ref 9]) rfl (Or.inr ⟨rfl, rfl⟩) rfl (Nat.le_of_ble_eq_true rfl) (Nat.le_of_ble_eq_true rfl) (by decide) rfl
theorem rX5_layStrings_345 {d : Nat} {lv : xLV} {st : List Value} {S : xS} {r : xO} : XL SK MT d 143 (345, lv, st, S) r ↔ xA (xlook lv 0) (fun x => XL SK MT d 143 (346, lv, .ref x :: st, S) r) := X_ldA rfl rfl (fun _ => rfl) rfl rfl rfl rfl
theorem rX5_layStrings_346 {d : Nat} {lv : xLV} {st : List Value} {S : xS} {r : xO} : XL SK MT d 143 (346, lv, .ref 10 :: st, S) r ↔ XL SK MT d 143 (349, lv, .ref 9 :: st, S) r := X_heap rfl rfl rfl rfl rfl
theorem rX5_layStrings_349 {d : Nat} {lv : xLV} {st : List Value} {S : xS} {r : xO} : XL SK MT d 143 (349, lv, st, S) r ↔ XL SK MT d 143 (351, lv, .int 8 :: st, S) r := X_pure rfl rfl rfl
theorem rX5_layStrings_351 {d : Nat} {lv : xLV} {st : List Value} {S : xS} {r : xO} : XL SK MT d 143 (351, lv, st, S) r ↔ XL SK MT d 143 (353, lv, .int (-8) :: st, S) r := X_pure rfl rfl rfl
theorem rX5_layStrings_353 {d : Nat} {lv : xLV} {st : List Value} {S : xS} {r : xO} : XL SK MT d 143 (353, lv, st, S) r ↔ XL SK MT d 143 (355, lv, .int 16 :: st, S) r := X_pure rfl rfl rfl
theorem rX5_layStrings_355 {d : Nat} {lv : xLV} {S : xS} {r : xO} {x1 : Int32} {x2 : Int32} {x3 : Int32} : XL SK MT d 143 (355, lv, [.int x3, .int x2, .int x1, .ref 9], S) r ↔ xK (XC SK MT d 18 [.ref 9, .int x1, .int x2, .int x3] S) (fun v S => XL SK MT d 143 (358, lv, v.toList ++ [], S) r) := X_inv (n := 4) (kd := 2) (st0 := [.int x3, .int x2, .int x1, .ref 9]) rfl (Or.inr ⟨rfl, rfl⟩) rfl (Nat.le_of_ble_eq_true rfl) (Nat.le_of_ble_eq_true rfl) (by decide) rfl
theorem rX5_layStrings_358 {d : Nat} {lv : xLV} {st : List Value} {S : xS} {r : xO} : XL SK MT d 143 (358, lv, st, S) r ↔ xA (xlook lv 0) (fun x => XL SK MT d 143 (359, lv, .ref x :: st, S) r) := X_ldA rfl rfl (fun _ => rfl) rfl rfl rfl rfl
theorem rX5_layStrings_359 {d : Nat} {lv : xLV} {st : List Value} {S : xS} {r : xO} : XL SK MT d 143 (359, lv, .ref 10 :: st, S) r ↔ XL SK MT d 143 (362, lv, .ref 9 :: st, S) r := X_heap rfl rfl rfl rfl rfl
theorem rX5_layStrings_362 {d : Nat} {lv : xLV} {st : List Value} {S : xS} {r : xO} : XL SK MT d 143 (362, lv, st, S) r ↔ XL SK MT d 143 (364, lv, .int 9 :: st, S) r := X_pure rfl rfl rfl
theorem rX5_layStrings_364 {d : Nat} {lv : xLV} {st : List Value} {S : xS} {r : xO} : XL SK MT d 143 (364, lv, st, S) r ↔ XL SK MT d 143 (366, lv, .int (-4) :: st, S) r := X_pure rfl rfl rfl
theorem rX5_layStrings_366 {d : Nat} {lv : xLV} {st : List Value} {S : xS} {r : xO} : XL SK MT d 143 (366, lv, st, S) r ↔ XL SK MT d 143 (368, lv, .int 16 :: st, S) r := X_pure rfl rfl rfl
theorem rX5_layStrings_368 {d : Nat} {lv : xLV} {S : xS} {r : xO} {x1 : Int32} {x2 : Int32} {x3 : Int32} : XL SK MT d 143 (368, lv, [.int x3, .int x2, .int x1, .ref 9], S) r ↔ xK (XC SK MT d 18 [.ref 9, .int x1, .int x2, .int x3] S) (fun v S => XL SK MT d 143 (371, lv, v.toList ++ [], S) r) := X_inv (n := 4) (kd := 2) (st0 := [.int x3, .int x2, .int x1, .ref 9]) rfl (Or.inr ⟨rfl, rfl⟩) rfl (Nat.le_of_ble_eq_true rfl) (Nat.le_of_ble_eq_true rfl) (by decide) rfl
theorem rX5_layStrings_371 {d : Nat} {lv : xLV} {st : List Value} {S : xS} {r : xO} : XL SK MT d 143 (371, lv, st, S) r ↔ xA (xlook lv 0) (fun x => XL SK MT d 143 (372, lv, .ref x :: st, S) r) := X_ldA rfl rfl (fun _ => rfl) rfl rfl rfl rfl
theorem rX5_layStrings_372 {d : Nat} {lv : xLV} {st : List Value} {S : xS} {r : xO} : XL SK MT d 143 (372, lv, .ref 10 :: st, S) r ↔ XL SK MT d 143 (375, lv, .ref 9 :: st, S) r := X_heap rfl rfl rfl rfl rfl
theorem rX5_layStrings_375 {d : Nat} {lv : xLV} {st : List Value} {S : xS} {r : xO} : XL SK MT d 143 (375, lv, st, S) r ↔ XL SK MT d 143 (377, lv, .int 8 :: st, S) r := X_pure rfl rfl rfl
theorem rX5_layStrings_377 {d : Nat} {lv : xLV} {st : List Value} {S : xS} {r : xO} : XL SK MT d 143 (377, lv, st, S) r ↔ XL SK MT d 143 (378, lv, .int 0 :: st, S) r := X_pure rfl rfl rfl
theorem rX5_layStrings_378 {d : Nat} {lv : xLV} {st : List Value} {S : xS} {r : xO} : XL SK MT d 143 (378, lv, st, S) r ↔ XL SK MT d 143 (380, lv, .int 8 :: st, S) r := X_pure rfl rfl rfl
theorem rX5_layStrings_380 {d : Nat} {lv : xLV} {S : xS} {r : xO} {x1 : Int32} {x2 : Int32} {x3 : Int32} : XL SK MT d 143 (380, lv, [.int x3, .int x2, .int x1, .ref 9], S) r ↔ xK (XC SK MT d 18 [.ref 9, .int x1, .int x2, .int x3] S) (fun v S => XL SK MT d 143 (383, lv, v.toList ++ [], S) r) := X_inv (n := 4) (kd := 2) (st0 := [.int x3, .int x2, .int x1, .ref 9]) rfl (Or.inr ⟨rfl, rfl⟩) rfl (Nat.le_of_ble_eq_true rfl) (Nat.le_of_ble_eq_true rfl) (by decide) rfl
theorem rX5_layStrings_383 {d : Nat} {lv : xLV} {st : List Value} {S : xS} {r : xO} : XL SK MT d 143 (383, lv, st, S) r ↔ xA (xlook lv 0) (fun x => XL SK MT d 143 (384, lv, .ref x :: st, S) r) := X_ldA rfl rfl (fun _ => rfl) rfl rfl rfl rfl
theorem rX5_layStrings_384 {d : Nat} {lv : xLV} {st : List Value} {S : xS} {r : xO} : XL SK MT d 143 (384, lv, .ref 10 :: st, S) r ↔ XL SK MT d 143 (387, lv, .ref 9 :: st, S) r := X_heap rfl rfl rfl rfl rfl
theorem rX5_layStrings_387 {d : Nat} {lv : xLV} {st : List Value} {S : xS} {r : xO} : XL SK MT d 143 (387, lv, st, S) r ↔ XL SK MT d 143 (389, lv, .int 9 :: st, S) r := X_pure rfl rfl rfl
theorem rX5_layStrings_389 {d : Nat} {lv : xLV} {st : List Value} {S : xS} {r : xO} : XL SK MT d 143 (389, lv, st, S) r ↔ XL SK MT d 143 (390, lv, .int 0 :: st, S) r := X_pure rfl rfl rfl
theorem rX5_layStrings_390 {d : Nat} {lv : xLV} {st : List Value} {S : xS} {r : xO} : XL SK MT d 143 (390, lv, st, S) r ↔ XL SK MT d 143 (392, lv, .int 9 :: st, S) r := X_pure rfl rfl rfl
theorem rX5_layStrings_392 {d : Nat} {lv : xLV} {S : xS} {r : xO} {x1 : Int32} {x2 : Int32} {x3 : Int32} : XL SK MT d 143 (392, lv, [.int x3, .int x2, .int x1, .ref 9], S) r ↔ xK (XC SK MT d 18 [.ref 9, .int x1, .int x2, .int x3] S) (fun v S => XL SK MT d 143 (395, lv, v.toList ++ [], S) r) := X_inv (n := 4) (kd := 2) (st0 := [.int x3, .int x2, .int x1, .ref 9]) rfl (Or.inr ⟨rfl, rfl⟩) rfl (Nat.le_of_ble_eq_true rfl) (Nat.le_of_ble_eq_true rfl) (by decide) rfl
theorem rX5_layStrings_395 {d : Nat} {lv : xLV} {st : List Value} {S : xS} {r : xO} : XL SK MT d 143 (395, lv, st, S) r ↔ xA (xlook lv 0) (fun x => XL SK MT d 143 (396, lv, .ref x :: st, S) r) := X_ldA rfl rfl (fun _ => rfl) rfl rfl rfl rfl
theorem rX5_layStrings_396 {d : Nat} {lv : xLV} {st : List Value} {S : xS} {r : xO} : XL SK MT d 143 (396, lv, .ref 10 :: st, S) r ↔ XL SK MT d 143 (399, lv, .ref 9 :: st, S) r := X_heap rfl rfl rfl rfl rfl
theorem rX5_layStrings_399 {d : Nat} {lv : xLV} {st : List Value} {S : xS} {r : xO} : XL SK MT d 143 (399, lv, st, S) r ↔ XL SK MT d 143 (400, lv, .int 2 :: st, S) r := X_pure rfl rfl rfl
theorem rX5_layStrings_400 {d : Nat} {lv : xLV} {st : List Value} {S : xS} {r : xO} : XL SK MT d 143 (400, lv, st, S) r ↔ XL SK MT d 143 (402, lv, .int 8 :: st, S) r := X_pure rfl rfl rfl
theorem rX5_layStrings_402 {d : Nat} {lv : xLV} {st : List Value} {S : xS} {r : xO} : XL SK MT d 143 (402, lv, st, S) r ↔ XL SK MT d 143 (404, lv, .int 8 :: st, S) r := X_pure rfl rfl rfl
theorem rX5_layStrings_404 {d : Nat} {lv : xLV} {st : List Value} {S : xS} {r : xO} : XL SK MT d 143 (404, lv, st, S) r ↔ XL SK MT d 143 (405, lv, .int 3 :: st, S) r := X_pure rfl rfl rfl
theorem rX5_layStrings_405 {d : Nat} {lv : xLV} {S : xS} {r : xO} {x1 : Int32} {x2 : Int32} {x3 : Int32} {x4 : Int32} : XL SK MT d 143 (405, lv, [.int x4, .int x3, .int x2, .int x1, .ref 9], S) r ↔ xK (XC SK MT d 16 [.ref 9, .int x1, .int x2, .int x3, .int x4] S) (fun v S => XL SK MT d 143 (408, lv, v.toList ++ [], S) r) := X_inv (n := 5) (kd := 2) (st0 := [.int x4, .int x3, .int x2, .int x1, .ref 9]) rfl (Or.inr ⟨rfl, rfl⟩) rfl (Nat.le_of_ble_eq_true rfl) (Nat.le_of_ble_eq_true rfl) (by decide) rfl
theorem rX5_layStrings_408 {d : Nat} {lv : xLV} {st : List Value} {S : xS} {r : xO} : XL SK MT d 143 (408, lv, st, S) r ↔ xA (xlook lv 0) (fun x => XL SK MT d 143 (409, lv, .ref x :: st, S) r) := X_ldA rfl rfl (fun _ => rfl) rfl rfl rfl rfl
theorem rX5_layStrings_409 {d : Nat} {lv : xLV} {st : List Value} {S : xS} {r : xO} : XL SK MT d 143 (409, lv, .ref 10 :: st, S) r ↔ XL SK MT d 143 (412, lv, .ref 9 :: st, S) r := X_heap rfl rfl rfl rfl rfl
theorem rX5_layStrings_412 {d : Nat} {lv : xLV} {st : List Value} {S : xS} {r : xO} : XL SK MT d 143 (412, lv, st, S) r ↔ XL SK MT d 143 (413, lv, .int 2 :: st, S) r := X_pure rfl rfl rfl
theorem rX5_layStrings_413 {d : Nat} {lv : xLV} {st : List Value} {S : xS} {r : xO} : XL SK MT d 143 (413, lv, st, S) r ↔ XL SK MT d 143 (415, lv, .int 9 :: st, S) r := X_pure rfl rfl rfl
theorem rX5_layStrings_415 {d : Nat} {lv : xLV} {st : List Value} {S : xS} {r : xO} : XL SK MT d 143 (415, lv, st, S) r ↔ XL SK MT d 143 (417, lv, .int 9 :: st, S) r := X_pure rfl rfl rfl
theorem rX5_layStrings_417 {d : Nat} {lv : xLV} {st : List Value} {S : xS} {r : xO} : XL SK MT d 143 (417, lv, st, S) r ↔ XL SK MT d 143 (418, lv, .int 3 :: st, S) r := X_pure rfl rfl rfl
theorem rX5_layStrings_418 {d : Nat} {lv : xLV} {S : xS} {r : xO} {x1 : Int32} {x2 : Int32} {x3 : Int32} {x4 : Int32} : XL SK MT d 143 (418, lv, [.int x4, .int x3, .int x2, .int x1, .ref 9], S) r ↔ xK (XC SK MT d 16 [.ref 9, .int x1, .int x2, .int x3, .int x4] S) (fun v S => XL SK MT d 143 (421, lv, v.toList ++ [], S) r) := X_inv (n := 5) (kd := 2) (st0 := [.int x4, .int x3, .int x2, .int x1, .ref 9]) rfl (Or.inr ⟨rfl, rfl⟩) rfl (Nat.le_of_ble_eq_true rfl) (Nat.le_of_ble_eq_true rfl) (by decide) rfl
theorem rX5_layStrings_421 {d : Nat} {lv : xLV} {st : List Value} {S : xS} {r : xO} : XL SK MT d 143 (421, lv, st, S) r ↔ xA (xlook lv 0) (fun x => XL SK MT d 143 (422, lv, .ref x :: st, S) r) := X_ldA rfl rfl (fun _ => rfl) rfl rfl rfl rfl
theorem rX5_layStrings_422 {d : Nat} {lv : xLV} {st : List Value} {S : xS} {r : xO} : XL SK MT d 143 (422, lv, .ref 10 :: st, S) r ↔ XL SK MT d 143 (425, lv, .ref 9 :: st, S) r := X_heap rfl rfl rfl rfl rfl
theorem rX5_layStrings_425 {d : Nat} {lv : xLV} {st : List Value} {S : xS} {r : xO} : XL SK MT d 143 (425, lv, st, S) r ↔ XL SK MT d 143 (427, lv, .int 33 :: st, S) r := X_pure rfl rfl rfl
theorem rX5_layStrings_427 {d : Nat} {lv : xLV} {st : List Value} {S : xS} {r : xO} : XL SK MT d 143 (427, lv, st, S) r ↔ XL SK MT d 143 (429, lv, .int 11 :: st, S) r := X_pure rfl rfl rfl
theorem rX5_layStrings_429 {d : Nat} {lv : xLV} {st : List Value} {S : xS} {r : xO} : XL SK MT d 143 (429, lv, st, S) r ↔ XL SK MT d 143 (431, lv, .int 8 :: st, S) r := X_pure rfl rfl rfl
theorem rX5_layStrings_431 {d : Nat} {lv : xLV} {st : List Value} {S : xS} {r : xO} : XL SK MT d 143 (431, lv, st, S) r ↔ XL SK MT d 143 (433, lv, .int 9 :: st, S) r := X_pure rfl rfl rfl
theorem rX5_layStrings_433 {d : Nat} {lv : xLV} {S : xS} {r : xO} {x1 : Int32} {x2 : Int32} {x3 : Int32} {x4 : Int32} : XL SK MT d 143 (433, lv, [.int x4, .int x3, .int x2, .int x1, .ref 9], S) r ↔ xK (XC SK MT d 15 [.ref 9, .int x1, .int x2, .int x3, .int x4] S) (fun v S => XL SK MT d 143 (436, lv, v.toList ++ [], S) r) := X_inv (n := 5) (kd := 2) (st0 := [.int x4, .int x3, .int x2, .int x1, .ref 9]) rfl (Or.inr ⟨rfl, rfl⟩) rfl (Nat.le_of_ble_eq_true rfl) (Nat.le_of_ble_eq_true rfl) (by decide) rfl
theorem rX5_layStrings_436 {d : Nat} {lv : xLV} {st : List Value} {S : xS} {r : xO} : XL SK MT d 143 (436, lv, st, S) r ↔ xA (xlook lv 0) (fun x => XL SK MT d 143 (437, lv, .ref x :: st, S) r) := X_ldA rfl rfl (fun _ => rfl) rfl rfl rfl rfl
theorem rX5_layStrings_437 {d : Nat} {lv : xLV} {st : List Value} {S : xS} {r : xO} : XL SK MT d 143 (437, lv, .ref 10 :: st, S) r ↔ XL SK MT d 143 (440, lv, .ref 9 :: st, S) r := X_heap rfl rfl rfl rfl rfl
theorem rX5_layStrings_440 {d : Nat} {lv : xLV} {st : List Value} {S : xS} {r : xO} : XL SK MT d 143 (440, lv, st, S) r ↔ XL SK MT d 143 (442, lv, .int 65545 :: st, S) r := X_pure rfl rfl rfl
theorem rX5_layStrings_442 {d : Nat} {lv : xLV} {S : xS} {r : xO} {x1 : Int32} : XL SK MT d 143 (442, lv, [.int x1, .ref 9], S) r ↔ xK (XC SK MT d 28 [.ref 9, .int x1] S) (fun v S => XL SK MT d 143 (445, lv, v.toList ++ [], S) r) := X_inv (n := 2) (kd := 2) (st0 := [.int x1, .ref 9]) rfl (Or.inr ⟨rfl, rfl⟩) rfl (Nat.le_of_ble_eq_true rfl) (Nat.le_of_ble_eq_true rfl) (by decide) rfl
theorem rX5_layStrings_445 {d : Nat} {lv : xLV} {st : List Value} {S : xS} {r : xO} : XL SK MT d 143 (445, lv, st, S) r ↔ xA (xlook lv 0) (fun x => XL SK MT d 143 (446, lv, .ref x :: st, S) r) := X_ldA rfl rfl (fun _ => rfl) rfl rfl rfl rfl
theorem rX5_layStrings_446 {d : Nat} {lv : xLV} {st : List Value} {S : xS} {r : xO} : XL SK MT d 143 (446, lv, .ref 10 :: st, S) r ↔ XL SK MT d 143 (449, lv, .ref 9 :: st, S) r := X_heap rfl rfl rfl rfl rfl
theorem rX5_layStrings_449 {d : Nat} {lv : xLV} {st : List Value} {S : xS} {r : xO} : XL SK MT d 143 (449, lv, st, S) r ↔ XL SK MT d 143 (451, lv, .int 8 :: st, S) r := X_pure rfl rfl rfl
theorem rX5_layStrings_451 {d : Nat} {lv : xLV} {st : List Value} {S : xS} {r : xO} : XL SK MT d 143 (451, lv, st, S) r ↔ XL SK MT d 143 (453, lv, .int (-8) :: st, S) r := X_pure rfl rfl rfl
theorem rX5_layStrings_453 {d : Nat} {lv : xLV} {st : List Value} {S : xS} {r : xO} : XL SK MT d 143 (453, lv, st, S) r ↔ XL SK MT d 143 (455, lv, .int 16 :: st, S) r := X_pure rfl rfl rfl
theorem rX5_layStrings_455 {d : Nat} {lv : xLV} {S : xS} {r : xO} {x1 : Int32} {x2 : Int32} {x3 : Int32} : XL SK MT d 143 (455, lv, [.int x3, .int x2, .int x1, .ref 9], S) r ↔ xK (XC SK MT d 18 [.ref 9, .int x1, .int x2, .int x3] S) (fun v S => XL SK MT d 143 (458, lv, v.toList ++ [], S) r) := X_inv (n := 4) (kd := 2) (st0 := [.int x3, .int x2, .int x1, .ref 9]) rfl (Or.inr ⟨rfl, rfl⟩) rfl (Nat.le_of_ble_eq_true rfl) (Nat.le_of_ble_eq_true rfl) (by decide) rfl
theorem rX5_layStrings_458 {d : Nat} {lv : xLV} {st : List Value} {S : xS} {r : xO} : XL SK MT d 143 (458, lv, st, S) r ↔ xA (xlook lv 0) (fun x => XL SK MT d 143 (459, lv, .ref x :: st, S) r) := X_ldA rfl rfl (fun _ => rfl) rfl rfl rfl rfl
theorem rX5_layStrings_459 {d : Nat} {lv : xLV} {st : List Value} {S : xS} {r : xO} : XL SK MT d 143 (459, lv, .ref 10 :: st, S) r ↔ XL SK MT d 143 (462, lv, .ref 9 :: st, S) r := X_heap rfl rfl rfl rfl rfl
theorem rX5_layStrings_462 {d : Nat} {lv : xLV} {st : List Value} {S : xS} {r : xO} : XL SK MT d 143 (462, lv, st, S) r ↔ XL SK MT d 143 (464, lv, .int 12 :: st, S) r := X_pure rfl rfl rfl
theorem rX5_layStrings_464 {d : Nat} {lv : xLV} {st : List Value} {S : xS} {r : xO} : XL SK MT d 143 (464, lv, st, S) r ↔ XL SK MT d 143 (465, lv, .int 2 :: st, S) r := X_pure rfl rfl rfl
theorem rX5_layStrings_465 {d : Nat} {lv : xLV} {st : List Value} {S : xS} {r : xO} : XL SK MT d 143 (465, lv, st, S) r ↔ XL SK MT d 143 (466, lv, .int 4 :: st, S) r := X_pure rfl rfl rfl
theorem rX5_layStrings_466 {d : Nat} {lv : xLV} {S : xS} {r : xO} {x1 : Int32} {x2 : Int32} {x3 : Int32} : XL SK MT d 143 (466, lv, [.int x3, .int x2, .int x1, .ref 9], S) r ↔ xK (XC SK MT d 20 [.ref 9, .int x1, .int x2, .int x3] S) (fun v S => XL SK MT d 143 (469, lv, v.toList ++ [], S) r) := X_inv (n := 4) (kd := 2) (st0 := [.int x3, .int x2, .int x1, .ref 9]) rfl (Or.inr ⟨rfl, rfl⟩) rfl (Nat.le_of_ble_eq_true rfl) (Nat.le_of_ble_eq_true rfl) (by decide) rfl
theorem rX5_layStrings_469 {d : Nat} {lv : xLV} {st : List Value} {S : xS} {r : xO} : XL SK MT d 143 (469, lv, st, S) r ↔ xA (xlook lv 0) (fun x => XL SK MT d 143 (470, lv, .ref x :: st, S) r) := X_ldA rfl rfl (fun _ => rfl) rfl rfl rfl rfl
theorem rX5_layStrings_470 {d : Nat} {lv : xLV} {st : List Value} {S : xS} {r : xO} : XL SK MT d 143 (470, lv, .ref 10 :: st, S) r ↔ XL SK MT d 143 (473, lv, .ref 9 :: st, S) r := X_heap rfl rfl rfl rfl rfl
theorem rX5_layStrings_473 {d : Nat} {lv : xLV} {st : List Value} {S : xS} {r : xO} : XL SK MT d 143 (473, lv, st, S) r ↔ XL SK MT d 143 (475, lv, .int 65546 :: st, S) r := X_pure rfl rfl rfl
theorem rX5_layStrings_475 {d : Nat} {lv : xLV} {S : xS} {r : xO} {x1 : Int32} : XL SK MT d 143 (475, lv, [.int x1, .ref 9], S) r ↔ xK (XC SK MT d 28 [.ref 9, .int x1] S) (fun v S => XL SK MT d 143 (478, lv, v.toList ++ [], S) r) := X_inv (n := 2) (kd := 2) (st0 := [.int x1, .ref 9]) rfl (Or.inr ⟨rfl, rfl⟩) rfl (Nat.le_of_ble_eq_true rfl) (Nat.le_of_ble_eq_true rfl) (by decide) rfl
theorem rX5_layStrings_478 {d : Nat} {lv : xLV} {st : List Value} {S : xS} {r : xO} : XL SK MT d 143 (478, lv, st, S) r ↔ xA (xlook lv 0) (fun x => XL SK MT d 143 (479, lv, .ref x :: st, S) r) := X_ldA rfl rfl (fun _ => rfl) rfl rfl rfl rfl
theorem rX5_layStrings_479 {d : Nat} {lv : xLV} {st : List Value} {S : xS} {r : xO} : XL SK MT d 143 (479, lv, .ref 10 :: st, S) r ↔ XL SK MT d 143 (482, lv, .ref 9 :: st, S) r := X_heap rfl rfl rfl rfl rfl
theorem rX5_layStrings_482 {d : Nat} {lv : xLV} {st : List Value} {S : xS} {r : xO} : XL SK MT d 143 (482, lv, st, S) r ↔ XL SK MT d 143 (484, lv, .int 8 :: st, S) r := X_pure rfl rfl rfl
theorem rX5_layStrings_484 {d : Nat} {lv : xLV} {st : List Value} {S : xS} {r : xO} : XL SK MT d 143 (484, lv, st, S) r ↔ XL SK MT d 143 (486, lv, .int (-4) :: st, S) r := X_pure rfl rfl rfl
theorem rX5_layStrings_486 {d : Nat} {lv : xLV} {st : List Value} {S : xS} {r : xO} : XL SK MT d 143 (486, lv, st, S) r ↔ XL SK MT d 143 (488, lv, .int 16 :: st, S) r := X_pure rfl rfl rfl
theorem rX5_layStrings_488 {d : Nat} {lv : xLV} {S : xS} {r : xO} {x1 : Int32} {x2 : Int32} {x3 : Int32} : XL SK MT d 143 (488, lv, [.int x3, .int x2, .int x1, .ref 9], S) r ↔ xK (XC SK MT d 18 [.ref 9, .int x1, .int x2, .int x3] S) (fun v S => XL SK MT d 143 (491, lv, v.toList ++ [], S) r) := X_inv (n := 4) (kd := 2) (st0 := [.int x3, .int x2, .int x1, .ref 9]) rfl (Or.inr ⟨rfl, rfl⟩) rfl (Nat.le_of_ble_eq_true rfl) (Nat.le_of_ble_eq_true rfl) (by decide) rfl
theorem rX5_layStrings_491 {d : Nat} {lv : xLV} {st : List Value} {S : xS} {r : xO} : XL SK MT d 143 (491, lv, st, S) r ↔ xA (xlook lv 0) (fun x => XL SK MT d 143 (492, lv, .ref x :: st, S) r) := X_ldA rfl rfl (fun _ => rfl) rfl rfl rfl rfl
theorem rX5_layStrings_492 {d : Nat} {lv : xLV} {st : List Value} {S : xS} {r : xO} : XL SK MT d 143 (492, lv, .ref 10 :: st, S) r ↔ XL SK MT d 143 (495, lv, .ref 9 :: st, S) r := X_heap rfl rfl rfl rfl rfl
theorem rX5_layStrings_495 {d : Nat} {lv : xLV} {st : List Value} {S : xS} {r : xO} : XL SK MT d 143 (495, lv, st, S) r ↔ XL SK MT d 143 (497, lv, .int 65546 :: st, S) r := X_pure rfl rfl rfl
theorem rX5_layStrings_497 {d : Nat} {lv : xLV} {S : xS} {r : xO} {x1 : Int32} : XL SK MT d 143 (497, lv, [.int x1, .ref 9], S) r ↔ xK (XC SK MT d 28 [.ref 9, .int x1] S) (fun v S => XL SK MT d 143 (500, lv, v.toList ++ [], S) r) := X_inv (n := 2) (kd := 2) (st0 := [.int x1, .ref 9]) rfl (Or.inr ⟨rfl, rfl⟩) rfl (Nat.le_of_ble_eq_true rfl) (Nat.le_of_ble_eq_true rfl) (by decide) rfl
theorem rX5_layStrings_500 {d : Nat} {lv : xLV} {st : List Value} {S : xS} {r : xO} : XL SK MT d 143 (500, lv, st, S) r ↔ xA (xlook lv 0) (fun x => XL SK MT d 143 (501, lv, .ref x :: st, S) r) := X_ldA rfl rfl (fun _ => rfl) rfl rfl rfl rfl
theorem rX5_layStrings_501 {d : Nat} {lv : xLV} {st : List Value} {S : xS} {r : xO} : XL SK MT d 143 (501, lv, .ref 10 :: st, S) r ↔ XL SK MT d 143 (504, lv, .ref 9 :: st, S) r := X_heap rfl rfl rfl rfl rfl
theorem rX5_layStrings_504 {d : Nat} {lv : xLV} {st : List Value} {S : xS} {r : xO} : XL SK MT d 143 (504, lv, st, S) r ↔ XL SK MT d 143 (506, lv, .int 16 :: st, S) r := X_pure rfl rfl rfl
theorem rX5_layStrings_506 {d : Nat} {lv : xLV} {st : List Value} {S : xS} {r : xO} : XL SK MT d 143 (506, lv, st, S) r ↔ XL SK MT d 143 (508, lv, .int 16 :: st, S) r := X_pure rfl rfl rfl
theorem rX5_layStrings_508 {d : Nat} {lv : xLV} {st : List Value} {S : xS} {r : xO} : XL SK MT d 143 (508, lv, st, S) r ↔ XL SK MT d 143 (510, lv, .int (-4) :: st, S) r := X_pure rfl rfl rfl
theorem rX5_layStrings_510 {d : Nat} {lv : xLV} {S : xS} {r : xO} {x1 : Int32} {x2 : Int32} {x3 : Int32} : XL SK MT d 143 (510, lv, [.int x3, .int x2, .int x1, .ref 9], S) r ↔ xK (XC SK MT d 20 [.ref 9, .int x1, .int x2, .int x3] S) (fun v S => XL SK MT d 143 (513, lv, v.toList ++ [], S) r) := X_inv (n := 4) (kd := 2) (st0 := [.int x3, .int x2, .int x1, .ref 9]) rfl (Or.inr ⟨rfl, rfl⟩) rfl (Nat.le_of_ble_eq_true rfl) (Nat.le_of_ble_eq_true rfl) (by decide) rfl
theorem rX5_layStrings_513 {d : Nat} {lv : xLV} {st : List Value} {S : xS} {r : xO} : XL SK MT d 143 (513, lv, st, S) r ↔ xA (xlook lv 0) (fun x => XL SK MT d 143 (514, lv, .ref x :: st, S) r) := X_ldA rfl rfl (fun _ => rfl) rfl rfl rfl rfl
theorem rX5_layStrings_514 {d : Nat} {lv : xLV} {st : List Value} {S : xS} {r : xO} : XL SK MT d 143 (514, lv, .ref 10 :: st, S) r ↔ XL SK MT d 143 (517, lv, .ref 9 :: st, S) r := X_heap rfl rfl rfl rfl rfl
theorem rX5_layStrings_517 {d : Nat} {lv : xLV} {st : List Value} {S : xS} {r : xO} : XL SK MT d 143 (517, lv, st, S) r ↔ XL SK MT d 143 (518, lv, .int 2 :: st, S) r := X_pure rfl rfl rfl
theorem rX5_layStrings_518 {d : Nat} {lv : xLV} {st : List Value} {S : xS} {r : xO} : XL SK MT d 143 (518, lv, st, S) r ↔ XL SK MT d 143 (520, lv, .int (-4) :: st, S) r := X_pure rfl rfl rfl
theorem rX5_layStrings_520 {d : Nat} {lv : xLV} {st : List Value} {S : xS} {r : xO} : XL SK MT d 143 (520, lv, st, S) r ↔ XL SK MT d 143 (522, lv, .int 16 :: st, S) r := X_pure rfl rfl rfl
theorem rX5_layStrings_522 {d : Nat} {lv : xLV} {S : xS} {r : xO} {x1 : Int32} {x2 : Int32} {x3 : Int32} : XL SK MT d 143 (522, lv, [.int x3, .int x2, .int x1, .ref 9], S) r ↔ xK (XC SK MT d 19 [.ref 9, .int x1, .int x2, .int x3] S) (fun v S => XL SK MT d 143 (525, lv, v.toList ++ [], S) r) := X_inv (n := 4) (kd := 2) (st0 := [.int x3, .int x2, .int x1, .ref 9]) rfl (Or.inr ⟨rfl, rfl⟩) rfl (Nat.le_of_ble_eq_true rfl) (Nat.le_of_ble_eq_true rfl) (by decide) rfl
theorem rX5_layStrings_525 {d : Nat} {lv : xLV} {st : List Value} {S : xS} {r : xO} : XL SK MT d 143 (525, lv, st, S) r ↔ xA (xlook lv 0) (fun x => XL SK MT d 143 (526, lv, .ref x :: st, S) r) := X_ldA rfl rfl (fun _ => rfl) rfl rfl rfl rfl
theorem rX5_layStrings_526 {d : Nat} {lv : xLV} {st : List Value} {S : xS} {r : xO} : XL SK MT d 143 (526, lv, .ref 10 :: st, S) r ↔ XL SK MT d 143 (529, lv, .ref 9 :: st, S) r := X_heap rfl rfl rfl rfl rfl
theorem rX5_layStrings_529 {d : Nat} {lv : xLV} {st : List Value} {S : xS} {r : xO} : XL SK MT d 143 (529, lv, st, S) r ↔ XL SK MT d 143 (531, lv, .int 25 :: st, S) r := X_pure rfl rfl rfl
theorem rX5_layStrings_531 {d : Nat} {lv : xLV} {S : xS} {r : xO} {x1 : Int32} : XL SK MT d 143 (531, lv, [.int x1, .ref 9], S) r ↔ xK (XC SK MT d 29 [.ref 9, .int x1] S) (fun v S => XL SK MT d 143 (534, lv, v.toList ++ [], S) r) := X_inv (n := 2) (kd := 2) (st0 := [.int x1, .ref 9]) rfl (Or.inr ⟨rfl, rfl⟩) rfl (Nat.le_of_ble_eq_true rfl) (Nat.le_of_ble_eq_true rfl) (by decide) rfl
theorem rX5_layStrings_534 {d : Nat} {lv : xLV} {S : xS} {r : xO} : XL SK MT d 143 (534, lv, [], S) r ↔ (none, S) = r := X_ret rfl rfl rfl rfl rfl rfl

theorem rX5_layFigures_0 {d : Nat} {lv : xLV} {st : List Value} {S : xS} {r : xO} : XL SK MT d 144 (0, lv, st, S) r ↔ xA (xlook lv 0) (fun x => XL SK MT d 144 (1, lv, .ref x :: st, S) r) := X_ldA rfl rfl (fun _ => rfl) rfl rfl rfl rfl
theorem rX5_layFigures_1 {d : Nat} {lv : xLV} {st : List Value} {S : xS} {r : xO} : XL SK MT d 144 (1, lv, .ref 10 :: st, S) r ↔ XL SK MT d 144 (4, lv, .ref 9 :: st, S) r := X_heap rfl rfl rfl rfl rfl
theorem rX5_layFigures_4 {d : Nat} {lv : xLV} {S : xS} {r : xO} : XL SK MT d 144 (4, lv, [.ref 9], S) r ↔ xK (XC SK MT d 1 [.ref 9] S) (fun v S => XL SK MT d 144 (7, lv, v.toList ++ [], S) r) := X_inv (n := 1) (kd := 2) (st0 := [.ref 9]) rfl (Or.inr ⟨rfl, rfl⟩) rfl (Nat.le_of_ble_eq_true rfl) (Nat.le_of_ble_eq_true rfl) (by decide) rfl
theorem rX5_layFigures_7 {d : Nat} {lv : xLV} {st : List Value} {S : xS} {r : xO} {x : Int32} : XL SK MT d 144 (7, lv, .int x :: st, S) r ↔ XL SK MT d 144 (8, xst1 lv 1 (.int x), st, S) r := X_pure rfl rfl rfl
theorem rX5_layFigures_8 {d : Nat} {lv : xLV} {st : List Value} {S : xS} {r : xO} : XL SK MT d 144 (8, lv, st, S) r ↔ xA (xlook lv 0) (fun x => XL SK MT d 144 (9, lv, .ref x :: st, S) r) := X_ldA rfl rfl (fun _ => rfl) rfl rfl rfl rfl
theorem rX5_layFigures_9 {d : Nat} {lv : xLV} {st : List Value} {S : xS} {r : xO} : XL SK MT d 144 (9, lv, .ref 10 :: st, S) r ↔ XL SK MT d 144 (12, lv, .ref 9 :: st, S) r := X_heap rfl rfl rfl rfl rfl
theorem rX5_layFigures_12 {d : Nat} {lv : xLV} {S : xS} {r : xO} : XL SK MT d 144 (12, lv, [.ref 9], S) r ↔ xK (XC SK MT d 1 [.ref 9] S) (fun v S => XL SK MT d 144 (15, lv, v.toList ++ [], S) r) := X_inv (n := 1) (kd := 2) (st0 := [.ref 9]) rfl (Or.inr ⟨rfl, rfl⟩) rfl (Nat.le_of_ble_eq_true rfl) (Nat.le_of_ble_eq_true rfl) (by decide) rfl
theorem rX5_layFigures_15 {d : Nat} {lv : xLV} {st : List Value} {S : xS} {r : xO} {x : Int32} : XL SK MT d 144 (15, lv, .int x :: st, S) r ↔ XL SK MT d 144 (16, xst1 lv 2 (.int x), st, S) r := X_pure rfl rfl rfl
theorem rX5_layFigures_16 {d : Nat} {lv : xLV} {st : List Value} {S : xS} {r : xO} : XL SK MT d 144 (16, lv, st, S) r ↔ xA (xlook lv 0) (fun x => XL SK MT d 144 (17, lv, .ref x :: st, S) r) := X_ldA rfl rfl (fun _ => rfl) rfl rfl rfl rfl
theorem rX5_layFigures_17 {d : Nat} {lv : xLV} {st : List Value} {S : xS} {r : xO} : XL SK MT d 144 (17, lv, .ref 10 :: st, S) r ↔ XL SK MT d 144 (20, lv, .ref 9 :: st, S) r := X_heap rfl rfl rfl rfl rfl
theorem rX5_layFigures_20 {d : Nat} {lv : xLV} {st : List Value} {S : xS} {r : xO} : XL SK MT d 144 (20, lv, st, S) r ↔ XL SK MT d 144 (22, lv, .int 65548 :: st, S) r := X_pure rfl rfl rfl
theorem rX5_layFigures_22 {d : Nat} {lv : xLV} {S : xS} {r : xO} {x1 : Int32} : XL SK MT d 144 (22, lv, [.int x1, .ref 9], S) r ↔ xK (XC SK MT d 3 [.ref 9, .int x1] S) (fun v S => XL SK MT d 144 (25, lv, v.toList ++ [], S) r) := X_inv (n := 2) (kd := 2) (st0 := [.int x1, .ref 9]) rfl (Or.inr ⟨rfl, rfl⟩) rfl (Nat.le_of_ble_eq_true rfl) (Nat.le_of_ble_eq_true rfl) (by decide) rfl
theorem rX5_layFigures_25 {d : Nat} {lv : xLV} {st : List Value} {S : xS} {r : xO} : XL SK MT d 144 (25, lv, st, S) r ↔ xA (xlook lv 0) (fun x => XL SK MT d 144 (26, lv, .ref x :: st, S) r) := X_ldA rfl rfl (fun _ => rfl) rfl rfl rfl rfl
theorem rX5_layFigures_26 {d : Nat} {lv : xLV} {st : List Value} {S : xS} {r : xO} : XL SK MT d 144 (26, lv, .ref 10 :: st, S) r ↔ XL SK MT d 144 (29, lv, .ref 9 :: st, S) r := X_heap rfl rfl rfl rfl rfl
theorem rX5_layFigures_29 {d : Nat} {lv : xLV} {st : List Value} {S : xS} {r : xO} : XL SK MT d 144 (29, lv, st, S) r ↔ XL SK MT d 144 (30, lv, .int 3 :: st, S) r := X_pure rfl rfl rfl
theorem rX5_layFigures_30 {d : Nat} {lv : xLV} {st : List Value} {S : xS} {r : xO} : XL SK MT d 144 (30, lv, st, S) r ↔ XL SK MT d 144 (32, lv, .int 8 :: st, S) r := X_pure rfl rfl rfl
theorem rX5_layFigures_32 {d : Nat} {lv : xLV} {st : List Value} {S : xS} {r : xO} : XL SK MT d 144 (32, lv, st, S) r ↔ XL SK MT d 144 (33, lv, .int 5 :: st, S) r := X_pure rfl rfl rfl
theorem rX5_layFigures_33 {d : Nat} {lv : xLV} {st : List Value} {S : xS} {r : xO} : XL SK MT d 144 (33, lv, st, S) r ↔ XL SK MT d 144 (34, lv, .int 1 :: st, S) r := X_pure rfl rfl rfl
theorem rX5_layFigures_34 {d : Nat} {lv : xLV} {S : xS} {r : xO} {x1 : Int32} {x2 : Int32} {x3 : Int32} {x4 : Int32} : XL SK MT d 144 (34, lv, [.int x4, .int x3, .int x2, .int x1, .ref 9], S) r ↔ xK (XC SK MT d 16 [.ref 9, .int x1, .int x2, .int x3, .int x4] S) (fun v S => XL SK MT d 144 (37, lv, v.toList ++ [], S) r) := X_inv (n := 5) (kd := 2) (st0 := [.int x4, .int x3, .int x2, .int x1, .ref 9]) rfl (Or.inr ⟨rfl, rfl⟩) rfl (Nat.le_of_ble_eq_true rfl) (Nat.le_of_ble_eq_true rfl) (by decide) rfl
theorem rX5_layFigures_37 {d : Nat} {lv : xLV} {st : List Value} {S : xS} {r : xO} : XL SK MT d 144 (37, lv, st, S) r ↔ xA (xlook lv 0) (fun x => XL SK MT d 144 (38, lv, .ref x :: st, S) r) := X_ldA rfl rfl (fun _ => rfl) rfl rfl rfl rfl
theorem rX5_layFigures_38 {d : Nat} {lv : xLV} {st : List Value} {S : xS} {r : xO} : XL SK MT d 144 (38, lv, .ref 10 :: st, S) r ↔ XL SK MT d 144 (41, lv, .ref 9 :: st, S) r := X_heap rfl rfl rfl rfl rfl
theorem rX5_layFigures_41 {d : Nat} {lv : xLV} {st : List Value} {S : xS} {r : xO} : XL SK MT d 144 (41, lv, st, S) r ↔ XL SK MT d 144 (43, lv, .int 11 :: st, S) r := X_pure rfl rfl rfl
theorem rX5_layFigures_43 {d : Nat} {lv : xLV} {st : List Value} {S : xS} {r : xO} : XL SK MT d 144 (43, lv, st, S) r ↔ XL SK MT d 144 (45, lv, .int 8 :: st, S) r := X_pure rfl rfl rfl
theorem rX5_layFigures_45 {d : Nat} {lv : xLV} {S : xS} {r : xO} {x1 : Int32} {x2 : Int32} : XL SK MT d 144 (45, lv, [.int x2, .int x1, .ref 9], S) r ↔ xK (XC SK MT d 21 [.ref 9, .int x1, .int x2] S) (fun v S => XL SK MT d 144 (48, lv, v.toList ++ [], S) r) := X_inv (n := 3) (kd := 2) (st0 := [.int x2, .int x1, .ref 9]) rfl (Or.inr ⟨rfl, rfl⟩) rfl (Nat.le_of_ble_eq_true rfl) (Nat.le_of_ble_eq_true rfl) (by decide) rfl
theorem rX5_layFigures_48 {d : Nat} {lv : xLV} {st : List Value} {S : xS} {r : xO} : XL SK MT d 144 (48, lv, st, S) r ↔ xA (xlook lv 0) (fun x => XL SK MT d 144 (49, lv, .ref x :: st, S) r) := X_ldA rfl rfl (fun _ => rfl) rfl rfl rfl rfl
theorem rX5_layFigures_49 {d : Nat} {lv : xLV} {st : List Value} {S : xS} {r : xO} : XL SK MT d 144 (49, lv, .ref 10 :: st, S) r ↔ XL SK MT d 144 (52, lv, .ref 9 :: st, S) r := X_heap rfl rfl rfl rfl rfl
theorem rX5_layFigures_52 {d : Nat} {lv : xLV} {st : List Value} {S : xS} {r : xO} : XL SK MT d 144 (52, lv, st, S) r ↔ XL SK MT d 144 (54, lv, .int 8 :: st, S) r := X_pure rfl rfl rfl
theorem rX5_layFigures_54 {d : Nat} {lv : xLV} {st : List Value} {S : xS} {r : xO} : XL SK MT d 144 (54, lv, st, S) r ↔ xI (xlook lv 1) (fun x => XL SK MT d 144 (55, lv, .int x :: st, S) r) := X_ldI rfl rfl (fun _ => rfl) rfl rfl rfl rfl
theorem rX5_layFigures_55 {d : Nat} {lv : xLV} {S : xS} {r : xO} {x1 : Int32} {x2 : Int32} : XL SK MT d 144 (55, lv, [.int x2, .int x1, .ref 9], S) r ↔ xK (XC SK MT d 25 [.ref 9, .int x1, .int x2] S) (fun v S => XL SK MT d 144 (58, lv, v.toList ++ [], S) r) := X_inv (n := 3) (kd := 2) (st0 := [.int x2, .int x1, .ref 9]) rfl (Or.inr ⟨rfl, rfl⟩) rfl (Nat.le_of_ble_eq_true rfl) (Nat.le_of_ble_eq_true rfl) (by decide) rfl
theorem rX5_layFigures_58 {d : Nat} {lv : xLV} {st : List Value} {S : xS} {r : xO} : XL SK MT d 144 (58, lv, st, S) r ↔ xA (xlook lv 0) (fun x => XL SK MT d 144 (59, lv, .ref x :: st, S) r) := X_ldA rfl rfl (fun _ => rfl) rfl rfl rfl rfl
theorem rX5_layFigures_59 {d : Nat} {lv : xLV} {st : List Value} {S : xS} {r : xO} : XL SK MT d 144 (59, lv, .ref 10 :: st, S) r ↔ XL SK MT d 144 (62, lv, .ref 9 :: st, S) r := X_heap rfl rfl rfl rfl rfl
theorem rX5_layFigures_62 {d : Nat} {lv : xLV} {st : List Value} {S : xS} {r : xO} : XL SK MT d 144 (62, lv, st, S) r ↔ XL SK MT d 144 (64, lv, .int 35 :: st, S) r := X_pure rfl rfl rfl
theorem rX5_layFigures_64 {d : Nat} {lv : xLV} {st : List Value} {S : xS} {r : xO} : XL SK MT d 144 (64, lv, st, S) r ↔ XL SK MT d 144 (66, lv, .int 11 :: st, S) r := X_pure rfl rfl rfl
theorem rX5_layFigures_66 {d : Nat} {lv : xLV} {st : List Value} {S : xS} {r : xO} : XL SK MT d 144 (66, lv, st, S) r ↔ XL SK MT d 144 (67, lv, .int 0 :: st, S) r := X_pure rfl rfl rfl
theorem rX5_layFigures_67 {d : Nat} {lv : xLV} {st : List Value} {S : xS} {r : xO} : XL SK MT d 144 (67, lv, st, S) r ↔ XL SK MT d 144 (69, lv, .int 8 :: st, S) r := X_pure rfl rfl rfl
theorem rX5_layFigures_69 {d : Nat} {lv : xLV} {S : xS} {r : xO} {x1 : Int32} {x2 : Int32} {x3 : Int32} {x4 : Int32} : XL SK MT d 144 (69, lv, [.int x4, .int x3, .int x2, .int x1, .ref 9], S) r ↔ xK (XC SK MT d 15 [.ref 9, .int x1, .int x2, .int x3, .int x4] S) (fun v S => XL SK MT d 144 (72, lv, v.toList ++ [], S) r) := X_inv (n := 5) (kd := 2) (st0 := [.int x4, .int x3, .int x2, .int x1, .ref 9]) rfl (Or.inr ⟨rfl, rfl⟩) rfl (Nat.le_of_ble_eq_true rfl) (Nat.le_of_ble_eq_true rfl) (by decide) rfl
theorem rX5_layFigures_72 {d : Nat} {lv : xLV} {st : List Value} {S : xS} {r : xO} : XL SK MT d 144 (72, lv, st, S) r ↔ xA (xlook lv 0) (fun x => XL SK MT d 144 (73, lv, .ref x :: st, S) r) := X_ldA rfl rfl (fun _ => rfl) rfl rfl rfl rfl
theorem rX5_layFigures_73 {d : Nat} {lv : xLV} {st : List Value} {S : xS} {r : xO} : XL SK MT d 144 (73, lv, .ref 10 :: st, S) r ↔ XL SK MT d 144 (76, lv, .ref 9 :: st, S) r := X_heap rfl rfl rfl rfl rfl
theorem rX5_layFigures_76 {d : Nat} {lv : xLV} {st : List Value} {S : xS} {r : xO} : XL SK MT d 144 (76, lv, st, S) r ↔ xI (xlook lv 1) (fun x => XL SK MT d 144 (77, lv, .int x :: st, S) r) := X_ldI rfl rfl (fun _ => rfl) rfl rfl rfl rfl
theorem rX5_layFigures_77 {d : Nat} {lv : xLV} {S : xS} {r : xO} {x1 : Int32} : XL SK MT d 144 (77, lv, [.int x1, .ref 9], S) r ↔ xK (XC SK MT d 3 [.ref 9, .int x1] S) (fun v S => XL SK MT d 144 (80, lv, v.toList ++ [], S) r) := X_inv (n := 2) (kd := 2) (st0 := [.int x1, .ref 9]) rfl (Or.inr ⟨rfl, rfl⟩) rfl (Nat.le_of_ble_eq_true rfl) (Nat.le_of_ble_eq_true rfl) (by decide) rfl
theorem rX5_layFigures_80 {d : Nat} {lv : xLV} {st : List Value} {S : xS} {r : xO} : XL SK MT d 144 (80, lv, st, S) r ↔ xA (xlook lv 0) (fun x => XL SK MT d 144 (81, lv, .ref x :: st, S) r) := X_ldA rfl rfl (fun _ => rfl) rfl rfl rfl rfl
theorem rX5_layFigures_81 {d : Nat} {lv : xLV} {st : List Value} {S : xS} {r : xO} : XL SK MT d 144 (81, lv, .ref 10 :: st, S) r ↔ XL SK MT d 144 (84, lv, .ref 9 :: st, S) r := X_heap rfl rfl rfl rfl rfl
theorem rX5_layFigures_84 {d : Nat} {lv : xLV} {st : List Value} {S : xS} {r : xO} : XL SK MT d 144 (84, lv, st, S) r ↔ XL SK MT d 144 (86, lv, .int 10 :: st, S) r := X_pure rfl rfl rfl
theorem rX5_layFigures_86 {d : Nat} {lv : xLV} {st : List Value} {S : xS} {r : xO} : XL SK MT d 144 (86, lv, st, S) r ↔ XL SK MT d 144 (89, lv, .int 1296 :: st, S) r := X_pure rfl rfl rfl
theorem rX5_layFigures_89 {d : Nat} {lv : xLV} {S : xS} {r : xO} {x1 : Int32} {x2 : Int32} : XL SK MT d 144 (89, lv, [.int x2, .int x1, .ref 9], S) r ↔ xK (XC SK MT d 22 [.ref 9, .int x1, .int x2] S) (fun v S => XL SK MT d 144 (92, lv, v.toList ++ [], S) r) := X_inv (n := 3) (kd := 2) (st0 := [.int x2, .int x1, .ref 9]) rfl (Or.inr ⟨rfl, rfl⟩) rfl (Nat.le_of_ble_eq_true rfl) (Nat.le_of_ble_eq_true rfl) (by decide) rfl
theorem rX5_layFigures_92 {d : Nat} {lv : xLV} {st : List Value} {S : xS} {r : xO} : XL SK MT d 144 (92, lv, st, S) r ↔ xA (xlook lv 0) (fun x => XL SK MT d 144 (93, lv, .ref x :: st, S) r) := X_ldA rfl rfl (fun _ => rfl) rfl rfl rfl rfl
theorem rX5_layFigures_93 {d : Nat} {lv : xLV} {st : List Value} {S : xS} {r : xO} : XL SK MT d 144 (93, lv, .ref 10 :: st, S) r ↔ XL SK MT d 144 (96, lv, .ref 9 :: st, S) r := X_heap rfl rfl rfl rfl rfl
theorem rX5_layFigures_96 {d : Nat} {lv : xLV} {st : List Value} {S : xS} {r : xO} : XL SK MT d 144 (96, lv, st, S) r ↔ XL SK MT d 144 (98, lv, .int 9 :: st, S) r := X_pure rfl rfl rfl
theorem rX5_layFigures_98 {d : Nat} {lv : xLV} {st : List Value} {S : xS} {r : xO} : XL SK MT d 144 (98, lv, st, S) r ↔ XL SK MT d 144 (100, lv, .int 10 :: st, S) r := X_pure rfl rfl rfl
theorem rX5_layFigures_100 {d : Nat} {lv : xLV} {S : xS} {r : xO} {x1 : Int32} {x2 : Int32} : XL SK MT d 144 (100, lv, [.int x2, .int x1, .ref 9], S) r ↔ xK (XC SK MT d 21 [.ref 9, .int x1, .int x2] S) (fun v S => XL SK MT d 144 (103, lv, v.toList ++ [], S) r) := X_inv (n := 3) (kd := 2) (st0 := [.int x2, .int x1, .ref 9]) rfl (Or.inr ⟨rfl, rfl⟩) rfl (Nat.le_of_ble_eq_true rfl) (Nat.le_of_ble_eq_true rfl) (by decide) rfl
theorem rX5_layFigures_103 {d : Nat} {lv : xLV} {st : List Value} {S : xS} {r : xO} : XL SK MT d 144 (103, lv, st, S) r ↔ xA (xlook lv 0) (fun x => XL SK MT d 144 (104, lv, .ref x :: st, S) r) := X_ldA rfl rfl (fun _ => rfl) rfl rfl rfl rfl
theorem rX5_layFigures_104 {d : Nat} {lv : xLV} {st : List Value} {S : xS} {r : xO} : XL SK MT d 144 (104, lv, .ref 10 :: st, S) r ↔ XL SK MT d 144 (107, lv, .ref 9 :: st, S) r := X_heap rfl rfl rfl rfl rfl
theorem rX5_layFigures_107 {d : Nat} {lv : xLV} {st : List Value} {S : xS} {r : xO} : XL SK MT d 144 (107, lv, st, S) r ↔ XL SK MT d 144 (109, lv, .int 12 :: st, S) r := X_pure rfl rfl rfl
theorem rX5_layFigures_109 {d : Nat} {lv : xLV} {st : List Value} {S : xS} {r : xO} : XL SK MT d 144 (109, lv, st, S) r ↔ XL SK MT d 144 (111, lv, .int 10 :: st, S) r := X_pure rfl rfl rfl
theorem rX5_layFigures_111 {d : Nat} {lv : xLV} {S : xS} {r : xO} {x1 : Int32} {x2 : Int32} : XL SK MT d 144 (111, lv, [.int x2, .int x1, .ref 9], S) r ↔ xK (XC SK MT d 22 [.ref 9, .int x1, .int x2] S) (fun v S => XL SK MT d 144 (114, lv, v.toList ++ [], S) r) := X_inv (n := 3) (kd := 2) (st0 := [.int x2, .int x1, .ref 9]) rfl (Or.inr ⟨rfl, rfl⟩) rfl (Nat.le_of_ble_eq_true rfl) (Nat.le_of_ble_eq_true rfl) (by decide) rfl
theorem rX5_layFigures_114 {d : Nat} {lv : xLV} {st : List Value} {S : xS} {r : xO} : XL SK MT d 144 (114, lv, st, S) r ↔ xA (xlook lv 0) (fun x => XL SK MT d 144 (115, lv, .ref x :: st, S) r) := X_ldA rfl rfl (fun _ => rfl) rfl rfl rfl rfl
theorem rX5_layFigures_115 {d : Nat} {lv : xLV} {st : List Value} {S : xS} {r : xO} : XL SK MT d 144 (115, lv, .ref 10 :: st, S) r ↔ XL SK MT d 144 (118, lv, .ref 9 :: st, S) r := X_heap rfl rfl rfl rfl rfl
theorem rX5_layFigures_118 {d : Nat} {lv : xLV} {S : xS} {r : xO} : XL SK MT d 144 (118, lv, [.ref 9], S) r ↔ xK (XC SK MT d 2 [.ref 9] S) (fun v S => XL SK MT d 144 (121, lv, v.toList ++ [], S) r) := X_inv (n := 1) (kd := 2) (st0 := [.ref 9]) rfl (Or.inr ⟨rfl, rfl⟩) rfl (Nat.le_of_ble_eq_true rfl) (Nat.le_of_ble_eq_true rfl) (by decide) rfl
theorem rX5_layFigures_121 {d : Nat} {lv : xLV} {st : List Value} {S : xS} {r : xO} {x : Int32} : XL SK MT d 144 (121, lv, .int x :: st, S) r ↔ XL SK MT d 144 (122, xst1 lv 3 (.int x), st, S) r := X_pure rfl rfl rfl
theorem rX5_layFigures_122 {d : Nat} {lv : xLV} {st : List Value} {S : xS} {r : xO} : XL SK MT d 144 (122, lv, st, S) r ↔ xA (xlook lv 0) (fun x => XL SK MT d 144 (123, lv, .ref x :: st, S) r) := X_ldA rfl rfl (fun _ => rfl) rfl rfl rfl rfl
theorem rX5_layFigures_123 {d : Nat} {lv : xLV} {st : List Value} {S : xS} {r : xO} : XL SK MT d 144 (123, lv, .ref 10 :: st, S) r ↔ XL SK MT d 144 (126, lv, .ref 9 :: st, S) r := X_heap rfl rfl rfl rfl rfl
theorem rX5_layFigures_126 {d : Nat} {lv : xLV} {st : List Value} {S : xS} {r : xO} : XL SK MT d 144 (126, lv, st, S) r ↔ XL SK MT d 144 (128, lv, .int 27 :: st, S) r := X_pure rfl rfl rfl
theorem rX5_layFigures_128 {d : Nat} {lv : xLV} {st : List Value} {S : xS} {r : xO} : XL SK MT d 144 (128, lv, st, S) r ↔ XL SK MT d 144 (129, lv, .int 0 :: st, S) r := X_pure rfl rfl rfl
theorem rX5_layFigures_129 {d : Nat} {lv : xLV} {st : List Value} {S : xS} {r : xO} : XL SK MT d 144 (129, lv, st, S) r ↔ XL SK MT d 144 (131, lv, .int 11 :: st, S) r := X_pure rfl rfl rfl
theorem rX5_layFigures_131 {d : Nat} {lv : xLV} {st : List Value} {S : xS} {r : xO} : XL SK MT d 144 (131, lv, st, S) r ↔ XL SK MT d 144 (133, lv, .int 12 :: st, S) r := X_pure rfl rfl rfl
theorem rX5_layFigures_133 {d : Nat} {lv : xLV} {S : xS} {r : xO} {x1 : Int32} {x2 : Int32} {x3 : Int32} {x4 : Int32} : XL SK MT d 144 (133, lv, [.int x4, .int x3, .int x2, .int x1, .ref 9], S) r ↔ xK (XC SK MT d 15 [.ref 9, .int x1, .int x2, .int x3, .int x4] S) (fun v S => XL SK MT d 144 (136, lv, v.toList ++ [], S) r) := X_inv (n := 5) (kd := 2) (st0 := [.int x4, .int x3, .int x2, .int x1, .ref 9]) rfl (Or.inr ⟨rfl, rfl⟩) rfl (Nat.le_of_ble_eq_true rfl) (Nat.le_of_ble_eq_true rfl) (by decide) rfl
theorem rX5_layFigures_136 {d : Nat} {lv : xLV} {st : List Value} {S : xS} {r : xO} : XL SK MT d 144 (136, lv, st, S) r ↔ xA (xlook lv 0) (fun x => XL SK MT d 144 (137, lv, .ref x :: st, S) r) := X_ldA rfl rfl (fun _ => rfl) rfl rfl rfl rfl
theorem rX5_layFigures_137 {d : Nat} {lv : xLV} {st : List Value} {S : xS} {r : xO} : XL SK MT d 144 (137, lv, .ref 10 :: st, S) r ↔ XL SK MT d 144 (140, lv, .ref 9 :: st, S) r := X_heap rfl rfl rfl rfl rfl
theorem rX5_layFigures_140 {d : Nat} {lv : xLV} {st : List Value} {S : xS} {r : xO} : XL SK MT d 144 (140, lv, st, S) r ↔ XL SK MT d 144 (142, lv, .int 16 :: st, S) r := X_pure rfl rfl rfl
theorem rX5_layFigures_142 {d : Nat} {lv : xLV} {st : List Value} {S : xS} {r : xO} : XL SK MT d 144 (142, lv, st, S) r ↔ XL SK MT d 144 (144, lv, .int 13 :: st, S) r := X_pure rfl rfl rfl
theorem rX5_layFigures_144 {d : Nat} {lv : xLV} {st : List Value} {S : xS} {r : xO} : XL SK MT d 144 (144, lv, st, S) r ↔ XL SK MT d 144 (145, lv, .int 0 :: st, S) r := X_pure rfl rfl rfl
theorem rX5_layFigures_145 {d : Nat} {lv : xLV} {st : List Value} {S : xS} {r : xO} : XL SK MT d 144 (145, lv, st, S) r ↔ XL SK MT d 144 (146, lv, .int 0 :: st, S) r := X_pure rfl rfl rfl
theorem rX5_layFigures_146 {d : Nat} {lv : xLV} {S : xS} {r : xO} {x1 : Int32} {x2 : Int32} {x3 : Int32} {x4 : Int32} : XL SK MT d 144 (146, lv, [.int x4, .int x3, .int x2, .int x1, .ref 9], S) r ↔ xK (XC SK MT d 15 [.ref 9, .int x1, .int x2, .int x3, .int x4] S) (fun v S => XL SK MT d 144 (149, lv, v.toList ++ [], S) r) := X_inv (n := 5) (kd := 2) (st0 := [.int x4, .int x3, .int x2, .int x1, .ref 9]) rfl (Or.inr ⟨rfl, rfl⟩) rfl (Nat.le_of_ble_eq_true rfl) (Nat.le_of_ble_eq_true rfl) (by decide) rfl
theorem rX5_layFigures_149 {d : Nat} {lv : xLV} {st : List Value} {S : xS} {r : xO} : XL SK MT d 144 (149, lv, st, S) r ↔ xA (xlook lv 0) (fun x => XL SK MT d 144 (150, lv, .ref x :: st, S) r) := X_ldA rfl rfl (fun _ => rfl) rfl rfl rfl rfl
theorem rX5_layFigures_150 {d : Nat} {lv : xLV} {st : List Value} {S : xS} {r : xO} : XL SK MT d 144 (150, lv, .ref 10 :: st, S) r ↔ XL SK MT d 144 (153, lv, .ref 9 :: st, S) r := X_heap rfl rfl rfl rfl rfl
theorem rX5_layFigures_153 {d : Nat} {lv : xLV} {st : List Value} {S : xS} {r : xO} : XL SK MT d 144 (153, lv, st, S) r ↔ XL SK MT d 144 (155, lv, .int 18 :: st, S) r := X_pure rfl rfl rfl
theorem rX5_layFigures_155 {d : Nat} {lv : xLV} {st : List Value} {S : xS} {r : xO} : XL SK MT d 144 (155, lv, st, S) r ↔ XL SK MT d 144 (157, lv, .int 11 :: st, S) r := X_pure rfl rfl rfl
theorem rX5_layFigures_157 {d : Nat} {lv : xLV} {st : List Value} {S : xS} {r : xO} : XL SK MT d 144 (157, lv, st, S) r ↔ XL SK MT d 144 (158, lv, .int 0 :: st, S) r := X_pure rfl rfl rfl
theorem rX5_layFigures_158 {d : Nat} {lv : xLV} {st : List Value} {S : xS} {r : xO} : XL SK MT d 144 (158, lv, st, S) r ↔ XL SK MT d 144 (159, lv, .int 0 :: st, S) r := X_pure rfl rfl rfl
theorem rX5_layFigures_159 {d : Nat} {lv : xLV} {S : xS} {r : xO} {x1 : Int32} {x2 : Int32} {x3 : Int32} {x4 : Int32} : XL SK MT d 144 (159, lv, [.int x4, .int x3, .int x2, .int x1, .ref 9], S) r ↔ xK (XC SK MT d 15 [.ref 9, .int x1, .int x2, .int x3, .int x4] S) (fun v S => XL SK MT d 144 (162, lv, v.toList ++ [], S) r) := X_inv (n := 5) (kd := 2) (st0 := [.int x4, .int x3, .int x2, .int x1, .ref 9]) rfl (Or.inr ⟨rfl, rfl⟩) rfl (Nat.le_of_ble_eq_true rfl) (Nat.le_of_ble_eq_true rfl) (by decide) rfl
theorem rX5_layFigures_162 {d : Nat} {lv : xLV} {st : List Value} {S : xS} {r : xO} : XL SK MT d 144 (162, lv, st, S) r ↔ xA (xlook lv 0) (fun x => XL SK MT d 144 (163, lv, .ref x :: st, S) r) := X_ldA rfl rfl (fun _ => rfl) rfl rfl rfl rfl
theorem rX5_layFigures_163 {d : Nat} {lv : xLV} {st : List Value} {S : xS} {r : xO} : XL SK MT d 144 (163, lv, .ref 10 :: st, S) r ↔ XL SK MT d 144 (166, lv, .ref 9 :: st, S) r := X_heap rfl rfl rfl rfl rfl
theorem rX5_layFigures_166 {d : Nat} {lv : xLV} {st : List Value} {S : xS} {r : xO} : XL SK MT d 144 (166, lv, st, S) r ↔ XL SK MT d 144 (168, lv, .int 13 :: st, S) r := X_pure rfl rfl rfl
theorem rX5_layFigures_168 {d : Nat} {lv : xLV} {st : List Value} {S : xS} {r : xO} : XL SK MT d 144 (168, lv, st, S) r ↔ XL SK MT d 144 (170, lv, .int 13 :: st, S) r := X_pure rfl rfl rfl
theorem rX5_layFigures_170 {d : Nat} {lv : xLV} {st : List Value} {S : xS} {r : xO} : XL SK MT d 144 (170, lv, st, S) r ↔ XL SK MT d 144 (172, lv, .int 48 :: st, S) r := X_pure rfl rfl rfl
theorem rX5_layFigures_172 {d : Nat} {lv : xLV} {S : xS} {r : xO} {x1 : Int32} {x2 : Int32} {x3 : Int32} : XL SK MT d 144 (172, lv, [.int x3, .int x2, .int x1, .ref 9], S) r ↔ xK (XC SK MT d 20 [.ref 9, .int x1, .int x2, .int x3] S) (fun v S => XL SK MT d 144 (175, lv, v.toList ++ [], S) r) := X_inv (n := 4) (kd := 2) (st0 := [.int x3, .int x2, .int x1, .ref 9]) rfl (Or.inr ⟨rfl, rfl⟩) rfl (Nat.le_of_ble_eq_true rfl) (Nat.le_of_ble_eq_true rfl) (by decide) rfl
theorem rX5_layFigures_175 {d : Nat} {lv : xLV} {st : List Value} {S : xS} {r : xO} : XL SK MT d 144 (175, lv, st, S) r ↔ xA (xlook lv 0) (fun x => XL SK MT d 144 (176, lv, .ref x :: st, S) r) := X_ldA rfl rfl (fun _ => rfl) rfl rfl rfl rfl
theorem rX5_layFigures_176 {d : Nat} {lv : xLV} {st : List Value} {S : xS} {r : xO} : XL SK MT d 144 (176, lv, .ref 10 :: st, S) r ↔ XL SK MT d 144 (179, lv, .ref 9 :: st, S) r := X_heap rfl rfl rfl rfl rfl
theorem rX5_layFigures_179 {d : Nat} {lv : xLV} {st : List Value} {S : xS} {r : xO} : XL SK MT d 144 (179, lv, st, S) r ↔ XL SK MT d 144 (181, lv, .int 9 :: st, S) r := X_pure rfl rfl rfl
theorem rX5_layFigures_181 {d : Nat} {lv : xLV} {st : List Value} {S : xS} {r : xO} : XL SK MT d 144 (181, lv, st, S) r ↔ XL SK MT d 144 (183, lv, .int 9 :: st, S) r := X_pure rfl rfl rfl
theorem rX5_layFigures_183 {d : Nat} {lv : xLV} {st : List Value} {S : xS} {r : xO} : XL SK MT d 144 (183, lv, st, S) r ↔ XL SK MT d 144 (184, lv, .int (-1) :: st, S) r := X_pure rfl rfl rfl
theorem rX5_layFigures_184 {d : Nat} {lv : xLV} {S : xS} {r : xO} {x1 : Int32} {x2 : Int32} {x3 : Int32} : XL SK MT d 144 (184, lv, [.int x3, .int x2, .int x1, .ref 9], S) r ↔ xK (XC SK MT d 20 [.ref 9, .int x1, .int x2, .int x3] S) (fun v S => XL SK MT d 144 (187, lv, v.toList ++ [], S) r) := X_inv (n := 4) (kd := 2) (st0 := [.int x3, .int x2, .int x1, .ref 9]) rfl (Or.inr ⟨rfl, rfl⟩) rfl (Nat.le_of_ble_eq_true rfl) (Nat.le_of_ble_eq_true rfl) (by decide) rfl
theorem rX5_layFigures_187 {d : Nat} {lv : xLV} {st : List Value} {S : xS} {r : xO} : XL SK MT d 144 (187, lv, st, S) r ↔ xA (xlook lv 0) (fun x => XL SK MT d 144 (188, lv, .ref x :: st, S) r) := X_ldA rfl rfl (fun _ => rfl) rfl rfl rfl rfl
theorem rX5_layFigures_188 {d : Nat} {lv : xLV} {st : List Value} {S : xS} {r : xO} : XL SK MT d 144 (188, lv, .ref 10 :: st, S) r ↔ XL SK MT d 144 (191, lv, .ref 9 :: st, S) r := X_heap rfl rfl rfl rfl rfl
theorem rX5_layFigures_191 {d : Nat} {lv : xLV} {st : List Value} {S : xS} {r : xO} : XL SK MT d 144 (191, lv, st, S) r ↔ XL SK MT d 144 (193, lv, .int 40 :: st, S) r := X_pure rfl rfl rfl
theorem rX5_layFigures_193 {d : Nat} {lv : xLV} {st : List Value} {S : xS} {r : xO} : XL SK MT d 144 (193, lv, st, S) r ↔ XL SK MT d 144 (195, lv, .int 13 :: st, S) r := X_pure rfl rfl rfl
theorem rX5_layFigures_195 {d : Nat} {lv : xLV} {st : List Value} {S : xS} {r : xO} : XL SK MT d 144 (195, lv, st, S) r ↔ XL SK MT d 144 (197, lv, .int 9 :: st, S) r := X_pure rfl rfl rfl
theorem rX5_layFigures_197 {d : Nat} {lv : xLV} {st : List Value} {S : xS} {r : xO} : XL SK MT d 144 (197, lv, st, S) r ↔ XL SK MT d 144 (198, lv, .int 0 :: st, S) r := X_pure rfl rfl rfl
theorem rX5_layFigures_198 {d : Nat} {lv : xLV} {S : xS} {r : xO} {x1 : Int32} {x2 : Int32} {x3 : Int32} {x4 : Int32} : XL SK MT d 144 (198, lv, [.int x4, .int x3, .int x2, .int x1, .ref 9], S) r ↔ xK (XC SK MT d 17 [.ref 9, .int x1, .int x2, .int x3, .int x4] S) (fun v S => XL SK MT d 144 (201, lv, v.toList ++ [], S) r) := X_inv (n := 5) (kd := 2) (st0 := [.int x4, .int x3, .int x2, .int x1, .ref 9]) rfl (Or.inr ⟨rfl, rfl⟩) rfl (Nat.le_of_ble_eq_true rfl) (Nat.le_of_ble_eq_true rfl) (by decide) rfl
theorem rX5_layFigures_201 {d : Nat} {lv : xLV} {st : List Value} {S : xS} {r : xO} : XL SK MT d 144 (201, lv, st, S) r ↔ xA (xlook lv 0) (fun x => XL SK MT d 144 (202, lv, .ref x :: st, S) r) := X_ldA rfl rfl (fun _ => rfl) rfl rfl rfl rfl
theorem rX5_layFigures_202 {d : Nat} {lv : xLV} {st : List Value} {S : xS} {r : xO} : XL SK MT d 144 (202, lv, .ref 10 :: st, S) r ↔ XL SK MT d 144 (205, lv, .ref 9 :: st, S) r := X_heap rfl rfl rfl rfl rfl
theorem rX5_layFigures_205 {d : Nat} {lv : xLV} {st : List Value} {S : xS} {r : xO} : XL SK MT d 144 (205, lv, st, S) r ↔ XL SK MT d 144 (206, lv, .int 5 :: st, S) r := X_pure rfl rfl rfl
theorem rX5_layFigures_206 {d : Nat} {lv : xLV} {st : List Value} {S : xS} {r : xO} : XL SK MT d 144 (206, lv, st, S) r ↔ XL SK MT d 144 (208, lv, .int 11 :: st, S) r := X_pure rfl rfl rfl
theorem rX5_layFigures_208 {d : Nat} {lv : xLV} {st : List Value} {S : xS} {r : xO} : XL SK MT d 144 (208, lv, st, S) r ↔ XL SK MT d 144 (209, lv, .int 0 :: st, S) r := X_pure rfl rfl rfl
theorem rX5_layFigures_209 {d : Nat} {lv : xLV} {st : List Value} {S : xS} {r : xO} : XL SK MT d 144 (209, lv, st, S) r ↔ xI (xlook lv 3) (fun x => XL SK MT d 144 (210, lv, .int x :: st, S) r) := X_ldI rfl rfl (fun _ => rfl) rfl rfl rfl rfl
theorem rX5_layFigures_210 {d : Nat} {lv : xLV} {S : xS} {r : xO} {x1 : Int32} {x2 : Int32} {x3 : Int32} {x4 : Int32} : XL SK MT d 144 (210, lv, [.int x4, .int x3, .int x2, .int x1, .ref 9], S) r ↔ xK (XC SK MT d 24 [.ref 9, .int x1, .int x2, .int x3, .int x4] S) (fun v S => XL SK MT d 144 (213, lv, v.toList ++ [], S) r) := X_inv (n := 5) (kd := 2) (st0 := [.int x4, .int x3, .int x2, .int x1, .ref 9]) rfl (Or.inr ⟨rfl, rfl⟩) rfl (Nat.le_of_ble_eq_true rfl) (Nat.le_of_ble_eq_true rfl) (by decide) rfl
theorem rX5_layFigures_213 {d : Nat} {lv : xLV} {st : List Value} {S : xS} {r : xO} : XL SK MT d 144 (213, lv, st, S) r ↔ xA (xlook lv 0) (fun x => XL SK MT d 144 (214, lv, .ref x :: st, S) r) := X_ldA rfl rfl (fun _ => rfl) rfl rfl rfl rfl
theorem rX5_layFigures_214 {d : Nat} {lv : xLV} {st : List Value} {S : xS} {r : xO} : XL SK MT d 144 (214, lv, .ref 10 :: st, S) r ↔ XL SK MT d 144 (217, lv, .ref 9 :: st, S) r := X_heap rfl rfl rfl rfl rfl
theorem rX5_layFigures_217 {d : Nat} {lv : xLV} {st : List Value} {S : xS} {r : xO} : XL SK MT d 144 (217, lv, st, S) r ↔ XL SK MT d 144 (219, lv, .int 8 :: st, S) r := X_pure rfl rfl rfl
theorem rX5_layFigures_219 {d : Nat} {lv : xLV} {st : List Value} {S : xS} {r : xO} : XL SK MT d 144 (219, lv, st, S) r ↔ xI (xlook lv 2) (fun x => XL SK MT d 144 (220, lv, .int x :: st, S) r) := X_ldI rfl rfl (fun _ => rfl) rfl rfl rfl rfl
theorem rX5_layFigures_220 {d : Nat} {lv : xLV} {S : xS} {r : xO} {x1 : Int32} {x2 : Int32} : XL SK MT d 144 (220, lv, [.int x2, .int x1, .ref 9], S) r ↔ xK (XC SK MT d 25 [.ref 9, .int x1, .int x2] S) (fun v S => XL SK MT d 144 (223, lv, v.toList ++ [], S) r) := X_inv (n := 3) (kd := 2) (st0 := [.int x2, .int x1, .ref 9]) rfl (Or.inr ⟨rfl, rfl⟩) rfl (Nat.le_of_ble_eq_true rfl) (Nat.le_of_ble_eq_true rfl) (by decide) rfl
theorem rX5_layFigures_223 {d : Nat} {lv : xLV} {st : List Value} {S : xS} {r : xO} : XL SK MT d 144 (223, lv, st, S) r ↔ xA (xlook lv 0) (fun x => XL SK MT d 144 (224, lv, .ref x :: st, S) r) := X_ldA rfl rfl (fun _ => rfl) rfl rfl rfl rfl
theorem rX5_layFigures_224 {d : Nat} {lv : xLV} {st : List Value} {S : xS} {r : xO} : XL SK MT d 144 (224, lv, .ref 10 :: st, S) r ↔ XL SK MT d 144 (227, lv, .ref 9 :: st, S) r := X_heap rfl rfl rfl rfl rfl
theorem rX5_layFigures_227 {d : Nat} {lv : xLV} {st : List Value} {S : xS} {r : xO} : XL SK MT d 144 (227, lv, st, S) r ↔ XL SK MT d 144 (229, lv, .int 13 :: st, S) r := X_pure rfl rfl rfl
theorem rX5_layFigures_229 {d : Nat} {lv : xLV} {st : List Value} {S : xS} {r : xO} : XL SK MT d 144 (229, lv, st, S) r ↔ XL SK MT d 144 (231, lv, .int 126 :: st, S) r := X_pure rfl rfl rfl
theorem rX5_layFigures_231 {d : Nat} {lv : xLV} {S : xS} {r : xO} {x1 : Int32} {x2 : Int32} : XL SK MT d 144 (231, lv, [.int x2, .int x1, .ref 9], S) r ↔ xK (XC SK MT d 22 [.ref 9, .int x1, .int x2] S) (fun v S => XL SK MT d 144 (234, lv, v.toList ++ [], S) r) := X_inv (n := 3) (kd := 2) (st0 := [.int x2, .int x1, .ref 9]) rfl (Or.inr ⟨rfl, rfl⟩) rfl (Nat.le_of_ble_eq_true rfl) (Nat.le_of_ble_eq_true rfl) (by decide) rfl
theorem rX5_layFigures_234 {d : Nat} {lv : xLV} {st : List Value} {S : xS} {r : xO} : XL SK MT d 144 (234, lv, st, S) r ↔ xA (xlook lv 0) (fun x => XL SK MT d 144 (235, lv, .ref x :: st, S) r) := X_ldA rfl rfl (fun _ => rfl) rfl rfl rfl rfl
theorem rX5_layFigures_235 {d : Nat} {lv : xLV} {st : List Value} {S : xS} {r : xO} : XL SK MT d 144 (235, lv, .ref 10 :: st, S) r ↔ XL SK MT d 144 (238, lv, .ref 9 :: st, S) r := X_heap rfl rfl rfl rfl rfl
theorem rX5_layFigures_238 {d : Nat} {lv : xLV} {st : List Value} {S : xS} {r : xO} : XL SK MT d 144 (238, lv, st, S) r ↔ XL SK MT d 144 (240, lv, .int 9 :: st, S) r := X_pure rfl rfl rfl
theorem rX5_layFigures_240 {d : Nat} {lv : xLV} {st : List Value} {S : xS} {r : xO} : XL SK MT d 144 (240, lv, st, S) r ↔ XL SK MT d 144 (242, lv, .int 9 :: st, S) r := X_pure rfl rfl rfl
theorem rX5_layFigures_242 {d : Nat} {lv : xLV} {st : List Value} {S : xS} {r : xO} : XL SK MT d 144 (242, lv, st, S) r ↔ XL SK MT d 144 (243, lv, .int (-1) :: st, S) r := X_pure rfl rfl rfl
theorem rX5_layFigures_243 {d : Nat} {lv : xLV} {S : xS} {r : xO} {x1 : Int32} {x2 : Int32} {x3 : Int32} : XL SK MT d 144 (243, lv, [.int x3, .int x2, .int x1, .ref 9], S) r ↔ xK (XC SK MT d 20 [.ref 9, .int x1, .int x2, .int x3] S) (fun v S => XL SK MT d 144 (246, lv, v.toList ++ [], S) r) := X_inv (n := 4) (kd := 2) (st0 := [.int x3, .int x2, .int x1, .ref 9]) rfl (Or.inr ⟨rfl, rfl⟩) rfl (Nat.le_of_ble_eq_true rfl) (Nat.le_of_ble_eq_true rfl) (by decide) rfl
theorem rX5_layFigures_246 {d : Nat} {lv : xLV} {st : List Value} {S : xS} {r : xO} : XL SK MT d 144 (246, lv, st, S) r ↔ xA (xlook lv 0) (fun x => XL SK MT d 144 (247, lv, .ref x :: st, S) r) := X_ldA rfl rfl (fun _ => rfl) rfl rfl rfl rfl
theorem rX5_layFigures_247 {d : Nat} {lv : xLV} {st : List Value} {S : xS} {r : xO} : XL SK MT d 144 (247, lv, .ref 10 :: st, S) r ↔ XL SK MT d 144 (250, lv, .ref 9 :: st, S) r := X_heap rfl rfl rfl rfl rfl
theorem rX5_layFigures_250 {d : Nat} {lv : xLV} {st : List Value} {S : xS} {r : xO} : XL SK MT d 144 (250, lv, st, S) r ↔ XL SK MT d 144 (252, lv, .int 40 :: st, S) r := X_pure rfl rfl rfl
theorem rX5_layFigures_252 {d : Nat} {lv : xLV} {st : List Value} {S : xS} {r : xO} : XL SK MT d 144 (252, lv, st, S) r ↔ XL SK MT d 144 (254, lv, .int 13 :: st, S) r := X_pure rfl rfl rfl
theorem rX5_layFigures_254 {d : Nat} {lv : xLV} {st : List Value} {S : xS} {r : xO} : XL SK MT d 144 (254, lv, st, S) r ↔ XL SK MT d 144 (256, lv, .int 9 :: st, S) r := X_pure rfl rfl rfl
theorem rX5_layFigures_256 {d : Nat} {lv : xLV} {st : List Value} {S : xS} {r : xO} : XL SK MT d 144 (256, lv, st, S) r ↔ XL SK MT d 144 (257, lv, .int 0 :: st, S) r := X_pure rfl rfl rfl
theorem rX5_layFigures_257 {d : Nat} {lv : xLV} {S : xS} {r : xO} {x1 : Int32} {x2 : Int32} {x3 : Int32} {x4 : Int32} : XL SK MT d 144 (257, lv, [.int x4, .int x3, .int x2, .int x1, .ref 9], S) r ↔ xK (XC SK MT d 17 [.ref 9, .int x1, .int x2, .int x3, .int x4] S) (fun v S => XL SK MT d 144 (260, lv, v.toList ++ [], S) r) := X_inv (n := 5) (kd := 2) (st0 := [.int x4, .int x3, .int x2, .int x1, .ref 9]) rfl (Or.inr ⟨rfl, rfl⟩) rfl (Nat.le_of_ble_eq_true rfl) (Nat.le_of_ble_eq_true rfl) (by decide) rfl
theorem rX5_layFigures_260 {d : Nat} {lv : xLV} {st : List Value} {S : xS} {r : xO} : XL SK MT d 144 (260, lv, st, S) r ↔ xA (xlook lv 0) (fun x => XL SK MT d 144 (261, lv, .ref x :: st, S) r) := X_ldA rfl rfl (fun _ => rfl) rfl rfl rfl rfl
theorem rX5_layFigures_261 {d : Nat} {lv : xLV} {st : List Value} {S : xS} {r : xO} : XL SK MT d 144 (261, lv, .ref 10 :: st, S) r ↔ XL SK MT d 144 (264, lv, .ref 9 :: st, S) r := X_heap rfl rfl rfl rfl rfl
theorem rX5_layFigures_264 {d : Nat} {lv : xLV} {st : List Value} {S : xS} {r : xO} : XL SK MT d 144 (264, lv, st, S) r ↔ xI (xlook lv 2) (fun x => XL SK MT d 144 (265, lv, .int x :: st, S) r) := X_ldI rfl rfl (fun _ => rfl) rfl rfl rfl rfl
theorem rX5_layFigures_265 {d : Nat} {lv : xLV} {S : xS} {r : xO} {x1 : Int32} : XL SK MT d 144 (265, lv, [.int x1, .ref 9], S) r ↔ xK (XC SK MT d 3 [.ref 9, .int x1] S) (fun v S => XL SK MT d 144 (268, lv, v.toList ++ [], S) r) := X_inv (n := 2) (kd := 2) (st0 := [.int x1, .ref 9]) rfl (Or.inr ⟨rfl, rfl⟩) rfl (Nat.le_of_ble_eq_true rfl) (Nat.le_of_ble_eq_true rfl) (by decide) rfl
theorem rX5_layFigures_268 {d : Nat} {lv : xLV} {st : List Value} {S : xS} {r : xO} : XL SK MT d 144 (268, lv, st, S) r ↔ xA (xlook lv 0) (fun x => XL SK MT d 144 (269, lv, .ref x :: st, S) r) := X_ldA rfl rfl (fun _ => rfl) rfl rfl rfl rfl
theorem rX5_layFigures_269 {d : Nat} {lv : xLV} {st : List Value} {S : xS} {r : xO} : XL SK MT d 144 (269, lv, .ref 10 :: st, S) r ↔ XL SK MT d 144 (272, lv, .ref 9 :: st, S) r := X_heap rfl rfl rfl rfl rfl
theorem rX5_layFigures_272 {d : Nat} {lv : xLV} {st : List Value} {S : xS} {r : xO} : XL SK MT d 144 (272, lv, st, S) r ↔ XL SK MT d 144 (274, lv, .int 31 :: st, S) r := X_pure rfl rfl rfl
theorem rX5_layFigures_274 {d : Nat} {lv : xLV} {S : xS} {r : xO} {x1 : Int32} : XL SK MT d 144 (274, lv, [.int x1, .ref 9], S) r ↔ xK (XC SK MT d 29 [.ref 9, .int x1] S) (fun v S => XL SK MT d 144 (277, lv, v.toList ++ [], S) r) := X_inv (n := 2) (kd := 2) (st0 := [.int x1, .ref 9]) rfl (Or.inr ⟨rfl, rfl⟩) rfl (Nat.le_of_ble_eq_true rfl) (Nat.le_of_ble_eq_true rfl) (by decide) rfl
theorem rX5_layFigures_277 {d : Nat} {lv : xLV} {S : xS} {r : xO} : XL SK MT d 144 (277, lv, [], S) r ↔ (none, S) = r := X_ret rfl rfl rfl rfl rfl rfl

/-! Library: layStrings, layFigures. -/
def pL_layStrings (a0 : PA) : PA :=
  let a1 := pLd a0 65545
  let a2 := pEm a1 (wSw 31 1120 0)
  let a3 := pEm a2 (wSw 11 1124 0)
  let a4 := pEm a3 (wAdd 4 11 3)
  let a5 := pEm a4 (wShift 2 4 4 2)
  let a6 := pEm a5 (wShift 0 4 4 2)
  let a7 := pEm a6 (wAdd 4 4 4)
  let a8 := pLp a7 wJal 65537
  let a9 := pEm a8 (wLw 11 1124 0)
  let a10 := pEm a9 (wLw 31 1120 0)
  let a11 := pEm a10 (wShift 0 8 11 3)
  let a12 := pEm a11 (wAdd 8 8 5)
  let a13 := pEm a12 (wSw 8 0 2)
  let a14 := pLp a13 (wJr 31) (-1)
  let a15 := pLb a14
  let a16 := pLd a15 65546
  let a17 := pEm a16 (wLw 9 0 8)
  let a18 := pEm a17 (wAdd 8 8 4)
  let a19 := pEm a18 (wShift 2 9 9 3)
  let a20 := pEm a19 (wThree 33 9 8 9)
  let a21 := pLd (pLb a20) 65597
  let a22 := pLp a21 (wBr 4 8 9) 65596
  let a23 := pEm a22 (wImm 36 10 8 0)
  let a24 := pEm a23 (wAdd 8 8 1)
  let a25 := pEm a24 (wImm 40 10 12 0)
  let a26 := pEm a25 (wAdd 12 12 1)
  let a27 := pLp a26 wJ 65597
  let a28 := pLd a27 65596
  let a29 := pLp a28 (wJr 31) (-1)
  let a30 := pLd a29 65547
  let a31 := pEm a30 (wMove 25 31)
  let a32 := pEm a31 (wLw 8 (-8) 16)
  let a33 := pEm a32 (wLw 9 (-4) 16)
  let a34 := pEm a33 (wLw 8 0 8)
  let a35 := pEm a34 (wLw 9 0 9)
  let a36 := pEm a35 (wShift 2 8 8 3)
  let a37 := pEm a36 (wShift 2 9 9 3)
  let a38 := pEm a37 (wThree 33 11 8 9)
  let a39 := pLp a38 wJal 65545
  let a40 := pEm a39 (wLw 8 (-8) 16)
  let a41 := pEm a40 (wAdd 12 2 4)
  let a42 := pLp a41 wJal 65546
  let a43 := pEm a42 (wLw 8 (-4) 16)
  let a44 := pLp a43 wJal 65546
  let a45 := pEm a44 (wAdd 16 16 (-4))
  let a46 := pEm a45 (wSw 2 (-4) 16)
  let a47 := pLp a46 (wJr 25) (-1)
  a47
set_option maxHeartbeats 4000000 in
set_option maxRecDepth 100000 in
theorem l_layStrings {S0 S : xS} {a0 : PA} (h : AS S0 S a0) (hq : a0.own = 65596) : ∃ S', (∀ d, XC SK MT (d + 5) 143 [.ref 10] S = some (none, S')) ∧ AS S0 S' (pL_layStrings a0) := by
  obtain ⟨S1, e1, h1⟩ := o_land h 65545
  obtain ⟨S2, e2, h2⟩ := o_sw h1 31 1120 0
  obtain ⟨S3, e3, h3⟩ := o_sw h2 11 1124 0
  obtain ⟨S4, e4, h4⟩ := o_add h3 4 11 3
  obtain ⟨S5, e5, h5⟩ := o_shift h4 2 4 4 2
  obtain ⟨S6, e6, h6⟩ := o_shift h5 0 4 4 2
  obtain ⟨S7, e7, h7⟩ := o_add h6 4 4 4
  obtain ⟨S8, e8, h8⟩ := o_jumpAndLink h7 65537
  obtain ⟨S9, e9, h9⟩ := o_lw h8 11 1124 0
  obtain ⟨S10, e10, h10⟩ := o_lw h9 31 1120 0
  obtain ⟨S11, e11, h11⟩ := o_shift h10 0 8 11 3
  obtain ⟨S12, e12, h12⟩ := o_add h11 8 8 5
  obtain ⟨S13, e13, h13⟩ := o_sw h12 8 0 2
  obtain ⟨S14, e14, h14⟩ := o_back h13 31
  obtain ⟨S15, n0, e15, z0, h15⟩ := o_label h14
  have y0 : n0 = 65596 := by rw [z0]; simp only [pEm_own, pSe_own, pLp_own, pLd_own, pSt_own, pSc_own, pLb_own, pL_size_own, pL_copyWords_own, pL_step_own, pL_enterObject_own, hq] <;> rfl
  subst y0
  obtain ⟨S16, e16, h16⟩ := o_land h15 65546
  obtain ⟨S17, e17, h17⟩ := o_lw h16 9 0 8
  obtain ⟨S18, e18, h18⟩ := o_add h17 8 8 4
  obtain ⟨S19, e19, h19⟩ := o_shift h18 2 9 9 3
  obtain ⟨S20, e20, h20⟩ := o_three h19 33 9 8 9
  obtain ⟨S21, n1, e21, z1, h21⟩ := o_labelHere h20
  rw [← z1] at h21
  have y1 : n1 = 65597 := by rw [z1]; simp only [pEm_own, pSe_own, pLp_own, pLd_own, pSt_own, pSc_own, pLb_own, pL_size_own, pL_copyWords_own, pL_step_own, pL_enterObject_own, hq] <;> rfl
  subst y1
  obtain ⟨S22, e22, h22⟩ := o_branch h21 4 8 9 65596
  obtain ⟨S23, e23, h23⟩ := o_immediate h22 36 10 8 0
  obtain ⟨S24, e24, h24⟩ := o_add h23 8 8 1
  obtain ⟨S25, e25, h25⟩ := o_immediate h24 40 10 12 0
  obtain ⟨S26, e26, h26⟩ := o_add h25 12 12 1
  obtain ⟨S27, e27, h27⟩ := o_jump h26 65597
  obtain ⟨S28, e28, h28⟩ := o_land h27 65596
  obtain ⟨S29, e29, h29⟩ := o_back h28 31
  obtain ⟨S30, e30, h30⟩ := o_land h29 65547
  obtain ⟨S31, e31, h31⟩ := o_move h30 25 31
  obtain ⟨S32, e32, h32⟩ := o_lw h31 8 (-8) 16
  obtain ⟨S33, e33, h33⟩ := o_lw h32 9 (-4) 16
  obtain ⟨S34, e34, h34⟩ := o_lw h33 8 0 8
  obtain ⟨S35, e35, h35⟩ := o_lw h34 9 0 9
  obtain ⟨S36, e36, h36⟩ := o_shift h35 2 8 8 3
  obtain ⟨S37, e37, h37⟩ := o_shift h36 2 9 9 3
  obtain ⟨S38, e38, h38⟩ := o_three h37 33 11 8 9
  obtain ⟨S39, e39, h39⟩ := o_jumpAndLink h38 65545
  obtain ⟨S40, e40, h40⟩ := o_lw h39 8 (-8) 16
  obtain ⟨S41, e41, h41⟩ := o_add h40 12 2 4
  obtain ⟨S42, e42, h42⟩ := o_jumpAndLink h41 65546
  obtain ⟨S43, e43, h43⟩ := o_lw h42 8 (-4) 16
  obtain ⟨S44, e44, h44⟩ := o_jumpAndLink h43 65546
  obtain ⟨S45, e45, h45⟩ := o_add h44 16 16 (-4)
  obtain ⟨S46, e46, h46⟩ := o_sw h45 2 (-4) 16
  obtain ⟨S47, e47, h47⟩ := o_back h46 25
  refine ⟨S47, fun d => ?_, ?_⟩
  · rw [XC_iff]
    refine ⟨Nat.le_of_ble_eq_true rfl, ?_⟩
    show XL SK MT (d + 4) 143 (0, [some (.ref 10), none, none], [], S) _
    simp (config := { decide := true }) only [rX5_layStrings_0, rX5_layStrings_1, rX5_layStrings_4, rX5_layStrings_6, rX5_layStrings_9, rX5_layStrings_10, rX5_layStrings_13, rX5_layStrings_15, rX5_layStrings_18, rX5_layStrings_19, rX5_layStrings_22, rX5_layStrings_23, rX5_layStrings_26, rX5_layStrings_28, rX5_layStrings_31, rX5_layStrings_32, rX5_layStrings_35, rX5_layStrings_36, rX5_layStrings_39, rX5_layStrings_40, rX5_layStrings_42, rX5_layStrings_43, rX5_layStrings_46, rX5_layStrings_47, rX5_layStrings_50, rX5_layStrings_51, rX5_layStrings_52, rX5_layStrings_53, rX5_layStrings_54, rX5_layStrings_57, rX5_layStrings_58, rX5_layStrings_61, rX5_layStrings_62, rX5_layStrings_63, rX5_layStrings_64, rX5_layStrings_65, rX5_layStrings_68, rX5_layStrings_69, rX5_layStrings_72, rX5_layStrings_73, rX5_layStrings_74, rX5_layStrings_75, rX5_layStrings_78, rX5_layStrings_79, rX5_layStrings_82, rX5_layStrings_84, rX5_layStrings_87, rX5_layStrings_88, rX5_layStrings_91, rX5_layStrings_93, rX5_layStrings_96, rX5_layStrings_97, rX5_layStrings_100, rX5_layStrings_101, rX5_layStrings_104, rX5_layStrings_106, rX5_layStrings_109, rX5_layStrings_110, rX5_layStrings_113, rX5_layStrings_114, rX5_layStrings_117, rX5_layStrings_118, rX5_layStrings_120, rX5_layStrings_122, rX5_layStrings_123, rX5_layStrings_126, rX5_layStrings_127, rX5_layStrings_130, rX5_layStrings_132, rX5_layStrings_134, rX5_layStrings_135, rX5_layStrings_138, rX5_layStrings_139, rX5_layStrings_142, rX5_layStrings_144, rX5_layStrings_145, rX5_layStrings_146, rX5_layStrings_149, rX5_layStrings_150, rX5_layStrings_153, rX5_layStrings_155, rX5_layStrings_158, rX5_layStrings_159, rX5_layStrings_162, rX5_layStrings_165, rX5_layStrings_166, rX5_layStrings_167, rX5_layStrings_170, rX5_layStrings_172, rX5_layStrings_175, rX5_layStrings_176, rX5_layStrings_179, rX5_layStrings_181, rX5_layStrings_182, rX5_layStrings_184, rX5_layStrings_187, rX5_layStrings_188, rX5_layStrings_191, rX5_layStrings_193, rX5_layStrings_195, rX5_layStrings_196, rX5_layStrings_199, rX5_layStrings_200, rX5_layStrings_203, rX5_layStrings_204, rX5_layStrings_206, rX5_layStrings_208, rX5_layStrings_209, rX5_layStrings_212, rX5_layStrings_213, rX5_layStrings_216, rX5_layStrings_218, rX5_layStrings_220, rX5_layStrings_222, rX5_layStrings_224, rX5_layStrings_227, rX5_layStrings_228, rX5_layStrings_231, rX5_layStrings_234, rX5_layStrings_235, rX5_layStrings_236, rX5_layStrings_239, rX5_layStrings_240, rX5_layStrings_242, rX5_layStrings_244, rX5_layStrings_245, rX5_layStrings_248, rX5_layStrings_249, rX5_layStrings_252, rX5_layStrings_254, rX5_layStrings_256, rX5_layStrings_258, rX5_layStrings_259, rX5_layStrings_262, rX5_layStrings_263, rX5_layStrings_266, rX5_layStrings_268, rX5_layStrings_270, rX5_layStrings_271, rX5_layStrings_274, rX5_layStrings_275, rX5_layStrings_278, rX5_layStrings_280, rX5_layStrings_282, rX5_layStrings_284, rX5_layStrings_285, rX5_layStrings_288, rX5_layStrings_289, rX5_layStrings_292, rX5_layStrings_294, rX5_layStrings_296, rX5_layStrings_297, rX5_layStrings_300, rX5_layStrings_301, rX5_layStrings_304, rX5_layStrings_305, rX5_layStrings_308, rX5_layStrings_309, rX5_layStrings_312, rX5_layStrings_313, rX5_layStrings_316, rX5_layStrings_317, rX5_layStrings_320, rX5_layStrings_322, rX5_layStrings_325, rX5_layStrings_326, rX5_layStrings_329, rX5_layStrings_331, rX5_layStrings_334, rX5_layStrings_335, rX5_layStrings_338, rX5_layStrings_340, rX5_layStrings_342, rX5_layStrings_345, rX5_layStrings_346, rX5_layStrings_349, rX5_layStrings_351, rX5_layStrings_353, rX5_layStrings_355, rX5_layStrings_358, rX5_layStrings_359, rX5_layStrings_362, rX5_layStrings_364, rX5_layStrings_366, rX5_layStrings_368, rX5_layStrings_371, rX5_layStrings_372, rX5_layStrings_375, rX5_layStrings_377, rX5_layStrings_378, rX5_layStrings_380, rX5_layStrings_383, rX5_layStrings_384, rX5_layStrings_387, rX5_layStrings_389, rX5_layStrings_390, rX5_layStrings_392, rX5_layStrings_395, rX5_layStrings_396, rX5_layStrings_399, rX5_layStrings_400, rX5_layStrings_402, rX5_layStrings_404, rX5_layStrings_405, rX5_layStrings_408, rX5_layStrings_409, rX5_layStrings_412, rX5_layStrings_413, rX5_layStrings_415, rX5_layStrings_417, rX5_layStrings_418, rX5_layStrings_421, rX5_layStrings_422, rX5_layStrings_425, rX5_layStrings_427, rX5_layStrings_429, rX5_layStrings_431, rX5_layStrings_433, rX5_layStrings_436, rX5_layStrings_437, rX5_layStrings_440, rX5_layStrings_442, rX5_layStrings_445, rX5_layStrings_446, rX5_layStrings_449, rX5_layStrings_451, rX5_layStrings_453, rX5_layStrings_455, rX5_layStrings_458, rX5_layStrings_459, rX5_layStrings_462, rX5_layStrings_464, rX5_layStrings_465, rX5_layStrings_466, rX5_layStrings_469, rX5_layStrings_470, rX5_layStrings_473, rX5_layStrings_475, rX5_layStrings_478, rX5_layStrings_479, rX5_layStrings_482, rX5_layStrings_484, rX5_layStrings_486, rX5_layStrings_488, rX5_layStrings_491, rX5_layStrings_492, rX5_layStrings_495, rX5_layStrings_497, rX5_layStrings_500, rX5_layStrings_501, rX5_layStrings_504, rX5_layStrings_506, rX5_layStrings_508, rX5_layStrings_510, rX5_layStrings_513, rX5_layStrings_514, rX5_layStrings_517, rX5_layStrings_518, rX5_layStrings_520, rX5_layStrings_522, rX5_layStrings_525, rX5_layStrings_526, rX5_layStrings_529, rX5_layStrings_531, rX5_layStrings_534, ↓reduceIte, m1_le, m1_lt, m1_eq, ofInt_m1, ex_ret, Int32.reduceAdd, Int32.reduceSub, Int32.reduceMul, Int32.reduceLT, Int32.reduceLE, xsI, Nat.reduceEqDiff, and_false, false_and, and_true, true_and, if_true, if_false, ite_true, ite_false, xlook_0, xlook_s, xI_int, xA_ref, xJ_long, xK_some, xRow_row, xTo_some, xst1, xclr, List.set_cons_zero, List.set_cons_succ, xsum_nil, xsum_int, xsum_ref, xsum_long, Option.toList_some, Option.toList_none, List.nil_append, List.cons_append, e1, e2, e3, e4, e5, e6, e7, e8, e9, e10, e11, e12, e13, e14, e15, e16, e17, e18, e19, e20, e21, e22, e23, e24, e25, e26, e27, e28, e29, e30, e31, e32, e33, e34, e35, e36, e37, e38, e39, e40, e41, e42, e43, e44, e45, e46, e47]
  · exact h47
def pL_layFigures (a0 : PA) : PA :=
  let a1 := pLb a0
  let a2 := pLb a1
  let a3 := pLd a2 65548
  let a4 := pEm a3 (wShift 3 8 5 1)
  let a5 := pEm a4 (wMove 11 8)
  let a6 := pLp a5 (wBnb 8) 65598
  let a7 := pEm a6 (wThree 35 11 0 8)
  let a8 := pLd a7 65598
  let a9 := pSe a8 10 1296
  let a10 := pEm a9 (wMove 9 10)
  let a11 := pSe a10 12 10
  let a12 := pLd (pLb a11) 65600
  let a13 := pEm a12 (wThree 27 0 11 12)
  let a14 := pEm a13 (wThree 16 13 0 0)
  let a15 := pEm a14 (wThree 18 11 0 0)
  let a16 := pEm a15 (wAdd 13 13 48)
  let a17 := pEm a16 (wAdd 9 9 (-1))
  let a18 := pEm a17 (wImm 40 13 9 0)
  let a19 := pLp a18 (wBr 5 11 0) 65600
  let a20 := pLp a19 (wBnb 8) 65599
  let a21 := pSe a20 13 126
  let a22 := pEm a21 (wAdd 9 9 (-1))
  let a23 := pEm a22 (wImm 40 13 9 0)
  let a24 := pLd a23 65599
  let a25 := pLp a24 (wJr 31) (-1)
  a25
set_option maxHeartbeats 4000000 in
set_option maxRecDepth 100000 in
theorem l_layFigures {S0 S : xS} {a0 : PA} (h : AS S0 S a0) (hq : a0.own = 65598) : ∃ S', (∀ d, XC SK MT (d + 5) 144 [.ref 10] S = some (none, S')) ∧ AS S0 S' (pL_layFigures a0) := by
  obtain ⟨S1, n0, e1, z0, h1⟩ := o_label h
  have y0 : n0 = 65598 := by rw [z0]; simp only [pEm_own, pSe_own, pLp_own, pLd_own, pSt_own, pSc_own, pLb_own, pL_size_own, pL_copyWords_own, pL_step_own, pL_enterObject_own, hq] <;> rfl
  subst y0
  obtain ⟨S2, n1, e2, z1, h2⟩ := o_label h1
  have y1 : n1 = 65599 := by rw [z1]; simp only [pEm_own, pSe_own, pLp_own, pLd_own, pSt_own, pSc_own, pLb_own, pL_size_own, pL_copyWords_own, pL_step_own, pL_enterObject_own, hq] <;> rfl
  subst y1
  obtain ⟨S3, e3, h3⟩ := o_land h2 65548
  obtain ⟨S4, e4, h4⟩ := o_shift h3 3 8 5 1
  obtain ⟨S5, e5, h5⟩ := o_move h4 11 8
  obtain ⟨S6, e6, h6⟩ := o_branchNotBelow h5 8 65598
  obtain ⟨S7, e7, h7⟩ := o_three h6 35 11 0 8
  obtain ⟨S8, e8, h8⟩ := o_land h7 65598
  obtain ⟨S9, e9, h9⟩ := o_set h8 10 1296
  obtain ⟨S10, e10, h10⟩ := o_move h9 9 10
  obtain ⟨S11, e11, h11⟩ := o_set h10 12 10
  obtain ⟨S12, n2, e12, z2, h12⟩ := o_labelHere h11
  rw [← z2] at h12
  have y2 : n2 = 65600 := by rw [z2]; simp only [pEm_own, pSe_own, pLp_own, pLd_own, pSt_own, pSc_own, pLb_own, pL_size_own, pL_copyWords_own, pL_step_own, pL_enterObject_own, hq] <;> rfl
  subst y2
  obtain ⟨S13, e13, h13⟩ := o_three h12 27 0 11 12
  obtain ⟨S14, e14, h14⟩ := o_three h13 16 13 0 0
  obtain ⟨S15, e15, h15⟩ := o_three h14 18 11 0 0
  obtain ⟨S16, e16, h16⟩ := o_add h15 13 13 48
  obtain ⟨S17, e17, h17⟩ := o_add h16 9 9 (-1)
  obtain ⟨S18, e18, h18⟩ := o_immediate h17 40 13 9 0
  obtain ⟨S19, e19, h19⟩ := o_branch h18 5 11 0 65600
  obtain ⟨S20, e20, h20⟩ := o_branchNotBelow h19 8 65599
  obtain ⟨S21, e21, h21⟩ := o_set h20 13 126
  obtain ⟨S22, e22, h22⟩ := o_add h21 9 9 (-1)
  obtain ⟨S23, e23, h23⟩ := o_immediate h22 40 13 9 0
  obtain ⟨S24, e24, h24⟩ := o_land h23 65599
  obtain ⟨S25, e25, h25⟩ := o_back h24 31
  refine ⟨S25, fun d => ?_, ?_⟩
  · rw [XC_iff]
    refine ⟨Nat.le_of_ble_eq_true rfl, ?_⟩
    show XL SK MT (d + 4) 144 (0, [some (.ref 10), none, none, none], [], S) _
    simp (config := { decide := true }) only [rX5_layFigures_0, rX5_layFigures_1, rX5_layFigures_4, rX5_layFigures_7, rX5_layFigures_8, rX5_layFigures_9, rX5_layFigures_12, rX5_layFigures_15, rX5_layFigures_16, rX5_layFigures_17, rX5_layFigures_20, rX5_layFigures_22, rX5_layFigures_25, rX5_layFigures_26, rX5_layFigures_29, rX5_layFigures_30, rX5_layFigures_32, rX5_layFigures_33, rX5_layFigures_34, rX5_layFigures_37, rX5_layFigures_38, rX5_layFigures_41, rX5_layFigures_43, rX5_layFigures_45, rX5_layFigures_48, rX5_layFigures_49, rX5_layFigures_52, rX5_layFigures_54, rX5_layFigures_55, rX5_layFigures_58, rX5_layFigures_59, rX5_layFigures_62, rX5_layFigures_64, rX5_layFigures_66, rX5_layFigures_67, rX5_layFigures_69, rX5_layFigures_72, rX5_layFigures_73, rX5_layFigures_76, rX5_layFigures_77, rX5_layFigures_80, rX5_layFigures_81, rX5_layFigures_84, rX5_layFigures_86, rX5_layFigures_89, rX5_layFigures_92, rX5_layFigures_93, rX5_layFigures_96, rX5_layFigures_98, rX5_layFigures_100, rX5_layFigures_103, rX5_layFigures_104, rX5_layFigures_107, rX5_layFigures_109, rX5_layFigures_111, rX5_layFigures_114, rX5_layFigures_115, rX5_layFigures_118, rX5_layFigures_121, rX5_layFigures_122, rX5_layFigures_123, rX5_layFigures_126, rX5_layFigures_128, rX5_layFigures_129, rX5_layFigures_131, rX5_layFigures_133, rX5_layFigures_136, rX5_layFigures_137, rX5_layFigures_140, rX5_layFigures_142, rX5_layFigures_144, rX5_layFigures_145, rX5_layFigures_146, rX5_layFigures_149, rX5_layFigures_150, rX5_layFigures_153, rX5_layFigures_155, rX5_layFigures_157, rX5_layFigures_158, rX5_layFigures_159, rX5_layFigures_162, rX5_layFigures_163, rX5_layFigures_166, rX5_layFigures_168, rX5_layFigures_170, rX5_layFigures_172, rX5_layFigures_175, rX5_layFigures_176, rX5_layFigures_179, rX5_layFigures_181, rX5_layFigures_183, rX5_layFigures_184, rX5_layFigures_187, rX5_layFigures_188, rX5_layFigures_191, rX5_layFigures_193, rX5_layFigures_195, rX5_layFigures_197, rX5_layFigures_198, rX5_layFigures_201, rX5_layFigures_202, rX5_layFigures_205, rX5_layFigures_206, rX5_layFigures_208, rX5_layFigures_209, rX5_layFigures_210, rX5_layFigures_213, rX5_layFigures_214, rX5_layFigures_217, rX5_layFigures_219, rX5_layFigures_220, rX5_layFigures_223, rX5_layFigures_224, rX5_layFigures_227, rX5_layFigures_229, rX5_layFigures_231, rX5_layFigures_234, rX5_layFigures_235, rX5_layFigures_238, rX5_layFigures_240, rX5_layFigures_242, rX5_layFigures_243, rX5_layFigures_246, rX5_layFigures_247, rX5_layFigures_250, rX5_layFigures_252, rX5_layFigures_254, rX5_layFigures_256, rX5_layFigures_257, rX5_layFigures_260, rX5_layFigures_261, rX5_layFigures_264, rX5_layFigures_265, rX5_layFigures_268, rX5_layFigures_269, rX5_layFigures_272, rX5_layFigures_274, rX5_layFigures_277, ↓reduceIte, m1_le, m1_lt, m1_eq, ofInt_m1, ex_ret, Int32.reduceAdd, Int32.reduceSub, Int32.reduceMul, Int32.reduceLT, Int32.reduceLE, xsI, Nat.reduceEqDiff, and_false, false_and, and_true, true_and, if_true, if_false, ite_true, ite_false, xlook_0, xlook_s, xI_int, xA_ref, xJ_long, xK_some, xRow_row, xTo_some, xst1, xclr, List.set_cons_zero, List.set_cons_succ, xsum_nil, xsum_int, xsum_ref, xsum_long, Option.toList_some, Option.toList_none, List.nil_append, List.cons_append, e1, e2, e3, e4, e5, e6, e7, e8, e9, e10, e11, e12, e13, e14, e15, e16, e17, e18, e19, e20, e21, e22, e23, e24, e25]
  · exact h25
