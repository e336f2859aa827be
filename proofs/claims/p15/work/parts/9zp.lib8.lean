/-! XF: rows, then what is proved of them. -/
theorem rX5_layOutput_0 {d : Nat} {lv : xLV} {st : List Value} {S : xS} {r : xO} : XL SK MT d 153 (0, lv, st, S) r ↔ xA (xlook lv 0) (fun x => XL SK MT d 153 (1, lv, .ref x :: st, S) r) := X_ldA rfl rfl (fun _ => rfl) rfl rfl rfl rfl
theorem rX5_layOutput_1 {d : Nat} {lv : xLV} {st : List Value} {S : xS} {r : xO} : XL SK MT d 153 (1, lv, .ref 10 :: st, S) r ↔ XL SK MT d 153 (4, lv, .ref 9 :: st, S) r := X_heap rfl rfl rfl rfl rfl
theorem rX5_layOutput_4 {d : Nat} {lv : xLV} {st : List Value} {S : xS} {r : xO} : XL SK MT d 153 (4, lv, st, S) r ↔ XL SK MT d 153 (6, lv, .int 65559 :: st, S) r := X_pure rfl rfl rfl
theorem rX5_layOutput_6 {d : Nat} {lv : xLV} {S : xS} {r : xO} {x1 : Int32} : XL SK MT d 153 (6, lv, [.int x1, .ref 9], S) r ↔ xK (XC SK MT d 3 [.ref 9, .int x1] S) (fun v S => XL SK MT d 153 (9, lv, v.toList ++ [], S) r) := X_inv (n := 2) (kd := 2) (st0 := [.int x1, .ref 9]) rfl (Or.inr ⟨rfl, rfl⟩) rfl (Nat.le_of_ble_eq_true rfl) (Nat.le_of_ble_eq_true rfl) (by decide) rfl
theorem rX5_layOutput_9 {d : Nat} {lv : xLV} {st : List Value} {S : xS} {r : xO} : XL SK MT d 153 (9, lv, st, S) r ↔ xA (xlook lv 0) (fun x => XL SK MT d 153 (10, lv, .ref x :: st, S) r) := X_ldA rfl rfl (fun _ => rfl) rfl rfl rfl rfl
theorem rX5_layOutput_10 {d : Nat} {lv : xLV} {st : List Value} {S : xS} {r : xO} : XL SK MT d 153 (10, lv, .ref 10 :: st, S) r ↔ XL SK MT d 153 (13, lv, .ref 9 :: st, S) r := X_heap rfl rfl rfl rfl rfl
theorem rX5_layOutput_13 {d : Nat} {lv : xLV} {S : xS} {r : xO} : XL SK MT d 153 (13, lv, [.ref 9], S) r ↔ xK (XC SK MT d 1 [.ref 9] S) (fun v S => XL SK MT d 153 (16, lv, v.toList ++ [], S) r) := X_inv (n := 1) (kd := 2) (st0 := [.ref 9]) rfl (Or.inr ⟨rfl, rfl⟩) rfl (Nat.le_of_ble_eq_true rfl) (Nat.le_of_ble_eq_true rfl) (by decide) rfl
theorem rX5_layOutput_16 {d : Nat} {lv : xLV} {st : List Value} {S : xS} {r : xO} {x : Int32} : XL SK MT d 153 (16, lv, .int x :: st, S) r ↔ XL SK MT d 153 (17, xst1 lv 1 (.int x), st, S) r := X_pure rfl rfl rfl
theorem rX5_layOutput_17 {d : Nat} {lv : xLV} {st : List Value} {S : xS} {r : xO} : XL SK MT d 153 (17, lv, st, S) r ↔ xA (xlook lv 0) (fun x => XL SK MT d 153 (18, lv, .ref x :: st, S) r) := X_ldA rfl rfl (fun _ => rfl) rfl rfl rfl rfl
theorem rX5_layOutput_18 {d : Nat} {lv : xLV} {st : List Value} {S : xS} {r : xO} : XL SK MT d 153 (18, lv, .ref 10 :: st, S) r ↔ XL SK MT d 153 (21, lv, .ref 9 :: st, S) r := X_heap rfl rfl rfl rfl rfl
theorem rX5_layOutput_21 {d : Nat} {lv : xLV} {st : List Value} {S : xS} {r : xO} : XL SK MT d 153 (21, lv, st, S) r ↔ XL SK MT d 153 (23, lv, .int 13 :: st, S) r := X_pure rfl rfl rfl
theorem rX5_layOutput_23 {d : Nat} {lv : xLV} {st : List Value} {S : xS} {r : xO} : XL SK MT d 153 (23, lv, st, S) r ↔ XL SK MT d 153 (26, lv, .int 1104 :: st, S) r := X_pure rfl rfl rfl
theorem rX5_layOutput_26 {d : Nat} {lv : xLV} {st : List Value} {S : xS} {r : xO} : XL SK MT d 153 (26, lv, st, S) r ↔ XL SK MT d 153 (27, lv, .int 0 :: st, S) r := X_pure rfl rfl rfl
theorem rX5_layOutput_27 {d : Nat} {lv : xLV} {S : xS} {r : xO} {x1 : Int32} {x2 : Int32} {x3 : Int32} : XL SK MT d 153 (27, lv, [.int x3, .int x2, .int x1, .ref 9], S) r ↔ xK (XC SK MT d 18 [.ref 9, .int x1, .int x2, .int x3] S) (fun v S => XL SK MT d 153 (30, lv, v.toList ++ [], S) r) := X_inv (n := 4) (kd := 2) (st0 := [.int x3, .int x2, .int x1, .ref 9]) rfl (Or.inr ⟨rfl, rfl⟩) rfl (Nat.le_of_ble_eq_true rfl) (Nat.le_of_ble_eq_true rfl) (by decide) rfl
theorem rX5_layOutput_30 {d : Nat} {lv : xLV} {st : List Value} {S : xS} {r : xO} : XL SK MT d 153 (30, lv, st, S) r ↔ xA (xlook lv 0) (fun x => XL SK MT d 153 (31, lv, .ref x :: st, S) r) := X_ldA rfl rfl (fun _ => rfl) rfl rfl rfl rfl
theorem rX5_layOutput_31 {d : Nat} {lv : xLV} {st : List Value} {S : xS} {r : xO} : XL SK MT d 153 (31, lv, .ref 10 :: st, S) r ↔ XL SK MT d 153 (34, lv, .ref 9 :: st, S) r := X_heap rfl rfl rfl rfl rfl
theorem rX5_layOutput_34 {d : Nat} {lv : xLV} {st : List Value} {S : xS} {r : xO} : XL SK MT d 153 (34, lv, st, S) r ↔ XL SK MT d 153 (36, lv, .int 11 :: st, S) r := X_pure rfl rfl rfl
theorem rX5_layOutput_36 {d : Nat} {lv : xLV} {st : List Value} {S : xS} {r : xO} : XL SK MT d 153 (36, lv, st, S) r ↔ XL SK MT d 153 (38, lv, .int 14 :: st, S) r := X_pure rfl rfl rfl
theorem rX5_layOutput_38 {d : Nat} {lv : xLV} {st : List Value} {S : xS} {r : xO} : XL SK MT d 153 (38, lv, st, S) r ↔ XL SK MT d 153 (40, lv, .int 13 :: st, S) r := X_pure rfl rfl rfl
theorem rX5_layOutput_40 {d : Nat} {lv : xLV} {st : List Value} {S : xS} {r : xO} : XL SK MT d 153 (40, lv, st, S) r ↔ XL SK MT d 153 (43, lv, .int 2000 :: st, S) r := X_pure rfl rfl rfl
theorem rX5_layOutput_43 {d : Nat} {lv : xLV} {S : xS} {r : xO} {x1 : Int32} {x2 : Int32} {x3 : Int32} {x4 : Int32} : XL SK MT d 153 (43, lv, [.int x4, .int x3, .int x2, .int x1, .ref 9], S) r ↔ xK (XC SK MT d 17 [.ref 9, .int x1, .int x2, .int x3, .int x4] S) (fun v S => XL SK MT d 153 (46, lv, v.toList ++ [], S) r) := X_inv (n := 5) (kd := 2) (st0 := [.int x4, .int x3, .int x2, .int x1, .ref 9]) rfl (Or.inr ⟨rfl, rfl⟩) rfl (Nat.le_of_ble_eq_true rfl) (Nat.le_of_ble_eq_true rfl) (by decide) rfl
theorem rX5_layOutput_46 {d : Nat} {lv : xLV} {st : List Value} {S : xS} {r : xO} : XL SK MT d 153 (46, lv, st, S) r ↔ xA (xlook lv 0) (fun x => XL SK MT d 153 (47, lv, .ref x :: st, S) r) := X_ldA rfl rfl (fun _ => rfl) rfl rfl rfl rfl
theorem rX5_layOutput_47 {d : Nat} {lv : xLV} {st : List Value} {S : xS} {r : xO} : XL SK MT d 153 (47, lv, .ref 10 :: st, S) r ↔ XL SK MT d 153 (50, lv, .ref 9 :: st, S) r := X_heap rfl rfl rfl rfl rfl
theorem rX5_layOutput_50 {d : Nat} {lv : xLV} {st : List Value} {S : xS} {r : xO} : XL SK MT d 153 (50, lv, st, S) r ↔ XL SK MT d 153 (51, lv, .int 4 :: st, S) r := X_pure rfl rfl rfl
theorem rX5_layOutput_51 {d : Nat} {lv : xLV} {st : List Value} {S : xS} {r : xO} : XL SK MT d 153 (51, lv, st, S) r ↔ XL SK MT d 153 (53, lv, .int 14 :: st, S) r := X_pure rfl rfl rfl
theorem rX5_layOutput_53 {d : Nat} {lv : xLV} {st : List Value} {S : xS} {r : xO} : XL SK MT d 153 (53, lv, st, S) r ↔ XL SK MT d 153 (54, lv, .int 0 :: st, S) r := X_pure rfl rfl rfl
theorem rX5_layOutput_54 {d : Nat} {lv : xLV} {st : List Value} {S : xS} {r : xO} : XL SK MT d 153 (54, lv, st, S) r ↔ xI (xlook lv 1) (fun x => XL SK MT d 153 (55, lv, .int x :: st, S) r) := X_ldI rfl rfl (fun _ => rfl) rfl rfl rfl rfl
theorem rX5_layOutput_55 {d : Nat} {lv : xLV} {S : xS} {r : xO} {x1 : Int32} {x2 : Int32} {x3 : Int32} {x4 : Int32} : XL SK MT d 153 (55, lv, [.int x4, .int x3, .int x2, .int x1, .ref 9], S) r ↔ xK (XC SK MT d 24 [.ref 9, .int x1, .int x2, .int x3, .int x4] S) (fun v S => XL SK MT d 153 (58, lv, v.toList ++ [], S) r) := X_inv (n := 5) (kd := 2) (st0 := [.int x4, .int x3, .int x2, .int x1, .ref 9]) rfl (Or.inr ⟨rfl, rfl⟩) rfl (Nat.le_of_ble_eq_true rfl) (Nat.le_of_ble_eq_true rfl) (by decide) rfl
theorem rX5_layOutput_58 {d : Nat} {lv : xLV} {st : List Value} {S : xS} {r : xO} : XL SK MT d 153 (58, lv, st, S) r ↔ xA (xlook lv 0) (fun x => XL SK MT d 153 (59, lv, .ref x :: st, S) r) := X_ldA rfl rfl (fun _ => rfl) rfl rfl rfl rfl
theorem rX5_layOutput_59 {d : Nat} {lv : xLV} {st : List Value} {S : xS} {r : xO} : XL SK MT d 153 (59, lv, .ref 10 :: st, S) r ↔ XL SK MT d 153 (62, lv, .ref 9 :: st, S) r := X_heap rfl rfl rfl rfl rfl
theorem rX5_layOutput_62 {d : Nat} {lv : xLV} {st : List Value} {S : xS} {r : xO} : XL SK MT d 153 (62, lv, st, S) r ↔ XL SK MT d 153 (64, lv, .int 40 :: st, S) r := X_pure rfl rfl rfl
theorem rX5_layOutput_64 {d : Nat} {lv : xLV} {st : List Value} {S : xS} {r : xO} : XL SK MT d 153 (64, lv, st, S) r ↔ XL SK MT d 153 (65, lv, .int 4 :: st, S) r := X_pure rfl rfl rfl
theorem rX5_layOutput_65 {d : Nat} {lv : xLV} {st : List Value} {S : xS} {r : xO} : XL SK MT d 153 (65, lv, st, S) r ↔ XL SK MT d 153 (67, lv, .int 13 :: st, S) r := X_pure rfl rfl rfl
theorem rX5_layOutput_67 {d : Nat} {lv : xLV} {st : List Value} {S : xS} {r : xO} : XL SK MT d 153 (67, lv, st, S) r ↔ XL SK MT d 153 (70, lv, .int 1792 :: st, S) r := X_pure rfl rfl rfl
theorem rX5_layOutput_70 {d : Nat} {lv : xLV} {S : xS} {r : xO} {x1 : Int32} {x2 : Int32} {x3 : Int32} {x4 : Int32} : XL SK MT d 153 (70, lv, [.int x4, .int x3, .int x2, .int x1, .ref 9], S) r ↔ xK (XC SK MT d 17 [.ref 9, .int x1, .int x2, .int x3, .int x4] S) (fun v S => XL SK MT d 153 (73, lv, v.toList ++ [], S) r) := X_inv (n := 5) (kd := 2) (st0 := [.int x4, .int x3, .int x2, .int x1, .ref 9]) rfl (Or.inr ⟨rfl, rfl⟩) rfl (Nat.le_of_ble_eq_true rfl) (Nat.le_of_ble_eq_true rfl) (by decide) rfl
theorem rX5_layOutput_73 {d : Nat} {lv : xLV} {st : List Value} {S : xS} {r : xO} : XL SK MT d 153 (73, lv, st, S) r ↔ xA (xlook lv 0) (fun x => XL SK MT d 153 (74, lv, .ref x :: st, S) r) := X_ldA rfl rfl (fun _ => rfl) rfl rfl rfl rfl
theorem rX5_layOutput_74 {d : Nat} {lv : xLV} {st : List Value} {S : xS} {r : xO} : XL SK MT d 153 (74, lv, .ref 10 :: st, S) r ↔ XL SK MT d 153 (77, lv, .ref 9 :: st, S) r := X_heap rfl rfl rfl rfl rfl
theorem rX5_layOutput_77 {d : Nat} {lv : xLV} {st : List Value} {S : xS} {r : xO} : XL SK MT d 153 (77, lv, st, S) r ↔ xI (xlook lv 1) (fun x => XL SK MT d 153 (78, lv, .int x :: st, S) r) := X_ldI rfl rfl (fun _ => rfl) rfl rfl rfl rfl
theorem rX5_layOutput_78 {d : Nat} {lv : xLV} {S : xS} {r : xO} {x1 : Int32} : XL SK MT d 153 (78, lv, [.int x1, .ref 9], S) r ↔ xK (XC SK MT d 3 [.ref 9, .int x1] S) (fun v S => XL SK MT d 153 (81, lv, v.toList ++ [], S) r) := X_inv (n := 2) (kd := 2) (st0 := [.int x1, .ref 9]) rfl (Or.inr ⟨rfl, rfl⟩) rfl (Nat.le_of_ble_eq_true rfl) (Nat.le_of_ble_eq_true rfl) (by decide) rfl
theorem rX5_layOutput_81 {d : Nat} {lv : xLV} {st : List Value} {S : xS} {r : xO} : XL SK MT d 153 (81, lv, st, S) r ↔ xA (xlook lv 0) (fun x => XL SK MT d 153 (82, lv, .ref x :: st, S) r) := X_ldA rfl rfl (fun _ => rfl) rfl rfl rfl rfl
theorem rX5_layOutput_82 {d : Nat} {lv : xLV} {st : List Value} {S : xS} {r : xO} : XL SK MT d 153 (82, lv, .ref 10 :: st, S) r ↔ XL SK MT d 153 (85, lv, .ref 9 :: st, S) r := X_heap rfl rfl rfl rfl rfl
theorem rX5_layOutput_85 {d : Nat} {lv : xLV} {st : List Value} {S : xS} {r : xO} : XL SK MT d 153 (85, lv, st, S) r ↔ XL SK MT d 153 (87, lv, .int 13 :: st, S) r := X_pure rfl rfl rfl
theorem rX5_layOutput_87 {d : Nat} {lv : xLV} {st : List Value} {S : xS} {r : xO} : XL SK MT d 153 (87, lv, st, S) r ↔ XL SK MT d 153 (89, lv, .int 13 :: st, S) r := X_pure rfl rfl rfl
theorem rX5_layOutput_89 {d : Nat} {lv : xLV} {st : List Value} {S : xS} {r : xO} : XL SK MT d 153 (89, lv, st, S) r ↔ XL SK MT d 153 (90, lv, .int 1 :: st, S) r := X_pure rfl rfl rfl
theorem rX5_layOutput_90 {d : Nat} {lv : xLV} {S : xS} {r : xO} {x1 : Int32} {x2 : Int32} {x3 : Int32} : XL SK MT d 153 (90, lv, [.int x3, .int x2, .int x1, .ref 9], S) r ↔ xK (XC SK MT d 20 [.ref 9, .int x1, .int x2, .int x3] S) (fun v S => XL SK MT d 153 (93, lv, v.toList ++ [], S) r) := X_inv (n := 4) (kd := 2) (st0 := [.int x3, .int x2, .int x1, .ref 9]) rfl (Or.inr ⟨rfl, rfl⟩) rfl (Nat.le_of_ble_eq_true rfl) (Nat.le_of_ble_eq_true rfl) (by decide) rfl
theorem rX5_layOutput_93 {d : Nat} {lv : xLV} {st : List Value} {S : xS} {r : xO} : XL SK MT d 153 (93, lv, st, S) r ↔ xA (xlook lv 0) (fun x => XL SK MT d 153 (94, lv, .ref x :: st, S) r) := X_ldA rfl rfl (fun _ => rfl) rfl rfl rfl rfl
theorem rX5_layOutput_94 {d : Nat} {lv : xLV} {st : List Value} {S : xS} {r : xO} : XL SK MT d 153 (94, lv, .ref 10 :: st, S) r ↔ XL SK MT d 153 (97, lv, .ref 9 :: st, S) r := X_heap rfl rfl rfl rfl rfl
theorem rX5_layOutput_97 {d : Nat} {lv : xLV} {st : List Value} {S : xS} {r : xO} : XL SK MT d 153 (97, lv, st, S) r ↔ XL SK MT d 153 (99, lv, .int 13 :: st, S) r := X_pure rfl rfl rfl
theorem rX5_layOutput_99 {d : Nat} {lv : xLV} {st : List Value} {S : xS} {r : xO} : XL SK MT d 153 (99, lv, st, S) r ↔ XL SK MT d 153 (102, lv, .int 1104 :: st, S) r := X_pure rfl rfl rfl
theorem rX5_layOutput_102 {d : Nat} {lv : xLV} {st : List Value} {S : xS} {r : xO} : XL SK MT d 153 (102, lv, st, S) r ↔ XL SK MT d 153 (103, lv, .int 0 :: st, S) r := X_pure rfl rfl rfl
theorem rX5_layOutput_103 {d : Nat} {lv : xLV} {S : xS} {r : xO} {x1 : Int32} {x2 : Int32} {x3 : Int32} : XL SK MT d 153 (103, lv, [.int x3, .int x2, .int x1, .ref 9], S) r ↔ xK (XC SK MT d 19 [.ref 9, .int x1, .int x2, .int x3] S) (fun v S => XL SK MT d 153 (106, lv, v.toList ++ [], S) r) := X_inv (n := 4) (kd := 2) (st0 := [.int x3, .int x2, .int x1, .ref 9]) rfl (Or.inr ⟨rfl, rfl⟩) rfl (Nat.le_of_ble_eq_true rfl) (Nat.le_of_ble_eq_true rfl) (by decide) rfl
theorem rX5_layOutput_106 {d : Nat} {lv : xLV} {st : List Value} {S : xS} {r : xO} : XL SK MT d 153 (106, lv, st, S) r ↔ xA (xlook lv 0) (fun x => XL SK MT d 153 (107, lv, .ref x :: st, S) r) := X_ldA rfl rfl (fun _ => rfl) rfl rfl rfl rfl
theorem rX5_layOutput_107 {d : Nat} {lv : xLV} {st : List Value} {S : xS} {r : xO} : XL SK MT d 153 (107, lv, .ref 10 :: st, S) r ↔ XL SK MT d 153 (110, lv, .ref 9 :: st, S) r := X_heap rfl rfl rfl rfl rfl
theorem rX5_layOutput_110 {d : Nat} {lv : xLV} {st : List Value} {S : xS} {r : xO} : XL SK MT d 153 (110, lv, st, S) r ↔ XL SK MT d 153 (112, lv, .int 31 :: st, S) r := X_pure rfl rfl rfl
theorem rX5_layOutput_112 {d : Nat} {lv : xLV} {S : xS} {r : xO} {x1 : Int32} : XL SK MT d 153 (112, lv, [.int x1, .ref 9], S) r ↔ xK (XC SK MT d 29 [.ref 9, .int x1] S) (fun v S => XL SK MT d 153 (115, lv, v.toList ++ [], S) r) := X_inv (n := 2) (kd := 2) (st0 := [.int x1, .ref 9]) rfl (Or.inr ⟨rfl, rfl⟩) rfl (Nat.le_of_ble_eq_true rfl) (Nat.le_of_ble_eq_true rfl) (by decide) rfl
theorem rX5_layOutput_115 {d : Nat} {lv : xLV} {st : List Value} {S : xS} {r : xO} : XL SK MT d 153 (115, lv, st, S) r ↔ xA (xlook lv 0) (fun x => XL SK MT d 153 (116, lv, .ref x :: st, S) r) := X_ldA rfl rfl (fun _ => rfl) rfl rfl rfl rfl
theorem rX5_layOutput_116 {d : Nat} {lv : xLV} {st : List Value} {S : xS} {r : xO} : XL SK MT d 153 (116, lv, .ref 10 :: st, S) r ↔ XL SK MT d 153 (119, lv, .ref 9 :: st, S) r := X_heap rfl rfl rfl rfl rfl
theorem rX5_layOutput_119 {d : Nat} {lv : xLV} {S : xS} {r : xO} : XL SK MT d 153 (119, lv, [.ref 9], S) r ↔ xK (XC SK MT d 1 [.ref 9] S) (fun v S => XL SK MT d 153 (122, lv, v.toList ++ [], S) r) := X_inv (n := 1) (kd := 2) (st0 := [.ref 9]) rfl (Or.inr ⟨rfl, rfl⟩) rfl (Nat.le_of_ble_eq_true rfl) (Nat.le_of_ble_eq_true rfl) (by decide) rfl
theorem rX5_layOutput_122 {d : Nat} {lv : xLV} {st : List Value} {S : xS} {r : xO} {x : Int32} : XL SK MT d 153 (122, lv, .int x :: st, S) r ↔ XL SK MT d 153 (123, xst1 lv 2 (.int x), st, S) r := X_pure rfl rfl rfl
theorem rX5_layOutput_123 {d : Nat} {lv : xLV} {st : List Value} {S : xS} {r : xO} : XL SK MT d 153 (123, lv, st, S) r ↔ xA (xlook lv 0) (fun x => XL SK MT d 153 (124, lv, .ref x :: st, S) r) := X_ldA rfl rfl (fun _ => rfl) rfl rfl rfl rfl
theorem rX5_layOutput_124 {d : Nat} {lv : xLV} {st : List Value} {S : xS} {r : xO} : XL SK MT d 153 (124, lv, .ref 10 :: st, S) r ↔ XL SK MT d 153 (127, lv, .ref 9 :: st, S) r := X_heap rfl rfl rfl rfl rfl
theorem rX5_layOutput_127 {d : Nat} {lv : xLV} {st : List Value} {S : xS} {r : xO} : XL SK MT d 153 (127, lv, st, S) r ↔ XL SK MT d 153 (129, lv, .int 65565 :: st, S) r := X_pure rfl rfl rfl
theorem rX5_layOutput_129 {d : Nat} {lv : xLV} {S : xS} {r : xO} {x1 : Int32} : XL SK MT d 153 (129, lv, [.int x1, .ref 9], S) r ↔ xK (XC SK MT d 3 [.ref 9, .int x1] S) (fun v S => XL SK MT d 153 (132, lv, v.toList ++ [], S) r) := X_inv (n := 2) (kd := 2) (st0 := [.int x1, .ref 9]) rfl (Or.inr ⟨rfl, rfl⟩) rfl (Nat.le_of_ble_eq_true rfl) (Nat.le_of_ble_eq_true rfl) (by decide) rfl
theorem rX5_layOutput_132 {d : Nat} {lv : xLV} {st : List Value} {S : xS} {r : xO} : XL SK MT d 153 (132, lv, st, S) r ↔ xA (xlook lv 0) (fun x => XL SK MT d 153 (133, lv, .ref x :: st, S) r) := X_ldA rfl rfl (fun _ => rfl) rfl rfl rfl rfl
theorem rX5_layOutput_133 {d : Nat} {lv : xLV} {st : List Value} {S : xS} {r : xO} : XL SK MT d 153 (133, lv, .ref 10 :: st, S) r ↔ XL SK MT d 153 (136, lv, .ref 9 :: st, S) r := X_heap rfl rfl rfl rfl rfl
theorem rX5_layOutput_136 {d : Nat} {lv : xLV} {st : List Value} {S : xS} {r : xO} : XL SK MT d 153 (136, lv, st, S) r ↔ XL SK MT d 153 (138, lv, .int 8 :: st, S) r := X_pure rfl rfl rfl
theorem rX5_layOutput_138 {d : Nat} {lv : xLV} {st : List Value} {S : xS} {r : xO} : XL SK MT d 153 (138, lv, st, S) r ↔ XL SK MT d 153 (139, lv, .int 0 :: st, S) r := X_pure rfl rfl rfl
theorem rX5_layOutput_139 {d : Nat} {lv : xLV} {st : List Value} {S : xS} {r : xO} : XL SK MT d 153 (139, lv, st, S) r ↔ XL SK MT d 153 (140, lv, .int 5 :: st, S) r := X_pure rfl rfl rfl
theorem rX5_layOutput_140 {d : Nat} {lv : xLV} {S : xS} {r : xO} {x1 : Int32} {x2 : Int32} {x3 : Int32} : XL SK MT d 153 (140, lv, [.int x3, .int x2, .int x1, .ref 9], S) r ↔ xK (XC SK MT d 18 [.ref 9, .int x1, .int x2, .int x3] S) (fun v S => XL SK MT d 153 (143, lv, v.toList ++ [], S) r) := X_inv (n := 4) (kd := 2) (st0 := [.int x3, .int x2, .int x1, .ref 9]) rfl (Or.inr ⟨rfl, rfl⟩) rfl (Nat.le_of_ble_eq_true rfl) (Nat.le_of_ble_eq_true rfl) (by decide) rfl
theorem rX5_layOutput_143 {d : Nat} {lv : xLV} {st : List Value} {S : xS} {r : xO} : XL SK MT d 153 (143, lv, st, S) r ↔ xA (xlook lv 0) (fun x => XL SK MT d 153 (144, lv, .ref x :: st, S) r) := X_ldA rfl rfl (fun _ => rfl) rfl rfl rfl rfl
theorem rX5_layOutput_144 {d : Nat} {lv : xLV} {st : List Value} {S : xS} {r : xO} : XL SK MT d 153 (144, lv, .ref 10 :: st, S) r ↔ XL SK MT d 153 (147, lv, .ref 9 :: st, S) r := X_heap rfl rfl rfl rfl rfl
theorem rX5_layOutput_147 {d : Nat} {lv : xLV} {st : List Value} {S : xS} {r : xO} : XL SK MT d 153 (147, lv, st, S) r ↔ XL SK MT d 153 (149, lv, .int 9 :: st, S) r := X_pure rfl rfl rfl
theorem rX5_layOutput_149 {d : Nat} {lv : xLV} {st : List Value} {S : xS} {r : xO} : XL SK MT d 153 (149, lv, st, S) r ↔ XL SK MT d 153 (150, lv, .int 5 :: st, S) r := X_pure rfl rfl rfl
theorem rX5_layOutput_150 {d : Nat} {lv : xLV} {st : List Value} {S : xS} {r : xO} : XL SK MT d 153 (150, lv, st, S) r ↔ XL SK MT d 153 (151, lv, .int 4 :: st, S) r := X_pure rfl rfl rfl
theorem rX5_layOutput_151 {d : Nat} {lv : xLV} {S : xS} {r : xO} {x1 : Int32} {x2 : Int32} {x3 : Int32} : XL SK MT d 153 (151, lv, [.int x3, .int x2, .int x1, .ref 9], S) r ↔ xK (XC SK MT d 20 [.ref 9, .int x1, .int x2, .int x3] S) (fun v S => XL SK MT d 153 (154, lv, v.toList ++ [], S) r) := X_inv (n := 4) (kd := 2) (st0 := [.int x3, .int x2, .int x1, .ref 9]) rfl (Or.inr ⟨rfl, rfl⟩) rfl (Nat.le_of_ble_eq_true rfl) (Nat.le_of_ble_eq_true rfl) (by decide) rfl
theorem rX5_layOutput_154 {d : Nat} {lv : xLV} {st : List Value} {S : xS} {r : xO} : XL SK MT d 153 (154, lv, st, S) r ↔ xA (xlook lv 0) (fun x => XL SK MT d 153 (155, lv, .ref x :: st, S) r) := X_ldA rfl rfl (fun _ => rfl) rfl rfl rfl rfl
theorem rX5_layOutput_155 {d : Nat} {lv : xLV} {st : List Value} {S : xS} {r : xO} : XL SK MT d 153 (155, lv, .ref 10 :: st, S) r ↔ XL SK MT d 153 (158, lv, .ref 9 :: st, S) r := X_heap rfl rfl rfl rfl rfl
theorem rX5_layOutput_158 {d : Nat} {lv : xLV} {st : List Value} {S : xS} {r : xO} : XL SK MT d 153 (158, lv, st, S) r ↔ XL SK MT d 153 (159, lv, .int 2 :: st, S) r := X_pure rfl rfl rfl
theorem rX5_layOutput_159 {d : Nat} {lv : xLV} {st : List Value} {S : xS} {r : xO} : XL SK MT d 153 (159, lv, st, S) r ↔ XL SK MT d 153 (161, lv, .int 8 :: st, S) r := X_pure rfl rfl rfl
theorem rX5_layOutput_161 {d : Nat} {lv : xLV} {st : List Value} {S : xS} {r : xO} : XL SK MT d 153 (161, lv, st, S) r ↔ XL SK MT d 153 (163, lv, .int 8 :: st, S) r := X_pure rfl rfl rfl
theorem rX5_layOutput_163 {d : Nat} {lv : xLV} {st : List Value} {S : xS} {r : xO} : XL SK MT d 153 (163, lv, st, S) r ↔ XL SK MT d 153 (164, lv, .int 3 :: st, S) r := X_pure rfl rfl rfl
theorem rX5_layOutput_164 {d : Nat} {lv : xLV} {S : xS} {r : xO} {x1 : Int32} {x2 : Int32} {x3 : Int32} {x4 : Int32} : XL SK MT d 153 (164, lv, [.int x4, .int x3, .int x2, .int x1, .ref 9], S) r ↔ xK (XC SK MT d 16 [.ref 9, .int x1, .int x2, .int x3, .int x4] S) (fun v S => XL SK MT d 153 (167, lv, v.toList ++ [], S) r) := X_inv (n := 5) (kd := 2) (st0 := [.int x4, .int x3, .int x2, .int x1, .ref 9]) rfl (Or.inr ⟨rfl, rfl⟩) rfl (Nat.le_of_ble_eq_true rfl) (Nat.le_of_ble_eq_true rfl) (by decide) rfl
theorem rX5_layOutput_167 {d : Nat} {lv : xLV} {st : List Value} {S : xS} {r : xO} : XL SK MT d 153 (167, lv, st, S) r ↔ xA (xlook lv 0) (fun x => XL SK MT d 153 (168, lv, .ref x :: st, S) r) := X_ldA rfl rfl (fun _ => rfl) rfl rfl rfl rfl
theorem rX5_layOutput_168 {d : Nat} {lv : xLV} {st : List Value} {S : xS} {r : xO} : XL SK MT d 153 (168, lv, .ref 10 :: st, S) r ↔ XL SK MT d 153 (171, lv, .ref 9 :: st, S) r := X_heap rfl rfl rfl rfl rfl
theorem rX5_layOutput_171 {d : Nat} {lv : xLV} {st : List Value} {S : xS} {r : xO} : XL SK MT d 153 (171, lv, st, S) r ↔ XL SK MT d 153 (173, lv, .int 33 :: st, S) r := X_pure rfl rfl rfl
theorem rX5_layOutput_173 {d : Nat} {lv : xLV} {st : List Value} {S : xS} {r : xO} : XL SK MT d 153 (173, lv, st, S) r ↔ XL SK MT d 153 (175, lv, .int 10 :: st, S) r := X_pure rfl rfl rfl
theorem rX5_layOutput_175 {d : Nat} {lv : xLV} {st : List Value} {S : xS} {r : xO} : XL SK MT d 153 (175, lv, st, S) r ↔ XL SK MT d 153 (177, lv, .int 9 :: st, S) r := X_pure rfl rfl rfl
theorem rX5_layOutput_177 {d : Nat} {lv : xLV} {st : List Value} {S : xS} {r : xO} : XL SK MT d 153 (177, lv, st, S) r ↔ XL SK MT d 153 (179, lv, .int 8 :: st, S) r := X_pure rfl rfl rfl
theorem rX5_layOutput_179 {d : Nat} {lv : xLV} {S : xS} {r : xO} {x1 : Int32} {x2 : Int32} {x3 : Int32} {x4 : Int32} : XL SK MT d 153 (179, lv, [.int x4, .int x3, .int x2, .int x1, .ref 9], S) r ↔ xK (XC SK MT d 15 [.ref 9, .int x1, .int x2, .int x3, .int x4] S) (fun v S => XL SK MT d 153 (182, lv, v.toList ++ [], S) r) := X_inv (n := 5) (kd := 2) (st0 := [.int x4, .int x3, .int x2, .int x1, .ref 9]) rfl (Or.inr ⟨rfl, rfl⟩) rfl (Nat.le_of_ble_eq_true rfl) (Nat.le_of_ble_eq_true rfl) (by decide) rfl
theorem rX5_layOutput_182 {d : Nat} {lv : xLV} {st : List Value} {S : xS} {r : xO} : XL SK MT d 153 (182, lv, st, S) r ↔ xA (xlook lv 0) (fun x => XL SK MT d 153 (183, lv, .ref x :: st, S) r) := X_ldA rfl rfl (fun _ => rfl) rfl rfl rfl rfl
theorem rX5_layOutput_183 {d : Nat} {lv : xLV} {st : List Value} {S : xS} {r : xO} : XL SK MT d 153 (183, lv, .ref 10 :: st, S) r ↔ XL SK MT d 153 (186, lv, .ref 9 :: st, S) r := X_heap rfl rfl rfl rfl rfl
theorem rX5_layOutput_186 {d : Nat} {lv : xLV} {S : xS} {r : xO} : XL SK MT d 153 (186, lv, [.ref 9], S) r ↔ xK (XC SK MT d 2 [.ref 9] S) (fun v S => XL SK MT d 153 (189, lv, v.toList ++ [], S) r) := X_inv (n := 1) (kd := 2) (st0 := [.ref 9]) rfl (Or.inr ⟨rfl, rfl⟩) rfl (Nat.le_of_ble_eq_true rfl) (Nat.le_of_ble_eq_true rfl) (by decide) rfl
theorem rX5_layOutput_189 {d : Nat} {lv : xLV} {st : List Value} {S : xS} {r : xO} {x : Int32} : XL SK MT d 153 (189, lv, .int x :: st, S) r ↔ XL SK MT d 153 (190, xst1 lv 3 (.int x), st, S) r := X_pure rfl rfl rfl
theorem rX5_layOutput_190 {d : Nat} {lv : xLV} {st : List Value} {S : xS} {r : xO} : XL SK MT d 153 (190, lv, st, S) r ↔ xA (xlook lv 0) (fun x => XL SK MT d 153 (191, lv, .ref x :: st, S) r) := X_ldA rfl rfl (fun _ => rfl) rfl rfl rfl rfl
theorem rX5_layOutput_191 {d : Nat} {lv : xLV} {st : List Value} {S : xS} {r : xO} : XL SK MT d 153 (191, lv, .ref 10 :: st, S) r ↔ XL SK MT d 153 (194, lv, .ref 9 :: st, S) r := X_heap rfl rfl rfl rfl rfl
theorem rX5_layOutput_194 {d : Nat} {lv : xLV} {st : List Value} {S : xS} {r : xO} : XL SK MT d 153 (194, lv, st, S) r ↔ XL SK MT d 153 (195, lv, .int 4 :: st, S) r := X_pure rfl rfl rfl
theorem rX5_layOutput_195 {d : Nat} {lv : xLV} {st : List Value} {S : xS} {r : xO} : XL SK MT d 153 (195, lv, st, S) r ↔ XL SK MT d 153 (197, lv, .int 9 :: st, S) r := X_pure rfl rfl rfl
theorem rX5_layOutput_197 {d : Nat} {lv : xLV} {st : List Value} {S : xS} {r : xO} : XL SK MT d 153 (197, lv, st, S) r ↔ XL SK MT d 153 (199, lv, .int 10 :: st, S) r := X_pure rfl rfl rfl
theorem rX5_layOutput_199 {d : Nat} {lv : xLV} {st : List Value} {S : xS} {r : xO} : XL SK MT d 153 (199, lv, st, S) r ↔ xI (xlook lv 2) (fun x => XL SK MT d 153 (200, lv, .int x :: st, S) r) := X_ldI rfl rfl (fun _ => rfl) rfl rfl rfl rfl
theorem rX5_layOutput_200 {d : Nat} {lv : xLV} {S : xS} {r : xO} {x1 : Int32} {x2 : Int32} {x3 : Int32} {x4 : Int32} : XL SK MT d 153 (200, lv, [.int x4, .int x3, .int x2, .int x1, .ref 9], S) r ↔ xK (XC SK MT d 24 [.ref 9, .int x1, .int x2, .int x3, .int x4] S) (fun v S => XL SK MT d 153 (203, lv, v.toList ++ [], S) r) := X_inv (n := 5) (kd := 2) (st0 := [.int x4, .int x3, .int x2, .int x1, .ref 9]) rfl (Or.inr ⟨rfl, rfl⟩) rfl (Nat.le_of_ble_eq_true rfl) (Nat.le_of_ble_eq_true rfl) (by decide) rfl
theorem rX5_layOutput_203 {d : Nat} {lv : xLV} {st : List Value} {S : xS} {r : xO} : XL SK MT d 153 (203, lv, st, S) r ↔ xA (xlook lv 0) (fun x => XL SK MT d 153 (204, lv, .ref x :: st, S) r) := X_ldA rfl rfl (fun _ => rfl) rfl rfl rfl rfl
theorem rX5_layOutput_204 {d : Nat} {lv : xLV} {st : List Value} {S : xS} {r : xO} : XL SK MT d 153 (204, lv, .ref 10 :: st, S) r ↔ XL SK MT d 153 (207, lv, .ref 9 :: st, S) r := X_heap rfl rfl rfl rfl rfl
theorem rX5_layOutput_207 {d : Nat} {lv : xLV} {st : List Value} {S : xS} {r : xO} : XL SK MT d 153 (207, lv, st, S) r ↔ XL SK MT d 153 (209, lv, .int 36 :: st, S) r := X_pure rfl rfl rfl
theorem rX5_layOutput_209 {d : Nat} {lv : xLV} {st : List Value} {S : xS} {r : xO} : XL SK MT d 153 (209, lv, st, S) r ↔ XL SK MT d 153 (210, lv, .int 4 :: st, S) r := X_pure rfl rfl rfl
theorem rX5_layOutput_210 {d : Nat} {lv : xLV} {st : List Value} {S : xS} {r : xO} : XL SK MT d 153 (210, lv, st, S) r ↔ XL SK MT d 153 (212, lv, .int 9 :: st, S) r := X_pure rfl rfl rfl
theorem rX5_layOutput_212 {d : Nat} {lv : xLV} {st : List Value} {S : xS} {r : xO} : XL SK MT d 153 (212, lv, st, S) r ↔ XL SK MT d 153 (213, lv, .int 0 :: st, S) r := X_pure rfl rfl rfl
theorem rX5_layOutput_213 {d : Nat} {lv : xLV} {S : xS} {r : xO} {x1 : Int32} {x2 : Int32} {x3 : Int32} {x4 : Int32} : XL SK MT d 153 (213, lv, [.int x4, .int x3, .int x2, .int x1, .ref 9], S) r ↔ xK (XC SK MT d 17 [.ref 9, .int x1, .int x2, .int x3, .int x4] S) (fun v S => XL SK MT d 153 (216, lv, v.toList ++ [], S) r) := X_inv (n := 5) (kd := 2) (st0 := [.int x4, .int x3, .int x2, .int x1, .ref 9]) rfl (Or.inr ⟨rfl, rfl⟩) rfl (Nat.le_of_ble_eq_true rfl) (Nat.le_of_ble_eq_true rfl) (by decide) rfl
theorem rX5_layOutput_216 {d : Nat} {lv : xLV} {st : List Value} {S : xS} {r : xO} : XL SK MT d 153 (216, lv, st, S) r ↔ xA (xlook lv 0) (fun x => XL SK MT d 153 (217, lv, .ref x :: st, S) r) := X_ldA rfl rfl (fun _ => rfl) rfl rfl rfl rfl
theorem rX5_layOutput_217 {d : Nat} {lv : xLV} {st : List Value} {S : xS} {r : xO} : XL SK MT d 153 (217, lv, .ref 10 :: st, S) r ↔ XL SK MT d 153 (220, lv, .ref 9 :: st, S) r := X_heap rfl rfl rfl rfl rfl
theorem rX5_layOutput_220 {d : Nat} {lv : xLV} {st : List Value} {S : xS} {r : xO} : XL SK MT d 153 (220, lv, st, S) r ↔ XL SK MT d 153 (222, lv, .int 65559 :: st, S) r := X_pure rfl rfl rfl
theorem rX5_layOutput_222 {d : Nat} {lv : xLV} {S : xS} {r : xO} {x1 : Int32} : XL SK MT d 153 (222, lv, [.int x1, .ref 9], S) r ↔ xK (XC SK MT d 28 [.ref 9, .int x1] S) (fun v S => XL SK MT d 153 (225, lv, v.toList ++ [], S) r) := X_inv (n := 2) (kd := 2) (st0 := [.int x1, .ref 9]) rfl (Or.inr ⟨rfl, rfl⟩) rfl (Nat.le_of_ble_eq_true rfl) (Nat.le_of_ble_eq_true rfl) (by decide) rfl
theorem rX5_layOutput_225 {d : Nat} {lv : xLV} {st : List Value} {S : xS} {r : xO} : XL SK MT d 153 (225, lv, st, S) r ↔ xA (xlook lv 0) (fun x => XL SK MT d 153 (226, lv, .ref x :: st, S) r) := X_ldA rfl rfl (fun _ => rfl) rfl rfl rfl rfl
theorem rX5_layOutput_226 {d : Nat} {lv : xLV} {st : List Value} {S : xS} {r : xO} : XL SK MT d 153 (226, lv, .ref 10 :: st, S) r ↔ XL SK MT d 153 (229, lv, .ref 9 :: st, S) r := X_heap rfl rfl rfl rfl rfl
theorem rX5_layOutput_229 {d : Nat} {lv : xLV} {st : List Value} {S : xS} {r : xO} : XL SK MT d 153 (229, lv, st, S) r ↔ XL SK MT d 153 (231, lv, .int 9 :: st, S) r := X_pure rfl rfl rfl
theorem rX5_layOutput_231 {d : Nat} {lv : xLV} {st : List Value} {S : xS} {r : xO} : XL SK MT d 153 (231, lv, st, S) r ↔ XL SK MT d 153 (233, lv, .int 9 :: st, S) r := X_pure rfl rfl rfl
theorem rX5_layOutput_233 {d : Nat} {lv : xLV} {st : List Value} {S : xS} {r : xO} : XL SK MT d 153 (233, lv, st, S) r ↔ XL SK MT d 153 (234, lv, .int 1 :: st, S) r := X_pure rfl rfl rfl
theorem rX5_layOutput_234 {d : Nat} {lv : xLV} {S : xS} {r : xO} {x1 : Int32} {x2 : Int32} {x3 : Int32} : XL SK MT d 153 (234, lv, [.int x3, .int x2, .int x1, .ref 9], S) r ↔ xK (XC SK MT d 20 [.ref 9, .int x1, .int x2, .int x3] S) (fun v S => XL SK MT d 153 (237, lv, v.toList ++ [], S) r) := X_inv (n := 4) (kd := 2) (st0 := [.int x3, .int x2, .int x1, .ref 9]) rfl (Or.inr ⟨rfl, rfl⟩) rfl (Nat.le_of_ble_eq_true rfl) (Nat.le_of_ble_eq_true rfl) (by decide) rfl
theorem rX5_layOutput_237 {d : Nat} {lv : xLV} {st : List Value} {S : xS} {r : xO} : XL SK MT d 153 (237, lv, st, S) r ↔ xA (xlook lv 0) (fun x => XL SK MT d 153 (238, lv, .ref x :: st, S) r) := X_ldA rfl rfl (fun _ => rfl) rfl rfl rfl rfl
theorem rX5_layOutput_238 {d : Nat} {lv : xLV} {st : List Value} {S : xS} {r : xO} : XL SK MT d 153 (238, lv, .ref 10 :: st, S) r ↔ XL SK MT d 153 (241, lv, .ref 9 :: st, S) r := X_heap rfl rfl rfl rfl rfl
theorem rX5_layOutput_241 {d : Nat} {lv : xLV} {st : List Value} {S : xS} {r : xO} : XL SK MT d 153 (241, lv, st, S) r ↔ xI (xlook lv 3) (fun x => XL SK MT d 153 (242, lv, .int x :: st, S) r) := X_ldI rfl rfl (fun _ => rfl) rfl rfl rfl rfl
theorem rX5_layOutput_242 {d : Nat} {lv : xLV} {S : xS} {r : xO} {x1 : Int32} : XL SK MT d 153 (242, lv, [.int x1, .ref 9], S) r ↔ xK (XC SK MT d 27 [.ref 9, .int x1] S) (fun v S => XL SK MT d 153 (245, lv, v.toList ++ [], S) r) := X_inv (n := 2) (kd := 2) (st0 := [.int x1, .ref 9]) rfl (Or.inr ⟨rfl, rfl⟩) rfl (Nat.le_of_ble_eq_true rfl) (Nat.le_of_ble_eq_true rfl) (by decide) rfl
theorem rX5_layOutput_245 {d : Nat} {lv : xLV} {st : List Value} {S : xS} {r : xO} : XL SK MT d 153 (245, lv, st, S) r ↔ xA (xlook lv 0) (fun x => XL SK MT d 153 (246, lv, .ref x :: st, S) r) := X_ldA rfl rfl (fun _ => rfl) rfl rfl rfl rfl
theorem rX5_layOutput_246 {d : Nat} {lv : xLV} {st : List Value} {S : xS} {r : xO} : XL SK MT d 153 (246, lv, .ref 10 :: st, S) r ↔ XL SK MT d 153 (249, lv, .ref 9 :: st, S) r := X_heap rfl rfl rfl rfl rfl
theorem rX5_layOutput_249 {d : Nat} {lv : xLV} {st : List Value} {S : xS} {r : xO} : XL SK MT d 153 (249, lv, st, S) r ↔ XL SK MT d 153 (251, lv, .int 65566 :: st, S) r := X_pure rfl rfl rfl
theorem rX5_layOutput_251 {d : Nat} {lv : xLV} {S : xS} {r : xO} {x1 : Int32} : XL SK MT d 153 (251, lv, [.int x1, .ref 9], S) r ↔ xK (XC SK MT d 3 [.ref 9, .int x1] S) (fun v S => XL SK MT d 153 (254, lv, v.toList ++ [], S) r) := X_inv (n := 2) (kd := 2) (st0 := [.int x1, .ref 9]) rfl (Or.inr ⟨rfl, rfl⟩) rfl (Nat.le_of_ble_eq_true rfl) (Nat.le_of_ble_eq_true rfl) (by decide) rfl
theorem rX5_layOutput_254 {d : Nat} {lv : xLV} {st : List Value} {S : xS} {r : xO} : XL SK MT d 153 (254, lv, st, S) r ↔ xA (xlook lv 0) (fun x => XL SK MT d 153 (255, lv, .ref x :: st, S) r) := X_ldA rfl rfl (fun _ => rfl) rfl rfl rfl rfl
theorem rX5_layOutput_255 {d : Nat} {lv : xLV} {st : List Value} {S : xS} {r : xO} : XL SK MT d 153 (255, lv, .ref 10 :: st, S) r ↔ XL SK MT d 153 (258, lv, .ref 9 :: st, S) r := X_heap rfl rfl rfl rfl rfl
theorem rX5_layOutput_258 {d : Nat} {lv : xLV} {st : List Value} {S : xS} {r : xO} : XL SK MT d 153 (258, lv, st, S) r ↔ XL SK MT d 153 (260, lv, .int 65548 :: st, S) r := X_pure rfl rfl rfl
theorem rX5_layOutput_260 {d : Nat} {lv : xLV} {S : xS} {r : xO} {x1 : Int32} : XL SK MT d 153 (260, lv, [.int x1, .ref 9], S) r ↔ xK (XC SK MT d 28 [.ref 9, .int x1] S) (fun v S => XL SK MT d 153 (263, lv, v.toList ++ [], S) r) := X_inv (n := 2) (kd := 2) (st0 := [.int x1, .ref 9]) rfl (Or.inr ⟨rfl, rfl⟩) rfl (Nat.le_of_ble_eq_true rfl) (Nat.le_of_ble_eq_true rfl) (by decide) rfl
theorem rX5_layOutput_263 {d : Nat} {lv : xLV} {st : List Value} {S : xS} {r : xO} : XL SK MT d 153 (263, lv, st, S) r ↔ xA (xlook lv 0) (fun x => XL SK MT d 153 (264, lv, .ref x :: st, S) r) := X_ldA rfl rfl (fun _ => rfl) rfl rfl rfl rfl
theorem rX5_layOutput_264 {d : Nat} {lv : xLV} {st : List Value} {S : xS} {r : xO} : XL SK MT d 153 (264, lv, .ref 10 :: st, S) r ↔ XL SK MT d 153 (267, lv, .ref 9 :: st, S) r := X_heap rfl rfl rfl rfl rfl
theorem rX5_layOutput_267 {d : Nat} {lv : xLV} {st : List Value} {S : xS} {r : xO} : XL SK MT d 153 (267, lv, st, S) r ↔ XL SK MT d 153 (269, lv, .int 13 :: st, S) r := X_pure rfl rfl rfl
theorem rX5_layOutput_269 {d : Nat} {lv : xLV} {st : List Value} {S : xS} {r : xO} : XL SK MT d 153 (269, lv, st, S) r ↔ XL SK MT d 153 (271, lv, .int 10 :: st, S) r := X_pure rfl rfl rfl
theorem rX5_layOutput_271 {d : Nat} {lv : xLV} {S : xS} {r : xO} {x1 : Int32} {x2 : Int32} : XL SK MT d 153 (271, lv, [.int x2, .int x1, .ref 9], S) r ↔ xK (XC SK MT d 22 [.ref 9, .int x1, .int x2] S) (fun v S => XL SK MT d 153 (274, lv, v.toList ++ [], S) r) := X_inv (n := 3) (kd := 2) (st0 := [.int x2, .int x1, .ref 9]) rfl (Or.inr ⟨rfl, rfl⟩) rfl (Nat.le_of_ble_eq_true rfl) (Nat.le_of_ble_eq_true rfl) (by decide) rfl
theorem rX5_layOutput_274 {d : Nat} {lv : xLV} {st : List Value} {S : xS} {r : xO} : XL SK MT d 153 (274, lv, st, S) r ↔ xA (xlook lv 0) (fun x => XL SK MT d 153 (275, lv, .ref x :: st, S) r) := X_ldA rfl rfl (fun _ => rfl) rfl rfl rfl rfl
theorem rX5_layOutput_275 {d : Nat} {lv : xLV} {st : List Value} {S : xS} {r : xO} : XL SK MT d 153 (275, lv, .ref 10 :: st, S) r ↔ XL SK MT d 153 (278, lv, .ref 9 :: st, S) r := X_heap rfl rfl rfl rfl rfl
theorem rX5_layOutput_278 {d : Nat} {lv : xLV} {st : List Value} {S : xS} {r : xO} : XL SK MT d 153 (278, lv, st, S) r ↔ XL SK MT d 153 (280, lv, .int 40 :: st, S) r := X_pure rfl rfl rfl
theorem rX5_layOutput_280 {d : Nat} {lv : xLV} {st : List Value} {S : xS} {r : xO} : XL SK MT d 153 (280, lv, st, S) r ↔ XL SK MT d 153 (282, lv, .int 13 :: st, S) r := X_pure rfl rfl rfl
theorem rX5_layOutput_282 {d : Nat} {lv : xLV} {st : List Value} {S : xS} {r : xO} : XL SK MT d 153 (282, lv, st, S) r ↔ XL SK MT d 153 (284, lv, .int 10 :: st, S) r := X_pure rfl rfl rfl
theorem rX5_layOutput_284 {d : Nat} {lv : xLV} {st : List Value} {S : xS} {r : xO} : XL SK MT d 153 (284, lv, st, S) r ↔ XL SK MT d 153 (285, lv, .int 0 :: st, S) r := X_pure rfl rfl rfl
theorem rX5_layOutput_285 {d : Nat} {lv : xLV} {S : xS} {r : xO} {x1 : Int32} {x2 : Int32} {x3 : Int32} {x4 : Int32} : XL SK MT d 153 (285, lv, [.int x4, .int x3, .int x2, .int x1, .ref 9], S) r ↔ xK (XC SK MT d 17 [.ref 9, .int x1, .int x2, .int x3, .int x4] S) (fun v S => XL SK MT d 153 (288, lv, v.toList ++ [], S) r) := X_inv (n := 5) (kd := 2) (st0 := [.int x4, .int x3, .int x2, .int x1, .ref 9]) rfl (Or.inr ⟨rfl, rfl⟩) rfl (Nat.le_of_ble_eq_true rfl) (Nat.le_of_ble_eq_true rfl) (by decide) rfl
theorem rX5_layOutput_288 {d : Nat} {lv : xLV} {st : List Value} {S : xS} {r : xO} : XL SK MT d 153 (288, lv, st, S) r ↔ xA (xlook lv 0) (fun x => XL SK MT d 153 (289, lv, .ref x :: st, S) r) := X_ldA rfl rfl (fun _ => rfl) rfl rfl rfl rfl
theorem rX5_layOutput_289 {d : Nat} {lv : xLV} {st : List Value} {S : xS} {r : xO} : XL SK MT d 153 (289, lv, .ref 10 :: st, S) r ↔ XL SK MT d 153 (292, lv, .ref 9 :: st, S) r := X_heap rfl rfl rfl rfl rfl
theorem rX5_layOutput_292 {d : Nat} {lv : xLV} {st : List Value} {S : xS} {r : xO} : XL SK MT d 153 (292, lv, st, S) r ↔ XL SK MT d 153 (294, lv, .int 10 :: st, S) r := X_pure rfl rfl rfl
theorem rX5_layOutput_294 {d : Nat} {lv : xLV} {st : List Value} {S : xS} {r : xO} : XL SK MT d 153 (294, lv, st, S) r ↔ XL SK MT d 153 (296, lv, .int 10 :: st, S) r := X_pure rfl rfl rfl
theorem rX5_layOutput_296 {d : Nat} {lv : xLV} {st : List Value} {S : xS} {r : xO} : XL SK MT d 153 (296, lv, st, S) r ↔ XL SK MT d 153 (297, lv, .int 1 :: st, S) r := X_pure rfl rfl rfl
theorem rX5_layOutput_297 {d : Nat} {lv : xLV} {S : xS} {r : xO} {x1 : Int32} {x2 : Int32} {x3 : Int32} : XL SK MT d 153 (297, lv, [.int x3, .int x2, .int x1, .ref 9], S) r ↔ xK (XC SK MT d 20 [.ref 9, .int x1, .int x2, .int x3] S) (fun v S => XL SK MT d 153 (300, lv, v.toList ++ [], S) r) := X_inv (n := 4) (kd := 2) (st0 := [.int x3, .int x2, .int x1, .ref 9]) rfl (Or.inr ⟨rfl, rfl⟩) rfl (Nat.le_of_ble_eq_true rfl) (Nat.le_of_ble_eq_true rfl) (by decide) rfl
theorem rX5_layOutput_300 {d : Nat} {lv : xLV} {st : List Value} {S : xS} {r : xO} : XL SK MT d 153 (300, lv, st, S) r ↔ xA (xlook lv 0) (fun x => XL SK MT d 153 (301, lv, .ref x :: st, S) r) := X_ldA rfl rfl (fun _ => rfl) rfl rfl rfl rfl
theorem rX5_layOutput_301 {d : Nat} {lv : xLV} {st : List Value} {S : xS} {r : xO} : XL SK MT d 153 (301, lv, .ref 10 :: st, S) r ↔ XL SK MT d 153 (304, lv, .ref 9 :: st, S) r := X_heap rfl rfl rfl rfl rfl
theorem rX5_layOutput_304 {d : Nat} {lv : xLV} {st : List Value} {S : xS} {r : xO} : XL SK MT d 153 (304, lv, st, S) r ↔ xI (xlook lv 3) (fun x => XL SK MT d 153 (305, lv, .int x :: st, S) r) := X_ldI rfl rfl (fun _ => rfl) rfl rfl rfl rfl
theorem rX5_layOutput_305 {d : Nat} {lv : xLV} {S : xS} {r : xO} {x1 : Int32} : XL SK MT d 153 (305, lv, [.int x1, .ref 9], S) r ↔ xK (XC SK MT d 27 [.ref 9, .int x1] S) (fun v S => XL SK MT d 153 (308, lv, v.toList ++ [], S) r) := X_inv (n := 2) (kd := 2) (st0 := [.int x1, .ref 9]) rfl (Or.inr ⟨rfl, rfl⟩) rfl (Nat.le_of_ble_eq_true rfl) (Nat.le_of_ble_eq_true rfl) (by decide) rfl
theorem rX5_layOutput_308 {d : Nat} {lv : xLV} {st : List Value} {S : xS} {r : xO} : XL SK MT d 153 (308, lv, st, S) r ↔ xA (xlook lv 0) (fun x => XL SK MT d 153 (309, lv, .ref x :: st, S) r) := X_ldA rfl rfl (fun _ => rfl) rfl rfl rfl rfl
theorem rX5_layOutput_309 {d : Nat} {lv : xLV} {st : List Value} {S : xS} {r : xO} : XL SK MT d 153 (309, lv, .ref 10 :: st, S) r ↔ XL SK MT d 153 (312, lv, .ref 9 :: st, S) r := X_heap rfl rfl rfl rfl rfl
theorem rX5_layOutput_312 {d : Nat} {lv : xLV} {st : List Value} {S : xS} {r : xO} : XL SK MT d 153 (312, lv, st, S) r ↔ xI (xlook lv 2) (fun x => XL SK MT d 153 (313, lv, .int x :: st, S) r) := X_ldI rfl rfl (fun _ => rfl) rfl rfl rfl rfl
theorem rX5_layOutput_313 {d : Nat} {lv : xLV} {S : xS} {r : xO} {x1 : Int32} : XL SK MT d 153 (313, lv, [.int x1, .ref 9], S) r ↔ xK (XC SK MT d 3 [.ref 9, .int x1] S) (fun v S => XL SK MT d 153 (316, lv, v.toList ++ [], S) r) := X_inv (n := 2) (kd := 2) (st0 := [.int x1, .ref 9]) rfl (Or.inr ⟨rfl, rfl⟩) rfl (Nat.le_of_ble_eq_true rfl) (Nat.le_of_ble_eq_true rfl) (by decide) rfl
theorem rX5_layOutput_316 {d : Nat} {lv : xLV} {st : List Value} {S : xS} {r : xO} : XL SK MT d 153 (316, lv, st, S) r ↔ xA (xlook lv 0) (fun x => XL SK MT d 153 (317, lv, .ref x :: st, S) r) := X_ldA rfl rfl (fun _ => rfl) rfl rfl rfl rfl
theorem rX5_layOutput_317 {d : Nat} {lv : xLV} {st : List Value} {S : xS} {r : xO} : XL SK MT d 153 (317, lv, .ref 10 :: st, S) r ↔ XL SK MT d 153 (320, lv, .ref 9 :: st, S) r := X_heap rfl rfl rfl rfl rfl
theorem rX5_layOutput_320 {d : Nat} {lv : xLV} {st : List Value} {S : xS} {r : xO} : XL SK MT d 153 (320, lv, st, S) r ↔ XL SK MT d 153 (321, lv, .int 4 :: st, S) r := X_pure rfl rfl rfl
theorem rX5_layOutput_321 {d : Nat} {lv : xLV} {st : List Value} {S : xS} {r : xO} : XL SK MT d 153 (321, lv, st, S) r ↔ XL SK MT d 153 (324, lv, .int 12290 :: st, S) r := X_pure rfl rfl rfl
theorem rX5_layOutput_324 {d : Nat} {lv : xLV} {S : xS} {r : xO} {x1 : Int32} {x2 : Int32} : XL SK MT d 153 (324, lv, [.int x2, .int x1, .ref 9], S) r ↔ xK (XC SK MT d 22 [.ref 9, .int x1, .int x2] S) (fun v S => XL SK MT d 153 (327, lv, v.toList ++ [], S) r) := X_inv (n := 3) (kd := 2) (st0 := [.int x2, .int x1, .ref 9]) rfl (Or.inr ⟨rfl, rfl⟩) rfl (Nat.le_of_ble_eq_true rfl) (Nat.le_of_ble_eq_true rfl) (by decide) rfl
theorem rX5_layOutput_327 {d : Nat} {lv : xLV} {st : List Value} {S : xS} {r : xO} : XL SK MT d 153 (327, lv, st, S) r ↔ xA (xlook lv 0) (fun x => XL SK MT d 153 (328, lv, .ref x :: st, S) r) := X_ldA rfl rfl (fun _ => rfl) rfl rfl rfl rfl
theorem rX5_layOutput_328 {d : Nat} {lv : xLV} {st : List Value} {S : xS} {r : xO} : XL SK MT d 153 (328, lv, .ref 10 :: st, S) r ↔ XL SK MT d 153 (331, lv, .ref 9 :: st, S) r := X_heap rfl rfl rfl rfl rfl
theorem rX5_layOutput_331 {d : Nat} {lv : xLV} {st : List Value} {S : xS} {r : xO} : XL SK MT d 153 (331, lv, st, S) r ↔ XL SK MT d 153 (333, lv, .int 65557 :: st, S) r := X_pure rfl rfl rfl
theorem rX5_layOutput_333 {d : Nat} {lv : xLV} {S : xS} {r : xO} {x1 : Int32} : XL SK MT d 153 (333, lv, [.int x1, .ref 9], S) r ↔ xK (XC SK MT d 27 [.ref 9, .int x1] S) (fun v S => XL SK MT d 153 (336, lv, v.toList ++ [], S) r) := X_inv (n := 2) (kd := 2) (st0 := [.int x1, .ref 9]) rfl (Or.inr ⟨rfl, rfl⟩) rfl (Nat.le_of_ble_eq_true rfl) (Nat.le_of_ble_eq_true rfl) (by decide) rfl
theorem rX5_layOutput_336 {d : Nat} {lv : xLV} {S : xS} {r : xO} : XL SK MT d 153 (336, lv, [], S) r ↔ (none, S) = r := X_ret rfl rfl rfl rfl rfl rfl

theorem rX5_layPartial_0 {d : Nat} {lv : xLV} {st : List Value} {S : xS} {r : xO} : XL SK MT d 154 (0, lv, st, S) r ↔ xA (xlook lv 0) (fun x => XL SK MT d 154 (1, lv, .ref x :: st, S) r) := X_ldA rfl rfl (fun _ => rfl) rfl rfl rfl rfl
theorem rX5_layPartial_1 {d : Nat} {lv : xLV} {st : List Value} {S : xS} {r : xO} : XL SK MT d 154 (1, lv, .ref 10 :: st, S) r ↔ XL SK MT d 154 (4, lv, .ref 9 :: st, S) r := X_heap rfl rfl rfl rfl rfl
theorem rX5_layPartial_4 {d : Nat} {lv : xLV} {S : xS} {r : xO} : XL SK MT d 154 (4, lv, [.ref 9], S) r ↔ xK (XC SK MT d 1 [.ref 9] S) (fun v S => XL SK MT d 154 (7, lv, v.toList ++ [], S) r) := X_inv (n := 1) (kd := 2) (st0 := [.ref 9]) rfl (Or.inr ⟨rfl, rfl⟩) rfl (Nat.le_of_ble_eq_true rfl) (Nat.le_of_ble_eq_true rfl) (by decide) rfl
theorem rX5_layPartial_7 {d : Nat} {lv : xLV} {st : List Value} {S : xS} {r : xO} {x : Int32} : XL SK MT d 154 (7, lv, .int x :: st, S) r ↔ XL SK MT d 154 (8, xst1 lv 1 (.int x), st, S) r := X_pure rfl rfl rfl
theorem rX5_layPartial_8 {d : Nat} {lv : xLV} {st : List Value} {S : xS} {r : xO} : XL SK MT d 154 (8, lv, st, S) r ↔ xA (xlook lv 0) (fun x => XL SK MT d 154 (9, lv, .ref x :: st, S) r) := X_ldA rfl rfl (fun _ => rfl) rfl rfl rfl rfl
theorem rX5_layPartial_9 {d : Nat} {lv : xLV} {st : List Value} {S : xS} {r : xO} : XL SK MT d 154 (9, lv, .ref 10 :: st, S) r ↔ XL SK MT d 154 (12, lv, .ref 9 :: st, S) r := X_heap rfl rfl rfl rfl rfl
theorem rX5_layPartial_12 {d : Nat} {lv : xLV} {S : xS} {r : xO} : XL SK MT d 154 (12, lv, [.ref 9], S) r ↔ xK (XC SK MT d 1 [.ref 9] S) (fun v S => XL SK MT d 154 (15, lv, v.toList ++ [], S) r) := X_inv (n := 1) (kd := 2) (st0 := [.ref 9]) rfl (Or.inr ⟨rfl, rfl⟩) rfl (Nat.le_of_ble_eq_true rfl) (Nat.le_of_ble_eq_true rfl) (by decide) rfl
theorem rX5_layPartial_15 {d : Nat} {lv : xLV} {st : List Value} {S : xS} {r : xO} {x : Int32} : XL SK MT d 154 (15, lv, .int x :: st, S) r ↔ XL SK MT d 154 (16, xst1 lv 2 (.int x), st, S) r := X_pure rfl rfl rfl
theorem rX5_layPartial_16 {d : Nat} {lv : xLV} {st : List Value} {S : xS} {r : xO} : XL SK MT d 154 (16, lv, st, S) r ↔ xA (xlook lv 0) (fun x => XL SK MT d 154 (17, lv, .ref x :: st, S) r) := X_ldA rfl rfl (fun _ => rfl) rfl rfl rfl rfl
theorem rX5_layPartial_17 {d : Nat} {lv : xLV} {st : List Value} {S : xS} {r : xO} : XL SK MT d 154 (17, lv, .ref 10 :: st, S) r ↔ XL SK MT d 154 (20, lv, .ref 9 :: st, S) r := X_heap rfl rfl rfl rfl rfl
theorem rX5_layPartial_20 {d : Nat} {lv : xLV} {st : List Value} {S : xS} {r : xO} : XL SK MT d 154 (20, lv, st, S) r ↔ XL SK MT d 154 (22, lv, .int 65567 :: st, S) r := X_pure rfl rfl rfl
theorem rX5_layPartial_22 {d : Nat} {lv : xLV} {S : xS} {r : xO} {x1 : Int32} : XL SK MT d 154 (22, lv, [.int x1, .ref 9], S) r ↔ xK (XC SK MT d 3 [.ref 9, .int x1] S) (fun v S => XL SK MT d 154 (25, lv, v.toList ++ [], S) r) := X_inv (n := 2) (kd := 2) (st0 := [.int x1, .ref 9]) rfl (Or.inr ⟨rfl, rfl⟩) rfl (Nat.le_of_ble_eq_true rfl) (Nat.le_of_ble_eq_true rfl) (by decide) rfl
theorem rX5_layPartial_25 {d : Nat} {lv : xLV} {st : List Value} {S : xS} {r : xO} : XL SK MT d 154 (25, lv, st, S) r ↔ xA (xlook lv 0) (fun x => XL SK MT d 154 (26, lv, .ref x :: st, S) r) := X_ldA rfl rfl (fun _ => rfl) rfl rfl rfl rfl
theorem rX5_layPartial_26 {d : Nat} {lv : xLV} {st : List Value} {S : xS} {r : xO} : XL SK MT d 154 (26, lv, .ref 10 :: st, S) r ↔ XL SK MT d 154 (29, lv, .ref 9 :: st, S) r := X_heap rfl rfl rfl rfl rfl
theorem rX5_layPartial_29 {d : Nat} {lv : xLV} {st : List Value} {S : xS} {r : xO} : XL SK MT d 154 (29, lv, st, S) r ↔ XL SK MT d 154 (31, lv, .int 65548 :: st, S) r := X_pure rfl rfl rfl
theorem rX5_layPartial_31 {d : Nat} {lv : xLV} {S : xS} {r : xO} {x1 : Int32} : XL SK MT d 154 (31, lv, [.int x1, .ref 9], S) r ↔ xK (XC SK MT d 28 [.ref 9, .int x1] S) (fun v S => XL SK MT d 154 (34, lv, v.toList ++ [], S) r) := X_inv (n := 2) (kd := 2) (st0 := [.int x1, .ref 9]) rfl (Or.inr ⟨rfl, rfl⟩) rfl (Nat.le_of_ble_eq_true rfl) (Nat.le_of_ble_eq_true rfl) (by decide) rfl
theorem rX5_layPartial_34 {d : Nat} {lv : xLV} {st : List Value} {S : xS} {r : xO} : XL SK MT d 154 (34, lv, st, S) r ↔ xA (xlook lv 0) (fun x => XL SK MT d 154 (35, lv, .ref x :: st, S) r) := X_ldA rfl rfl (fun _ => rfl) rfl rfl rfl rfl
theorem rX5_layPartial_35 {d : Nat} {lv : xLV} {st : List Value} {S : xS} {r : xO} : XL SK MT d 154 (35, lv, .ref 10 :: st, S) r ↔ XL SK MT d 154 (38, lv, .ref 9 :: st, S) r := X_heap rfl rfl rfl rfl rfl
theorem rX5_layPartial_38 {d : Nat} {lv : xLV} {st : List Value} {S : xS} {r : xO} : XL SK MT d 154 (38, lv, st, S) r ↔ XL SK MT d 154 (40, lv, .int 35 :: st, S) r := X_pure rfl rfl rfl
theorem rX5_layPartial_40 {d : Nat} {lv : xLV} {st : List Value} {S : xS} {r : xO} : XL SK MT d 154 (40, lv, st, S) r ↔ XL SK MT d 154 (42, lv, .int 11 :: st, S) r := X_pure rfl rfl rfl
theorem rX5_layPartial_42 {d : Nat} {lv : xLV} {st : List Value} {S : xS} {r : xO} : XL SK MT d 154 (42, lv, st, S) r ↔ XL SK MT d 154 (44, lv, .int 10 :: st, S) r := X_pure rfl rfl rfl
theorem rX5_layPartial_44 {d : Nat} {lv : xLV} {st : List Value} {S : xS} {r : xO} : XL SK MT d 154 (44, lv, st, S) r ↔ XL SK MT d 154 (46, lv, .int 9 :: st, S) r := X_pure rfl rfl rfl
theorem rX5_layPartial_46 {d : Nat} {lv : xLV} {S : xS} {r : xO} {x1 : Int32} {x2 : Int32} {x3 : Int32} {x4 : Int32} : XL SK MT d 154 (46, lv, [.int x4, .int x3, .int x2, .int x1, .ref 9], S) r ↔ xK (XC SK MT d 15 [.ref 9, .int x1, .int x2, .int x3, .int x4] S) (fun v S => XL SK MT d 154 (49, lv, v.toList ++ [], S) r) := X_inv (n := 5) (kd := 2) (st0 := [.int x4, .int x3, .int x2, .int x1, .ref 9]) rfl (Or.inr ⟨rfl, rfl⟩) rfl (Nat.le_of_ble_eq_true rfl) (Nat.le_of_ble_eq_true rfl) (by decide) rfl
theorem rX5_layPartial_49 {d : Nat} {lv : xLV} {st : List Value} {S : xS} {r : xO} : XL SK MT d 154 (49, lv, st, S) r ↔ xA (xlook lv 0) (fun x => XL SK MT d 154 (50, lv, .ref x :: st, S) r) := X_ldA rfl rfl (fun _ => rfl) rfl rfl rfl rfl
theorem rX5_layPartial_50 {d : Nat} {lv : xLV} {st : List Value} {S : xS} {r : xO} : XL SK MT d 154 (50, lv, .ref 10 :: st, S) r ↔ XL SK MT d 154 (53, lv, .ref 9 :: st, S) r := X_heap rfl rfl rfl rfl rfl
theorem rX5_layPartial_53 {d : Nat} {lv : xLV} {st : List Value} {S : xS} {r : xO} : XL SK MT d 154 (53, lv, st, S) r ↔ XL SK MT d 154 (55, lv, .int 65545 :: st, S) r := X_pure rfl rfl rfl
theorem rX5_layPartial_55 {d : Nat} {lv : xLV} {S : xS} {r : xO} {x1 : Int32} : XL SK MT d 154 (55, lv, [.int x1, .ref 9], S) r ↔ xK (XC SK MT d 28 [.ref 9, .int x1] S) (fun v S => XL SK MT d 154 (58, lv, v.toList ++ [], S) r) := X_inv (n := 2) (kd := 2) (st0 := [.int x1, .ref 9]) rfl (Or.inr ⟨rfl, rfl⟩) rfl (Nat.le_of_ble_eq_true rfl) (Nat.le_of_ble_eq_true rfl) (by decide) rfl
theorem rX5_layPartial_58 {d : Nat} {lv : xLV} {st : List Value} {S : xS} {r : xO} : XL SK MT d 154 (58, lv, st, S) r ↔ xA (xlook lv 0) (fun x => XL SK MT d 154 (59, lv, .ref x :: st, S) r) := X_ldA rfl rfl (fun _ => rfl) rfl rfl rfl rfl
theorem rX5_layPartial_59 {d : Nat} {lv : xLV} {st : List Value} {S : xS} {r : xO} : XL SK MT d 154 (59, lv, .ref 10 :: st, S) r ↔ XL SK MT d 154 (62, lv, .ref 9 :: st, S) r := X_heap rfl rfl rfl rfl rfl
theorem rX5_layPartial_62 {d : Nat} {lv : xLV} {st : List Value} {S : xS} {r : xO} : XL SK MT d 154 (62, lv, st, S) r ↔ XL SK MT d 154 (64, lv, .int 10 :: st, S) r := X_pure rfl rfl rfl
theorem rX5_layPartial_64 {d : Nat} {lv : xLV} {st : List Value} {S : xS} {r : xO} : XL SK MT d 154 (64, lv, st, S) r ↔ XL SK MT d 154 (67, lv, .int 1296 :: st, S) r := X_pure rfl rfl rfl
theorem rX5_layPartial_67 {d : Nat} {lv : xLV} {S : xS} {r : xO} {x1 : Int32} {x2 : Int32} : XL SK MT d 154 (67, lv, [.int x2, .int x1, .ref 9], S) r ↔ xK (XC SK MT d 22 [.ref 9, .int x1, .int x2] S) (fun v S => XL SK MT d 154 (70, lv, v.toList ++ [], S) r) := X_inv (n := 3) (kd := 2) (st0 := [.int x2, .int x1, .ref 9]) rfl (Or.inr ⟨rfl, rfl⟩) rfl (Nat.le_of_ble_eq_true rfl) (Nat.le_of_ble_eq_true rfl) (by decide) rfl
theorem rX5_layPartial_70 {d : Nat} {lv : xLV} {st : List Value} {S : xS} {r : xO} : XL SK MT d 154 (70, lv, st, S) r ↔ xA (xlook lv 0) (fun x => XL SK MT d 154 (71, lv, .ref x :: st, S) r) := X_ldA rfl rfl (fun _ => rfl) rfl rfl rfl rfl
theorem rX5_layPartial_71 {d : Nat} {lv : xLV} {st : List Value} {S : xS} {r : xO} : XL SK MT d 154 (71, lv, .ref 10 :: st, S) r ↔ XL SK MT d 154 (74, lv, .ref 9 :: st, S) r := X_heap rfl rfl rfl rfl rfl
theorem rX5_layPartial_74 {d : Nat} {lv : xLV} {st : List Value} {S : xS} {r : xO} : XL SK MT d 154 (74, lv, st, S) r ↔ XL SK MT d 154 (76, lv, .int 35 :: st, S) r := X_pure rfl rfl rfl
theorem rX5_layPartial_76 {d : Nat} {lv : xLV} {st : List Value} {S : xS} {r : xO} : XL SK MT d 154 (76, lv, st, S) r ↔ XL SK MT d 154 (78, lv, .int 9 :: st, S) r := X_pure rfl rfl rfl
theorem rX5_layPartial_78 {d : Nat} {lv : xLV} {st : List Value} {S : xS} {r : xO} : XL SK MT d 154 (78, lv, st, S) r ↔ XL SK MT d 154 (80, lv, .int 10 :: st, S) r := X_pure rfl rfl rfl
theorem rX5_layPartial_80 {d : Nat} {lv : xLV} {st : List Value} {S : xS} {r : xO} : XL SK MT d 154 (80, lv, st, S) r ↔ XL SK MT d 154 (82, lv, .int 11 :: st, S) r := X_pure rfl rfl rfl
theorem rX5_layPartial_82 {d : Nat} {lv : xLV} {S : xS} {r : xO} {x1 : Int32} {x2 : Int32} {x3 : Int32} {x4 : Int32} : XL SK MT d 154 (82, lv, [.int x4, .int x3, .int x2, .int x1, .ref 9], S) r ↔ xK (XC SK MT d 15 [.ref 9, .int x1, .int x2, .int x3, .int x4] S) (fun v S => XL SK MT d 154 (85, lv, v.toList ++ [], S) r) := X_inv (n := 5) (kd := 2) (st0 := [.int x4, .int x3, .int x2, .int x1, .ref 9]) rfl (Or.inr ⟨rfl, rfl⟩) rfl (Nat.le_of_ble_eq_true rfl) (Nat.le_of_ble_eq_true rfl) (by decide) rfl
theorem rX5_layPartial_85 {d : Nat} {lv : xLV} {st : List Value} {S : xS} {r : xO} : XL SK MT d 154 (85, lv, st, S) r ↔ xA (xlook lv 0) (fun x => XL SK MT d 154 (86, lv, .ref x :: st, S) r) := X_ldA rfl rfl (fun _ => rfl) rfl rfl rfl rfl
theorem rX5_layPartial_86 {d : Nat} {lv : xLV} {st : List Value} {S : xS} {r : xO} : XL SK MT d 154 (86, lv, .ref 10 :: st, S) r ↔ XL SK MT d 154 (89, lv, .ref 9 :: st, S) r := X_heap rfl rfl rfl rfl rfl
theorem rX5_layPartial_89 {d : Nat} {lv : xLV} {st : List Value} {S : xS} {r : xO} : XL SK MT d 154 (89, lv, st, S) r ↔ XL SK MT d 154 (91, lv, .int 12 :: st, S) r := X_pure rfl rfl rfl
theorem rX5_layPartial_91 {d : Nat} {lv : xLV} {st : List Value} {S : xS} {r : xO} : XL SK MT d 154 (91, lv, st, S) r ↔ XL SK MT d 154 (92, lv, .int 2 :: st, S) r := X_pure rfl rfl rfl
theorem rX5_layPartial_92 {d : Nat} {lv : xLV} {st : List Value} {S : xS} {r : xO} : XL SK MT d 154 (92, lv, st, S) r ↔ XL SK MT d 154 (93, lv, .int 4 :: st, S) r := X_pure rfl rfl rfl
theorem rX5_layPartial_93 {d : Nat} {lv : xLV} {S : xS} {r : xO} {x1 : Int32} {x2 : Int32} {x3 : Int32} : XL SK MT d 154 (93, lv, [.int x3, .int x2, .int x1, .ref 9], S) r ↔ xK (XC SK MT d 20 [.ref 9, .int x1, .int x2, .int x3] S) (fun v S => XL SK MT d 154 (96, lv, v.toList ++ [], S) r) := X_inv (n := 4) (kd := 2) (st0 := [.int x3, .int x2, .int x1, .ref 9]) rfl (Or.inr ⟨rfl, rfl⟩) rfl (Nat.le_of_ble_eq_true rfl) (Nat.le_of_ble_eq_true rfl) (by decide) rfl
theorem rX5_layPartial_96 {d : Nat} {lv : xLV} {st : List Value} {S : xS} {r : xO} : XL SK MT d 154 (96, lv, st, S) r ↔ xA (xlook lv 0) (fun x => XL SK MT d 154 (97, lv, .ref x :: st, S) r) := X_ldA rfl rfl (fun _ => rfl) rfl rfl rfl rfl
theorem rX5_layPartial_97 {d : Nat} {lv : xLV} {st : List Value} {S : xS} {r : xO} : XL SK MT d 154 (97, lv, .ref 10 :: st, S) r ↔ XL SK MT d 154 (100, lv, .ref 9 :: st, S) r := X_heap rfl rfl rfl rfl rfl
theorem rX5_layPartial_100 {d : Nat} {lv : xLV} {S : xS} {r : xO} : XL SK MT d 154 (100, lv, [.ref 9], S) r ↔ xK (XC SK MT d 2 [.ref 9] S) (fun v S => XL SK MT d 154 (103, lv, v.toList ++ [], S) r) := X_inv (n := 1) (kd := 2) (st0 := [.ref 9]) rfl (Or.inr ⟨rfl, rfl⟩) rfl (Nat.le_of_ble_eq_true rfl) (Nat.le_of_ble_eq_true rfl) (by decide) rfl
theorem rX5_layPartial_103 {d : Nat} {lv : xLV} {st : List Value} {S : xS} {r : xO} {x : Int32} : XL SK MT d 154 (103, lv, .int x :: st, S) r ↔ XL SK MT d 154 (104, xst1 lv 3 (.int x), st, S) r := X_pure rfl rfl rfl
theorem rX5_layPartial_104 {d : Nat} {lv : xLV} {st : List Value} {S : xS} {r : xO} : XL SK MT d 154 (104, lv, st, S) r ↔ xA (xlook lv 0) (fun x => XL SK MT d 154 (105, lv, .ref x :: st, S) r) := X_ldA rfl rfl (fun _ => rfl) rfl rfl rfl rfl
theorem rX5_layPartial_105 {d : Nat} {lv : xLV} {st : List Value} {S : xS} {r : xO} : XL SK MT d 154 (105, lv, .ref 10 :: st, S) r ↔ XL SK MT d 154 (108, lv, .ref 9 :: st, S) r := X_heap rfl rfl rfl rfl rfl
theorem rX5_layPartial_108 {d : Nat} {lv : xLV} {st : List Value} {S : xS} {r : xO} : XL SK MT d 154 (108, lv, st, S) r ↔ XL SK MT d 154 (110, lv, .int 36 :: st, S) r := X_pure rfl rfl rfl
theorem rX5_layPartial_110 {d : Nat} {lv : xLV} {st : List Value} {S : xS} {r : xO} : XL SK MT d 154 (110, lv, st, S) r ↔ XL SK MT d 154 (112, lv, .int 13 :: st, S) r := X_pure rfl rfl rfl
theorem rX5_layPartial_112 {d : Nat} {lv : xLV} {st : List Value} {S : xS} {r : xO} : XL SK MT d 154 (112, lv, st, S) r ↔ XL SK MT d 154 (114, lv, .int 9 :: st, S) r := X_pure rfl rfl rfl
theorem rX5_layPartial_114 {d : Nat} {lv : xLV} {st : List Value} {S : xS} {r : xO} : XL SK MT d 154 (114, lv, st, S) r ↔ XL SK MT d 154 (115, lv, .int 0 :: st, S) r := X_pure rfl rfl rfl
theorem rX5_layPartial_115 {d : Nat} {lv : xLV} {S : xS} {r : xO} {x1 : Int32} {x2 : Int32} {x3 : Int32} {x4 : Int32} : XL SK MT d 154 (115, lv, [.int x4, .int x3, .int x2, .int x1, .ref 9], S) r ↔ xK (XC SK MT d 17 [.ref 9, .int x1, .int x2, .int x3, .int x4] S) (fun v S => XL SK MT d 154 (118, lv, v.toList ++ [], S) r) := X_inv (n := 5) (kd := 2) (st0 := [.int x4, .int x3, .int x2, .int x1, .ref 9]) rfl (Or.inr ⟨rfl, rfl⟩) rfl (Nat.le_of_ble_eq_true rfl) (Nat.le_of_ble_eq_true rfl) (by decide) rfl
theorem rX5_layPartial_118 {d : Nat} {lv : xLV} {st : List Value} {S : xS} {r : xO} : XL SK MT d 154 (118, lv, st, S) r ↔ xA (xlook lv 0) (fun x => XL SK MT d 154 (119, lv, .ref x :: st, S) r) := X_ldA rfl rfl (fun _ => rfl) rfl rfl rfl rfl
theorem rX5_layPartial_119 {d : Nat} {lv : xLV} {st : List Value} {S : xS} {r : xO} : XL SK MT d 154 (119, lv, .ref 10 :: st, S) r ↔ XL SK MT d 154 (122, lv, .ref 9 :: st, S) r := X_heap rfl rfl rfl rfl rfl
theorem rX5_layPartial_122 {d : Nat} {lv : xLV} {st : List Value} {S : xS} {r : xO} : XL SK MT d 154 (122, lv, st, S) r ↔ XL SK MT d 154 (124, lv, .int 9 :: st, S) r := X_pure rfl rfl rfl
theorem rX5_layPartial_124 {d : Nat} {lv : xLV} {st : List Value} {S : xS} {r : xO} : XL SK MT d 154 (124, lv, st, S) r ↔ XL SK MT d 154 (126, lv, .int 9 :: st, S) r := X_pure rfl rfl rfl
theorem rX5_layPartial_126 {d : Nat} {lv : xLV} {st : List Value} {S : xS} {r : xO} : XL SK MT d 154 (126, lv, st, S) r ↔ XL SK MT d 154 (127, lv, .int 1 :: st, S) r := X_pure rfl rfl rfl
theorem rX5_layPartial_127 {d : Nat} {lv : xLV} {S : xS} {r : xO} {x1 : Int32} {x2 : Int32} {x3 : Int32} : XL SK MT d 154 (127, lv, [.int x3, .int x2, .int x1, .ref 9], S) r ↔ xK (XC SK MT d 20 [.ref 9, .int x1, .int x2, .int x3] S) (fun v S => XL SK MT d 154 (130, lv, v.toList ++ [], S) r) := X_inv (n := 4) (kd := 2) (st0 := [.int x3, .int x2, .int x1, .ref 9]) rfl (Or.inr ⟨rfl, rfl⟩) rfl (Nat.le_of_ble_eq_true rfl) (Nat.le_of_ble_eq_true rfl) (by decide) rfl
theorem rX5_layPartial_130 {d : Nat} {lv : xLV} {st : List Value} {S : xS} {r : xO} : XL SK MT d 154 (130, lv, st, S) r ↔ xA (xlook lv 0) (fun x => XL SK MT d 154 (131, lv, .ref x :: st, S) r) := X_ldA rfl rfl (fun _ => rfl) rfl rfl rfl rfl
theorem rX5_layPartial_131 {d : Nat} {lv : xLV} {st : List Value} {S : xS} {r : xO} : XL SK MT d 154 (131, lv, .ref 10 :: st, S) r ↔ XL SK MT d 154 (134, lv, .ref 9 :: st, S) r := X_heap rfl rfl rfl rfl rfl
theorem rX5_layPartial_134 {d : Nat} {lv : xLV} {st : List Value} {S : xS} {r : xO} : XL SK MT d 154 (134, lv, st, S) r ↔ XL SK MT d 154 (136, lv, .int 40 :: st, S) r := X_pure rfl rfl rfl
theorem rX5_layPartial_136 {d : Nat} {lv : xLV} {st : List Value} {S : xS} {r : xO} : XL SK MT d 154 (136, lv, st, S) r ↔ XL SK MT d 154 (138, lv, .int 13 :: st, S) r := X_pure rfl rfl rfl
theorem rX5_layPartial_138 {d : Nat} {lv : xLV} {st : List Value} {S : xS} {r : xO} : XL SK MT d 154 (138, lv, st, S) r ↔ XL SK MT d 154 (140, lv, .int 12 :: st, S) r := X_pure rfl rfl rfl
theorem rX5_layPartial_140 {d : Nat} {lv : xLV} {st : List Value} {S : xS} {r : xO} : XL SK MT d 154 (140, lv, st, S) r ↔ XL SK MT d 154 (141, lv, .int 0 :: st, S) r := X_pure rfl rfl rfl
theorem rX5_layPartial_141 {d : Nat} {lv : xLV} {S : xS} {r : xO} {x1 : Int32} {x2 : Int32} {x3 : Int32} {x4 : Int32} : XL SK MT d 154 (141, lv, [.int x4, .int x3, .int x2, .int x1, .ref 9], S) r ↔ xK (XC SK MT d 17 [.ref 9, .int x1, .int x2, .int x3, .int x4] S) (fun v S => XL SK MT d 154 (144, lv, v.toList ++ [], S) r) := X_inv (n := 5) (kd := 2) (st0 := [.int x4, .int x3, .int x2, .int x1, .ref 9]) rfl (Or.inr ⟨rfl, rfl⟩) rfl (Nat.le_of_ble_eq_true rfl) (Nat.le_of_ble_eq_true rfl) (by decide) rfl
theorem rX5_layPartial_144 {d : Nat} {lv : xLV} {st : List Value} {S : xS} {r : xO} : XL SK MT d 154 (144, lv, st, S) r ↔ xA (xlook lv 0) (fun x => XL SK MT d 154 (145, lv, .ref x :: st, S) r) := X_ldA rfl rfl (fun _ => rfl) rfl rfl rfl rfl
theorem rX5_layPartial_145 {d : Nat} {lv : xLV} {st : List Value} {S : xS} {r : xO} : XL SK MT d 154 (145, lv, .ref 10 :: st, S) r ↔ XL SK MT d 154 (148, lv, .ref 9 :: st, S) r := X_heap rfl rfl rfl rfl rfl
theorem rX5_layPartial_148 {d : Nat} {lv : xLV} {st : List Value} {S : xS} {r : xO} : XL SK MT d 154 (148, lv, st, S) r ↔ XL SK MT d 154 (150, lv, .int 12 :: st, S) r := X_pure rfl rfl rfl
theorem rX5_layPartial_150 {d : Nat} {lv : xLV} {st : List Value} {S : xS} {r : xO} : XL SK MT d 154 (150, lv, st, S) r ↔ XL SK MT d 154 (152, lv, .int 12 :: st, S) r := X_pure rfl rfl rfl
theorem rX5_layPartial_152 {d : Nat} {lv : xLV} {st : List Value} {S : xS} {r : xO} : XL SK MT d 154 (152, lv, st, S) r ↔ XL SK MT d 154 (153, lv, .int 1 :: st, S) r := X_pure rfl rfl rfl
theorem rX5_layPartial_153 {d : Nat} {lv : xLV} {S : xS} {r : xO} {x1 : Int32} {x2 : Int32} {x3 : Int32} : XL SK MT d 154 (153, lv, [.int x3, .int x2, .int x1, .ref 9], S) r ↔ xK (XC SK MT d 20 [.ref 9, .int x1, .int x2, .int x3] S) (fun v S => XL SK MT d 154 (156, lv, v.toList ++ [], S) r) := X_inv (n := 4) (kd := 2) (st0 := [.int x3, .int x2, .int x1, .ref 9]) rfl (Or.inr ⟨rfl, rfl⟩) rfl (Nat.le_of_ble_eq_true rfl) (Nat.le_of_ble_eq_true rfl) (by decide) rfl
theorem rX5_layPartial_156 {d : Nat} {lv : xLV} {st : List Value} {S : xS} {r : xO} : XL SK MT d 154 (156, lv, st, S) r ↔ xA (xlook lv 0) (fun x => XL SK MT d 154 (157, lv, .ref x :: st, S) r) := X_ldA rfl rfl (fun _ => rfl) rfl rfl rfl rfl
theorem rX5_layPartial_157 {d : Nat} {lv : xLV} {st : List Value} {S : xS} {r : xO} : XL SK MT d 154 (157, lv, .ref 10 :: st, S) r ↔ XL SK MT d 154 (160, lv, .ref 9 :: st, S) r := X_heap rfl rfl rfl rfl rfl
theorem rX5_layPartial_160 {d : Nat} {lv : xLV} {st : List Value} {S : xS} {r : xO} : XL SK MT d 154 (160, lv, st, S) r ↔ XL SK MT d 154 (161, lv, .int 5 :: st, S) r := X_pure rfl rfl rfl
theorem rX5_layPartial_161 {d : Nat} {lv : xLV} {st : List Value} {S : xS} {r : xO} : XL SK MT d 154 (161, lv, st, S) r ↔ XL SK MT d 154 (163, lv, .int 9 :: st, S) r := X_pure rfl rfl rfl
theorem rX5_layPartial_163 {d : Nat} {lv : xLV} {st : List Value} {S : xS} {r : xO} : XL SK MT d 154 (163, lv, st, S) r ↔ XL SK MT d 154 (165, lv, .int 10 :: st, S) r := X_pure rfl rfl rfl
theorem rX5_layPartial_165 {d : Nat} {lv : xLV} {st : List Value} {S : xS} {r : xO} : XL SK MT d 154 (165, lv, st, S) r ↔ xI (xlook lv 3) (fun x => XL SK MT d 154 (166, lv, .int x :: st, S) r) := X_ldI rfl rfl (fun _ => rfl) rfl rfl rfl rfl
theorem rX5_layPartial_166 {d : Nat} {lv : xLV} {S : xS} {r : xO} {x1 : Int32} {x2 : Int32} {x3 : Int32} {x4 : Int32} : XL SK MT d 154 (166, lv, [.int x4, .int x3, .int x2, .int x1, .ref 9], S) r ↔ xK (XC SK MT d 24 [.ref 9, .int x1, .int x2, .int x3, .int x4] S) (fun v S => XL SK MT d 154 (169, lv, v.toList ++ [], S) r) := X_inv (n := 5) (kd := 2) (st0 := [.int x4, .int x3, .int x2, .int x1, .ref 9]) rfl (Or.inr ⟨rfl, rfl⟩) rfl (Nat.le_of_ble_eq_true rfl) (Nat.le_of_ble_eq_true rfl) (by decide) rfl
theorem rX5_layPartial_169 {d : Nat} {lv : xLV} {st : List Value} {S : xS} {r : xO} : XL SK MT d 154 (169, lv, st, S) r ↔ xA (xlook lv 0) (fun x => XL SK MT d 154 (170, lv, .ref x :: st, S) r) := X_ldA rfl rfl (fun _ => rfl) rfl rfl rfl rfl
theorem rX5_layPartial_170 {d : Nat} {lv : xLV} {st : List Value} {S : xS} {r : xO} : XL SK MT d 154 (170, lv, .ref 10 :: st, S) r ↔ XL SK MT d 154 (173, lv, .ref 9 :: st, S) r := X_heap rfl rfl rfl rfl rfl
theorem rX5_layPartial_173 {d : Nat} {lv : xLV} {st : List Value} {S : xS} {r : xO} : XL SK MT d 154 (173, lv, st, S) r ↔ XL SK MT d 154 (174, lv, .int 4 :: st, S) r := X_pure rfl rfl rfl
theorem rX5_layPartial_174 {d : Nat} {lv : xLV} {st : List Value} {S : xS} {r : xO} : XL SK MT d 154 (174, lv, st, S) r ↔ XL SK MT d 154 (175, lv, .int 2 :: st, S) r := X_pure rfl rfl rfl
theorem rX5_layPartial_175 {d : Nat} {lv : xLV} {S : xS} {r : xO} {x1 : Int32} {x2 : Int32} : XL SK MT d 154 (175, lv, [.int x2, .int x1, .ref 9], S) r ↔ xK (XC SK MT d 21 [.ref 9, .int x1, .int x2] S) (fun v S => XL SK MT d 154 (178, lv, v.toList ++ [], S) r) := X_inv (n := 3) (kd := 2) (st0 := [.int x2, .int x1, .ref 9]) rfl (Or.inr ⟨rfl, rfl⟩) rfl (Nat.le_of_ble_eq_true rfl) (Nat.le_of_ble_eq_true rfl) (by decide) rfl
theorem rX5_layPartial_178 {d : Nat} {lv : xLV} {st : List Value} {S : xS} {r : xO} : XL SK MT d 154 (178, lv, st, S) r ↔ xA (xlook lv 0) (fun x => XL SK MT d 154 (179, lv, .ref x :: st, S) r) := X_ldA rfl rfl (fun _ => rfl) rfl rfl rfl rfl
theorem rX5_layPartial_179 {d : Nat} {lv : xLV} {st : List Value} {S : xS} {r : xO} : XL SK MT d 154 (179, lv, .ref 10 :: st, S) r ↔ XL SK MT d 154 (182, lv, .ref 9 :: st, S) r := X_heap rfl rfl rfl rfl rfl
theorem rX5_layPartial_182 {d : Nat} {lv : xLV} {st : List Value} {S : xS} {r : xO} : XL SK MT d 154 (182, lv, st, S) r ↔ XL SK MT d 154 (184, lv, .int 65557 :: st, S) r := X_pure rfl rfl rfl
theorem rX5_layPartial_184 {d : Nat} {lv : xLV} {S : xS} {r : xO} {x1 : Int32} : XL SK MT d 154 (184, lv, [.int x1, .ref 9], S) r ↔ xK (XC SK MT d 27 [.ref 9, .int x1] S) (fun v S => XL SK MT d 154 (187, lv, v.toList ++ [], S) r) := X_inv (n := 2) (kd := 2) (st0 := [.int x1, .ref 9]) rfl (Or.inr ⟨rfl, rfl⟩) rfl (Nat.le_of_ble_eq_true rfl) (Nat.le_of_ble_eq_true rfl) (by decide) rfl
theorem rX5_layPartial_187 {d : Nat} {lv : xLV} {st : List Value} {S : xS} {r : xO} : XL SK MT d 154 (187, lv, st, S) r ↔ xA (xlook lv 0) (fun x => XL SK MT d 154 (188, lv, .ref x :: st, S) r) := X_ldA rfl rfl (fun _ => rfl) rfl rfl rfl rfl
theorem rX5_layPartial_188 {d : Nat} {lv : xLV} {st : List Value} {S : xS} {r : xO} : XL SK MT d 154 (188, lv, .ref 10 :: st, S) r ↔ XL SK MT d 154 (191, lv, .ref 9 :: st, S) r := X_heap rfl rfl rfl rfl rfl
theorem rX5_layPartial_191 {d : Nat} {lv : xLV} {st : List Value} {S : xS} {r : xO} : XL SK MT d 154 (191, lv, st, S) r ↔ XL SK MT d 154 (193, lv, .int 65568 :: st, S) r := X_pure rfl rfl rfl
theorem rX5_layPartial_193 {d : Nat} {lv : xLV} {S : xS} {r : xO} {x1 : Int32} : XL SK MT d 154 (193, lv, [.int x1, .ref 9], S) r ↔ xK (XC SK MT d 3 [.ref 9, .int x1] S) (fun v S => XL SK MT d 154 (196, lv, v.toList ++ [], S) r) := X_inv (n := 2) (kd := 2) (st0 := [.int x1, .ref 9]) rfl (Or.inr ⟨rfl, rfl⟩) rfl (Nat.le_of_ble_eq_true rfl) (Nat.le_of_ble_eq_true rfl) (by decide) rfl
theorem rX5_layPartial_196 {d : Nat} {lv : xLV} {st : List Value} {S : xS} {r : xO} : XL SK MT d 154 (196, lv, st, S) r ↔ xA (xlook lv 0) (fun x => XL SK MT d 154 (197, lv, .ref x :: st, S) r) := X_ldA rfl rfl (fun _ => rfl) rfl rfl rfl rfl
theorem rX5_layPartial_197 {d : Nat} {lv : xLV} {st : List Value} {S : xS} {r : xO} : XL SK MT d 154 (197, lv, .ref 10 :: st, S) r ↔ XL SK MT d 154 (200, lv, .ref 9 :: st, S) r := X_heap rfl rfl rfl rfl rfl
theorem rX5_layPartial_200 {d : Nat} {lv : xLV} {st : List Value} {S : xS} {r : xO} : XL SK MT d 154 (200, lv, st, S) r ↔ XL SK MT d 154 (201, lv, .int 3 :: st, S) r := X_pure rfl rfl rfl
theorem rX5_layPartial_201 {d : Nat} {lv : xLV} {st : List Value} {S : xS} {r : xO} : XL SK MT d 154 (201, lv, st, S) r ↔ XL SK MT d 154 (203, lv, .int 8 :: st, S) r := X_pure rfl rfl rfl
theorem rX5_layPartial_203 {d : Nat} {lv : xLV} {st : List Value} {S : xS} {r : xO} : XL SK MT d 154 (203, lv, st, S) r ↔ XL SK MT d 154 (204, lv, .int 5 :: st, S) r := X_pure rfl rfl rfl
theorem rX5_layPartial_204 {d : Nat} {lv : xLV} {st : List Value} {S : xS} {r : xO} : XL SK MT d 154 (204, lv, st, S) r ↔ XL SK MT d 154 (205, lv, .int 1 :: st, S) r := X_pure rfl rfl rfl
theorem rX5_layPartial_205 {d : Nat} {lv : xLV} {S : xS} {r : xO} {x1 : Int32} {x2 : Int32} {x3 : Int32} {x4 : Int32} : XL SK MT d 154 (205, lv, [.int x4, .int x3, .int x2, .int x1, .ref 9], S) r ↔ xK (XC SK MT d 16 [.ref 9, .int x1, .int x2, .int x3, .int x4] S) (fun v S => XL SK MT d 154 (208, lv, v.toList ++ [], S) r) := X_inv (n := 5) (kd := 2) (st0 := [.int x4, .int x3, .int x2, .int x1, .ref 9]) rfl (Or.inr ⟨rfl, rfl⟩) rfl (Nat.le_of_ble_eq_true rfl) (Nat.le_of_ble_eq_true rfl) (by decide) rfl
theorem rX5_layPartial_208 {d : Nat} {lv : xLV} {st : List Value} {S : xS} {r : xO} : XL SK MT d 154 (208, lv, st, S) r ↔ xA (xlook lv 0) (fun x => XL SK MT d 154 (209, lv, .ref x :: st, S) r) := X_ldA rfl rfl (fun _ => rfl) rfl rfl rfl rfl
theorem rX5_layPartial_209 {d : Nat} {lv : xLV} {st : List Value} {S : xS} {r : xO} : XL SK MT d 154 (209, lv, .ref 10 :: st, S) r ↔ XL SK MT d 154 (212, lv, .ref 9 :: st, S) r := X_heap rfl rfl rfl rfl rfl
theorem rX5_layPartial_212 {d : Nat} {lv : xLV} {st : List Value} {S : xS} {r : xO} : XL SK MT d 154 (212, lv, st, S) r ↔ XL SK MT d 154 (214, lv, .int 11 :: st, S) r := X_pure rfl rfl rfl
theorem rX5_layPartial_214 {d : Nat} {lv : xLV} {st : List Value} {S : xS} {r : xO} : XL SK MT d 154 (214, lv, st, S) r ↔ XL SK MT d 154 (216, lv, .int 9 :: st, S) r := X_pure rfl rfl rfl
theorem rX5_layPartial_216 {d : Nat} {lv : xLV} {st : List Value} {S : xS} {r : xO} : XL SK MT d 154 (216, lv, st, S) r ↔ XL SK MT d 154 (218, lv, .int 8 :: st, S) r := X_pure rfl rfl rfl
theorem rX5_layPartial_218 {d : Nat} {lv : xLV} {st : List Value} {S : xS} {r : xO} : XL SK MT d 154 (218, lv, st, S) r ↔ XL SK MT d 154 (221, lv, .int 256 :: st, S) r := X_pure rfl rfl rfl
theorem rX5_layPartial_221 {d : Nat} {lv : xLV} {S : xS} {r : xO} {x1 : Int32} {x2 : Int32} {x3 : Int32} {x4 : Int32} : XL SK MT d 154 (221, lv, [.int x4, .int x3, .int x2, .int x1, .ref 9], S) r ↔ xK (XC SK MT d 17 [.ref 9, .int x1, .int x2, .int x3, .int x4] S) (fun v S => XL SK MT d 154 (224, lv, v.toList ++ [], S) r) := X_inv (n := 5) (kd := 2) (st0 := [.int x4, .int x3, .int x2, .int x1, .ref 9]) rfl (Or.inr ⟨rfl, rfl⟩) rfl (Nat.le_of_ble_eq_true rfl) (Nat.le_of_ble_eq_true rfl) (by decide) rfl
theorem rX5_layPartial_224 {d : Nat} {lv : xLV} {st : List Value} {S : xS} {r : xO} : XL SK MT d 154 (224, lv, st, S) r ↔ xA (xlook lv 0) (fun x => XL SK MT d 154 (225, lv, .ref x :: st, S) r) := X_ldA rfl rfl (fun _ => rfl) rfl rfl rfl rfl
theorem rX5_layPartial_225 {d : Nat} {lv : xLV} {st : List Value} {S : xS} {r : xO} : XL SK MT d 154 (225, lv, .ref 10 :: st, S) r ↔ XL SK MT d 154 (228, lv, .ref 9 :: st, S) r := X_heap rfl rfl rfl rfl rfl
theorem rX5_layPartial_228 {d : Nat} {lv : xLV} {st : List Value} {S : xS} {r : xO} : XL SK MT d 154 (228, lv, st, S) r ↔ XL SK MT d 154 (229, lv, .int 4 :: st, S) r := X_pure rfl rfl rfl
theorem rX5_layPartial_229 {d : Nat} {lv : xLV} {st : List Value} {S : xS} {r : xO} : XL SK MT d 154 (229, lv, st, S) r ↔ XL SK MT d 154 (231, lv, .int 9 :: st, S) r := X_pure rfl rfl rfl
theorem rX5_layPartial_231 {d : Nat} {lv : xLV} {st : List Value} {S : xS} {r : xO} : XL SK MT d 154 (231, lv, st, S) r ↔ XL SK MT d 154 (232, lv, .int 0 :: st, S) r := X_pure rfl rfl rfl
theorem rX5_layPartial_232 {d : Nat} {lv : xLV} {st : List Value} {S : xS} {r : xO} : XL SK MT d 154 (232, lv, st, S) r ↔ xI (xlook lv 2) (fun x => XL SK MT d 154 (233, lv, .int x :: st, S) r) := X_ldI rfl rfl (fun _ => rfl) rfl rfl rfl rfl
theorem rX5_layPartial_233 {d : Nat} {lv : xLV} {S : xS} {r : xO} {x1 : Int32} {x2 : Int32} {x3 : Int32} {x4 : Int32} : XL SK MT d 154 (233, lv, [.int x4, .int x3, .int x2, .int x1, .ref 9], S) r ↔ xK (XC SK MT d 24 [.ref 9, .int x1, .int x2, .int x3, .int x4] S) (fun v S => XL SK MT d 154 (236, lv, v.toList ++ [], S) r) := X_inv (n := 5) (kd := 2) (st0 := [.int x4, .int x3, .int x2, .int x1, .ref 9]) rfl (Or.inr ⟨rfl, rfl⟩) rfl (Nat.le_of_ble_eq_true rfl) (Nat.le_of_ble_eq_true rfl) (by decide) rfl
theorem rX5_layPartial_236 {d : Nat} {lv : xLV} {st : List Value} {S : xS} {r : xO} : XL SK MT d 154 (236, lv, st, S) r ↔ xA (xlook lv 0) (fun x => XL SK MT d 154 (237, lv, .ref x :: st, S) r) := X_ldA rfl rfl (fun _ => rfl) rfl rfl rfl rfl
theorem rX5_layPartial_237 {d : Nat} {lv : xLV} {st : List Value} {S : xS} {r : xO} : XL SK MT d 154 (237, lv, .ref 10 :: st, S) r ↔ XL SK MT d 154 (240, lv, .ref 9 :: st, S) r := X_heap rfl rfl rfl rfl rfl
theorem rX5_layPartial_240 {d : Nat} {lv : xLV} {st : List Value} {S : xS} {r : xO} : XL SK MT d 154 (240, lv, st, S) r ↔ XL SK MT d 154 (242, lv, .int 11 :: st, S) r := X_pure rfl rfl rfl
theorem rX5_layPartial_242 {d : Nat} {lv : xLV} {st : List Value} {S : xS} {r : xO} : XL SK MT d 154 (242, lv, st, S) r ↔ XL SK MT d 154 (243, lv, .int 1 :: st, S) r := X_pure rfl rfl rfl
theorem rX5_layPartial_243 {d : Nat} {lv : xLV} {S : xS} {r : xO} {x1 : Int32} {x2 : Int32} : XL SK MT d 154 (243, lv, [.int x2, .int x1, .ref 9], S) r ↔ xK (XC SK MT d 22 [.ref 9, .int x1, .int x2] S) (fun v S => XL SK MT d 154 (246, lv, v.toList ++ [], S) r) := X_inv (n := 3) (kd := 2) (st0 := [.int x2, .int x1, .ref 9]) rfl (Or.inr ⟨rfl, rfl⟩) rfl (Nat.le_of_ble_eq_true rfl) (Nat.le_of_ble_eq_true rfl) (by decide) rfl
theorem rX5_layPartial_246 {d : Nat} {lv : xLV} {st : List Value} {S : xS} {r : xO} : XL SK MT d 154 (246, lv, st, S) r ↔ xA (xlook lv 0) (fun x => XL SK MT d 154 (247, lv, .ref x :: st, S) r) := X_ldA rfl rfl (fun _ => rfl) rfl rfl rfl rfl
theorem rX5_layPartial_247 {d : Nat} {lv : xLV} {st : List Value} {S : xS} {r : xO} : XL SK MT d 154 (247, lv, .ref 10 :: st, S) r ↔ XL SK MT d 154 (250, lv, .ref 9 :: st, S) r := X_heap rfl rfl rfl rfl rfl
theorem rX5_layPartial_250 {d : Nat} {lv : xLV} {st : List Value} {S : xS} {r : xO} : XL SK MT d 154 (250, lv, st, S) r ↔ XL SK MT d 154 (252, lv, .int 65545 :: st, S) r := X_pure rfl rfl rfl
theorem rX5_layPartial_252 {d : Nat} {lv : xLV} {S : xS} {r : xO} {x1 : Int32} : XL SK MT d 154 (252, lv, [.int x1, .ref 9], S) r ↔ xK (XC SK MT d 28 [.ref 9, .int x1] S) (fun v S => XL SK MT d 154 (255, lv, v.toList ++ [], S) r) := X_inv (n := 2) (kd := 2) (st0 := [.int x1, .ref 9]) rfl (Or.inr ⟨rfl, rfl⟩) rfl (Nat.le_of_ble_eq_true rfl) (Nat.le_of_ble_eq_true rfl) (by decide) rfl
theorem rX5_layPartial_255 {d : Nat} {lv : xLV} {st : List Value} {S : xS} {r : xO} : XL SK MT d 154 (255, lv, st, S) r ↔ xA (xlook lv 0) (fun x => XL SK MT d 154 (256, lv, .ref x :: st, S) r) := X_ldA rfl rfl (fun _ => rfl) rfl rfl rfl rfl
theorem rX5_layPartial_256 {d : Nat} {lv : xLV} {st : List Value} {S : xS} {r : xO} : XL SK MT d 154 (256, lv, .ref 10 :: st, S) r ↔ XL SK MT d 154 (259, lv, .ref 9 :: st, S) r := X_heap rfl rfl rfl rfl rfl
theorem rX5_layPartial_259 {d : Nat} {lv : xLV} {st : List Value} {S : xS} {r : xO} : XL SK MT d 154 (259, lv, st, S) r ↔ XL SK MT d 154 (261, lv, .int 8 :: st, S) r := X_pure rfl rfl rfl
theorem rX5_layPartial_261 {d : Nat} {lv : xLV} {st : List Value} {S : xS} {r : xO} : XL SK MT d 154 (261, lv, st, S) r ↔ XL SK MT d 154 (263, lv, .int (-4) :: st, S) r := X_pure rfl rfl rfl
theorem rX5_layPartial_263 {d : Nat} {lv : xLV} {st : List Value} {S : xS} {r : xO} : XL SK MT d 154 (263, lv, st, S) r ↔ XL SK MT d 154 (265, lv, .int 16 :: st, S) r := X_pure rfl rfl rfl
theorem rX5_layPartial_265 {d : Nat} {lv : xLV} {S : xS} {r : xO} {x1 : Int32} {x2 : Int32} {x3 : Int32} : XL SK MT d 154 (265, lv, [.int x3, .int x2, .int x1, .ref 9], S) r ↔ xK (XC SK MT d 18 [.ref 9, .int x1, .int x2, .int x3] S) (fun v S => XL SK MT d 154 (268, lv, v.toList ++ [], S) r) := X_inv (n := 4) (kd := 2) (st0 := [.int x3, .int x2, .int x1, .ref 9]) rfl (Or.inr ⟨rfl, rfl⟩) rfl (Nat.le_of_ble_eq_true rfl) (Nat.le_of_ble_eq_true rfl) (by decide) rfl
theorem rX5_layPartial_268 {d : Nat} {lv : xLV} {st : List Value} {S : xS} {r : xO} : XL SK MT d 154 (268, lv, st, S) r ↔ xA (xlook lv 0) (fun x => XL SK MT d 154 (269, lv, .ref x :: st, S) r) := X_ldA rfl rfl (fun _ => rfl) rfl rfl rfl rfl
theorem rX5_layPartial_269 {d : Nat} {lv : xLV} {st : List Value} {S : xS} {r : xO} : XL SK MT d 154 (269, lv, .ref 10 :: st, S) r ↔ XL SK MT d 154 (272, lv, .ref 9 :: st, S) r := X_heap rfl rfl rfl rfl rfl
theorem rX5_layPartial_272 {d : Nat} {lv : xLV} {st : List Value} {S : xS} {r : xO} : XL SK MT d 154 (272, lv, st, S) r ↔ XL SK MT d 154 (273, lv, .int 4 :: st, S) r := X_pure rfl rfl rfl
theorem rX5_layPartial_273 {d : Nat} {lv : xLV} {st : List Value} {S : xS} {r : xO} : XL SK MT d 154 (273, lv, st, S) r ↔ XL SK MT d 154 (274, lv, .int 2 :: st, S) r := X_pure rfl rfl rfl
theorem rX5_layPartial_274 {d : Nat} {lv : xLV} {S : xS} {r : xO} {x1 : Int32} {x2 : Int32} : XL SK MT d 154 (274, lv, [.int x2, .int x1, .ref 9], S) r ↔ xK (XC SK MT d 21 [.ref 9, .int x1, .int x2] S) (fun v S => XL SK MT d 154 (277, lv, v.toList ++ [], S) r) := X_inv (n := 3) (kd := 2) (st0 := [.int x2, .int x1, .ref 9]) rfl (Or.inr ⟨rfl, rfl⟩) rfl (Nat.le_of_ble_eq_true rfl) (Nat.le_of_ble_eq_true rfl) (by decide) rfl
theorem rX5_layPartial_277 {d : Nat} {lv : xLV} {st : List Value} {S : xS} {r : xO} : XL SK MT d 154 (277, lv, st, S) r ↔ xA (xlook lv 0) (fun x => XL SK MT d 154 (278, lv, .ref x :: st, S) r) := X_ldA rfl rfl (fun _ => rfl) rfl rfl rfl rfl
theorem rX5_layPartial_278 {d : Nat} {lv : xLV} {st : List Value} {S : xS} {r : xO} : XL SK MT d 154 (278, lv, .ref 10 :: st, S) r ↔ XL SK MT d 154 (281, lv, .ref 9 :: st, S) r := X_heap rfl rfl rfl rfl rfl
theorem rX5_layPartial_281 {d : Nat} {lv : xLV} {st : List Value} {S : xS} {r : xO} : XL SK MT d 154 (281, lv, st, S) r ↔ XL SK MT d 154 (282, lv, .int 3 :: st, S) r := X_pure rfl rfl rfl
theorem rX5_layPartial_282 {d : Nat} {lv : xLV} {st : List Value} {S : xS} {r : xO} : XL SK MT d 154 (282, lv, st, S) r ↔ XL SK MT d 154 (284, lv, .int 8 :: st, S) r := X_pure rfl rfl rfl
theorem rX5_layPartial_284 {d : Nat} {lv : xLV} {st : List Value} {S : xS} {r : xO} : XL SK MT d 154 (284, lv, st, S) r ↔ XL SK MT d 154 (286, lv, .int 8 :: st, S) r := X_pure rfl rfl rfl
theorem rX5_layPartial_286 {d : Nat} {lv : xLV} {st : List Value} {S : xS} {r : xO} : XL SK MT d 154 (286, lv, st, S) r ↔ XL SK MT d 154 (287, lv, .int 1 :: st, S) r := X_pure rfl rfl rfl
theorem rX5_layPartial_287 {d : Nat} {lv : xLV} {S : xS} {r : xO} {x1 : Int32} {x2 : Int32} {x3 : Int32} {x4 : Int32} : XL SK MT d 154 (287, lv, [.int x4, .int x3, .int x2, .int x1, .ref 9], S) r ↔ xK (XC SK MT d 16 [.ref 9, .int x1, .int x2, .int x3, .int x4] S) (fun v S => XL SK MT d 154 (290, lv, v.toList ++ [], S) r) := X_inv (n := 5) (kd := 2) (st0 := [.int x4, .int x3, .int x2, .int x1, .ref 9]) rfl (Or.inr ⟨rfl, rfl⟩) rfl (Nat.le_of_ble_eq_true rfl) (Nat.le_of_ble_eq_true rfl) (by decide) rfl
theorem rX5_layPartial_290 {d : Nat} {lv : xLV} {st : List Value} {S : xS} {r : xO} : XL SK MT d 154 (290, lv, st, S) r ↔ xA (xlook lv 0) (fun x => XL SK MT d 154 (291, lv, .ref x :: st, S) r) := X_ldA rfl rfl (fun _ => rfl) rfl rfl rfl rfl
theorem rX5_layPartial_291 {d : Nat} {lv : xLV} {st : List Value} {S : xS} {r : xO} : XL SK MT d 154 (291, lv, .ref 10 :: st, S) r ↔ XL SK MT d 154 (294, lv, .ref 9 :: st, S) r := X_heap rfl rfl rfl rfl rfl
theorem rX5_layPartial_294 {d : Nat} {lv : xLV} {st : List Value} {S : xS} {r : xO} : XL SK MT d 154 (294, lv, st, S) r ↔ XL SK MT d 154 (296, lv, .int 40 :: st, S) r := X_pure rfl rfl rfl
theorem rX5_layPartial_296 {d : Nat} {lv : xLV} {st : List Value} {S : xS} {r : xO} : XL SK MT d 154 (296, lv, st, S) r ↔ XL SK MT d 154 (298, lv, .int 8 :: st, S) r := X_pure rfl rfl rfl
theorem rX5_layPartial_298 {d : Nat} {lv : xLV} {st : List Value} {S : xS} {r : xO} : XL SK MT d 154 (298, lv, st, S) r ↔ XL SK MT d 154 (299, lv, .int 2 :: st, S) r := X_pure rfl rfl rfl
theorem rX5_layPartial_299 {d : Nat} {lv : xLV} {st : List Value} {S : xS} {r : xO} : XL SK MT d 154 (299, lv, st, S) r ↔ XL SK MT d 154 (300, lv, .int 4 :: st, S) r := X_pure rfl rfl rfl
theorem rX5_layPartial_300 {d : Nat} {lv : xLV} {S : xS} {r : xO} {x1 : Int32} {x2 : Int32} {x3 : Int32} {x4 : Int32} : XL SK MT d 154 (300, lv, [.int x4, .int x3, .int x2, .int x1, .ref 9], S) r ↔ xK (XC SK MT d 17 [.ref 9, .int x1, .int x2, .int x3, .int x4] S) (fun v S => XL SK MT d 154 (303, lv, v.toList ++ [], S) r) := X_inv (n := 5) (kd := 2) (st0 := [.int x4, .int x3, .int x2, .int x1, .ref 9]) rfl (Or.inr ⟨rfl, rfl⟩) rfl (Nat.le_of_ble_eq_true rfl) (Nat.le_of_ble_eq_true rfl) (by decide) rfl
theorem rX5_layPartial_303 {d : Nat} {lv : xLV} {st : List Value} {S : xS} {r : xO} : XL SK MT d 154 (303, lv, st, S) r ↔ xA (xlook lv 0) (fun x => XL SK MT d 154 (304, lv, .ref x :: st, S) r) := X_ldA rfl rfl (fun _ => rfl) rfl rfl rfl rfl
theorem rX5_layPartial_304 {d : Nat} {lv : xLV} {st : List Value} {S : xS} {r : xO} : XL SK MT d 154 (304, lv, .ref 10 :: st, S) r ↔ XL SK MT d 154 (307, lv, .ref 9 :: st, S) r := X_heap rfl rfl rfl rfl rfl
theorem rX5_layPartial_307 {d : Nat} {lv : xLV} {st : List Value} {S : xS} {r : xO} : XL SK MT d 154 (307, lv, st, S) r ↔ XL SK MT d 154 (309, lv, .int 65557 :: st, S) r := X_pure rfl rfl rfl
theorem rX5_layPartial_309 {d : Nat} {lv : xLV} {S : xS} {r : xO} {x1 : Int32} : XL SK MT d 154 (309, lv, [.int x1, .ref 9], S) r ↔ xK (XC SK MT d 27 [.ref 9, .int x1] S) (fun v S => XL SK MT d 154 (312, lv, v.toList ++ [], S) r) := X_inv (n := 2) (kd := 2) (st0 := [.int x1, .ref 9]) rfl (Or.inr ⟨rfl, rfl⟩) rfl (Nat.le_of_ble_eq_true rfl) (Nat.le_of_ble_eq_true rfl) (by decide) rfl
theorem rX5_layPartial_312 {d : Nat} {lv : xLV} {st : List Value} {S : xS} {r : xO} : XL SK MT d 154 (312, lv, st, S) r ↔ xA (xlook lv 0) (fun x => XL SK MT d 154 (313, lv, .ref x :: st, S) r) := X_ldA rfl rfl (fun _ => rfl) rfl rfl rfl rfl
theorem rX5_layPartial_313 {d : Nat} {lv : xLV} {st : List Value} {S : xS} {r : xO} : XL SK MT d 154 (313, lv, .ref 10 :: st, S) r ↔ XL SK MT d 154 (316, lv, .ref 9 :: st, S) r := X_heap rfl rfl rfl rfl rfl
theorem rX5_layPartial_316 {d : Nat} {lv : xLV} {st : List Value} {S : xS} {r : xO} : XL SK MT d 154 (316, lv, st, S) r ↔ XL SK MT d 154 (318, lv, .int 65570 :: st, S) r := X_pure rfl rfl rfl
theorem rX5_layPartial_318 {d : Nat} {lv : xLV} {S : xS} {r : xO} {x1 : Int32} : XL SK MT d 154 (318, lv, [.int x1, .ref 9], S) r ↔ xK (XC SK MT d 3 [.ref 9, .int x1] S) (fun v S => XL SK MT d 154 (321, lv, v.toList ++ [], S) r) := X_inv (n := 2) (kd := 2) (st0 := [.int x1, .ref 9]) rfl (Or.inr ⟨rfl, rfl⟩) rfl (Nat.le_of_ble_eq_true rfl) (Nat.le_of_ble_eq_true rfl) (by decide) rfl
theorem rX5_layPartial_321 {d : Nat} {lv : xLV} {st : List Value} {S : xS} {r : xO} : XL SK MT d 154 (321, lv, st, S) r ↔ xA (xlook lv 0) (fun x => XL SK MT d 154 (322, lv, .ref x :: st, S) r) := X_ldA rfl rfl (fun _ => rfl) rfl rfl rfl rfl
theorem rX5_layPartial_322 {d : Nat} {lv : xLV} {st : List Value} {S : xS} {r : xO} : XL SK MT d 154 (322, lv, .ref 10 :: st, S) r ↔ XL SK MT d 154 (325, lv, .ref 9 :: st, S) r := X_heap rfl rfl rfl rfl rfl
theorem rX5_layPartial_325 {d : Nat} {lv : xLV} {st : List Value} {S : xS} {r : xO} : XL SK MT d 154 (325, lv, st, S) r ↔ XL SK MT d 154 (327, lv, .int 8 :: st, S) r := X_pure rfl rfl rfl
theorem rX5_layPartial_327 {d : Nat} {lv : xLV} {st : List Value} {S : xS} {r : xO} : XL SK MT d 154 (327, lv, st, S) r ↔ XL SK MT d 154 (328, lv, .int 4 :: st, S) r := X_pure rfl rfl rfl
theorem rX5_layPartial_328 {d : Nat} {lv : xLV} {st : List Value} {S : xS} {r : xO} : XL SK MT d 154 (328, lv, st, S) r ↔ XL SK MT d 154 (329, lv, .int 5 :: st, S) r := X_pure rfl rfl rfl
theorem rX5_layPartial_329 {d : Nat} {lv : xLV} {S : xS} {r : xO} {x1 : Int32} {x2 : Int32} {x3 : Int32} : XL SK MT d 154 (329, lv, [.int x3, .int x2, .int x1, .ref 9], S) r ↔ xK (XC SK MT d 18 [.ref 9, .int x1, .int x2, .int x3] S) (fun v S => XL SK MT d 154 (332, lv, v.toList ++ [], S) r) := X_inv (n := 4) (kd := 2) (st0 := [.int x3, .int x2, .int x1, .ref 9]) rfl (Or.inr ⟨rfl, rfl⟩) rfl (Nat.le_of_ble_eq_true rfl) (Nat.le_of_ble_eq_true rfl) (by decide) rfl
theorem rX5_layPartial_332 {d : Nat} {lv : xLV} {st : List Value} {S : xS} {r : xO} : XL SK MT d 154 (332, lv, st, S) r ↔ xA (xlook lv 0) (fun x => XL SK MT d 154 (333, lv, .ref x :: st, S) r) := X_ldA rfl rfl (fun _ => rfl) rfl rfl rfl rfl
theorem rX5_layPartial_333 {d : Nat} {lv : xLV} {st : List Value} {S : xS} {r : xO} : XL SK MT d 154 (333, lv, .ref 10 :: st, S) r ↔ XL SK MT d 154 (336, lv, .ref 9 :: st, S) r := X_heap rfl rfl rfl rfl rfl
theorem rX5_layPartial_336 {d : Nat} {lv : xLV} {st : List Value} {S : xS} {r : xO} : XL SK MT d 154 (336, lv, st, S) r ↔ XL SK MT d 154 (338, lv, .int 9 :: st, S) r := X_pure rfl rfl rfl
theorem rX5_layPartial_338 {d : Nat} {lv : xLV} {st : List Value} {S : xS} {r : xO} : XL SK MT d 154 (338, lv, st, S) r ↔ XL SK MT d 154 (340, lv, .int 8 :: st, S) r := X_pure rfl rfl rfl
theorem rX5_layPartial_340 {d : Nat} {lv : xLV} {st : List Value} {S : xS} {r : xO} : XL SK MT d 154 (340, lv, st, S) r ↔ XL SK MT d 154 (341, lv, .int 5 :: st, S) r := X_pure rfl rfl rfl
theorem rX5_layPartial_341 {d : Nat} {lv : xLV} {S : xS} {r : xO} {x1 : Int32} {x2 : Int32} {x3 : Int32} : XL SK MT d 154 (341, lv, [.int x3, .int x2, .int x1, .ref 9], S) r ↔ xK (XC SK MT d 18 [.ref 9, .int x1, .int x2, .int x3] S) (fun v S => XL SK MT d 154 (344, lv, v.toList ++ [], S) r) := X_inv (n := 4) (kd := 2) (st0 := [.int x3, .int x2, .int x1, .ref 9]) rfl (Or.inr ⟨rfl, rfl⟩) rfl (Nat.le_of_ble_eq_true rfl) (Nat.le_of_ble_eq_true rfl) (by decide) rfl
theorem rX5_layPartial_344 {d : Nat} {lv : xLV} {st : List Value} {S : xS} {r : xO} : XL SK MT d 154 (344, lv, st, S) r ↔ xA (xlook lv 0) (fun x => XL SK MT d 154 (345, lv, .ref x :: st, S) r) := X_ldA rfl rfl (fun _ => rfl) rfl rfl rfl rfl
theorem rX5_layPartial_345 {d : Nat} {lv : xLV} {st : List Value} {S : xS} {r : xO} : XL SK MT d 154 (345, lv, .ref 10 :: st, S) r ↔ XL SK MT d 154 (348, lv, .ref 9 :: st, S) r := X_heap rfl rfl rfl rfl rfl
theorem rX5_layPartial_348 {d : Nat} {lv : xLV} {st : List Value} {S : xS} {r : xO} : XL SK MT d 154 (348, lv, st, S) r ↔ XL SK MT d 154 (350, lv, .int 10 :: st, S) r := X_pure rfl rfl rfl
theorem rX5_layPartial_350 {d : Nat} {lv : xLV} {st : List Value} {S : xS} {r : xO} : XL SK MT d 154 (350, lv, st, S) r ↔ XL SK MT d 154 (351, lv, .int 0 :: st, S) r := X_pure rfl rfl rfl
theorem rX5_layPartial_351 {d : Nat} {lv : xLV} {st : List Value} {S : xS} {r : xO} : XL SK MT d 154 (351, lv, st, S) r ↔ XL SK MT d 154 (353, lv, .int 8 :: st, S) r := X_pure rfl rfl rfl
theorem rX5_layPartial_353 {d : Nat} {lv : xLV} {S : xS} {r : xO} {x1 : Int32} {x2 : Int32} {x3 : Int32} : XL SK MT d 154 (353, lv, [.int x3, .int x2, .int x1, .ref 9], S) r ↔ xK (XC SK MT d 18 [.ref 9, .int x1, .int x2, .int x3] S) (fun v S => XL SK MT d 154 (356, lv, v.toList ++ [], S) r) := X_inv (n := 4) (kd := 2) (st0 := [.int x3, .int x2, .int x1, .ref 9]) rfl (Or.inr ⟨rfl, rfl⟩) rfl (Nat.le_of_ble_eq_true rfl) (Nat.le_of_ble_eq_true rfl) (by decide) rfl
theorem rX5_layPartial_356 {d : Nat} {lv : xLV} {st : List Value} {S : xS} {r : xO} : XL SK MT d 154 (356, lv, st, S) r ↔ xA (xlook lv 0) (fun x => XL SK MT d 154 (357, lv, .ref x :: st, S) r) := X_ldA rfl rfl (fun _ => rfl) rfl rfl rfl rfl
theorem rX5_layPartial_357 {d : Nat} {lv : xLV} {st : List Value} {S : xS} {r : xO} : XL SK MT d 154 (357, lv, .ref 10 :: st, S) r ↔ XL SK MT d 154 (360, lv, .ref 9 :: st, S) r := X_heap rfl rfl rfl rfl rfl
theorem rX5_layPartial_360 {d : Nat} {lv : xLV} {st : List Value} {S : xS} {r : xO} : XL SK MT d 154 (360, lv, st, S) r ↔ XL SK MT d 154 (361, lv, .int 3 :: st, S) r := X_pure rfl rfl rfl
theorem rX5_layPartial_361 {d : Nat} {lv : xLV} {st : List Value} {S : xS} {r : xO} : XL SK MT d 154 (361, lv, st, S) r ↔ XL SK MT d 154 (363, lv, .int 9 :: st, S) r := X_pure rfl rfl rfl
theorem rX5_layPartial_363 {d : Nat} {lv : xLV} {st : List Value} {S : xS} {r : xO} : XL SK MT d 154 (363, lv, st, S) r ↔ XL SK MT d 154 (365, lv, .int 9 :: st, S) r := X_pure rfl rfl rfl
theorem rX5_layPartial_365 {d : Nat} {lv : xLV} {st : List Value} {S : xS} {r : xO} : XL SK MT d 154 (365, lv, st, S) r ↔ XL SK MT d 154 (366, lv, .int 1 :: st, S) r := X_pure rfl rfl rfl
theorem rX5_layPartial_366 {d : Nat} {lv : xLV} {S : xS} {r : xO} {x1 : Int32} {x2 : Int32} {x3 : Int32} {x4 : Int32} : XL SK MT d 154 (366, lv, [.int x4, .int x3, .int x2, .int x1, .ref 9], S) r ↔ xK (XC SK MT d 16 [.ref 9, .int x1, .int x2, .int x3, .int x4] S) (fun v S => XL SK MT d 154 (369, lv, v.toList ++ [], S) r) := X_inv (n := 5) (kd := 2) (st0 := [.int x4, .int x3, .int x2, .int x1, .ref 9]) rfl (Or.inr ⟨rfl, rfl⟩) rfl (Nat.le_of_ble_eq_true rfl) (Nat.le_of_ble_eq_true rfl) (by decide) rfl
theorem rX5_layPartial_369 {d : Nat} {lv : xLV} {st : List Value} {S : xS} {r : xO} : XL SK MT d 154 (369, lv, st, S) r ↔ xA (xlook lv 0) (fun x => XL SK MT d 154 (370, lv, .ref x :: st, S) r) := X_ldA rfl rfl (fun _ => rfl) rfl rfl rfl rfl
theorem rX5_layPartial_370 {d : Nat} {lv : xLV} {st : List Value} {S : xS} {r : xO} : XL SK MT d 154 (370, lv, .ref 10 :: st, S) r ↔ XL SK MT d 154 (373, lv, .ref 9 :: st, S) r := X_heap rfl rfl rfl rfl rfl
theorem rX5_layPartial_373 {d : Nat} {lv : xLV} {st : List Value} {S : xS} {r : xO} : XL SK MT d 154 (373, lv, st, S) r ↔ XL SK MT d 154 (374, lv, .int 2 :: st, S) r := X_pure rfl rfl rfl
theorem rX5_layPartial_374 {d : Nat} {lv : xLV} {st : List Value} {S : xS} {r : xO} : XL SK MT d 154 (374, lv, st, S) r ↔ XL SK MT d 154 (376, lv, .int 10 :: st, S) r := X_pure rfl rfl rfl
theorem rX5_layPartial_376 {d : Nat} {lv : xLV} {st : List Value} {S : xS} {r : xO} : XL SK MT d 154 (376, lv, st, S) r ↔ XL SK MT d 154 (378, lv, .int 10 :: st, S) r := X_pure rfl rfl rfl
theorem rX5_layPartial_378 {d : Nat} {lv : xLV} {st : List Value} {S : xS} {r : xO} : XL SK MT d 154 (378, lv, st, S) r ↔ XL SK MT d 154 (379, lv, .int 3 :: st, S) r := X_pure rfl rfl rfl
theorem rX5_layPartial_379 {d : Nat} {lv : xLV} {S : xS} {r : xO} {x1 : Int32} {x2 : Int32} {x3 : Int32} {x4 : Int32} : XL SK MT d 154 (379, lv, [.int x4, .int x3, .int x2, .int x1, .ref 9], S) r ↔ xK (XC SK MT d 16 [.ref 9, .int x1, .int x2, .int x3, .int x4] S) (fun v S => XL SK MT d 154 (382, lv, v.toList ++ [], S) r) := X_inv (n := 5) (kd := 2) (st0 := [.int x4, .int x3, .int x2, .int x1, .ref 9]) rfl (Or.inr ⟨rfl, rfl⟩) rfl (Nat.le_of_ble_eq_true rfl) (Nat.le_of_ble_eq_true rfl) (by decide) rfl
theorem rX5_layPartial_382 {d : Nat} {lv : xLV} {st : List Value} {S : xS} {r : xO} : XL SK MT d 154 (382, lv, st, S) r ↔ xA (xlook lv 0) (fun x => XL SK MT d 154 (383, lv, .ref x :: st, S) r) := X_ldA rfl rfl (fun _ => rfl) rfl rfl rfl rfl
theorem rX5_layPartial_383 {d : Nat} {lv : xLV} {st : List Value} {S : xS} {r : xO} : XL SK MT d 154 (383, lv, .ref 10 :: st, S) r ↔ XL SK MT d 154 (386, lv, .ref 9 :: st, S) r := X_heap rfl rfl rfl rfl rfl
theorem rX5_layPartial_386 {d : Nat} {lv : xLV} {st : List Value} {S : xS} {r : xO} : XL SK MT d 154 (386, lv, st, S) r ↔ XL SK MT d 154 (388, lv, .int 43 :: st, S) r := X_pure rfl rfl rfl
theorem rX5_layPartial_388 {d : Nat} {lv : xLV} {st : List Value} {S : xS} {r : xO} : XL SK MT d 154 (388, lv, st, S) r ↔ XL SK MT d 154 (390, lv, .int 11 :: st, S) r := X_pure rfl rfl rfl
theorem rX5_layPartial_390 {d : Nat} {lv : xLV} {st : List Value} {S : xS} {r : xO} : XL SK MT d 154 (390, lv, st, S) r ↔ XL SK MT d 154 (392, lv, .int 9 :: st, S) r := X_pure rfl rfl rfl
theorem rX5_layPartial_392 {d : Nat} {lv : xLV} {st : List Value} {S : xS} {r : xO} : XL SK MT d 154 (392, lv, st, S) r ↔ XL SK MT d 154 (394, lv, .int 10 :: st, S) r := X_pure rfl rfl rfl
theorem rX5_layPartial_394 {d : Nat} {lv : xLV} {S : xS} {r : xO} {x1 : Int32} {x2 : Int32} {x3 : Int32} {x4 : Int32} : XL SK MT d 154 (394, lv, [.int x4, .int x3, .int x2, .int x1, .ref 9], S) r ↔ xK (XC SK MT d 15 [.ref 9, .int x1, .int x2, .int x3, .int x4] S) (fun v S => XL SK MT d 154 (397, lv, v.toList ++ [], S) r) := X_inv (n := 5) (kd := 2) (st0 := [.int x4, .int x3, .int x2, .int x1, .ref 9]) rfl (Or.inr ⟨rfl, rfl⟩) rfl (Nat.le_of_ble_eq_true rfl) (Nat.le_of_ble_eq_true rfl) (by decide) rfl
theorem rX5_layPartial_397 {d : Nat} {lv : xLV} {st : List Value} {S : xS} {r : xO} : XL SK MT d 154 (397, lv, st, S) r ↔ xA (xlook lv 0) (fun x => XL SK MT d 154 (398, lv, .ref x :: st, S) r) := X_ldA rfl rfl (fun _ => rfl) rfl rfl rfl rfl
theorem rX5_layPartial_398 {d : Nat} {lv : xLV} {st : List Value} {S : xS} {r : xO} : XL SK MT d 154 (398, lv, .ref 10 :: st, S) r ↔ XL SK MT d 154 (401, lv, .ref 9 :: st, S) r := X_heap rfl rfl rfl rfl rfl
theorem rX5_layPartial_401 {d : Nat} {lv : xLV} {st : List Value} {S : xS} {r : xO} : XL SK MT d 154 (401, lv, st, S) r ↔ XL SK MT d 154 (402, lv, .int 4 :: st, S) r := X_pure rfl rfl rfl
theorem rX5_layPartial_402 {d : Nat} {lv : xLV} {st : List Value} {S : xS} {r : xO} : XL SK MT d 154 (402, lv, st, S) r ↔ XL SK MT d 154 (404, lv, .int 11 :: st, S) r := X_pure rfl rfl rfl
theorem rX5_layPartial_404 {d : Nat} {lv : xLV} {st : List Value} {S : xS} {r : xO} : XL SK MT d 154 (404, lv, st, S) r ↔ XL SK MT d 154 (405, lv, .int 0 :: st, S) r := X_pure rfl rfl rfl
theorem rX5_layPartial_405 {d : Nat} {lv : xLV} {st : List Value} {S : xS} {r : xO} : XL SK MT d 154 (405, lv, st, S) r ↔ xI (xlook lv 1) (fun x => XL SK MT d 154 (406, lv, .int x :: st, S) r) := X_ldI rfl rfl (fun _ => rfl) rfl rfl rfl rfl
theorem rX5_layPartial_406 {d : Nat} {lv : xLV} {S : xS} {r : xO} {x1 : Int32} {x2 : Int32} {x3 : Int32} {x4 : Int32} : XL SK MT d 154 (406, lv, [.int x4, .int x3, .int x2, .int x1, .ref 9], S) r ↔ xK (XC SK MT d 24 [.ref 9, .int x1, .int x2, .int x3, .int x4] S) (fun v S => XL SK MT d 154 (409, lv, v.toList ++ [], S) r) := X_inv (n := 5) (kd := 2) (st0 := [.int x4, .int x3, .int x2, .int x1, .ref 9]) rfl (Or.inr ⟨rfl, rfl⟩) rfl (Nat.le_of_ble_eq_true rfl) (Nat.le_of_ble_eq_true rfl) (by decide) rfl
theorem rX5_layPartial_409 {d : Nat} {lv : xLV} {st : List Value} {S : xS} {r : xO} : XL SK MT d 154 (409, lv, st, S) r ↔ xA (xlook lv 0) (fun x => XL SK MT d 154 (410, lv, .ref x :: st, S) r) := X_ldA rfl rfl (fun _ => rfl) rfl rfl rfl rfl
theorem rX5_layPartial_410 {d : Nat} {lv : xLV} {st : List Value} {S : xS} {r : xO} : XL SK MT d 154 (410, lv, .ref 10 :: st, S) r ↔ XL SK MT d 154 (413, lv, .ref 9 :: st, S) r := X_heap rfl rfl rfl rfl rfl
theorem rX5_layPartial_413 {d : Nat} {lv : xLV} {st : List Value} {S : xS} {r : xO} : XL SK MT d 154 (413, lv, st, S) r ↔ XL SK MT d 154 (415, lv, .int 33 :: st, S) r := X_pure rfl rfl rfl
theorem rX5_layPartial_415 {d : Nat} {lv : xLV} {st : List Value} {S : xS} {r : xO} : XL SK MT d 154 (415, lv, st, S) r ↔ XL SK MT d 154 (417, lv, .int 8 :: st, S) r := X_pure rfl rfl rfl
theorem rX5_layPartial_417 {d : Nat} {lv : xLV} {st : List Value} {S : xS} {r : xO} : XL SK MT d 154 (417, lv, st, S) r ↔ XL SK MT d 154 (419, lv, .int 8 :: st, S) r := X_pure rfl rfl rfl
theorem rX5_layPartial_419 {d : Nat} {lv : xLV} {st : List Value} {S : xS} {r : xO} : XL SK MT d 154 (419, lv, st, S) r ↔ XL SK MT d 154 (421, lv, .int 9 :: st, S) r := X_pure rfl rfl rfl
theorem rX5_layPartial_421 {d : Nat} {lv : xLV} {S : xS} {r : xO} {x1 : Int32} {x2 : Int32} {x3 : Int32} {x4 : Int32} : XL SK MT d 154 (421, lv, [.int x4, .int x3, .int x2, .int x1, .ref 9], S) r ↔ xK (XC SK MT d 15 [.ref 9, .int x1, .int x2, .int x3, .int x4] S) (fun v S => XL SK MT d 154 (424, lv, v.toList ++ [], S) r) := X_inv (n := 5) (kd := 2) (st0 := [.int x4, .int x3, .int x2, .int x1, .ref 9]) rfl (Or.inr ⟨rfl, rfl⟩) rfl (Nat.le_of_ble_eq_true rfl) (Nat.le_of_ble_eq_true rfl) (by decide) rfl
theorem rX5_layPartial_424 {d : Nat} {lv : xLV} {st : List Value} {S : xS} {r : xO} : XL SK MT d 154 (424, lv, st, S) r ↔ xA (xlook lv 0) (fun x => XL SK MT d 154 (425, lv, .ref x :: st, S) r) := X_ldA rfl rfl (fun _ => rfl) rfl rfl rfl rfl
theorem rX5_layPartial_425 {d : Nat} {lv : xLV} {st : List Value} {S : xS} {r : xO} : XL SK MT d 154 (425, lv, .ref 10 :: st, S) r ↔ XL SK MT d 154 (428, lv, .ref 9 :: st, S) r := X_heap rfl rfl rfl rfl rfl
theorem rX5_layPartial_428 {d : Nat} {lv : xLV} {st : List Value} {S : xS} {r : xO} : XL SK MT d 154 (428, lv, st, S) r ↔ XL SK MT d 154 (430, lv, .int 36 :: st, S) r := X_pure rfl rfl rfl
theorem rX5_layPartial_430 {d : Nat} {lv : xLV} {st : List Value} {S : xS} {r : xO} : XL SK MT d 154 (430, lv, st, S) r ↔ XL SK MT d 154 (432, lv, .int 8 :: st, S) r := X_pure rfl rfl rfl
theorem rX5_layPartial_432 {d : Nat} {lv : xLV} {st : List Value} {S : xS} {r : xO} : XL SK MT d 154 (432, lv, st, S) r ↔ XL SK MT d 154 (434, lv, .int 8 :: st, S) r := X_pure rfl rfl rfl
theorem rX5_layPartial_434 {d : Nat} {lv : xLV} {st : List Value} {S : xS} {r : xO} : XL SK MT d 154 (434, lv, st, S) r ↔ XL SK MT d 154 (435, lv, .int 4 :: st, S) r := X_pure rfl rfl rfl
theorem rX5_layPartial_435 {d : Nat} {lv : xLV} {S : xS} {r : xO} {x1 : Int32} {x2 : Int32} {x3 : Int32} {x4 : Int32} : XL SK MT d 154 (435, lv, [.int x4, .int x3, .int x2, .int x1, .ref 9], S) r ↔ xK (XC SK MT d 17 [.ref 9, .int x1, .int x2, .int x3, .int x4] S) (fun v S => XL SK MT d 154 (438, lv, v.toList ++ [], S) r) := X_inv (n := 5) (kd := 2) (st0 := [.int x4, .int x3, .int x2, .int x1, .ref 9]) rfl (Or.inr ⟨rfl, rfl⟩) rfl (Nat.le_of_ble_eq_true rfl) (Nat.le_of_ble_eq_true rfl) (by decide) rfl
theorem rX5_layPartial_438 {d : Nat} {lv : xLV} {st : List Value} {S : xS} {r : xO} : XL SK MT d 154 (438, lv, st, S) r ↔ xA (xlook lv 0) (fun x => XL SK MT d 154 (439, lv, .ref x :: st, S) r) := X_ldA rfl rfl (fun _ => rfl) rfl rfl rfl rfl
theorem rX5_layPartial_439 {d : Nat} {lv : xLV} {st : List Value} {S : xS} {r : xO} : XL SK MT d 154 (439, lv, .ref 10 :: st, S) r ↔ XL SK MT d 154 (442, lv, .ref 9 :: st, S) r := X_heap rfl rfl rfl rfl rfl
theorem rX5_layPartial_442 {d : Nat} {lv : xLV} {st : List Value} {S : xS} {r : xO} : XL SK MT d 154 (442, lv, st, S) r ↔ XL SK MT d 154 (443, lv, .int 0 :: st, S) r := X_pure rfl rfl rfl
theorem rX5_layPartial_443 {d : Nat} {lv : xLV} {st : List Value} {S : xS} {r : xO} : XL SK MT d 154 (443, lv, st, S) r ↔ XL SK MT d 154 (445, lv, .int 8 :: st, S) r := X_pure rfl rfl rfl
theorem rX5_layPartial_445 {d : Nat} {lv : xLV} {st : List Value} {S : xS} {r : xO} : XL SK MT d 154 (445, lv, st, S) r ↔ XL SK MT d 154 (447, lv, .int 8 :: st, S) r := X_pure rfl rfl rfl
theorem rX5_layPartial_447 {d : Nat} {lv : xLV} {st : List Value} {S : xS} {r : xO} : XL SK MT d 154 (447, lv, st, S) r ↔ XL SK MT d 154 (448, lv, .int 1 :: st, S) r := X_pure rfl rfl rfl
theorem rX5_layPartial_448 {d : Nat} {lv : xLV} {S : xS} {r : xO} {x1 : Int32} {x2 : Int32} {x3 : Int32} {x4 : Int32} : XL SK MT d 154 (448, lv, [.int x4, .int x3, .int x2, .int x1, .ref 9], S) r ↔ xK (XC SK MT d 16 [.ref 9, .int x1, .int x2, .int x3, .int x4] S) (fun v S => XL SK MT d 154 (451, lv, v.toList ++ [], S) r) := X_inv (n := 5) (kd := 2) (st0 := [.int x4, .int x3, .int x2, .int x1, .ref 9]) rfl (Or.inr ⟨rfl, rfl⟩) rfl (Nat.le_of_ble_eq_true rfl) (Nat.le_of_ble_eq_true rfl) (by decide) rfl
theorem rX5_layPartial_451 {d : Nat} {lv : xLV} {st : List Value} {S : xS} {r : xO} : XL SK MT d 154 (451, lv, st, S) r ↔ xA (xlook lv 0) (fun x => XL SK MT d 154 (452, lv, .ref x :: st, S) r) := X_ldA rfl rfl (fun _ => rfl) rfl rfl rfl rfl
theorem rX5_layPartial_452 {d : Nat} {lv : xLV} {st : List Value} {S : xS} {r : xO} : XL SK MT d 154 (452, lv, .ref 10 :: st, S) r ↔ XL SK MT d 154 (455, lv, .ref 9 :: st, S) r := X_heap rfl rfl rfl rfl rfl
theorem rX5_layPartial_455 {d : Nat} {lv : xLV} {st : List Value} {S : xS} {r : xO} : XL SK MT d 154 (455, lv, st, S) r ↔ XL SK MT d 154 (456, lv, .int 4 :: st, S) r := X_pure rfl rfl rfl
theorem rX5_layPartial_456 {d : Nat} {lv : xLV} {st : List Value} {S : xS} {r : xO} : XL SK MT d 154 (456, lv, st, S) r ↔ XL SK MT d 154 (458, lv, .int 8 :: st, S) r := X_pure rfl rfl rfl
theorem rX5_layPartial_458 {d : Nat} {lv : xLV} {st : List Value} {S : xS} {r : xO} : XL SK MT d 154 (458, lv, st, S) r ↔ XL SK MT d 154 (459, lv, .int 1 :: st, S) r := X_pure rfl rfl rfl
theorem rX5_layPartial_459 {d : Nat} {lv : xLV} {S : xS} {r : xO} {x1 : Int32} {x2 : Int32} {x3 : Int32} : XL SK MT d 154 (459, lv, [.int x3, .int x2, .int x1, .ref 9], S) r ↔ xK (XC SK MT d 20 [.ref 9, .int x1, .int x2, .int x3] S) (fun v S => XL SK MT d 154 (462, lv, v.toList ++ [], S) r) := X_inv (n := 4) (kd := 2) (st0 := [.int x3, .int x2, .int x1, .ref 9]) rfl (Or.inr ⟨rfl, rfl⟩) rfl (Nat.le_of_ble_eq_true rfl) (Nat.le_of_ble_eq_true rfl) (by decide) rfl
theorem rX5_layPartial_462 {d : Nat} {lv : xLV} {st : List Value} {S : xS} {r : xO} : XL SK MT d 154 (462, lv, st, S) r ↔ xA (xlook lv 0) (fun x => XL SK MT d 154 (463, lv, .ref x :: st, S) r) := X_ldA rfl rfl (fun _ => rfl) rfl rfl rfl rfl
theorem rX5_layPartial_463 {d : Nat} {lv : xLV} {st : List Value} {S : xS} {r : xO} : XL SK MT d 154 (463, lv, .ref 10 :: st, S) r ↔ XL SK MT d 154 (466, lv, .ref 9 :: st, S) r := X_heap rfl rfl rfl rfl rfl
theorem rX5_layPartial_466 {d : Nat} {lv : xLV} {st : List Value} {S : xS} {r : xO} : XL SK MT d 154 (466, lv, st, S) r ↔ XL SK MT d 154 (468, lv, .int 65557 :: st, S) r := X_pure rfl rfl rfl
theorem rX5_layPartial_468 {d : Nat} {lv : xLV} {S : xS} {r : xO} {x1 : Int32} : XL SK MT d 154 (468, lv, [.int x1, .ref 9], S) r ↔ xK (XC SK MT d 27 [.ref 9, .int x1] S) (fun v S => XL SK MT d 154 (471, lv, v.toList ++ [], S) r) := X_inv (n := 2) (kd := 2) (st0 := [.int x1, .ref 9]) rfl (Or.inr ⟨rfl, rfl⟩) rfl (Nat.le_of_ble_eq_true rfl) (Nat.le_of_ble_eq_true rfl) (by decide) rfl
theorem rX5_layPartial_471 {d : Nat} {lv : xLV} {st : List Value} {S : xS} {r : xO} : XL SK MT d 154 (471, lv, st, S) r ↔ xA (xlook lv 0) (fun x => XL SK MT d 154 (472, lv, .ref x :: st, S) r) := X_ldA rfl rfl (fun _ => rfl) rfl rfl rfl rfl
theorem rX5_layPartial_472 {d : Nat} {lv : xLV} {st : List Value} {S : xS} {r : xO} : XL SK MT d 154 (472, lv, .ref 10 :: st, S) r ↔ XL SK MT d 154 (475, lv, .ref 9 :: st, S) r := X_heap rfl rfl rfl rfl rfl
theorem rX5_layPartial_475 {d : Nat} {lv : xLV} {st : List Value} {S : xS} {r : xO} : XL SK MT d 154 (475, lv, st, S) r ↔ xI (xlook lv 1) (fun x => XL SK MT d 154 (476, lv, .int x :: st, S) r) := X_ldI rfl rfl (fun _ => rfl) rfl rfl rfl rfl
theorem rX5_layPartial_476 {d : Nat} {lv : xLV} {S : xS} {r : xO} {x1 : Int32} : XL SK MT d 154 (476, lv, [.int x1, .ref 9], S) r ↔ xK (XC SK MT d 3 [.ref 9, .int x1] S) (fun v S => XL SK MT d 154 (479, lv, v.toList ++ [], S) r) := X_inv (n := 2) (kd := 2) (st0 := [.int x1, .ref 9]) rfl (Or.inr ⟨rfl, rfl⟩) rfl (Nat.le_of_ble_eq_true rfl) (Nat.le_of_ble_eq_true rfl) (by decide) rfl
theorem rX5_layPartial_479 {d : Nat} {lv : xLV} {st : List Value} {S : xS} {r : xO} : XL SK MT d 154 (479, lv, st, S) r ↔ xA (xlook lv 0) (fun x => XL SK MT d 154 (480, lv, .ref x :: st, S) r) := X_ldA rfl rfl (fun _ => rfl) rfl rfl rfl rfl
theorem rX5_layPartial_480 {d : Nat} {lv : xLV} {st : List Value} {S : xS} {r : xO} : XL SK MT d 154 (480, lv, .ref 10 :: st, S) r ↔ XL SK MT d 154 (483, lv, .ref 9 :: st, S) r := X_heap rfl rfl rfl rfl rfl
theorem rX5_layPartial_483 {d : Nat} {lv : xLV} {st : List Value} {S : xS} {r : xO} : XL SK MT d 154 (483, lv, st, S) r ↔ XL SK MT d 154 (484, lv, .int 4 :: st, S) r := X_pure rfl rfl rfl
theorem rX5_layPartial_484 {d : Nat} {lv : xLV} {st : List Value} {S : xS} {r : xO} : XL SK MT d 154 (484, lv, st, S) r ↔ XL SK MT d 154 (486, lv, .int 30 :: st, S) r := X_pure rfl rfl rfl
theorem rX5_layPartial_486 {d : Nat} {lv : xLV} {S : xS} {r : xO} {x1 : Int32} {x2 : Int32} : XL SK MT d 154 (486, lv, [.int x2, .int x1, .ref 9], S) r ↔ xK (XC SK MT d 22 [.ref 9, .int x1, .int x2] S) (fun v S => XL SK MT d 154 (489, lv, v.toList ++ [], S) r) := X_inv (n := 3) (kd := 2) (st0 := [.int x2, .int x1, .ref 9]) rfl (Or.inr ⟨rfl, rfl⟩) rfl (Nat.le_of_ble_eq_true rfl) (Nat.le_of_ble_eq_true rfl) (by decide) rfl
theorem rX5_layPartial_489 {d : Nat} {lv : xLV} {st : List Value} {S : xS} {r : xO} : XL SK MT d 154 (489, lv, st, S) r ↔ xA (xlook lv 0) (fun x => XL SK MT d 154 (490, lv, .ref x :: st, S) r) := X_ldA rfl rfl (fun _ => rfl) rfl rfl rfl rfl
theorem rX5_layPartial_490 {d : Nat} {lv : xLV} {st : List Value} {S : xS} {r : xO} : XL SK MT d 154 (490, lv, .ref 10 :: st, S) r ↔ XL SK MT d 154 (493, lv, .ref 9 :: st, S) r := X_heap rfl rfl rfl rfl rfl
theorem rX5_layPartial_493 {d : Nat} {lv : xLV} {st : List Value} {S : xS} {r : xO} : XL SK MT d 154 (493, lv, st, S) r ↔ XL SK MT d 154 (495, lv, .int 65550 :: st, S) r := X_pure rfl rfl rfl
theorem rX5_layPartial_495 {d : Nat} {lv : xLV} {S : xS} {r : xO} {x1 : Int32} : XL SK MT d 154 (495, lv, [.int x1, .ref 9], S) r ↔ xK (XC SK MT d 27 [.ref 9, .int x1] S) (fun v S => XL SK MT d 154 (498, lv, v.toList ++ [], S) r) := X_inv (n := 2) (kd := 2) (st0 := [.int x1, .ref 9]) rfl (Or.inr ⟨rfl, rfl⟩) rfl (Nat.le_of_ble_eq_true rfl) (Nat.le_of_ble_eq_true rfl) (by decide) rfl
theorem rX5_layPartial_498 {d : Nat} {lv : xLV} {st : List Value} {S : xS} {r : xO} : XL SK MT d 154 (498, lv, st, S) r ↔ xA (xlook lv 0) (fun x => XL SK MT d 154 (499, lv, .ref x :: st, S) r) := X_ldA rfl rfl (fun _ => rfl) rfl rfl rfl rfl
theorem rX5_layPartial_499 {d : Nat} {lv : xLV} {st : List Value} {S : xS} {r : xO} : XL SK MT d 154 (499, lv, .ref 10 :: st, S) r ↔ XL SK MT d 154 (502, lv, .ref 9 :: st, S) r := X_heap rfl rfl rfl rfl rfl
theorem rX5_layPartial_502 {d : Nat} {lv : xLV} {st : List Value} {S : xS} {r : xO} : XL SK MT d 154 (502, lv, st, S) r ↔ xI (xlook lv 2) (fun x => XL SK MT d 154 (503, lv, .int x :: st, S) r) := X_ldI rfl rfl (fun _ => rfl) rfl rfl rfl rfl
theorem rX5_layPartial_503 {d : Nat} {lv : xLV} {S : xS} {r : xO} {x1 : Int32} : XL SK MT d 154 (503, lv, [.int x1, .ref 9], S) r ↔ xK (XC SK MT d 3 [.ref 9, .int x1] S) (fun v S => XL SK MT d 154 (506, lv, v.toList ++ [], S) r) := X_inv (n := 2) (kd := 2) (st0 := [.int x1, .ref 9]) rfl (Or.inr ⟨rfl, rfl⟩) rfl (Nat.le_of_ble_eq_true rfl) (Nat.le_of_ble_eq_true rfl) (by decide) rfl
theorem rX5_layPartial_506 {d : Nat} {lv : xLV} {st : List Value} {S : xS} {r : xO} : XL SK MT d 154 (506, lv, st, S) r ↔ xA (xlook lv 0) (fun x => XL SK MT d 154 (507, lv, .ref x :: st, S) r) := X_ldA rfl rfl (fun _ => rfl) rfl rfl rfl rfl
theorem rX5_layPartial_507 {d : Nat} {lv : xLV} {st : List Value} {S : xS} {r : xO} : XL SK MT d 154 (507, lv, .ref 10 :: st, S) r ↔ XL SK MT d 154 (510, lv, .ref 9 :: st, S) r := X_heap rfl rfl rfl rfl rfl
theorem rX5_layPartial_510 {d : Nat} {lv : xLV} {st : List Value} {S : xS} {r : xO} : XL SK MT d 154 (510, lv, st, S) r ↔ XL SK MT d 154 (511, lv, .int 4 :: st, S) r := X_pure rfl rfl rfl
theorem rX5_layPartial_511 {d : Nat} {lv : xLV} {st : List Value} {S : xS} {r : xO} : XL SK MT d 154 (511, lv, st, S) r ↔ XL SK MT d 154 (513, lv, .int 34 :: st, S) r := X_pure rfl rfl rfl
theorem rX5_layPartial_513 {d : Nat} {lv : xLV} {S : xS} {r : xO} {x1 : Int32} {x2 : Int32} : XL SK MT d 154 (513, lv, [.int x2, .int x1, .ref 9], S) r ↔ xK (XC SK MT d 22 [.ref 9, .int x1, .int x2] S) (fun v S => XL SK MT d 154 (516, lv, v.toList ++ [], S) r) := X_inv (n := 3) (kd := 2) (st0 := [.int x2, .int x1, .ref 9]) rfl (Or.inr ⟨rfl, rfl⟩) rfl (Nat.le_of_ble_eq_true rfl) (Nat.le_of_ble_eq_true rfl) (by decide) rfl
theorem rX5_layPartial_516 {d : Nat} {lv : xLV} {st : List Value} {S : xS} {r : xO} : XL SK MT d 154 (516, lv, st, S) r ↔ xA (xlook lv 0) (fun x => XL SK MT d 154 (517, lv, .ref x :: st, S) r) := X_ldA rfl rfl (fun _ => rfl) rfl rfl rfl rfl
theorem rX5_layPartial_517 {d : Nat} {lv : xLV} {st : List Value} {S : xS} {r : xO} : XL SK MT d 154 (517, lv, .ref 10 :: st, S) r ↔ XL SK MT d 154 (520, lv, .ref 9 :: st, S) r := X_heap rfl rfl rfl rfl rfl
theorem rX5_layPartial_520 {d : Nat} {lv : xLV} {st : List Value} {S : xS} {r : xO} : XL SK MT d 154 (520, lv, st, S) r ↔ XL SK MT d 154 (522, lv, .int 65550 :: st, S) r := X_pure rfl rfl rfl
theorem rX5_layPartial_522 {d : Nat} {lv : xLV} {S : xS} {r : xO} {x1 : Int32} : XL SK MT d 154 (522, lv, [.int x1, .ref 9], S) r ↔ xK (XC SK MT d 27 [.ref 9, .int x1] S) (fun v S => XL SK MT d 154 (525, lv, v.toList ++ [], S) r) := X_inv (n := 2) (kd := 2) (st0 := [.int x1, .ref 9]) rfl (Or.inr ⟨rfl, rfl⟩) rfl (Nat.le_of_ble_eq_true rfl) (Nat.le_of_ble_eq_true rfl) (by decide) rfl
theorem rX5_layPartial_525 {d : Nat} {lv : xLV} {S : xS} {r : xO} : XL SK MT d 154 (525, lv, [], S) r ↔ (none, S) = r := X_ret rfl rfl rfl rfl rfl rfl

theorem rX5_layGiven_0 {d : Nat} {lv : xLV} {st : List Value} {S : xS} {r : xO} : XL SK MT d 155 (0, lv, st, S) r ↔ xA (xlook lv 0) (fun x => XL SK MT d 155 (1, lv, .ref x :: st, S) r) := X_ldA rfl rfl (fun _ => rfl) rfl rfl rfl rfl
theorem rX5_layGiven_1 {d : Nat} {lv : xLV} {st : List Value} {S : xS} {r : xO} : XL SK MT d 155 (1, lv, .ref 10 :: st, S) r ↔ XL SK MT d 155 (4, lv, .ref 9 :: st, S) r := X_heap rfl rfl rfl rfl rfl
theorem rX5_layGiven_4 {d : Nat} {lv : xLV} {S : xS} {r : xO} : XL SK MT d 155 (4, lv, [.ref 9], S) r ↔ xK (XC SK MT d 1 [.ref 9] S) (fun v S => XL SK MT d 155 (7, lv, v.toList ++ [], S) r) := X_inv (n := 1) (kd := 2) (st0 := [.ref 9]) rfl (Or.inr ⟨rfl, rfl⟩) rfl (Nat.le_of_ble_eq_true rfl) (Nat.le_of_ble_eq_true rfl) (by decide) rfl
theorem rX5_layGiven_7 {d : Nat} {lv : xLV} {st : List Value} {S : xS} {r : xO} {x : Int32} : XL SK MT d 155 (7, lv, .int x :: st, S) r ↔ XL SK MT d 155 (8, xst1 lv 1 (.int x), st, S) r := X_pure rfl rfl rfl
theorem rX5_layGiven_8 {d : Nat} {lv : xLV} {st : List Value} {S : xS} {r : xO} : XL SK MT d 155 (8, lv, st, S) r ↔ xA (xlook lv 0) (fun x => XL SK MT d 155 (9, lv, .ref x :: st, S) r) := X_ldA rfl rfl (fun _ => rfl) rfl rfl rfl rfl
theorem rX5_layGiven_9 {d : Nat} {lv : xLV} {st : List Value} {S : xS} {r : xO} : XL SK MT d 155 (9, lv, .ref 10 :: st, S) r ↔ XL SK MT d 155 (12, lv, .ref 9 :: st, S) r := X_heap rfl rfl rfl rfl rfl
theorem rX5_layGiven_12 {d : Nat} {lv : xLV} {st : List Value} {S : xS} {r : xO} : XL SK MT d 155 (12, lv, st, S) r ↔ XL SK MT d 155 (14, lv, .int 65571 :: st, S) r := X_pure rfl rfl rfl
theorem rX5_layGiven_14 {d : Nat} {lv : xLV} {S : xS} {r : xO} {x1 : Int32} : XL SK MT d 155 (14, lv, [.int x1, .ref 9], S) r ↔ xK (XC SK MT d 3 [.ref 9, .int x1] S) (fun v S => XL SK MT d 155 (17, lv, v.toList ++ [], S) r) := X_inv (n := 2) (kd := 2) (st0 := [.int x1, .ref 9]) rfl (Or.inr ⟨rfl, rfl⟩) rfl (Nat.le_of_ble_eq_true rfl) (Nat.le_of_ble_eq_true rfl) (by decide) rfl
theorem rX5_layGiven_17 {d : Nat} {lv : xLV} {st : List Value} {S : xS} {r : xO} : XL SK MT d 155 (17, lv, st, S) r ↔ xA (xlook lv 0) (fun x => XL SK MT d 155 (18, lv, .ref x :: st, S) r) := X_ldA rfl rfl (fun _ => rfl) rfl rfl rfl rfl
theorem rX5_layGiven_18 {d : Nat} {lv : xLV} {st : List Value} {S : xS} {r : xO} : XL SK MT d 155 (18, lv, .ref 10 :: st, S) r ↔ XL SK MT d 155 (21, lv, .ref 9 :: st, S) r := X_heap rfl rfl rfl rfl rfl
theorem rX5_layGiven_21 {d : Nat} {lv : xLV} {st : List Value} {S : xS} {r : xO} : XL SK MT d 155 (21, lv, st, S) r ↔ XL SK MT d 155 (23, lv, .int 10 :: st, S) r := X_pure rfl rfl rfl
theorem rX5_layGiven_23 {d : Nat} {lv : xLV} {st : List Value} {S : xS} {r : xO} : XL SK MT d 155 (23, lv, st, S) r ↔ XL SK MT d 155 (26, lv, .int 1108 :: st, S) r := X_pure rfl rfl rfl
theorem rX5_layGiven_26 {d : Nat} {lv : xLV} {st : List Value} {S : xS} {r : xO} : XL SK MT d 155 (26, lv, st, S) r ↔ XL SK MT d 155 (27, lv, .int 0 :: st, S) r := X_pure rfl rfl rfl
theorem rX5_layGiven_27 {d : Nat} {lv : xLV} {S : xS} {r : xO} {x1 : Int32} {x2 : Int32} {x3 : Int32} : XL SK MT d 155 (27, lv, [.int x3, .int x2, .int x1, .ref 9], S) r ↔ xK (XC SK MT d 18 [.ref 9, .int x1, .int x2, .int x3] S) (fun v S => XL SK MT d 155 (30, lv, v.toList ++ [], S) r) := X_inv (n := 4) (kd := 2) (st0 := [.int x3, .int x2, .int x1, .ref 9]) rfl (Or.inr ⟨rfl, rfl⟩) rfl (Nat.le_of_ble_eq_true rfl) (Nat.le_of_ble_eq_true rfl) (by decide) rfl
theorem rX5_layGiven_30 {d : Nat} {lv : xLV} {st : List Value} {S : xS} {r : xO} : XL SK MT d 155 (30, lv, st, S) r ↔ xA (xlook lv 0) (fun x => XL SK MT d 155 (31, lv, .ref x :: st, S) r) := X_ldA rfl rfl (fun _ => rfl) rfl rfl rfl rfl
theorem rX5_layGiven_31 {d : Nat} {lv : xLV} {st : List Value} {S : xS} {r : xO} : XL SK MT d 155 (31, lv, .ref 10 :: st, S) r ↔ XL SK MT d 155 (34, lv, .ref 9 :: st, S) r := X_heap rfl rfl rfl rfl rfl
theorem rX5_layGiven_34 {d : Nat} {lv : xLV} {st : List Value} {S : xS} {r : xO} : XL SK MT d 155 (34, lv, st, S) r ↔ XL SK MT d 155 (35, lv, .int 3 :: st, S) r := X_pure rfl rfl rfl
theorem rX5_layGiven_35 {d : Nat} {lv : xLV} {st : List Value} {S : xS} {r : xO} : XL SK MT d 155 (35, lv, st, S) r ↔ XL SK MT d 155 (37, lv, .int 9 :: st, S) r := X_pure rfl rfl rfl
theorem rX5_layGiven_37 {d : Nat} {lv : xLV} {st : List Value} {S : xS} {r : xO} : XL SK MT d 155 (37, lv, st, S) r ↔ XL SK MT d 155 (38, lv, .int 5 :: st, S) r := X_pure rfl rfl rfl
theorem rX5_layGiven_38 {d : Nat} {lv : xLV} {st : List Value} {S : xS} {r : xO} : XL SK MT d 155 (38, lv, st, S) r ↔ XL SK MT d 155 (39, lv, .int 1 :: st, S) r := X_pure rfl rfl rfl
theorem rX5_layGiven_39 {d : Nat} {lv : xLV} {S : xS} {r : xO} {x1 : Int32} {x2 : Int32} {x3 : Int32} {x4 : Int32} : XL SK MT d 155 (39, lv, [.int x4, .int x3, .int x2, .int x1, .ref 9], S) r ↔ xK (XC SK MT d 16 [.ref 9, .int x1, .int x2, .int x3, .int x4] S) (fun v S => XL SK MT d 155 (42, lv, v.toList ++ [], S) r) := X_inv (n := 5) (kd := 2) (st0 := [.int x4, .int x3, .int x2, .int x1, .ref 9]) rfl (Or.inr ⟨rfl, rfl⟩) rfl (Nat.le_of_ble_eq_true rfl) (Nat.le_of_ble_eq_true rfl) (by decide) rfl
theorem rX5_layGiven_42 {d : Nat} {lv : xLV} {st : List Value} {S : xS} {r : xO} : XL SK MT d 155 (42, lv, st, S) r ↔ xA (xlook lv 0) (fun x => XL SK MT d 155 (43, lv, .ref x :: st, S) r) := X_ldA rfl rfl (fun _ => rfl) rfl rfl rfl rfl
theorem rX5_layGiven_43 {d : Nat} {lv : xLV} {st : List Value} {S : xS} {r : xO} : XL SK MT d 155 (43, lv, .ref 10 :: st, S) r ↔ XL SK MT d 155 (46, lv, .ref 9 :: st, S) r := X_heap rfl rfl rfl rfl rfl
theorem rX5_layGiven_46 {d : Nat} {lv : xLV} {st : List Value} {S : xS} {r : xO} : XL SK MT d 155 (46, lv, st, S) r ↔ XL SK MT d 155 (48, lv, .int 43 :: st, S) r := X_pure rfl rfl rfl
theorem rX5_layGiven_48 {d : Nat} {lv : xLV} {st : List Value} {S : xS} {r : xO} : XL SK MT d 155 (48, lv, st, S) r ↔ XL SK MT d 155 (50, lv, .int 11 :: st, S) r := X_pure rfl rfl rfl
theorem rX5_layGiven_50 {d : Nat} {lv : xLV} {st : List Value} {S : xS} {r : xO} : XL SK MT d 155 (50, lv, st, S) r ↔ XL SK MT d 155 (52, lv, .int 9 :: st, S) r := X_pure rfl rfl rfl
theorem rX5_layGiven_52 {d : Nat} {lv : xLV} {st : List Value} {S : xS} {r : xO} : XL SK MT d 155 (52, lv, st, S) r ↔ XL SK MT d 155 (54, lv, .int 10 :: st, S) r := X_pure rfl rfl rfl
theorem rX5_layGiven_54 {d : Nat} {lv : xLV} {S : xS} {r : xO} {x1 : Int32} {x2 : Int32} {x3 : Int32} {x4 : Int32} : XL SK MT d 155 (54, lv, [.int x4, .int x3, .int x2, .int x1, .ref 9], S) r ↔ xK (XC SK MT d 15 [.ref 9, .int x1, .int x2, .int x3, .int x4] S) (fun v S => XL SK MT d 155 (57, lv, v.toList ++ [], S) r) := X_inv (n := 5) (kd := 2) (st0 := [.int x4, .int x3, .int x2, .int x1, .ref 9]) rfl (Or.inr ⟨rfl, rfl⟩) rfl (Nat.le_of_ble_eq_true rfl) (Nat.le_of_ble_eq_true rfl) (by decide) rfl
theorem rX5_layGiven_57 {d : Nat} {lv : xLV} {st : List Value} {S : xS} {r : xO} : XL SK MT d 155 (57, lv, st, S) r ↔ xA (xlook lv 0) (fun x => XL SK MT d 155 (58, lv, .ref x :: st, S) r) := X_ldA rfl rfl (fun _ => rfl) rfl rfl rfl rfl
theorem rX5_layGiven_58 {d : Nat} {lv : xLV} {st : List Value} {S : xS} {r : xO} : XL SK MT d 155 (58, lv, .ref 10 :: st, S) r ↔ XL SK MT d 155 (61, lv, .ref 9 :: st, S) r := X_heap rfl rfl rfl rfl rfl
theorem rX5_layGiven_61 {d : Nat} {lv : xLV} {st : List Value} {S : xS} {r : xO} : XL SK MT d 155 (61, lv, st, S) r ↔ XL SK MT d 155 (62, lv, .int 4 :: st, S) r := X_pure rfl rfl rfl
theorem rX5_layGiven_62 {d : Nat} {lv : xLV} {st : List Value} {S : xS} {r : xO} : XL SK MT d 155 (62, lv, st, S) r ↔ XL SK MT d 155 (64, lv, .int 11 :: st, S) r := X_pure rfl rfl rfl
theorem rX5_layGiven_64 {d : Nat} {lv : xLV} {st : List Value} {S : xS} {r : xO} : XL SK MT d 155 (64, lv, st, S) r ↔ XL SK MT d 155 (65, lv, .int 0 :: st, S) r := X_pure rfl rfl rfl
theorem rX5_layGiven_65 {d : Nat} {lv : xLV} {st : List Value} {S : xS} {r : xO} : XL SK MT d 155 (65, lv, st, S) r ↔ xI (xlook lv 1) (fun x => XL SK MT d 155 (66, lv, .int x :: st, S) r) := X_ldI rfl rfl (fun _ => rfl) rfl rfl rfl rfl
theorem rX5_layGiven_66 {d : Nat} {lv : xLV} {S : xS} {r : xO} {x1 : Int32} {x2 : Int32} {x3 : Int32} {x4 : Int32} : XL SK MT d 155 (66, lv, [.int x4, .int x3, .int x2, .int x1, .ref 9], S) r ↔ xK (XC SK MT d 24 [.ref 9, .int x1, .int x2, .int x3, .int x4] S) (fun v S => XL SK MT d 155 (69, lv, v.toList ++ [], S) r) := X_inv (n := 5) (kd := 2) (st0 := [.int x4, .int x3, .int x2, .int x1, .ref 9]) rfl (Or.inr ⟨rfl, rfl⟩) rfl (Nat.le_of_ble_eq_true rfl) (Nat.le_of_ble_eq_true rfl) (by decide) rfl
theorem rX5_layGiven_69 {d : Nat} {lv : xLV} {st : List Value} {S : xS} {r : xO} : XL SK MT d 155 (69, lv, st, S) r ↔ xA (xlook lv 0) (fun x => XL SK MT d 155 (70, lv, .ref x :: st, S) r) := X_ldA rfl rfl (fun _ => rfl) rfl rfl rfl rfl
theorem rX5_layGiven_70 {d : Nat} {lv : xLV} {st : List Value} {S : xS} {r : xO} : XL SK MT d 155 (70, lv, .ref 10 :: st, S) r ↔ XL SK MT d 155 (73, lv, .ref 9 :: st, S) r := X_heap rfl rfl rfl rfl rfl
theorem rX5_layGiven_73 {d : Nat} {lv : xLV} {st : List Value} {S : xS} {r : xO} : XL SK MT d 155 (73, lv, st, S) r ↔ XL SK MT d 155 (74, lv, .int 0 :: st, S) r := X_pure rfl rfl rfl
theorem rX5_layGiven_74 {d : Nat} {lv : xLV} {st : List Value} {S : xS} {r : xO} : XL SK MT d 155 (74, lv, st, S) r ↔ XL SK MT d 155 (76, lv, .int 9 :: st, S) r := X_pure rfl rfl rfl
theorem rX5_layGiven_76 {d : Nat} {lv : xLV} {st : List Value} {S : xS} {r : xO} : XL SK MT d 155 (76, lv, st, S) r ↔ XL SK MT d 155 (78, lv, .int 9 :: st, S) r := X_pure rfl rfl rfl
theorem rX5_layGiven_78 {d : Nat} {lv : xLV} {st : List Value} {S : xS} {r : xO} : XL SK MT d 155 (78, lv, st, S) r ↔ XL SK MT d 155 (79, lv, .int 2 :: st, S) r := X_pure rfl rfl rfl
theorem rX5_layGiven_79 {d : Nat} {lv : xLV} {S : xS} {r : xO} {x1 : Int32} {x2 : Int32} {x3 : Int32} {x4 : Int32} : XL SK MT d 155 (79, lv, [.int x4, .int x3, .int x2, .int x1, .ref 9], S) r ↔ xK (XC SK MT d 16 [.ref 9, .int x1, .int x2, .int x3, .int x4] S) (fun v S => XL SK MT d 155 (82, lv, v.toList ++ [], S) r) := X_inv (n := 5) (kd := 2) (st0 := [.int x4, .int x3, .int x2, .int x1, .ref 9]) rfl (Or.inr ⟨rfl, rfl⟩) rfl (Nat.le_of_ble_eq_true rfl) (Nat.le_of_ble_eq_true rfl) (by decide) rfl
theorem rX5_layGiven_82 {d : Nat} {lv : xLV} {st : List Value} {S : xS} {r : xO} : XL SK MT d 155 (82, lv, st, S) r ↔ xA (xlook lv 0) (fun x => XL SK MT d 155 (83, lv, .ref x :: st, S) r) := X_ldA rfl rfl (fun _ => rfl) rfl rfl rfl rfl
theorem rX5_layGiven_83 {d : Nat} {lv : xLV} {st : List Value} {S : xS} {r : xO} : XL SK MT d 155 (83, lv, .ref 10 :: st, S) r ↔ XL SK MT d 155 (86, lv, .ref 9 :: st, S) r := X_heap rfl rfl rfl rfl rfl
theorem rX5_layGiven_86 {d : Nat} {lv : xLV} {st : List Value} {S : xS} {r : xO} : XL SK MT d 155 (86, lv, st, S) r ↔ XL SK MT d 155 (87, lv, .int 4 :: st, S) r := X_pure rfl rfl rfl
theorem rX5_layGiven_87 {d : Nat} {lv : xLV} {st : List Value} {S : xS} {r : xO} : XL SK MT d 155 (87, lv, st, S) r ↔ XL SK MT d 155 (90, lv, .int 1344 :: st, S) r := X_pure rfl rfl rfl
theorem rX5_layGiven_90 {d : Nat} {lv : xLV} {st : List Value} {S : xS} {r : xO} : XL SK MT d 155 (90, lv, st, S) r ↔ XL SK MT d 155 (92, lv, .int 9 :: st, S) r := X_pure rfl rfl rfl
theorem rX5_layGiven_92 {d : Nat} {lv : xLV} {S : xS} {r : xO} {x1 : Int32} {x2 : Int32} {x3 : Int32} : XL SK MT d 155 (92, lv, [.int x3, .int x2, .int x1, .ref 9], S) r ↔ xK (XC SK MT d 18 [.ref 9, .int x1, .int x2, .int x3] S) (fun v S => XL SK MT d 155 (95, lv, v.toList ++ [], S) r) := X_inv (n := 4) (kd := 2) (st0 := [.int x3, .int x2, .int x1, .ref 9]) rfl (Or.inr ⟨rfl, rfl⟩) rfl (Nat.le_of_ble_eq_true rfl) (Nat.le_of_ble_eq_true rfl) (by decide) rfl
theorem rX5_layGiven_95 {d : Nat} {lv : xLV} {st : List Value} {S : xS} {r : xO} : XL SK MT d 155 (95, lv, st, S) r ↔ xA (xlook lv 0) (fun x => XL SK MT d 155 (96, lv, .ref x :: st, S) r) := X_ldA rfl rfl (fun _ => rfl) rfl rfl rfl rfl
theorem rX5_layGiven_96 {d : Nat} {lv : xLV} {st : List Value} {S : xS} {r : xO} : XL SK MT d 155 (96, lv, .ref 10 :: st, S) r ↔ XL SK MT d 155 (99, lv, .ref 9 :: st, S) r := X_heap rfl rfl rfl rfl rfl
theorem rX5_layGiven_99 {d : Nat} {lv : xLV} {st : List Value} {S : xS} {r : xO} : XL SK MT d 155 (99, lv, st, S) r ↔ XL SK MT d 155 (101, lv, .int 65557 :: st, S) r := X_pure rfl rfl rfl
theorem rX5_layGiven_101 {d : Nat} {lv : xLV} {S : xS} {r : xO} {x1 : Int32} : XL SK MT d 155 (101, lv, [.int x1, .ref 9], S) r ↔ xK (XC SK MT d 27 [.ref 9, .int x1] S) (fun v S => XL SK MT d 155 (104, lv, v.toList ++ [], S) r) := X_inv (n := 2) (kd := 2) (st0 := [.int x1, .ref 9]) rfl (Or.inr ⟨rfl, rfl⟩) rfl (Nat.le_of_ble_eq_true rfl) (Nat.le_of_ble_eq_true rfl) (by decide) rfl
theorem rX5_layGiven_104 {d : Nat} {lv : xLV} {st : List Value} {S : xS} {r : xO} : XL SK MT d 155 (104, lv, st, S) r ↔ xA (xlook lv 0) (fun x => XL SK MT d 155 (105, lv, .ref x :: st, S) r) := X_ldA rfl rfl (fun _ => rfl) rfl rfl rfl rfl
theorem rX5_layGiven_105 {d : Nat} {lv : xLV} {st : List Value} {S : xS} {r : xO} : XL SK MT d 155 (105, lv, .ref 10 :: st, S) r ↔ XL SK MT d 155 (108, lv, .ref 9 :: st, S) r := X_heap rfl rfl rfl rfl rfl
theorem rX5_layGiven_108 {d : Nat} {lv : xLV} {st : List Value} {S : xS} {r : xO} : XL SK MT d 155 (108, lv, st, S) r ↔ xI (xlook lv 1) (fun x => XL SK MT d 155 (109, lv, .int x :: st, S) r) := X_ldI rfl rfl (fun _ => rfl) rfl rfl rfl rfl
theorem rX5_layGiven_109 {d : Nat} {lv : xLV} {S : xS} {r : xO} {x1 : Int32} : XL SK MT d 155 (109, lv, [.int x1, .ref 9], S) r ↔ xK (XC SK MT d 3 [.ref 9, .int x1] S) (fun v S => XL SK MT d 155 (112, lv, v.toList ++ [], S) r) := X_inv (n := 2) (kd := 2) (st0 := [.int x1, .ref 9]) rfl (Or.inr ⟨rfl, rfl⟩) rfl (Nat.le_of_ble_eq_true rfl) (Nat.le_of_ble_eq_true rfl) (by decide) rfl
theorem rX5_layGiven_112 {d : Nat} {lv : xLV} {st : List Value} {S : xS} {r : xO} : XL SK MT d 155 (112, lv, st, S) r ↔ xA (xlook lv 0) (fun x => XL SK MT d 155 (113, lv, .ref x :: st, S) r) := X_ldA rfl rfl (fun _ => rfl) rfl rfl rfl rfl
theorem rX5_layGiven_113 {d : Nat} {lv : xLV} {st : List Value} {S : xS} {r : xO} : XL SK MT d 155 (113, lv, .ref 10 :: st, S) r ↔ XL SK MT d 155 (116, lv, .ref 9 :: st, S) r := X_heap rfl rfl rfl rfl rfl
theorem rX5_layGiven_116 {d : Nat} {lv : xLV} {st : List Value} {S : xS} {r : xO} : XL SK MT d 155 (116, lv, st, S) r ↔ XL SK MT d 155 (117, lv, .int 4 :: st, S) r := X_pure rfl rfl rfl
theorem rX5_layGiven_117 {d : Nat} {lv : xLV} {st : List Value} {S : xS} {r : xO} : XL SK MT d 155 (117, lv, st, S) r ↔ XL SK MT d 155 (119, lv, .int 30 :: st, S) r := X_pure rfl rfl rfl
theorem rX5_layGiven_119 {d : Nat} {lv : xLV} {S : xS} {r : xO} {x1 : Int32} {x2 : Int32} : XL SK MT d 155 (119, lv, [.int x2, .int x1, .ref 9], S) r ↔ xK (XC SK MT d 22 [.ref 9, .int x1, .int x2] S) (fun v S => XL SK MT d 155 (122, lv, v.toList ++ [], S) r) := X_inv (n := 3) (kd := 2) (st0 := [.int x2, .int x1, .ref 9]) rfl (Or.inr ⟨rfl, rfl⟩) rfl (Nat.le_of_ble_eq_true rfl) (Nat.le_of_ble_eq_true rfl) (by decide) rfl
theorem rX5_layGiven_122 {d : Nat} {lv : xLV} {st : List Value} {S : xS} {r : xO} : XL SK MT d 155 (122, lv, st, S) r ↔ xA (xlook lv 0) (fun x => XL SK MT d 155 (123, lv, .ref x :: st, S) r) := X_ldA rfl rfl (fun _ => rfl) rfl rfl rfl rfl
theorem rX5_layGiven_123 {d : Nat} {lv : xLV} {st : List Value} {S : xS} {r : xO} : XL SK MT d 155 (123, lv, .ref 10 :: st, S) r ↔ XL SK MT d 155 (126, lv, .ref 9 :: st, S) r := X_heap rfl rfl rfl rfl rfl
theorem rX5_layGiven_126 {d : Nat} {lv : xLV} {st : List Value} {S : xS} {r : xO} : XL SK MT d 155 (126, lv, st, S) r ↔ XL SK MT d 155 (128, lv, .int 65550 :: st, S) r := X_pure rfl rfl rfl
theorem rX5_layGiven_128 {d : Nat} {lv : xLV} {S : xS} {r : xO} {x1 : Int32} : XL SK MT d 155 (128, lv, [.int x1, .ref 9], S) r ↔ xK (XC SK MT d 27 [.ref 9, .int x1] S) (fun v S => XL SK MT d 155 (131, lv, v.toList ++ [], S) r) := X_inv (n := 2) (kd := 2) (st0 := [.int x1, .ref 9]) rfl (Or.inr ⟨rfl, rfl⟩) rfl (Nat.le_of_ble_eq_true rfl) (Nat.le_of_ble_eq_true rfl) (by decide) rfl
theorem rX5_layGiven_131 {d : Nat} {lv : xLV} {S : xS} {r : xO} : XL SK MT d 155 (131, lv, [], S) r ↔ (none, S) = r := X_ret rfl rfl rfl rfl rfl rfl

/-! Library: layOutput, layPartial, layGiven. -/
def pL_layOutput (a0 : PA) : PA :=
  let a1 := pLd a0 65559
  let a2 := pLb a1
  let a3 := pEm a2 (wLw 13 1104 0)
  let a4 := pEm a3 (wImm 11 14 13 2000)
  let a5 := pLp a4 (wBr 4 14 0) 65609
  let a6 := pEm a5 (wImm 40 4 13 1792)
  let a7 := pLd a6 65609
  let a8 := pEm a7 (wAdd 13 13 1)
  let a9 := pEm a8 (wSw 13 1104 0)
  let a10 := pLp a9 (wJr 31) (-1)
  let a11 := pLb a10
  let a12 := pLd a11 65565
  let a13 := pEm a12 (wLw 8 0 5)
  let a14 := pEm a13 (wAdd 9 5 4)
  let a15 := pEm a14 (wShift 2 8 8 3)
  let a16 := pEm a15 (wThree 33 10 9 8)
  let a17 := pLd (pLb a16) 65611
  let a18 := pLp a17 (wBr 4 9 10) 65610
  let a19 := pEm a18 (wImm 36 4 9 0)
  let a20 := pLp a19 wJal 65559
  let a21 := pEm a20 (wAdd 9 9 1)
  let a22 := pLp a21 wJ 65611
  let a23 := pLd a22 65566
  let a24 := pLp a23 wJal 65548
  let a25 := pSe a24 13 10
  let a26 := pEm a25 (wImm 40 13 10 0)
  let a27 := pEm a26 (wAdd 10 10 1)
  let a28 := pLp a27 wJ 65611
  let a29 := pLd a28 65610
  let a30 := pSe a29 4 12290
  let a31 := pLp a30 wJ 65557
  a31
set_option maxHeartbeats 4000000 in
set_option maxRecDepth 100000 in
theorem l_layOutput {S0 S : xS} {a0 : PA} (h : AS S0 S a0) (hq : a0.own = 65609) : ∃ S', (∀ d, XC SK MT (d + 5) 153 [.ref 10] S = some (none, S')) ∧ AS S0 S' (pL_layOutput a0) := by
  obtain ⟨S1, e1, h1⟩ := o_land h 65559
  obtain ⟨S2, n0, e2, z0, h2⟩ := o_label h1
  have y0 : n0 = 65609 := by rw [z0]; simp only [pEm_own, pSe_own, pLp_own, pLd_own, pSt_own, pSc_own, pLb_own, pL_size_own, pL_copyWords_own, pL_step_own, pL_enterObject_own, hq] <;> rfl
  subst y0
  obtain ⟨S3, e3, h3⟩ := o_lw h2 13 1104 0
  obtain ⟨S4, e4, h4⟩ := o_immediate h3 11 14 13 2000
  obtain ⟨S5, e5, h5⟩ := o_branch h4 4 14 0 65609
  obtain ⟨S6, e6, h6⟩ := o_immediate h5 40 4 13 1792
  obtain ⟨S7, e7, h7⟩ := o_land h6 65609
  obtain ⟨S8, e8, h8⟩ := o_add h7 13 13 1
  obtain ⟨S9, e9, h9⟩ := o_sw h8 13 1104 0
  obtain ⟨S10, e10, h10⟩ := o_back h9 31
  obtain ⟨S11, n1, e11, z1, h11⟩ := o_label h10
  have y1 : n1 = 65610 := by rw [z1]; simp only [pEm_own, pSe_own, pLp_own, pLd_own, pSt_own, pSc_own, pLb_own, pL_size_own, pL_copyWords_own, pL_step_own, pL_enterObject_own, hq] <;> rfl
  subst y1
  obtain ⟨S12, e12, h12⟩ := o_land h11 65565
  obtain ⟨S13, e13, h13⟩ := o_lw h12 8 0 5
  obtain ⟨S14, e14, h14⟩ := o_add h13 9 5 4
  obtain ⟨S15, e15, h15⟩ := o_shift h14 2 8 8 3
  obtain ⟨S16, e16, h16⟩ := o_three h15 33 10 9 8
  obtain ⟨S17, n2, e17, z2, h17⟩ := o_labelHere h16
  rw [← z2] at h17
  have y2 : n2 = 65611 := by rw [z2]; simp only [pEm_own, pSe_own, pLp_own, pLd_own, pSt_own, pSc_own, pLb_own, pL_size_own, pL_copyWords_own, pL_step_own, pL_enterObject_own, hq] <;> rfl
  subst y2
  obtain ⟨S18, e18, h18⟩ := o_branch h17 4 9 10 65610
  obtain ⟨S19, e19, h19⟩ := o_immediate h18 36 4 9 0
  obtain ⟨S20, e20, h20⟩ := o_jumpAndLink h19 65559
  obtain ⟨S21, e21, h21⟩ := o_add h20 9 9 1
  obtain ⟨S22, e22, h22⟩ := o_jump h21 65611
  obtain ⟨S23, e23, h23⟩ := o_land h22 65566
  obtain ⟨S24, e24, h24⟩ := o_jumpAndLink h23 65548
  obtain ⟨S25, e25, h25⟩ := o_set h24 13 10
  obtain ⟨S26, e26, h26⟩ := o_immediate h25 40 13 10 0
  obtain ⟨S27, e27, h27⟩ := o_add h26 10 10 1
  obtain ⟨S28, e28, h28⟩ := o_jump h27 65611
  obtain ⟨S29, e29, h29⟩ := o_land h28 65610
  obtain ⟨S30, e30, h30⟩ := o_set h29 4 12290
  obtain ⟨S31, e31, h31⟩ := o_jump h30 65557
  refine ⟨S31, fun d => ?_, ?_⟩
  · rw [XC_iff]
    refine ⟨Nat.le_of_ble_eq_true rfl, ?_⟩
    show XL SK MT (d + 4) 153 (0, [some (.ref 10), none, none, none], [], S) _
    simp (config := { decide := true }) only [rX5_layOutput_0, rX5_layOutput_1, rX5_layOutput_4, rX5_layOutput_6, rX5_layOutput_9, rX5_layOutput_10, rX5_layOutput_13, rX5_layOutput_16, rX5_layOutput_17, rX5_layOutput_18, rX5_layOutput_21, rX5_layOutput_23, rX5_layOutput_26, rX5_layOutput_27, rX5_layOutput_30, rX5_layOutput_31, rX5_layOutput_34, rX5_layOutput_36, rX5_layOutput_38, rX5_layOutput_40, rX5_layOutput_43, rX5_layOutput_46, rX5_layOutput_47, rX5_layOutput_50, rX5_layOutput_51, rX5_layOutput_53, rX5_layOutput_54, rX5_layOutput_55, rX5_layOutput_58, rX5_layOutput_59, rX5_layOutput_62, rX5_layOutput_64, rX5_layOutput_65, rX5_layOutput_67, rX5_layOutput_70, rX5_layOutput_73, rX5_layOutput_74, rX5_layOutput_77, rX5_layOutput_78, rX5_layOutput_81, rX5_layOutput_82, rX5_layOutput_85, rX5_layOutput_87, rX5_layOutput_89, rX5_layOutput_90, rX5_layOutput_93, rX5_layOutput_94, rX5_layOutput_97, rX5_layOutput_99, rX5_layOutput_102, rX5_layOutput_103, rX5_layOutput_106, rX5_layOutput_107, rX5_layOutput_110, rX5_layOutput_112, rX5_layOutput_115, rX5_layOutput_116, rX5_layOutput_119, rX5_layOutput_122, rX5_layOutput_123, rX5_layOutput_124, rX5_layOutput_127, rX5_layOutput_129, rX5_layOutput_132, rX5_layOutput_133, rX5_layOutput_136, rX5_layOutput_138, rX5_layOutput_139, rX5_layOutput_140, rX5_layOutput_143, rX5_layOutput_144, rX5_layOutput_147, rX5_layOutput_149, rX5_layOutput_150, rX5_layOutput_151, rX5_layOutput_154, rX5_layOutput_155, rX5_layOutput_158, rX5_layOutput_159, rX5_layOutput_161, rX5_layOutput_163, rX5_layOutput_164, rX5_layOutput_167, rX5_layOutput_168, rX5_layOutput_171, rX5_layOutput_173, rX5_layOutput_175, rX5_layOutput_177, rX5_layOutput_179, rX5_layOutput_182, rX5_layOutput_183, rX5_layOutput_186, rX5_layOutput_189, rX5_layOutput_190, rX5_layOutput_191, rX5_layOutput_194, rX5_layOutput_195, rX5_layOutput_197, rX5_layOutput_199, rX5_layOutput_200, rX5_layOutput_203, rX5_layOutput_204, rX5_layOutput_207, rX5_layOutput_209, rX5_layOutput_210, rX5_layOutput_212, rX5_layOutput_213, rX5_layOutput_216, rX5_layOutput_217, rX5_layOutput_220, rX5_layOutput_222, rX5_layOutput_225, rX5_layOutput_226, rX5_layOutput_229, rX5_layOutput_231, rX5_layOutput_233, rX5_layOutput_234, rX5_layOutput_237, rX5_layOutput_238, rX5_layOutput_241, rX5_layOutput_242, rX5_layOutput_245, rX5_layOutput_246, rX5_layOutput_249, rX5_layOutput_251, rX5_layOutput_254, rX5_layOutput_255, rX5_layOutput_258, rX5_layOutput_260, rX5_layOutput_263, rX5_layOutput_264, rX5_layOutput_267, rX5_layOutput_269, rX5_layOutput_271, rX5_layOutput_274, rX5_layOutput_275, rX5_layOutput_278, rX5_layOutput_280, rX5_layOutput_282, rX5_layOutput_284, rX5_layOutput_285, rX5_layOutput_288, rX5_layOutput_289, rX5_layOutput_292, rX5_layOutput_294, rX5_layOutput_296, rX5_layOutput_297, rX5_layOutput_300, rX5_layOutput_301, rX5_layOutput_304, rX5_layOutput_305, rX5_layOutput_308, rX5_layOutput_309, rX5_layOutput_312, rX5_layOutput_313, rX5_layOutput_316, rX5_layOutput_317, rX5_layOutput_320, rX5_layOutput_321, rX5_layOutput_324, rX5_layOutput_327, rX5_layOutput_328, rX5_layOutput_331, rX5_layOutput_333, rX5_layOutput_336, ↓reduceIte, m1_le, m1_lt, m1_eq, ofInt_m1, ex_ret, Int32.reduceAdd, Int32.reduceSub, Int32.reduceMul, Int32.reduceLT, Int32.reduceLE, xsI, Nat.reduceEqDiff, and_false, false_and, and_true, true_and, if_true, if_false, ite_true, ite_false, xlook_0, xlook_s, xI_int, xA_ref, xJ_long, xK_some, xRow_row, xTo_some, xst1, xclr, List.set_cons_zero, List.set_cons_succ, xsum_nil, xsum_int, xsum_ref, xsum_long, Option.toList_some, Option.toList_none, List.nil_append, List.cons_append, e1, e2, e3, e4, e5, e6, e7, e8, e9, e10, e11, e12, e13, e14, e15, e16, e17, e18, e19, e20, e21, e22, e23, e24, e25, e26, e27, e28, e29, e30, e31]
  · exact h31
def pL_layPartial (a0 : PA) : PA :=
  let a1 := pLb a0
  let a2 := pLb a1
  let a3 := pLd a2 65567
  let a4 := pLp a3 wJal 65548
  let a5 := pEm a4 (wThree 35 11 10 9)
  let a6 := pLp a5 wJal 65545
  let a7 := pSe a6 10 1296
  let a8 := pEm a7 (wThree 35 9 10 11)
  let a9 := pEm a8 (wAdd 12 2 4)
  let a10 := pLd (pLb a9) 65614
  let a11 := pEm a10 (wImm 36 13 9 0)
  let a12 := pEm a11 (wAdd 9 9 1)
  let a13 := pEm a12 (wImm 40 13 12 0)
  let a14 := pEm a13 (wAdd 12 12 1)
  let a15 := pLp a14 (wBr 5 9 10) 65614
  let a16 := pEm a15 (wMove 4 2)
  let a17 := pLp a16 wJ 65557
  let a18 := pLd a17 65568
  let a19 := pEm a18 (wShift 3 8 5 1)
  let a20 := pEm a19 (wImm 11 9 8 256)
  let a21 := pLp a20 (wBr 4 9 0) 65613
  let a22 := pSe a21 11 1
  let a23 := pLp a22 wJal 65545
  let a24 := pEm a23 (wLw 8 (-4) 16)
  let a25 := pEm a24 (wMove 4 2)
  let a26 := pEm a25 (wShift 3 8 8 1)
  let a27 := pEm a26 (wImm 40 8 2 4)
  let a28 := pLp a27 wJ 65557
  let a29 := pLd a28 65570
  let a30 := pEm a29 (wLw 8 4 5)
  let a31 := pEm a30 (wLw 9 8 5)
  let a32 := pEm a31 (wLw 10 0 8)
  let a33 := pEm a32 (wShift 3 9 9 1)
  let a34 := pEm a33 (wShift 2 10 10 3)
  let a35 := pEm a34 (wThree 43 11 9 10)
  let a36 := pLp a35 (wBr 4 11 0) 65612
  let a37 := pEm a36 (wThree 33 8 8 9)
  let a38 := pEm a37 (wImm 36 8 8 4)
  let a39 := pEm a38 (wShift 0 8 8 1)
  let a40 := pEm a39 (wAdd 4 8 1)
  let a41 := pLp a40 wJ 65557
  let a42 := pLd a41 65612
  let a43 := pSe a42 4 30
  let a44 := pLp a43 wJ 65550
  let a45 := pLd a44 65613
  let a46 := pSe a45 4 34
  let a47 := pLp a46 wJ 65550
  a47
set_option maxHeartbeats 4000000 in
set_option maxRecDepth 100000 in
theorem l_layPartial {S0 S : xS} {a0 : PA} (h : AS S0 S a0) (hq : a0.own = 65612) : ∃ S', (∀ d, XC SK MT (d + 5) 154 [.ref 10] S = some (none, S')) ∧ AS S0 S' (pL_layPartial a0) := by
  obtain ⟨S1, n0, e1, z0, h1⟩ := o_label h
  have y0 : n0 = 65612 := by rw [z0]; simp only [pEm_own, pSe_own, pLp_own, pLd_own, pSt_own, pSc_own, pLb_own, pL_size_own, pL_copyWords_own, pL_step_own, pL_enterObject_own, hq] <;> rfl
  subst y0
  obtain ⟨S2, n1, e2, z1, h2⟩ := o_label h1
  have y1 : n1 = 65613 := by rw [z1]; simp only [pEm_own, pSe_own, pLp_own, pLd_own, pSt_own, pSc_own, pLb_own, pL_size_own, pL_copyWords_own, pL_step_own, pL_enterObject_own, hq] <;> rfl
  subst y1
  obtain ⟨S3, e3, h3⟩ := o_land h2 65567
  obtain ⟨S4, e4, h4⟩ := o_jumpAndLink h3 65548
  obtain ⟨S5, e5, h5⟩ := o_three h4 35 11 10 9
  obtain ⟨S6, e6, h6⟩ := o_jumpAndLink h5 65545
  obtain ⟨S7, e7, h7⟩ := o_set h6 10 1296
  obtain ⟨S8, e8, h8⟩ := o_three h7 35 9 10 11
  obtain ⟨S9, e9, h9⟩ := o_add h8 12 2 4
  obtain ⟨S10, n2, e10, z2, h10⟩ := o_labelHere h9
  rw [← z2] at h10
  have y2 : n2 = 65614 := by rw [z2]; simp only [pEm_own, pSe_own, pLp_own, pLd_own, pSt_own, pSc_own, pLb_own, pL_size_own, pL_copyWords_own, pL_step_own, pL_enterObject_own, hq] <;> rfl
  subst y2
  obtain ⟨S11, e11, h11⟩ := o_immediate h10 36 13 9 0
  obtain ⟨S12, e12, h12⟩ := o_add h11 9 9 1
  obtain ⟨S13, e13, h13⟩ := o_immediate h12 40 13 12 0
  obtain ⟨S14, e14, h14⟩ := o_add h13 12 12 1
  obtain ⟨S15, e15, h15⟩ := o_branch h14 5 9 10 65614
  obtain ⟨S16, e16, h16⟩ := o_move h15 4 2
  obtain ⟨S17, e17, h17⟩ := o_jump h16 65557
  obtain ⟨S18, e18, h18⟩ := o_land h17 65568
  obtain ⟨S19, e19, h19⟩ := o_shift h18 3 8 5 1
  obtain ⟨S20, e20, h20⟩ := o_immediate h19 11 9 8 256
  obtain ⟨S21, e21, h21⟩ := o_branch h20 4 9 0 65613
  obtain ⟨S22, e22, h22⟩ := o_set h21 11 1
  obtain ⟨S23, e23, h23⟩ := o_jumpAndLink h22 65545
  obtain ⟨S24, e24, h24⟩ := o_lw h23 8 (-4) 16
  obtain ⟨S25, e25, h25⟩ := o_move h24 4 2
  obtain ⟨S26, e26, h26⟩ := o_shift h25 3 8 8 1
  obtain ⟨S27, e27, h27⟩ := o_immediate h26 40 8 2 4
  obtain ⟨S28, e28, h28⟩ := o_jump h27 65557
  obtain ⟨S29, e29, h29⟩ := o_land h28 65570
  obtain ⟨S30, e30, h30⟩ := o_lw h29 8 4 5
  obtain ⟨S31, e31, h31⟩ := o_lw h30 9 8 5
  obtain ⟨S32, e32, h32⟩ := o_lw h31 10 0 8
  obtain ⟨S33, e33, h33⟩ := o_shift h32 3 9 9 1
  obtain ⟨S34, e34, h34⟩ := o_shift h33 2 10 10 3
  obtain ⟨S35, e35, h35⟩ := o_three h34 43 11 9 10
  obtain ⟨S36, e36, h36⟩ := o_branch h35 4 11 0 65612
  obtain ⟨S37, e37, h37⟩ := o_three h36 33 8 8 9
  obtain ⟨S38, e38, h38⟩ := o_immediate h37 36 8 8 4
  obtain ⟨S39, e39, h39⟩ := o_shift h38 0 8 8 1
  obtain ⟨S40, e40, h40⟩ := o_add h39 4 8 1
  obtain ⟨S41, e41, h41⟩ := o_jump h40 65557
  obtain ⟨S42, e42, h42⟩ := o_land h41 65612
  obtain ⟨S43, e43, h43⟩ := o_set h42 4 30
  obtain ⟨S44, e44, h44⟩ := o_jump h43 65550
  obtain ⟨S45, e45, h45⟩ := o_land h44 65613
  obtain ⟨S46, e46, h46⟩ := o_set h45 4 34
  obtain ⟨S47, e47, h47⟩ := o_jump h46 65550
  refine ⟨S47, fun d => ?_, ?_⟩
  · rw [XC_iff]
    refine ⟨Nat.le_of_ble_eq_true rfl, ?_⟩
    show XL SK MT (d + 4) 154 (0, [some (.ref 10), none, none, none], [], S) _
    simp (config := { decide := true }) only [rX5_layPartial_0, rX5_layPartial_1, rX5_layPartial_4, rX5_layPartial_7, rX5_layPartial_8, rX5_layPartial_9, rX5_layPartial_12, rX5_layPartial_15, rX5_layPartial_16, rX5_layPartial_17, rX5_layPartial_20, rX5_layPartial_22, rX5_layPartial_25, rX5_layPartial_26, rX5_layPartial_29, rX5_layPartial_31, rX5_layPartial_34, rX5_layPartial_35, rX5_layPartial_38, rX5_layPartial_40, rX5_layPartial_42, rX5_layPartial_44, rX5_layPartial_46, rX5_layPartial_49, rX5_layPartial_50, rX5_layPartial_53, rX5_layPartial_55, rX5_layPartial_58, rX5_layPartial_59, rX5_layPartial_62, rX5_layPartial_64, rX5_layPartial_67, rX5_layPartial_70, rX5_layPartial_71, rX5_layPartial_74, rX5_layPartial_76, rX5_layPartial_78, rX5_layPartial_80, rX5_layPartial_82, rX5_layPartial_85, rX5_layPartial_86, rX5_layPartial_89, rX5_layPartial_91, rX5_layPartial_92, rX5_layPartial_93, rX5_layPartial_96, rX5_layPartial_97, rX5_layPartial_100, rX5_layPartial_103, rX5_layPartial_104, rX5_layPartial_105, rX5_layPartial_108, rX5_layPartial_110, rX5_layPartial_112, rX5_layPartial_114, rX5_layPartial_115, rX5_layPartial_118, rX5_layPartial_119, rX5_layPartial_122, rX5_layPartial_124, rX5_layPartial_126, rX5_layPartial_127, rX5_layPartial_130, rX5_layPartial_131, rX5_layPartial_134, rX5_layPartial_136, rX5_layPartial_138, rX5_layPartial_140, rX5_layPartial_141, rX5_layPartial_144, rX5_layPartial_145, rX5_layPartial_148, rX5_layPartial_150, rX5_layPartial_152, rX5_layPartial_153, rX5_layPartial_156, rX5_layPartial_157, rX5_layPartial_160, rX5_layPartial_161, rX5_layPartial_163, rX5_layPartial_165, rX5_layPartial_166, rX5_layPartial_169, rX5_layPartial_170, rX5_layPartial_173, rX5_layPartial_174, rX5_layPartial_175, rX5_layPartial_178, rX5_layPartial_179, rX5_layPartial_182, rX5_layPartial_184, rX5_layPartial_187, rX5_layPartial_188, rX5_layPartial_191, rX5_layPartial_193, rX5_layPartial_196, rX5_layPartial_197, rX5_layPartial_200, rX5_layPartial_201, rX5_layPartial_203, rX5_layPartial_204, rX5_layPartial_205, rX5_layPartial_208, rX5_layPartial_209, rX5_layPartial_212, rX5_layPartial_214, rX5_layPartial_216, rX5_layPartial_218, rX5_layPartial_221, rX5_layPartial_224, rX5_layPartial_225, rX5_layPartial_228, rX5_layPartial_229, rX5_layPartial_231, rX5_layPartial_232, rX5_layPartial_233, rX5_layPartial_236, rX5_layPartial_237, rX5_layPartial_240, rX5_layPartial_242, rX5_layPartial_243, rX5_layPartial_246, rX5_layPartial_247, rX5_layPartial_250, rX5_layPartial_252, rX5_layPartial_255, rX5_layPartial_256, rX5_layPartial_259, rX5_layPartial_261, rX5_layPartial_263, rX5_layPartial_265, rX5_layPartial_268, rX5_layPartial_269, rX5_layPartial_272, rX5_layPartial_273, rX5_layPartial_274, rX5_layPartial_277, rX5_layPartial_278, rX5_layPartial_281, rX5_layPartial_282, rX5_layPartial_284, rX5_layPartial_286, rX5_layPartial_287, rX5_layPartial_290, rX5_layPartial_291, rX5_layPartial_294, rX5_layPartial_296, rX5_layPartial_298, rX5_layPartial_299, rX5_layPartial_300, rX5_layPartial_303, rX5_layPartial_304, rX5_layPartial_307, rX5_layPartial_309, rX5_layPartial_312, rX5_layPartial_313, rX5_layPartial_316, rX5_layPartial_318, rX5_layPartial_321, rX5_layPartial_322, rX5_layPartial_325, rX5_layPartial_327, rX5_layPartial_328, rX5_layPartial_329, rX5_layPartial_332, rX5_layPartial_333, rX5_layPartial_336, rX5_layPartial_338, rX5_layPartial_340, rX5_layPartial_341, rX5_layPartial_344, rX5_layPartial_345, rX5_layPartial_348, rX5_layPartial_350, rX5_layPartial_351, rX5_layPartial_353, rX5_layPartial_356, rX5_layPartial_357, rX5_layPartial_360, rX5_layPartial_361, rX5_layPartial_363, rX5_layPartial_365, rX5_layPartial_366, rX5_layPartial_369, rX5_layPartial_370, rX5_layPartial_373, rX5_layPartial_374, rX5_layPartial_376, rX5_layPartial_378, rX5_layPartial_379, rX5_layPartial_382, rX5_layPartial_383, rX5_layPartial_386, rX5_layPartial_388, rX5_layPartial_390, rX5_layPartial_392, rX5_layPartial_394, rX5_layPartial_397, rX5_layPartial_398, rX5_layPartial_401, rX5_layPartial_402, rX5_layPartial_404, rX5_layPartial_405, rX5_layPartial_406, rX5_layPartial_409, rX5_layPartial_410, rX5_layPartial_413, rX5_layPartial_415, rX5_layPartial_417, rX5_layPartial_419, rX5_layPartial_421, rX5_layPartial_424, rX5_layPartial_425, rX5_layPartial_428, rX5_layPartial_430, rX5_layPartial_432, rX5_layPartial_434, rX5_layPartial_435, rX5_layPartial_438, rX5_layPartial_439, rX5_layPartial_442, rX5_layPartial_443, rX5_layPartial_445, rX5_layPartial_447, rX5_layPartial_448, rX5_layPartial_451, rX5_layPartial_452, rX5_layPartial_455, rX5_layPartial_456, rX5_layPartial_458, rX5_layPartial_459, rX5_layPartial_462, rX5_layPartial_463, rX5_layPartial_466, rX5_layPartial_468, rX5_layPartial_471, rX5_layPartial_472, rX5_layPartial_475, rX5_layPartial_476, rX5_layPartial_479, rX5_layPartial_480, rX5_layPartial_483, rX5_layPartial_484, rX5_layPartial_486, rX5_layPartial_489, rX5_layPartial_490, rX5_layPartial_493, rX5_layPartial_495, rX5_layPartial_498, rX5_layPartial_499, rX5_layPartial_502, rX5_layPartial_503, rX5_layPartial_506, rX5_layPartial_507, rX5_layPartial_510, rX5_layPartial_511, rX5_layPartial_513, rX5_layPartial_516, rX5_layPartial_517, rX5_layPartial_520, rX5_layPartial_522, rX5_layPartial_525, ↓reduceIte, m1_le, m1_lt, m1_eq, ofInt_m1, ex_ret, Int32.reduceAdd, Int32.reduceSub, Int32.reduceMul, Int32.reduceLT, Int32.reduceLE, xsI, Nat.reduceEqDiff, and_false, false_and, and_true, true_and, if_true, if_false, ite_true, ite_false, xlook_0, xlook_s, xI_int, xA_ref, xJ_long, xK_some, xRow_row, xTo_some, xst1, xclr, List.set_cons_zero, List.set_cons_succ, xsum_nil, xsum_int, xsum_ref, xsum_long, Option.toList_some, Option.toList_none, List.nil_append, List.cons_append, e1, e2, e3, e4, e5, e6, e7, e8, e9, e10, e11, e12, e13, e14, e15, e16, e17, e18, e19, e20, e21, e22, e23, e24, e25, e26, e27, e28, e29, e30, e31, e32, e33, e34, e35, e36, e37, e38, e39, e40, e41, e42, e43, e44, e45, e46, e47]
  · exact h47
def pL_layGiven (a0 : PA) : PA :=
  let a1 := pLb a0
  let a2 := pLd a1 65571
  let a3 := pEm a2 (wLw 10 1108 0)
  let a4 := pEm a3 (wShift 3 9 5 1)
  let a5 := pEm a4 (wThree 43 11 9 10)
  let a6 := pLp a5 (wBr 4 11 0) 65615
  let a7 := pEm a6 (wShift 0 9 9 2)
  let a8 := pEm a7 (wLw 4 1344 9)
  let a9 := pLp a8 wJ 65557
  let a10 := pLd a9 65615
  let a11 := pSe a10 4 30
  let a12 := pLp a11 wJ 65550
  a12
set_option maxHeartbeats 4000000 in
set_option maxRecDepth 100000 in
theorem l_layGiven {S0 S : xS} {a0 : PA} (h : AS S0 S a0) (hq : a0.own = 65615) : ∃ S', (∀ d, XC SK MT (d + 5) 155 [.ref 10] S = some (none, S')) ∧ AS S0 S' (pL_layGiven a0) := by
  obtain ⟨S1, n0, e1, z0, h1⟩ := o_label h
  have y0 : n0 = 65615 := by rw [z0]; simp only [pEm_own, pSe_own, pLp_own, pLd_own, pSt_own, pSc_own, pLb_own, pL_size_own, pL_copyWords_own, pL_step_own, pL_enterObject_own, hq] <;> rfl
  subst y0
  obtain ⟨S2, e2, h2⟩ := o_land h1 65571
  obtain ⟨S3, e3, h3⟩ := o_lw h2 10 1108 0
  obtain ⟨S4, e4, h4⟩ := o_shift h3 3 9 5 1
  obtain ⟨S5, e5, h5⟩ := o_three h4 43 11 9 10
  obtain ⟨S6, e6, h6⟩ := o_branch h5 4 11 0 65615
  obtain ⟨S7, e7, h7⟩ := o_shift h6 0 9 9 2
  obtain ⟨S8, e8, h8⟩ := o_lw h7 4 1344 9
  obtain ⟨S9, e9, h9⟩ := o_jump h8 65557
  obtain ⟨S10, e10, h10⟩ := o_land h9 65615
  obtain ⟨S11, e11, h11⟩ := o_set h10 4 30
  obtain ⟨S12, e12, h12⟩ := o_jump h11 65550
  refine ⟨S12, fun d => ?_, ?_⟩
  · rw [XC_iff]
    refine ⟨Nat.le_of_ble_eq_true rfl, ?_⟩
    show XL SK MT (d + 4) 155 (0, [some (.ref 10), none], [], S) _
    simp (config := { decide := true }) only [rX5_layGiven_0, rX5_layGiven_1, rX5_layGiven_4, rX5_layGiven_7, rX5_layGiven_8, rX5_layGiven_9, rX5_layGiven_12, rX5_layGiven_14, rX5_layGiven_17, rX5_layGiven_18, rX5_layGiven_21, rX5_layGiven_23, rX5_layGiven_26, rX5_layGiven_27, rX5_layGiven_30, rX5_layGiven_31, rX5_layGiven_34, rX5_layGiven_35, rX5_layGiven_37, rX5_layGiven_38, rX5_layGiven_39, rX5_layGiven_42, rX5_layGiven_43, rX5_layGiven_46, rX5_layGiven_48, rX5_layGiven_50, rX5_layGiven_52, rX5_layGiven_54, rX5_layGiven_57, rX5_layGiven_58, rX5_layGiven_61, rX5_layGiven_62, rX5_layGiven_64, rX5_layGiven_65, rX5_layGiven_66, rX5_layGiven_69, rX5_layGiven_70, rX5_layGiven_73, rX5_layGiven_74, rX5_layGiven_76, rX5_layGiven_78, rX5_layGiven_79, rX5_layGiven_82, rX5_layGiven_83, rX5_layGiven_86, rX5_layGiven_87, rX5_layGiven_90, rX5_layGiven_92, rX5_layGiven_95, rX5_layGiven_96, rX5_layGiven_99, rX5_layGiven_101, rX5_layGiven_104, rX5_layGiven_105, rX5_layGiven_108, rX5_layGiven_109, rX5_layGiven_112, rX5_layGiven_113, rX5_layGiven_116, rX5_layGiven_117, rX5_layGiven_119, rX5_layGiven_122, rX5_layGiven_123, rX5_layGiven_126, rX5_layGiven_128, rX5_layGiven_131, ↓reduceIte, m1_le, m1_lt, m1_eq, ofInt_m1, ex_ret, Int32.reduceAdd, Int32.reduceSub, Int32.reduceMul, Int32.reduceLT, Int32.reduceLE, xsI, Nat.reduceEqDiff, and_false, false_and, and_true, true_and, if_true, if_false, ite_true, ite_false, xlook_0, xlook_s, xI_int, xA_ref, xJ_long, xK_some, xRow_row, xTo_some, xst1, xclr, List.set_cons_zero, List.set_cons_succ, xsum_nil, xsum_int, xsum_ref, xsum_long, Option.toList_some, Option.toList_none, List.nil_append, List.cons_append, e1, e2, e3, e4, e5, e6, e7, e8, e9, e10, e11, e12]
  · exact h12
