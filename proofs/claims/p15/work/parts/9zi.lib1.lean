/-! XF: rows, then what is proved of them. -/
theorem rX5_size_0 {d : Nat} {lv : xLV} {st : List Value} {S : xS} {r : xO} : XL SK MT d 137 (0, lv, st, S) r ↔ xA (xlook lv 0) (fun x => XL SK MT d 137 (1, lv, .ref x :: st, S) r) := X_ldA rfl rfl (fun _ => rfl) rfl rfl rfl rfl
theorem rX5_size_1 {d : Nat} {lv : xLV} {st : List Value} {S : xS} {r : xO} : XL SK MT d 137 (1, lv, .ref 10 :: st, S) r ↔ XL SK MT d 137 (4, lv, .ref 9 :: st, S) r := X_heap rfl rfl rfl rfl rfl
theorem rX5_size_4 {d : Nat} {lv : xLV} {S : xS} {r : xO} : XL SK MT d 137 (4, lv, [.ref 9], S) r ↔ xK (XC SK MT d 1 [.ref 9] S) (fun v S => XL SK MT d 137 (7, lv, v.toList ++ [], S) r) := X_inv (n := 1) (kd := 2) (st0 := [.ref 9]) rfl (Or.inr ⟨rfl, rfl⟩) rfl (Nat.le_of_ble_eq_true rfl) (Nat.le_of_ble_eq_true rfl) (by decide) rfl
theorem rX5_size_7 {d : Nat} {lv : xLV} {st : List Value} {S : xS} {r : xO} {x : Int32} : XL SK MT d 137 (7, lv, .int x :: st, S) r ↔ XL SK MT d 137 (8, xst1 lv 1 (.int x), st, S) r := X_pure rfl rfl rfl
theorem rX5_size_8 {d : Nat} {lv : xLV} {st : List Value} {S : xS} {r : xO} : XL SK MT d 137 (8, lv, st, S) r ↔ xA (xlook lv 0) (fun x => XL SK MT d 137 (9, lv, .ref x :: st, S) r) := X_ldA rfl rfl (fun _ => rfl) rfl rfl rfl rfl
theorem rX5_size_9 {d : Nat} {lv : xLV} {st : List Value} {S : xS} {r : xO} : XL SK MT d 137 (9, lv, .ref 10 :: st, S) r ↔ XL SK MT d 137 (12, lv, .ref 9 :: st, S) r := X_heap rfl rfl rfl rfl rfl
theorem rX5_size_12 {d : Nat} {lv : xLV} {S : xS} {r : xO} : XL SK MT d 137 (12, lv, [.ref 9], S) r ↔ xK (XC SK MT d 1 [.ref 9] S) (fun v S => XL SK MT d 137 (15, lv, v.toList ++ [], S) r) := X_inv (n := 1) (kd := 2) (st0 := [.ref 9]) rfl (Or.inr ⟨rfl, rfl⟩) rfl (Nat.le_of_ble_eq_true rfl) (Nat.le_of_ble_eq_true rfl) (by decide) rfl
theorem rX5_size_15 {d : Nat} {lv : xLV} {st : List Value} {S : xS} {r : xO} {x : Int32} : XL SK MT d 137 (15, lv, .int x :: st, S) r ↔ XL SK MT d 137 (16, xst1 lv 2 (.int x), st, S) r := X_pure rfl rfl rfl
theorem rX5_size_16 {d : Nat} {lv : xLV} {st : List Value} {S : xS} {r : xO} : XL SK MT d 137 (16, lv, st, S) r ↔ xA (xlook lv 0) (fun x => XL SK MT d 137 (17, lv, .ref x :: st, S) r) := X_ldA rfl rfl (fun _ => rfl) rfl rfl rfl rfl
theorem rX5_size_17 {d : Nat} {lv : xLV} {st : List Value} {S : xS} {r : xO} : XL SK MT d 137 (17, lv, .ref 10 :: st, S) r ↔ XL SK MT d 137 (20, lv, .ref 9 :: st, S) r := X_heap rfl rfl rfl rfl rfl
theorem rX5_size_20 {d : Nat} {lv : xLV} {st : List Value} {S : xS} {r : xO} : XL SK MT d 137 (20, lv, st, S) r ↔ XL SK MT d 137 (22, lv, .int 12 :: st, S) r := X_pure rfl rfl rfl
theorem rX5_size_22 {d : Nat} {lv : xLV} {st : List Value} {S : xS} {r : xO} : XL SK MT d 137 (22, lv, st, S) r ↔ XL SK MT d 137 (24, lv, .int 8 :: st, S) r := X_pure rfl rfl rfl
theorem rX5_size_24 {d : Nat} {lv : xLV} {st : List Value} {S : xS} {r : xO} : XL SK MT d 137 (24, lv, st, S) r ↔ XL SK MT d 137 (26, lv, .int 14 :: st, S) r := X_pure rfl rfl rfl
theorem rX5_size_26 {d : Nat} {lv : xLV} {st : List Value} {S : xS} {r : xO} : XL SK MT d 137 (26, lv, st, S) r ↔ XL SK MT d 137 (28, lv, .int 7 :: st, S) r := X_pure rfl rfl rfl
theorem rX5_size_28 {d : Nat} {lv : xLV} {S : xS} {r : xO} {x1 : Int32} {x2 : Int32} {x3 : Int32} {x4 : Int32} : XL SK MT d 137 (28, lv, [.int x4, .int x3, .int x2, .int x1, .ref 9], S) r ↔ xK (XC SK MT d 17 [.ref 9, .int x1, .int x2, .int x3, .int x4] S) (fun v S => XL SK MT d 137 (31, lv, v.toList ++ [], S) r) := X_inv (n := 5) (kd := 2) (st0 := [.int x4, .int x3, .int x2, .int x1, .ref 9]) rfl (Or.inr ⟨rfl, rfl⟩) rfl (Nat.le_of_ble_eq_true rfl) (Nat.le_of_ble_eq_true rfl) (by decide) rfl
theorem rX5_size_31 {d : Nat} {lv : xLV} {st : List Value} {S : xS} {r : xO} : XL SK MT d 137 (31, lv, st, S) r ↔ xA (xlook lv 0) (fun x => XL SK MT d 137 (32, lv, .ref x :: st, S) r) := X_ldA rfl rfl (fun _ => rfl) rfl rfl rfl rfl
theorem rX5_size_32 {d : Nat} {lv : xLV} {st : List Value} {S : xS} {r : xO} : XL SK MT d 137 (32, lv, .ref 10 :: st, S) r ↔ XL SK MT d 137 (35, lv, .ref 9 :: st, S) r := X_heap rfl rfl rfl rfl rfl
theorem rX5_size_35 {d : Nat} {lv : xLV} {st : List Value} {S : xS} {r : xO} : XL SK MT d 137 (35, lv, st, S) r ↔ XL SK MT d 137 (37, lv, .int 9 :: st, S) r := X_pure rfl rfl rfl
theorem rX5_size_37 {d : Nat} {lv : xLV} {st : List Value} {S : xS} {r : xO} : XL SK MT d 137 (37, lv, st, S) r ↔ XL SK MT d 137 (38, lv, .int 3 :: st, S) r := X_pure rfl rfl rfl
theorem rX5_size_38 {d : Nat} {lv : xLV} {S : xS} {r : xO} {x1 : Int32} {x2 : Int32} : XL SK MT d 137 (38, lv, [.int x2, .int x1, .ref 9], S) r ↔ xK (XC SK MT d 22 [.ref 9, .int x1, .int x2] S) (fun v S => XL SK MT d 137 (41, lv, v.toList ++ [], S) r) := X_inv (n := 3) (kd := 2) (st0 := [.int x2, .int x1, .ref 9]) rfl (Or.inr ⟨rfl, rfl⟩) rfl (Nat.le_of_ble_eq_true rfl) (Nat.le_of_ble_eq_true rfl) (by decide) rfl
theorem rX5_size_41 {d : Nat} {lv : xLV} {st : List Value} {S : xS} {r : xO} : XL SK MT d 137 (41, lv, st, S) r ↔ xA (xlook lv 0) (fun x => XL SK MT d 137 (42, lv, .ref x :: st, S) r) := X_ldA rfl rfl (fun _ => rfl) rfl rfl rfl rfl
theorem rX5_size_42 {d : Nat} {lv : xLV} {st : List Value} {S : xS} {r : xO} : XL SK MT d 137 (42, lv, .ref 10 :: st, S) r ↔ XL SK MT d 137 (45, lv, .ref 9 :: st, S) r := X_heap rfl rfl rfl rfl rfl
theorem rX5_size_45 {d : Nat} {lv : xLV} {st : List Value} {S : xS} {r : xO} : XL SK MT d 137 (45, lv, st, S) r ↔ XL SK MT d 137 (47, lv, .int 13 :: st, S) r := X_pure rfl rfl rfl
theorem rX5_size_47 {d : Nat} {lv : xLV} {st : List Value} {S : xS} {r : xO} : XL SK MT d 137 (47, lv, st, S) r ↔ XL SK MT d 137 (49, lv, .int 8 :: st, S) r := X_pure rfl rfl rfl
theorem rX5_size_49 {d : Nat} {lv : xLV} {S : xS} {r : xO} {x1 : Int32} {x2 : Int32} : XL SK MT d 137 (49, lv, [.int x2, .int x1, .ref 9], S) r ↔ xK (XC SK MT d 22 [.ref 9, .int x1, .int x2] S) (fun v S => XL SK MT d 137 (52, lv, v.toList ++ [], S) r) := X_inv (n := 3) (kd := 2) (st0 := [.int x2, .int x1, .ref 9]) rfl (Or.inr ⟨rfl, rfl⟩) rfl (Nat.le_of_ble_eq_true rfl) (Nat.le_of_ble_eq_true rfl) (by decide) rfl
theorem rX5_size_52 {d : Nat} {lv : xLV} {st : List Value} {S : xS} {r : xO} : XL SK MT d 137 (52, lv, st, S) r ↔ xA (xlook lv 0) (fun x => XL SK MT d 137 (53, lv, .ref x :: st, S) r) := X_ldA rfl rfl (fun _ => rfl) rfl rfl rfl rfl
theorem rX5_size_53 {d : Nat} {lv : xLV} {st : List Value} {S : xS} {r : xO} : XL SK MT d 137 (53, lv, .ref 10 :: st, S) r ↔ XL SK MT d 137 (56, lv, .ref 9 :: st, S) r := X_heap rfl rfl rfl rfl rfl
theorem rX5_size_56 {d : Nat} {lv : xLV} {st : List Value} {S : xS} {r : xO} : XL SK MT d 137 (56, lv, st, S) r ↔ XL SK MT d 137 (57, lv, .int 4 :: st, S) r := X_pure rfl rfl rfl
theorem rX5_size_57 {d : Nat} {lv : xLV} {st : List Value} {S : xS} {r : xO} : XL SK MT d 137 (57, lv, st, S) r ↔ XL SK MT d 137 (59, lv, .int 8 :: st, S) r := X_pure rfl rfl rfl
theorem rX5_size_59 {d : Nat} {lv : xLV} {st : List Value} {S : xS} {r : xO} : XL SK MT d 137 (59, lv, st, S) r ↔ XL SK MT d 137 (61, lv, .int 9 :: st, S) r := X_pure rfl rfl rfl
theorem rX5_size_61 {d : Nat} {lv : xLV} {st : List Value} {S : xS} {r : xO} : XL SK MT d 137 (61, lv, st, S) r ↔ xI (xlook lv 2) (fun x => XL SK MT d 137 (62, lv, .int x :: st, S) r) := X_ldI rfl rfl (fun _ => rfl) rfl rfl rfl rfl
theorem rX5_size_62 {d : Nat} {lv : xLV} {S : xS} {r : xO} {x1 : Int32} {x2 : Int32} {x3 : Int32} {x4 : Int32} : XL SK MT d 137 (62, lv, [.int x4, .int x3, .int x2, .int x1, .ref 9], S) r ↔ xK (XC SK MT d 24 [.ref 9, .int x1, .int x2, .int x3, .int x4] S) (fun v S => XL SK MT d 137 (65, lv, v.toList ++ [], S) r) := X_inv (n := 5) (kd := 2) (st0 := [.int x4, .int x3, .int x2, .int x1, .ref 9]) rfl (Or.inr ⟨rfl, rfl⟩) rfl (Nat.le_of_ble_eq_true rfl) (Nat.le_of_ble_eq_true rfl) (by decide) rfl
theorem rX5_size_65 {d : Nat} {lv : xLV} {st : List Value} {S : xS} {r : xO} : XL SK MT d 137 (65, lv, st, S) r ↔ xA (xlook lv 0) (fun x => XL SK MT d 137 (66, lv, .ref x :: st, S) r) := X_ldA rfl rfl (fun _ => rfl) rfl rfl rfl rfl
theorem rX5_size_66 {d : Nat} {lv : xLV} {st : List Value} {S : xS} {r : xO} : XL SK MT d 137 (66, lv, .ref 10 :: st, S) r ↔ XL SK MT d 137 (69, lv, .ref 9 :: st, S) r := X_heap rfl rfl rfl rfl rfl
theorem rX5_size_69 {d : Nat} {lv : xLV} {st : List Value} {S : xS} {r : xO} : XL SK MT d 137 (69, lv, st, S) r ↔ XL SK MT d 137 (71, lv, .int 9 :: st, S) r := X_pure rfl rfl rfl
theorem rX5_size_71 {d : Nat} {lv : xLV} {st : List Value} {S : xS} {r : xO} : XL SK MT d 137 (71, lv, st, S) r ↔ XL SK MT d 137 (72, lv, .int 5 :: st, S) r := X_pure rfl rfl rfl
theorem rX5_size_72 {d : Nat} {lv : xLV} {S : xS} {r : xO} {x1 : Int32} {x2 : Int32} : XL SK MT d 137 (72, lv, [.int x2, .int x1, .ref 9], S) r ↔ xK (XC SK MT d 22 [.ref 9, .int x1, .int x2] S) (fun v S => XL SK MT d 137 (75, lv, v.toList ++ [], S) r) := X_inv (n := 3) (kd := 2) (st0 := [.int x2, .int x1, .ref 9]) rfl (Or.inr ⟨rfl, rfl⟩) rfl (Nat.le_of_ble_eq_true rfl) (Nat.le_of_ble_eq_true rfl) (by decide) rfl
theorem rX5_size_75 {d : Nat} {lv : xLV} {st : List Value} {S : xS} {r : xO} : XL SK MT d 137 (75, lv, st, S) r ↔ xA (xlook lv 0) (fun x => XL SK MT d 137 (76, lv, .ref x :: st, S) r) := X_ldA rfl rfl (fun _ => rfl) rfl rfl rfl rfl
theorem rX5_size_76 {d : Nat} {lv : xLV} {st : List Value} {S : xS} {r : xO} : XL SK MT d 137 (76, lv, .ref 10 :: st, S) r ↔ XL SK MT d 137 (79, lv, .ref 9 :: st, S) r := X_heap rfl rfl rfl rfl rfl
theorem rX5_size_79 {d : Nat} {lv : xLV} {st : List Value} {S : xS} {r : xO} : XL SK MT d 137 (79, lv, st, S) r ↔ XL SK MT d 137 (80, lv, .int 2 :: st, S) r := X_pure rfl rfl rfl
theorem rX5_size_80 {d : Nat} {lv : xLV} {st : List Value} {S : xS} {r : xO} : XL SK MT d 137 (80, lv, st, S) r ↔ XL SK MT d 137 (82, lv, .int 13 :: st, S) r := X_pure rfl rfl rfl
theorem rX5_size_82 {d : Nat} {lv : xLV} {st : List Value} {S : xS} {r : xO} : XL SK MT d 137 (82, lv, st, S) r ↔ XL SK MT d 137 (84, lv, .int 14 :: st, S) r := X_pure rfl rfl rfl
theorem rX5_size_84 {d : Nat} {lv : xLV} {st : List Value} {S : xS} {r : xO} : XL SK MT d 137 (84, lv, st, S) r ↔ XL SK MT d 137 (85, lv, .int 3 :: st, S) r := X_pure rfl rfl rfl
theorem rX5_size_85 {d : Nat} {lv : xLV} {S : xS} {r : xO} {x1 : Int32} {x2 : Int32} {x3 : Int32} {x4 : Int32} : XL SK MT d 137 (85, lv, [.int x4, .int x3, .int x2, .int x1, .ref 9], S) r ↔ xK (XC SK MT d 16 [.ref 9, .int x1, .int x2, .int x3, .int x4] S) (fun v S => XL SK MT d 137 (88, lv, v.toList ++ [], S) r) := X_inv (n := 5) (kd := 2) (st0 := [.int x4, .int x3, .int x2, .int x1, .ref 9]) rfl (Or.inr ⟨rfl, rfl⟩) rfl (Nat.le_of_ble_eq_true rfl) (Nat.le_of_ble_eq_true rfl) (by decide) rfl
theorem rX5_size_88 {d : Nat} {lv : xLV} {st : List Value} {S : xS} {r : xO} : XL SK MT d 137 (88, lv, st, S) r ↔ xA (xlook lv 0) (fun x => XL SK MT d 137 (89, lv, .ref x :: st, S) r) := X_ldA rfl rfl (fun _ => rfl) rfl rfl rfl rfl
theorem rX5_size_89 {d : Nat} {lv : xLV} {st : List Value} {S : xS} {r : xO} : XL SK MT d 137 (89, lv, .ref 10 :: st, S) r ↔ XL SK MT d 137 (92, lv, .ref 9 :: st, S) r := X_heap rfl rfl rfl rfl rfl
theorem rX5_size_92 {d : Nat} {lv : xLV} {st : List Value} {S : xS} {r : xO} : XL SK MT d 137 (92, lv, st, S) r ↔ XL SK MT d 137 (93, lv, .int 5 :: st, S) r := X_pure rfl rfl rfl
theorem rX5_size_93 {d : Nat} {lv : xLV} {st : List Value} {S : xS} {r : xO} : XL SK MT d 137 (93, lv, st, S) r ↔ XL SK MT d 137 (95, lv, .int 8 :: st, S) r := X_pure rfl rfl rfl
theorem rX5_size_95 {d : Nat} {lv : xLV} {st : List Value} {S : xS} {r : xO} : XL SK MT d 137 (95, lv, st, S) r ↔ XL SK MT d 137 (97, lv, .int 9 :: st, S) r := X_pure rfl rfl rfl
theorem rX5_size_97 {d : Nat} {lv : xLV} {st : List Value} {S : xS} {r : xO} : XL SK MT d 137 (97, lv, st, S) r ↔ xI (xlook lv 1) (fun x => XL SK MT d 137 (98, lv, .int x :: st, S) r) := X_ldI rfl rfl (fun _ => rfl) rfl rfl rfl rfl
theorem rX5_size_98 {d : Nat} {lv : xLV} {S : xS} {r : xO} {x1 : Int32} {x2 : Int32} {x3 : Int32} {x4 : Int32} : XL SK MT d 137 (98, lv, [.int x4, .int x3, .int x2, .int x1, .ref 9], S) r ↔ xK (XC SK MT d 24 [.ref 9, .int x1, .int x2, .int x3, .int x4] S) (fun v S => XL SK MT d 137 (101, lv, v.toList ++ [], S) r) := X_inv (n := 5) (kd := 2) (st0 := [.int x4, .int x3, .int x2, .int x1, .ref 9]) rfl (Or.inr ⟨rfl, rfl⟩) rfl (Nat.le_of_ble_eq_true rfl) (Nat.le_of_ble_eq_true rfl) (by decide) rfl
theorem rX5_size_101 {d : Nat} {lv : xLV} {st : List Value} {S : xS} {r : xO} : XL SK MT d 137 (101, lv, st, S) r ↔ xA (xlook lv 0) (fun x => XL SK MT d 137 (102, lv, .ref x :: st, S) r) := X_ldA rfl rfl (fun _ => rfl) rfl rfl rfl rfl
theorem rX5_size_102 {d : Nat} {lv : xLV} {st : List Value} {S : xS} {r : xO} : XL SK MT d 137 (102, lv, .ref 10 :: st, S) r ↔ XL SK MT d 137 (105, lv, .ref 9 :: st, S) r := X_heap rfl rfl rfl rfl rfl
theorem rX5_size_105 {d : Nat} {lv : xLV} {st : List Value} {S : xS} {r : xO} : XL SK MT d 137 (105, lv, st, S) r ↔ XL SK MT d 137 (107, lv, .int 13 :: st, S) r := X_pure rfl rfl rfl
theorem rX5_size_107 {d : Nat} {lv : xLV} {st : List Value} {S : xS} {r : xO} : XL SK MT d 137 (107, lv, st, S) r ↔ XL SK MT d 137 (109, lv, .int 13 :: st, S) r := X_pure rfl rfl rfl
theorem rX5_size_109 {d : Nat} {lv : xLV} {st : List Value} {S : xS} {r : xO} : XL SK MT d 137 (109, lv, st, S) r ↔ XL SK MT d 137 (110, lv, .int 3 :: st, S) r := X_pure rfl rfl rfl
theorem rX5_size_110 {d : Nat} {lv : xLV} {S : xS} {r : xO} {x1 : Int32} {x2 : Int32} {x3 : Int32} : XL SK MT d 137 (110, lv, [.int x3, .int x2, .int x1, .ref 9], S) r ↔ xK (XC SK MT d 20 [.ref 9, .int x1, .int x2, .int x3] S) (fun v S => XL SK MT d 137 (113, lv, v.toList ++ [], S) r) := X_inv (n := 4) (kd := 2) (st0 := [.int x3, .int x2, .int x1, .ref 9]) rfl (Or.inr ⟨rfl, rfl⟩) rfl (Nat.le_of_ble_eq_true rfl) (Nat.le_of_ble_eq_true rfl) (by decide) rfl
theorem rX5_size_113 {d : Nat} {lv : xLV} {st : List Value} {S : xS} {r : xO} : XL SK MT d 137 (113, lv, st, S) r ↔ xA (xlook lv 0) (fun x => XL SK MT d 137 (114, lv, .ref x :: st, S) r) := X_ldA rfl rfl (fun _ => rfl) rfl rfl rfl rfl
theorem rX5_size_114 {d : Nat} {lv : xLV} {st : List Value} {S : xS} {r : xO} : XL SK MT d 137 (114, lv, .ref 10 :: st, S) r ↔ XL SK MT d 137 (117, lv, .ref 9 :: st, S) r := X_heap rfl rfl rfl rfl rfl
theorem rX5_size_117 {d : Nat} {lv : xLV} {st : List Value} {S : xS} {r : xO} : XL SK MT d 137 (117, lv, st, S) r ↔ XL SK MT d 137 (118, lv, .int 2 :: st, S) r := X_pure rfl rfl rfl
theorem rX5_size_118 {d : Nat} {lv : xLV} {st : List Value} {S : xS} {r : xO} : XL SK MT d 137 (118, lv, st, S) r ↔ XL SK MT d 137 (120, lv, .int 13 :: st, S) r := X_pure rfl rfl rfl
theorem rX5_size_120 {d : Nat} {lv : xLV} {st : List Value} {S : xS} {r : xO} : XL SK MT d 137 (120, lv, st, S) r ↔ XL SK MT d 137 (122, lv, .int 13 :: st, S) r := X_pure rfl rfl rfl
theorem rX5_size_122 {d : Nat} {lv : xLV} {st : List Value} {S : xS} {r : xO} : XL SK MT d 137 (122, lv, st, S) r ↔ XL SK MT d 137 (123, lv, .int 2 :: st, S) r := X_pure rfl rfl rfl
theorem rX5_size_123 {d : Nat} {lv : xLV} {S : xS} {r : xO} {x1 : Int32} {x2 : Int32} {x3 : Int32} {x4 : Int32} : XL SK MT d 137 (123, lv, [.int x4, .int x3, .int x2, .int x1, .ref 9], S) r ↔ xK (XC SK MT d 16 [.ref 9, .int x1, .int x2, .int x3, .int x4] S) (fun v S => XL SK MT d 137 (126, lv, v.toList ++ [], S) r) := X_inv (n := 5) (kd := 2) (st0 := [.int x4, .int x3, .int x2, .int x1, .ref 9]) rfl (Or.inr ⟨rfl, rfl⟩) rfl (Nat.le_of_ble_eq_true rfl) (Nat.le_of_ble_eq_true rfl) (by decide) rfl
theorem rX5_size_126 {d : Nat} {lv : xLV} {st : List Value} {S : xS} {r : xO} : XL SK MT d 137 (126, lv, st, S) r ↔ xA (xlook lv 0) (fun x => XL SK MT d 137 (127, lv, .ref x :: st, S) r) := X_ldA rfl rfl (fun _ => rfl) rfl rfl rfl rfl
theorem rX5_size_127 {d : Nat} {lv : xLV} {st : List Value} {S : xS} {r : xO} : XL SK MT d 137 (127, lv, .ref 10 :: st, S) r ↔ XL SK MT d 137 (130, lv, .ref 9 :: st, S) r := X_heap rfl rfl rfl rfl rfl
theorem rX5_size_130 {d : Nat} {lv : xLV} {st : List Value} {S : xS} {r : xO} : XL SK MT d 137 (130, lv, st, S) r ↔ xI (xlook lv 1) (fun x => XL SK MT d 137 (131, lv, .int x :: st, S) r) := X_ldI rfl rfl (fun _ => rfl) rfl rfl rfl rfl
theorem rX5_size_131 {d : Nat} {lv : xLV} {S : xS} {r : xO} {x1 : Int32} : XL SK MT d 137 (131, lv, [.int x1, .ref 9], S) r ↔ xK (XC SK MT d 3 [.ref 9, .int x1] S) (fun v S => XL SK MT d 137 (134, lv, v.toList ++ [], S) r) := X_inv (n := 2) (kd := 2) (st0 := [.int x1, .ref 9]) rfl (Or.inr ⟨rfl, rfl⟩) rfl (Nat.le_of_ble_eq_true rfl) (Nat.le_of_ble_eq_true rfl) (by decide) rfl
theorem rX5_size_134 {d : Nat} {lv : xLV} {st : List Value} {S : xS} {r : xO} : XL SK MT d 137 (134, lv, st, S) r ↔ xA (xlook lv 0) (fun x => XL SK MT d 137 (135, lv, .ref x :: st, S) r) := X_ldA rfl rfl (fun _ => rfl) rfl rfl rfl rfl
theorem rX5_size_135 {d : Nat} {lv : xLV} {st : List Value} {S : xS} {r : xO} : XL SK MT d 137 (135, lv, .ref 10 :: st, S) r ↔ XL SK MT d 137 (138, lv, .ref 9 :: st, S) r := X_heap rfl rfl rfl rfl rfl
theorem rX5_size_138 {d : Nat} {lv : xLV} {st : List Value} {S : xS} {r : xO} : XL SK MT d 137 (138, lv, st, S) r ↔ XL SK MT d 137 (140, lv, .int 13 :: st, S) r := X_pure rfl rfl rfl
theorem rX5_size_140 {d : Nat} {lv : xLV} {st : List Value} {S : xS} {r : xO} : XL SK MT d 137 (140, lv, st, S) r ↔ XL SK MT d 137 (142, lv, .int 13 :: st, S) r := X_pure rfl rfl rfl
theorem rX5_size_142 {d : Nat} {lv : xLV} {st : List Value} {S : xS} {r : xO} : XL SK MT d 137 (142, lv, st, S) r ↔ XL SK MT d 137 (143, lv, .int 1 :: st, S) r := X_pure rfl rfl rfl
theorem rX5_size_143 {d : Nat} {lv : xLV} {S : xS} {r : xO} {x1 : Int32} {x2 : Int32} {x3 : Int32} : XL SK MT d 137 (143, lv, [.int x3, .int x2, .int x1, .ref 9], S) r ↔ xK (XC SK MT d 20 [.ref 9, .int x1, .int x2, .int x3] S) (fun v S => XL SK MT d 137 (146, lv, v.toList ++ [], S) r) := X_inv (n := 4) (kd := 2) (st0 := [.int x3, .int x2, .int x1, .ref 9]) rfl (Or.inr ⟨rfl, rfl⟩) rfl (Nat.le_of_ble_eq_true rfl) (Nat.le_of_ble_eq_true rfl) (by decide) rfl
theorem rX5_size_146 {d : Nat} {lv : xLV} {st : List Value} {S : xS} {r : xO} : XL SK MT d 137 (146, lv, st, S) r ↔ xA (xlook lv 0) (fun x => XL SK MT d 137 (147, lv, .ref x :: st, S) r) := X_ldA rfl rfl (fun _ => rfl) rfl rfl rfl rfl
theorem rX5_size_147 {d : Nat} {lv : xLV} {st : List Value} {S : xS} {r : xO} : XL SK MT d 137 (147, lv, .ref 10 :: st, S) r ↔ XL SK MT d 137 (150, lv, .ref 9 :: st, S) r := X_heap rfl rfl rfl rfl rfl
theorem rX5_size_150 {d : Nat} {lv : xLV} {st : List Value} {S : xS} {r : xO} : XL SK MT d 137 (150, lv, st, S) r ↔ XL SK MT d 137 (151, lv, .int 0 :: st, S) r := X_pure rfl rfl rfl
theorem rX5_size_151 {d : Nat} {lv : xLV} {st : List Value} {S : xS} {r : xO} : XL SK MT d 137 (151, lv, st, S) r ↔ XL SK MT d 137 (153, lv, .int 13 :: st, S) r := X_pure rfl rfl rfl
theorem rX5_size_153 {d : Nat} {lv : xLV} {st : List Value} {S : xS} {r : xO} : XL SK MT d 137 (153, lv, st, S) r ↔ XL SK MT d 137 (155, lv, .int 13 :: st, S) r := X_pure rfl rfl rfl
theorem rX5_size_155 {d : Nat} {lv : xLV} {st : List Value} {S : xS} {r : xO} : XL SK MT d 137 (155, lv, st, S) r ↔ XL SK MT d 137 (156, lv, .int 2 :: st, S) r := X_pure rfl rfl rfl
theorem rX5_size_156 {d : Nat} {lv : xLV} {S : xS} {r : xO} {x1 : Int32} {x2 : Int32} {x3 : Int32} {x4 : Int32} : XL SK MT d 137 (156, lv, [.int x4, .int x3, .int x2, .int x1, .ref 9], S) r ↔ xK (XC SK MT d 16 [.ref 9, .int x1, .int x2, .int x3, .int x4] S) (fun v S => XL SK MT d 137 (159, lv, v.toList ++ [], S) r) := X_inv (n := 5) (kd := 2) (st0 := [.int x4, .int x3, .int x2, .int x1, .ref 9]) rfl (Or.inr ⟨rfl, rfl⟩) rfl (Nat.le_of_ble_eq_true rfl) (Nat.le_of_ble_eq_true rfl) (by decide) rfl
theorem rX5_size_159 {d : Nat} {lv : xLV} {st : List Value} {S : xS} {r : xO} : XL SK MT d 137 (159, lv, st, S) r ↔ xA (xlook lv 0) (fun x => XL SK MT d 137 (160, lv, .ref x :: st, S) r) := X_ldA rfl rfl (fun _ => rfl) rfl rfl rfl rfl
theorem rX5_size_160 {d : Nat} {lv : xLV} {st : List Value} {S : xS} {r : xO} : XL SK MT d 137 (160, lv, .ref 10 :: st, S) r ↔ XL SK MT d 137 (163, lv, .ref 9 :: st, S) r := X_heap rfl rfl rfl rfl rfl
theorem rX5_size_163 {d : Nat} {lv : xLV} {st : List Value} {S : xS} {r : xO} : XL SK MT d 137 (163, lv, st, S) r ↔ xI (xlook lv 2) (fun x => XL SK MT d 137 (164, lv, .int x :: st, S) r) := X_ldI rfl rfl (fun _ => rfl) rfl rfl rfl rfl
theorem rX5_size_164 {d : Nat} {lv : xLV} {S : xS} {r : xO} {x1 : Int32} : XL SK MT d 137 (164, lv, [.int x1, .ref 9], S) r ↔ xK (XC SK MT d 3 [.ref 9, .int x1] S) (fun v S => XL SK MT d 137 (167, lv, v.toList ++ [], S) r) := X_inv (n := 2) (kd := 2) (st0 := [.int x1, .ref 9]) rfl (Or.inr ⟨rfl, rfl⟩) rfl (Nat.le_of_ble_eq_true rfl) (Nat.le_of_ble_eq_true rfl) (by decide) rfl
theorem rX5_size_167 {d : Nat} {lv : xLV} {S : xS} {r : xO} : XL SK MT d 137 (167, lv, [], S) r ↔ (none, S) = r := X_ret rfl rfl rfl rfl rfl rfl

theorem rX5_copyWords_0 {d : Nat} {lv : xLV} {st : List Value} {S : xS} {r : xO} : XL SK MT d 140 (0, lv, st, S) r ↔ xA (xlook lv 0) (fun x => XL SK MT d 140 (1, lv, .ref x :: st, S) r) := X_ldA rfl rfl (fun _ => rfl) rfl rfl rfl rfl
theorem rX5_copyWords_1 {d : Nat} {lv : xLV} {st : List Value} {S : xS} {r : xO} : XL SK MT d 140 (1, lv, .ref 10 :: st, S) r ↔ XL SK MT d 140 (4, lv, .ref 9 :: st, S) r := X_heap rfl rfl rfl rfl rfl
theorem rX5_copyWords_4 {d : Nat} {lv : xLV} {S : xS} {r : xO} : XL SK MT d 140 (4, lv, [.ref 9], S) r ↔ xK (XC SK MT d 2 [.ref 9] S) (fun v S => XL SK MT d 140 (7, lv, v.toList ++ [], S) r) := X_inv (n := 1) (kd := 2) (st0 := [.ref 9]) rfl (Or.inr ⟨rfl, rfl⟩) rfl (Nat.le_of_ble_eq_true rfl) (Nat.le_of_ble_eq_true rfl) (by decide) rfl
theorem rX5_copyWords_7 {d : Nat} {lv : xLV} {st : List Value} {S : xS} {r : xO} {x : Int32} : XL SK MT d 140 (7, lv, .int x :: st, S) r ↔ XL SK MT d 140 (8, xst1 lv 1 (.int x), st, S) r := X_pure rfl rfl rfl
theorem rX5_copyWords_8 {d : Nat} {lv : xLV} {st : List Value} {S : xS} {r : xO} : XL SK MT d 140 (8, lv, st, S) r ↔ xA (xlook lv 0) (fun x => XL SK MT d 140 (9, lv, .ref x :: st, S) r) := X_ldA rfl rfl (fun _ => rfl) rfl rfl rfl rfl
theorem rX5_copyWords_9 {d : Nat} {lv : xLV} {st : List Value} {S : xS} {r : xO} : XL SK MT d 140 (9, lv, .ref 10 :: st, S) r ↔ XL SK MT d 140 (12, lv, .ref 9 :: st, S) r := X_heap rfl rfl rfl rfl rfl
theorem rX5_copyWords_12 {d : Nat} {lv : xLV} {st : List Value} {S : xS} {r : xO} : XL SK MT d 140 (12, lv, st, S) r ↔ XL SK MT d 140 (14, lv, .int 13 :: st, S) r := X_pure rfl rfl rfl
theorem rX5_copyWords_14 {d : Nat} {lv : xLV} {st : List Value} {S : xS} {r : xO} : XL SK MT d 140 (14, lv, st, S) r ↔ XL SK MT d 140 (15, lv, .int 0 :: st, S) r := X_pure rfl rfl rfl
theorem rX5_copyWords_15 {d : Nat} {lv : xLV} {st : List Value} {S : xS} {r : xO} : XL SK MT d 140 (15, lv, st, S) r ↔ XL SK MT d 140 (17, lv, .int 10 :: st, S) r := X_pure rfl rfl rfl
theorem rX5_copyWords_17 {d : Nat} {lv : xLV} {S : xS} {r : xO} {x1 : Int32} {x2 : Int32} {x3 : Int32} : XL SK MT d 140 (17, lv, [.int x3, .int x2, .int x1, .ref 9], S) r ↔ xK (XC SK MT d 18 [.ref 9, .int x1, .int x2, .int x3] S) (fun v S => XL SK MT d 140 (20, lv, v.toList ++ [], S) r) := X_inv (n := 4) (kd := 2) (st0 := [.int x3, .int x2, .int x1, .ref 9]) rfl (Or.inr ⟨rfl, rfl⟩) rfl (Nat.le_of_ble_eq_true rfl) (Nat.le_of_ble_eq_true rfl) (by decide) rfl
theorem rX5_copyWords_20 {d : Nat} {lv : xLV} {st : List Value} {S : xS} {r : xO} : XL SK MT d 140 (20, lv, st, S) r ↔ xA (xlook lv 0) (fun x => XL SK MT d 140 (21, lv, .ref x :: st, S) r) := X_ldA rfl rfl (fun _ => rfl) rfl rfl rfl rfl
theorem rX5_copyWords_21 {d : Nat} {lv : xLV} {st : List Value} {S : xS} {r : xO} : XL SK MT d 140 (21, lv, .ref 10 :: st, S) r ↔ XL SK MT d 140 (24, lv, .ref 9 :: st, S) r := X_heap rfl rfl rfl rfl rfl
theorem rX5_copyWords_24 {d : Nat} {lv : xLV} {st : List Value} {S : xS} {r : xO} : XL SK MT d 140 (24, lv, st, S) r ↔ XL SK MT d 140 (26, lv, .int 10 :: st, S) r := X_pure rfl rfl rfl
theorem rX5_copyWords_26 {d : Nat} {lv : xLV} {st : List Value} {S : xS} {r : xO} : XL SK MT d 140 (26, lv, st, S) r ↔ XL SK MT d 140 (28, lv, .int 10 :: st, S) r := X_pure rfl rfl rfl
theorem rX5_copyWords_28 {d : Nat} {lv : xLV} {st : List Value} {S : xS} {r : xO} : XL SK MT d 140 (28, lv, st, S) r ↔ XL SK MT d 140 (29, lv, .int 4 :: st, S) r := X_pure rfl rfl rfl
theorem rX5_copyWords_29 {d : Nat} {lv : xLV} {S : xS} {r : xO} {x1 : Int32} {x2 : Int32} {x3 : Int32} : XL SK MT d 140 (29, lv, [.int x3, .int x2, .int x1, .ref 9], S) r ↔ xK (XC SK MT d 20 [.ref 9, .int x1, .int x2, .int x3] S) (fun v S => XL SK MT d 140 (32, lv, v.toList ++ [], S) r) := X_inv (n := 4) (kd := 2) (st0 := [.int x3, .int x2, .int x1, .ref 9]) rfl (Or.inr ⟨rfl, rfl⟩) rfl (Nat.le_of_ble_eq_true rfl) (Nat.le_of_ble_eq_true rfl) (by decide) rfl
theorem rX5_copyWords_32 {d : Nat} {lv : xLV} {st : List Value} {S : xS} {r : xO} : XL SK MT d 140 (32, lv, st, S) r ↔ xA (xlook lv 0) (fun x => XL SK MT d 140 (33, lv, .ref x :: st, S) r) := X_ldA rfl rfl (fun _ => rfl) rfl rfl rfl rfl
theorem rX5_copyWords_33 {d : Nat} {lv : xLV} {st : List Value} {S : xS} {r : xO} : XL SK MT d 140 (33, lv, .ref 10 :: st, S) r ↔ XL SK MT d 140 (36, lv, .ref 9 :: st, S) r := X_heap rfl rfl rfl rfl rfl
theorem rX5_copyWords_36 {d : Nat} {lv : xLV} {st : List Value} {S : xS} {r : xO} : XL SK MT d 140 (36, lv, st, S) r ↔ XL SK MT d 140 (38, lv, .int 13 :: st, S) r := X_pure rfl rfl rfl
theorem rX5_copyWords_38 {d : Nat} {lv : xLV} {st : List Value} {S : xS} {r : xO} : XL SK MT d 140 (38, lv, st, S) r ↔ XL SK MT d 140 (39, lv, .int 0 :: st, S) r := X_pure rfl rfl rfl
theorem rX5_copyWords_39 {d : Nat} {lv : xLV} {st : List Value} {S : xS} {r : xO} : XL SK MT d 140 (39, lv, st, S) r ↔ XL SK MT d 140 (41, lv, .int 11 :: st, S) r := X_pure rfl rfl rfl
theorem rX5_copyWords_41 {d : Nat} {lv : xLV} {S : xS} {r : xO} {x1 : Int32} {x2 : Int32} {x3 : Int32} : XL SK MT d 140 (41, lv, [.int x3, .int x2, .int x1, .ref 9], S) r ↔ xK (XC SK MT d 19 [.ref 9, .int x1, .int x2, .int x3] S) (fun v S => XL SK MT d 140 (44, lv, v.toList ++ [], S) r) := X_inv (n := 4) (kd := 2) (st0 := [.int x3, .int x2, .int x1, .ref 9]) rfl (Or.inr ⟨rfl, rfl⟩) rfl (Nat.le_of_ble_eq_true rfl) (Nat.le_of_ble_eq_true rfl) (by decide) rfl
theorem rX5_copyWords_44 {d : Nat} {lv : xLV} {st : List Value} {S : xS} {r : xO} : XL SK MT d 140 (44, lv, st, S) r ↔ xA (xlook lv 0) (fun x => XL SK MT d 140 (45, lv, .ref x :: st, S) r) := X_ldA rfl rfl (fun _ => rfl) rfl rfl rfl rfl
theorem rX5_copyWords_45 {d : Nat} {lv : xLV} {st : List Value} {S : xS} {r : xO} : XL SK MT d 140 (45, lv, .ref 10 :: st, S) r ↔ XL SK MT d 140 (48, lv, .ref 9 :: st, S) r := X_heap rfl rfl rfl rfl rfl
theorem rX5_copyWords_48 {d : Nat} {lv : xLV} {st : List Value} {S : xS} {r : xO} : XL SK MT d 140 (48, lv, st, S) r ↔ XL SK MT d 140 (50, lv, .int 11 :: st, S) r := X_pure rfl rfl rfl
theorem rX5_copyWords_50 {d : Nat} {lv : xLV} {st : List Value} {S : xS} {r : xO} : XL SK MT d 140 (50, lv, st, S) r ↔ XL SK MT d 140 (52, lv, .int 11 :: st, S) r := X_pure rfl rfl rfl
theorem rX5_copyWords_52 {d : Nat} {lv : xLV} {st : List Value} {S : xS} {r : xO} : XL SK MT d 140 (52, lv, st, S) r ↔ XL SK MT d 140 (53, lv, .int 4 :: st, S) r := X_pure rfl rfl rfl
theorem rX5_copyWords_53 {d : Nat} {lv : xLV} {S : xS} {r : xO} {x1 : Int32} {x2 : Int32} {x3 : Int32} : XL SK MT d 140 (53, lv, [.int x3, .int x2, .int x1, .ref 9], S) r ↔ xK (XC SK MT d 20 [.ref 9, .int x1, .int x2, .int x3] S) (fun v S => XL SK MT d 140 (56, lv, v.toList ++ [], S) r) := X_inv (n := 4) (kd := 2) (st0 := [.int x3, .int x2, .int x1, .ref 9]) rfl (Or.inr ⟨rfl, rfl⟩) rfl (Nat.le_of_ble_eq_true rfl) (Nat.le_of_ble_eq_true rfl) (by decide) rfl
theorem rX5_copyWords_56 {d : Nat} {lv : xLV} {st : List Value} {S : xS} {r : xO} : XL SK MT d 140 (56, lv, st, S) r ↔ xA (xlook lv 0) (fun x => XL SK MT d 140 (57, lv, .ref x :: st, S) r) := X_ldA rfl rfl (fun _ => rfl) rfl rfl rfl rfl
theorem rX5_copyWords_57 {d : Nat} {lv : xLV} {st : List Value} {S : xS} {r : xO} : XL SK MT d 140 (57, lv, .ref 10 :: st, S) r ↔ XL SK MT d 140 (60, lv, .ref 9 :: st, S) r := X_heap rfl rfl rfl rfl rfl
theorem rX5_copyWords_60 {d : Nat} {lv : xLV} {st : List Value} {S : xS} {r : xO} : XL SK MT d 140 (60, lv, st, S) r ↔ XL SK MT d 140 (61, lv, .int 5 :: st, S) r := X_pure rfl rfl rfl
theorem rX5_copyWords_61 {d : Nat} {lv : xLV} {st : List Value} {S : xS} {r : xO} : XL SK MT d 140 (61, lv, st, S) r ↔ XL SK MT d 140 (63, lv, .int 11 :: st, S) r := X_pure rfl rfl rfl
theorem rX5_copyWords_63 {d : Nat} {lv : xLV} {st : List Value} {S : xS} {r : xO} : XL SK MT d 140 (63, lv, st, S) r ↔ XL SK MT d 140 (65, lv, .int 12 :: st, S) r := X_pure rfl rfl rfl
theorem rX5_copyWords_65 {d : Nat} {lv : xLV} {st : List Value} {S : xS} {r : xO} : XL SK MT d 140 (65, lv, st, S) r ↔ xI (xlook lv 1) (fun x => XL SK MT d 140 (66, lv, .int x :: st, S) r) := X_ldI rfl rfl (fun _ => rfl) rfl rfl rfl rfl
theorem rX5_copyWords_66 {d : Nat} {lv : xLV} {S : xS} {r : xO} {x1 : Int32} {x2 : Int32} {x3 : Int32} {x4 : Int32} : XL SK MT d 140 (66, lv, [.int x4, .int x3, .int x2, .int x1, .ref 9], S) r ↔ xK (XC SK MT d 24 [.ref 9, .int x1, .int x2, .int x3, .int x4] S) (fun v S => XL SK MT d 140 (69, lv, v.toList ++ [], S) r) := X_inv (n := 5) (kd := 2) (st0 := [.int x4, .int x3, .int x2, .int x1, .ref 9]) rfl (Or.inr ⟨rfl, rfl⟩) rfl (Nat.le_of_ble_eq_true rfl) (Nat.le_of_ble_eq_true rfl) (by decide) rfl
theorem rX5_copyWords_69 {d : Nat} {lv : xLV} {S : xS} {r : xO} : XL SK MT d 140 (69, lv, [], S) r ↔ (none, S) = r := X_ret rfl rfl rfl rfl rfl rfl

theorem rX5_step_0 {d : Nat} {lv : xLV} {st : List Value} {S : xS} {r : xO} : XL SK MT d 148 (0, lv, st, S) r ↔ xA (xlook lv 0) (fun x => XL SK MT d 148 (1, lv, .ref x :: st, S) r) := X_ldA rfl rfl (fun _ => rfl) rfl rfl rfl rfl
theorem rX5_step_1 {d : Nat} {lv : xLV} {st : List Value} {S : xS} {r : xO} : XL SK MT d 148 (1, lv, .ref 10 :: st, S) r ↔ XL SK MT d 148 (4, lv, .ref 9 :: st, S) r := X_heap rfl rfl rfl rfl rfl
theorem rX5_step_4 {d : Nat} {lv : xLV} {st : List Value} {S : xS} {r : xO} : XL SK MT d 148 (4, lv, st, S) r ↔ XL SK MT d 148 (5, lv, .int 5 :: st, S) r := X_pure rfl rfl rfl
theorem rX5_step_5 {d : Nat} {lv : xLV} {st : List Value} {S : xS} {r : xO} : XL SK MT d 148 (5, lv, st, S) r ↔ XL SK MT d 148 (7, lv, .int 20 :: st, S) r := X_pure rfl rfl rfl
theorem rX5_step_7 {d : Nat} {lv : xLV} {st : List Value} {S : xS} {r : xO} : XL SK MT d 148 (7, lv, st, S) r ↔ XL SK MT d 148 (8, lv, .int 0 :: st, S) r := X_pure rfl rfl rfl
theorem rX5_step_8 {d : Nat} {lv : xLV} {S : xS} {r : xO} {x1 : Int32} {x2 : Int32} {x3 : Int32} : XL SK MT d 148 (8, lv, [.int x3, .int x2, .int x1, .ref 9], S) r ↔ xK (XC SK MT d 26 [.ref 9, .int x1, .int x2, .int x3] S) (fun v S => XL SK MT d 148 (11, lv, v.toList ++ [], S) r) := X_inv (n := 4) (kd := 2) (st0 := [.int x3, .int x2, .int x1, .ref 9]) rfl (Or.inr ⟨rfl, rfl⟩) rfl (Nat.le_of_ble_eq_true rfl) (Nat.le_of_ble_eq_true rfl) (by decide) rfl
theorem rX5_step_11 {d : Nat} {lv : xLV} {st : List Value} {S : xS} {r : xO} : XL SK MT d 148 (11, lv, st, S) r ↔ xA (xlook lv 0) (fun x => XL SK MT d 148 (12, lv, .ref x :: st, S) r) := X_ldA rfl rfl (fun _ => rfl) rfl rfl rfl rfl
theorem rX5_step_12 {d : Nat} {lv : xLV} {st : List Value} {S : xS} {r : xO} : XL SK MT d 148 (12, lv, .ref 10 :: st, S) r ↔ XL SK MT d 148 (15, lv, .ref 9 :: st, S) r := X_heap rfl rfl rfl rfl rfl
theorem rX5_step_15 {d : Nat} {lv : xLV} {st : List Value} {S : xS} {r : xO} : XL SK MT d 148 (15, lv, st, S) r ↔ XL SK MT d 148 (17, lv, .int 65560 :: st, S) r := X_pure rfl rfl rfl
theorem rX5_step_17 {d : Nat} {lv : xLV} {S : xS} {r : xO} {x1 : Int32} : XL SK MT d 148 (17, lv, [.int x1, .ref 9], S) r ↔ xK (XC SK MT d 27 [.ref 9, .int x1] S) (fun v S => XL SK MT d 148 (20, lv, v.toList ++ [], S) r) := X_inv (n := 2) (kd := 2) (st0 := [.int x1, .ref 9]) rfl (Or.inr ⟨rfl, rfl⟩) rfl (Nat.le_of_ble_eq_true rfl) (Nat.le_of_ble_eq_true rfl) (by decide) rfl
theorem rX5_step_20 {d : Nat} {lv : xLV} {st : List Value} {S : xS} {r : xO} : XL SK MT d 148 (20, lv, st, S) r ↔ xA (xlook lv 0) (fun x => XL SK MT d 148 (21, lv, .ref x :: st, S) r) := X_ldA rfl rfl (fun _ => rfl) rfl rfl rfl rfl
theorem rX5_step_21 {d : Nat} {lv : xLV} {st : List Value} {S : xS} {r : xO} : XL SK MT d 148 (21, lv, .ref 10 :: st, S) r ↔ XL SK MT d 148 (24, lv, .ref 9 :: st, S) r := X_heap rfl rfl rfl rfl rfl
theorem rX5_step_24 {d : Nat} {lv : xLV} {st : List Value} {S : xS} {r : xO} : XL SK MT d 148 (24, lv, st, S) r ↔ XL SK MT d 148 (26, lv, .int 20 :: st, S) r := X_pure rfl rfl rfl
theorem rX5_step_26 {d : Nat} {lv : xLV} {st : List Value} {S : xS} {r : xO} : XL SK MT d 148 (26, lv, st, S) r ↔ XL SK MT d 148 (28, lv, .int 20 :: st, S) r := X_pure rfl rfl rfl
theorem rX5_step_28 {d : Nat} {lv : xLV} {st : List Value} {S : xS} {r : xO} : XL SK MT d 148 (28, lv, st, S) r ↔ XL SK MT d 148 (29, lv, .int (-1) :: st, S) r := X_pure rfl rfl rfl
theorem rX5_step_29 {d : Nat} {lv : xLV} {S : xS} {r : xO} {x1 : Int32} {x2 : Int32} {x3 : Int32} : XL SK MT d 148 (29, lv, [.int x3, .int x2, .int x1, .ref 9], S) r ↔ xK (XC SK MT d 20 [.ref 9, .int x1, .int x2, .int x3] S) (fun v S => XL SK MT d 148 (32, lv, v.toList ++ [], S) r) := X_inv (n := 4) (kd := 2) (st0 := [.int x3, .int x2, .int x1, .ref 9]) rfl (Or.inr ⟨rfl, rfl⟩) rfl (Nat.le_of_ble_eq_true rfl) (Nat.le_of_ble_eq_true rfl) (by decide) rfl
theorem rX5_step_32 {d : Nat} {lv : xLV} {S : xS} {r : xO} : XL SK MT d 148 (32, lv, [], S) r ↔ (none, S) = r := X_ret rfl rfl rfl rfl rfl rfl

theorem rX5_enterObject_0 {d : Nat} {lv : xLV} {st : List Value} {S : xS} {r : xO} : XL SK MT d 149 (0, lv, st, S) r ↔ xA (xlook lv 0) (fun x => XL SK MT d 149 (1, lv, .ref x :: st, S) r) := X_ldA rfl rfl (fun _ => rfl) rfl rfl rfl rfl
theorem rX5_enterObject_1 {d : Nat} {lv : xLV} {st : List Value} {S : xS} {r : xO} : XL SK MT d 149 (1, lv, .ref 10 :: st, S) r ↔ XL SK MT d 149 (4, lv, .ref 9 :: st, S) r := X_heap rfl rfl rfl rfl rfl
theorem rX5_enterObject_4 {d : Nat} {lv : xLV} {st : List Value} {S : xS} {r : xO} : XL SK MT d 149 (4, lv, st, S) r ↔ XL SK MT d 149 (6, lv, .int 9 :: st, S) r := X_pure rfl rfl rfl
theorem rX5_enterObject_6 {d : Nat} {lv : xLV} {st : List Value} {S : xS} {r : xO} : XL SK MT d 149 (6, lv, st, S) r ↔ XL SK MT d 149 (7, lv, .int 4 :: st, S) r := X_pure rfl rfl rfl
theorem rX5_enterObject_7 {d : Nat} {lv : xLV} {st : List Value} {S : xS} {r : xO} : XL SK MT d 149 (7, lv, st, S) r ↔ XL SK MT d 149 (9, lv, .int 8 :: st, S) r := X_pure rfl rfl rfl
theorem rX5_enterObject_9 {d : Nat} {lv : xLV} {S : xS} {r : xO} {x1 : Int32} {x2 : Int32} {x3 : Int32} : XL SK MT d 149 (9, lv, [.int x3, .int x2, .int x1, .ref 9], S) r ↔ xK (XC SK MT d 18 [.ref 9, .int x1, .int x2, .int x3] S) (fun v S => XL SK MT d 149 (12, lv, v.toList ++ [], S) r) := X_inv (n := 4) (kd := 2) (st0 := [.int x3, .int x2, .int x1, .ref 9]) rfl (Or.inr ⟨rfl, rfl⟩) rfl (Nat.le_of_ble_eq_true rfl) (Nat.le_of_ble_eq_true rfl) (by decide) rfl
theorem rX5_enterObject_12 {d : Nat} {lv : xLV} {st : List Value} {S : xS} {r : xO} : XL SK MT d 149 (12, lv, st, S) r ↔ xA (xlook lv 0) (fun x => XL SK MT d 149 (13, lv, .ref x :: st, S) r) := X_ldA rfl rfl (fun _ => rfl) rfl rfl rfl rfl
theorem rX5_enterObject_13 {d : Nat} {lv : xLV} {st : List Value} {S : xS} {r : xO} : XL SK MT d 149 (13, lv, .ref 10 :: st, S) r ↔ XL SK MT d 149 (16, lv, .ref 9 :: st, S) r := X_heap rfl rfl rfl rfl rfl
theorem rX5_enterObject_16 {d : Nat} {lv : xLV} {st : List Value} {S : xS} {r : xO} : XL SK MT d 149 (16, lv, st, S) r ↔ XL SK MT d 149 (18, lv, .int 9 :: st, S) r := X_pure rfl rfl rfl
theorem rX5_enterObject_18 {d : Nat} {lv : xLV} {st : List Value} {S : xS} {r : xO} : XL SK MT d 149 (18, lv, st, S) r ↔ XL SK MT d 149 (20, lv, .int 9 :: st, S) r := X_pure rfl rfl rfl
theorem rX5_enterObject_20 {d : Nat} {lv : xLV} {st : List Value} {S : xS} {r : xO} : XL SK MT d 149 (20, lv, st, S) r ↔ XL SK MT d 149 (21, lv, .int (-1) :: st, S) r := X_pure rfl rfl rfl
theorem rX5_enterObject_21 {d : Nat} {lv : xLV} {S : xS} {r : xO} {x1 : Int32} {x2 : Int32} {x3 : Int32} : XL SK MT d 149 (21, lv, [.int x3, .int x2, .int x1, .ref 9], S) r ↔ xK (XC SK MT d 20 [.ref 9, .int x1, .int x2, .int x3] S) (fun v S => XL SK MT d 149 (24, lv, v.toList ++ [], S) r) := X_inv (n := 4) (kd := 2) (st0 := [.int x3, .int x2, .int x1, .ref 9]) rfl (Or.inr ⟨rfl, rfl⟩) rfl (Nat.le_of_ble_eq_true rfl) (Nat.le_of_ble_eq_true rfl) (by decide) rfl
theorem rX5_enterObject_24 {d : Nat} {lv : xLV} {st : List Value} {S : xS} {r : xO} : XL SK MT d 149 (24, lv, st, S) r ↔ xA (xlook lv 0) (fun x => XL SK MT d 149 (25, lv, .ref x :: st, S) r) := X_ldA rfl rfl (fun _ => rfl) rfl rfl rfl rfl
theorem rX5_enterObject_25 {d : Nat} {lv : xLV} {st : List Value} {S : xS} {r : xO} : XL SK MT d 149 (25, lv, .ref 10 :: st, S) r ↔ XL SK MT d 149 (28, lv, .ref 9 :: st, S) r := X_heap rfl rfl rfl rfl rfl
theorem rX5_enterObject_28 {d : Nat} {lv : xLV} {st : List Value} {S : xS} {r : xO} : XL SK MT d 149 (28, lv, st, S) r ↔ XL SK MT d 149 (30, lv, .int 9 :: st, S) r := X_pure rfl rfl rfl
theorem rX5_enterObject_30 {d : Nat} {lv : xLV} {S : xS} {r : xO} {x1 : Int32} : XL SK MT d 149 (30, lv, [.int x1, .ref 9], S) r ↔ xK (XC SK MT d 29 [.ref 9, .int x1] S) (fun v S => XL SK MT d 149 (33, lv, v.toList ++ [], S) r) := X_inv (n := 2) (kd := 2) (st0 := [.int x1, .ref 9]) rfl (Or.inr ⟨rfl, rfl⟩) rfl (Nat.le_of_ble_eq_true rfl) (Nat.le_of_ble_eq_true rfl) (by decide) rfl
theorem rX5_enterObject_33 {d : Nat} {lv : xLV} {S : xS} {r : xO} : XL SK MT d 149 (33, lv, [], S) r ↔ (none, S) = r := X_ret rfl rfl rfl rfl rfl rfl

theorem rX5_start_0 {d : Nat} {lv : xLV} {st : List Value} {S : xS} {r : xO} : XL SK MT d 133 (0, lv, st, S) r ↔ XL SK MT d 133 (1, lv, .int 0 :: st, S) r := X_pure rfl rfl rfl
theorem rX5_start_1 {d : Nat} {lv : xLV} {st : List Value} {S : xS} {r : xO} {x : Int32} : XL SK MT d 133 (1, lv, .int x :: st, S) r ↔ XL SK MT d 133 (2, xst1 lv 1 (.int x), st, S) r := X_pure rfl rfl rfl
theorem rX5_start_2 {d : Nat} {lv : xLV} {st : List Value} {S : xS} {r : xO} : XL SK MT d 133 (2, lv, st, S) r ↔ xA (xlook lv 0) (fun x => XL SK MT d 133 (3, lv, .ref x :: st, S) r) := X_ldA rfl rfl (fun _ => rfl) rfl rfl rfl rfl
theorem rX5_start_3 {d : Nat} {lv : xLV} {st : List Value} {S : xS} {r : xO} : XL SK MT d 133 (3, lv, .ref 10 :: st, S) r ↔ XL SK MT d 133 (6, lv, .ref 9 :: st, S) r := X_heap rfl rfl rfl rfl rfl
theorem rX5_start_6 {d : Nat} {lv : xLV} {st : List Value} {S : xS} {r : xO} : XL SK MT d 133 (6, lv, st, S) r ↔ XL SK MT d 133 (8, lv, .int 16 :: st, S) r := X_pure rfl rfl rfl
theorem rX5_start_8 {d : Nat} {lv : xLV} {st : List Value} {S : xS} {r : xO} : XL SK MT d 133 (8, lv, st, S) r ↔ XL SK MT d 133 (11, lv, .int 22528 :: st, S) r := X_pure rfl rfl rfl
theorem rX5_start_11 {d : Nat} {lv : xLV} {S : xS} {r : xO} {x1 : Int32} {x2 : Int32} : XL SK MT d 133 (11, lv, [.int x2, .int x1, .ref 9], S) r ↔ xK (XC SK MT d 22 [.ref 9, .int x1, .int x2] S) (fun v S => XL SK MT d 133 (14, lv, v.toList ++ [], S) r) := X_inv (n := 3) (kd := 2) (st0 := [.int x2, .int x1, .ref 9]) rfl (Or.inr ⟨rfl, rfl⟩) rfl (Nat.le_of_ble_eq_true rfl) (Nat.le_of_ble_eq_true rfl) (by decide) rfl
theorem rX5_start_14 {d : Nat} {lv : xLV} {st : List Value} {S : xS} {r : xO} : XL SK MT d 133 (14, lv, st, S) r ↔ xA (xlook lv 0) (fun x => XL SK MT d 133 (15, lv, .ref x :: st, S) r) := X_ldA rfl rfl (fun _ => rfl) rfl rfl rfl rfl
theorem rX5_start_15 {d : Nat} {lv : xLV} {st : List Value} {S : xS} {r : xO} : XL SK MT d 133 (15, lv, .ref 10 :: st, S) r ↔ XL SK MT d 133 (18, lv, .ref 9 :: st, S) r := X_heap rfl rfl rfl rfl rfl
theorem rX5_start_18 {d : Nat} {lv : xLV} {st : List Value} {S : xS} {r : xO} : XL SK MT d 133 (18, lv, st, S) r ↔ XL SK MT d 133 (20, lv, .int 18 :: st, S) r := X_pure rfl rfl rfl
theorem rX5_start_20 {d : Nat} {lv : xLV} {st : List Value} {S : xS} {r : xO} : XL SK MT d 133 (20, lv, st, S) r ↔ XL SK MT d 133 (22, lv, .int 46592 :: st, S) r := X_pure rfl rfl rfl
theorem rX5_start_22 {d : Nat} {lv : xLV} {S : xS} {r : xO} {x1 : Int32} {x2 : Int32} : XL SK MT d 133 (22, lv, [.int x2, .int x1, .ref 9], S) r ↔ xK (XC SK MT d 22 [.ref 9, .int x1, .int x2] S) (fun v S => XL SK MT d 133 (25, lv, v.toList ++ [], S) r) := X_inv (n := 3) (kd := 2) (st0 := [.int x2, .int x1, .ref 9]) rfl (Or.inr ⟨rfl, rfl⟩) rfl (Nat.le_of_ble_eq_true rfl) (Nat.le_of_ble_eq_true rfl) (by decide) rfl
theorem rX5_start_25 {d : Nat} {lv : xLV} {st : List Value} {S : xS} {r : xO} : XL SK MT d 133 (25, lv, st, S) r ↔ xA (xlook lv 0) (fun x => XL SK MT d 133 (26, lv, .ref x :: st, S) r) := X_ldA rfl rfl (fun _ => rfl) rfl rfl rfl rfl
theorem rX5_start_26 {d : Nat} {lv : xLV} {st : List Value} {S : xS} {r : xO} : XL SK MT d 133 (26, lv, .ref 10 :: st, S) r ↔ XL SK MT d 133 (29, lv, .ref 9 :: st, S) r := X_heap rfl rfl rfl rfl rfl
theorem rX5_start_29 {d : Nat} {lv : xLV} {st : List Value} {S : xS} {r : xO} : XL SK MT d 133 (29, lv, st, S) r ↔ XL SK MT d 133 (31, lv, .int 8 :: st, S) r := X_pure rfl rfl rfl
theorem rX5_start_31 {d : Nat} {lv : xLV} {st : List Value} {S : xS} {r : xO} : XL SK MT d 133 (31, lv, st, S) r ↔ XL SK MT d 133 (34, lv, .int 1096 :: st, S) r := X_pure rfl rfl rfl
theorem rX5_start_34 {d : Nat} {lv : xLV} {st : List Value} {S : xS} {r : xO} : XL SK MT d 133 (34, lv, st, S) r ↔ XL SK MT d 133 (35, lv, .int 0 :: st, S) r := X_pure rfl rfl rfl
theorem rX5_start_35 {d : Nat} {lv : xLV} {S : xS} {r : xO} {x1 : Int32} {x2 : Int32} {x3 : Int32} : XL SK MT d 133 (35, lv, [.int x3, .int x2, .int x1, .ref 9], S) r ↔ xK (XC SK MT d 18 [.ref 9, .int x1, .int x2, .int x3] S) (fun v S => XL SK MT d 133 (38, lv, v.toList ++ [], S) r) := X_inv (n := 4) (kd := 2) (st0 := [.int x3, .int x2, .int x1, .ref 9]) rfl (Or.inr ⟨rfl, rfl⟩) rfl (Nat.le_of_ble_eq_true rfl) (Nat.le_of_ble_eq_true rfl) (by decide) rfl
theorem rX5_start_38 {d : Nat} {lv : xLV} {st : List Value} {S : xS} {r : xO} : XL SK MT d 133 (38, lv, st, S) r ↔ xA (xlook lv 0) (fun x => XL SK MT d 133 (39, lv, .ref x :: st, S) r) := X_ldA rfl rfl (fun _ => rfl) rfl rfl rfl rfl
theorem rX5_start_39 {d : Nat} {lv : xLV} {st : List Value} {S : xS} {r : xO} : XL SK MT d 133 (39, lv, .ref 10 :: st, S) r ↔ XL SK MT d 133 (42, lv, .ref 9 :: st, S) r := X_heap rfl rfl rfl rfl rfl
theorem rX5_start_42 {d : Nat} {lv : xLV} {st : List Value} {S : xS} {r : xO} : XL SK MT d 133 (42, lv, st, S) r ↔ XL SK MT d 133 (44, lv, .int 9 :: st, S) r := X_pure rfl rfl rfl
theorem rX5_start_44 {d : Nat} {lv : xLV} {st : List Value} {S : xS} {r : xO} : XL SK MT d 133 (44, lv, st, S) r ↔ XL SK MT d 133 (46, lv, .int 62976 :: st, S) r := X_pure rfl rfl rfl
theorem rX5_start_46 {d : Nat} {lv : xLV} {S : xS} {r : xO} {x1 : Int32} {x2 : Int32} : XL SK MT d 133 (46, lv, [.int x2, .int x1, .ref 9], S) r ↔ xK (XC SK MT d 22 [.ref 9, .int x1, .int x2] S) (fun v S => XL SK MT d 133 (49, lv, v.toList ++ [], S) r) := X_inv (n := 3) (kd := 2) (st0 := [.int x2, .int x1, .ref 9]) rfl (Or.inr ⟨rfl, rfl⟩) rfl (Nat.le_of_ble_eq_true rfl) (Nat.le_of_ble_eq_true rfl) (by decide) rfl
theorem rX5_start_49 {d : Nat} {lv : xLV} {st : List Value} {S : xS} {r : xO} : XL SK MT d 133 (49, lv, st, S) r ↔ xA (xlook lv 0) (fun x => XL SK MT d 133 (50, lv, .ref x :: st, S) r) := X_ldA rfl rfl (fun _ => rfl) rfl rfl rfl rfl
theorem rX5_start_50 {d : Nat} {lv : xLV} {st : List Value} {S : xS} {r : xO} : XL SK MT d 133 (50, lv, .ref 10 :: st, S) r ↔ XL SK MT d 133 (53, lv, .ref 9 :: st, S) r := X_heap rfl rfl rfl rfl rfl
theorem rX5_start_53 {d : Nat} {lv : xLV} {st : List Value} {S : xS} {r : xO} : XL SK MT d 133 (53, lv, st, S) r ↔ XL SK MT d 133 (55, lv, .int 17 :: st, S) r := X_pure rfl rfl rfl
theorem rX5_start_55 {d : Nat} {lv : xLV} {st : List Value} {S : xS} {r : xO} : XL SK MT d 133 (55, lv, st, S) r ↔ XL SK MT d 133 (57, lv, .int 16 :: st, S) r := X_pure rfl rfl rfl
theorem rX5_start_57 {d : Nat} {lv : xLV} {S : xS} {r : xO} {x1 : Int32} {x2 : Int32} : XL SK MT d 133 (57, lv, [.int x2, .int x1, .ref 9], S) r ↔ xK (XC SK MT d 21 [.ref 9, .int x1, .int x2] S) (fun v S => XL SK MT d 133 (60, lv, v.toList ++ [], S) r) := X_inv (n := 3) (kd := 2) (st0 := [.int x2, .int x1, .ref 9]) rfl (Or.inr ⟨rfl, rfl⟩) rfl (Nat.le_of_ble_eq_true rfl) (Nat.le_of_ble_eq_true rfl) (by decide) rfl
theorem rX5_start_60 {d : Nat} {lv : xLV} {st : List Value} {S : xS} {r : xO} : XL SK MT d 133 (60, lv, st, S) r ↔ xA (xlook lv 0) (fun x => XL SK MT d 133 (61, lv, .ref x :: st, S) r) := X_ldA rfl rfl (fun _ => rfl) rfl rfl rfl rfl
theorem rX5_start_61 {d : Nat} {lv : xLV} {st : List Value} {S : xS} {r : xO} : XL SK MT d 133 (61, lv, .ref 10 :: st, S) r ↔ XL SK MT d 133 (64, lv, .ref 9 :: st, S) r := X_heap rfl rfl rfl rfl rfl
theorem rX5_start_64 {d : Nat} {lv : xLV} {st : List Value} {S : xS} {r : xO} : XL SK MT d 133 (64, lv, st, S) r ↔ XL SK MT d 133 (66, lv, .int 22 :: st, S) r := X_pure rfl rfl rfl
theorem rX5_start_66 {d : Nat} {lv : xLV} {st : List Value} {S : xS} {r : xO} : XL SK MT d 133 (66, lv, st, S) r ↔ XL SK MT d 133 (68, lv, .int 16 :: st, S) r := X_pure rfl rfl rfl
theorem rX5_start_68 {d : Nat} {lv : xLV} {S : xS} {r : xO} {x1 : Int32} {x2 : Int32} : XL SK MT d 133 (68, lv, [.int x2, .int x1, .ref 9], S) r ↔ xK (XC SK MT d 21 [.ref 9, .int x1, .int x2] S) (fun v S => XL SK MT d 133 (71, lv, v.toList ++ [], S) r) := X_inv (n := 3) (kd := 2) (st0 := [.int x2, .int x1, .ref 9]) rfl (Or.inr ⟨rfl, rfl⟩) rfl (Nat.le_of_ble_eq_true rfl) (Nat.le_of_ble_eq_true rfl) (by decide) rfl
theorem rX5_start_71 {d : Nat} {lv : xLV} {st : List Value} {S : xS} {r : xO} : XL SK MT d 133 (71, lv, st, S) r ↔ xA (xlook lv 0) (fun x => XL SK MT d 133 (72, lv, .ref x :: st, S) r) := X_ldA rfl rfl (fun _ => rfl) rfl rfl rfl rfl
theorem rX5_start_72 {d : Nat} {lv : xLV} {st : List Value} {S : xS} {r : xO} : XL SK MT d 133 (72, lv, .ref 10 :: st, S) r ↔ XL SK MT d 133 (75, lv, .ref 9 :: st, S) r := X_heap rfl rfl rfl rfl rfl
theorem rX5_start_75 {d : Nat} {lv : xLV} {st : List Value} {S : xS} {r : xO} : XL SK MT d 133 (75, lv, st, S) r ↔ XL SK MT d 133 (77, lv, .int 33 :: st, S) r := X_pure rfl rfl rfl
theorem rX5_start_77 {d : Nat} {lv : xLV} {st : List Value} {S : xS} {r : xO} : XL SK MT d 133 (77, lv, st, S) r ↔ XL SK MT d 133 (79, lv, .int 19 :: st, S) r := X_pure rfl rfl rfl
theorem rX5_start_79 {d : Nat} {lv : xLV} {st : List Value} {S : xS} {r : xO} : XL SK MT d 133 (79, lv, st, S) r ↔ XL SK MT d 133 (81, lv, .int 18 :: st, S) r := X_pure rfl rfl rfl
theorem rX5_start_81 {d : Nat} {lv : xLV} {st : List Value} {S : xS} {r : xO} : XL SK MT d 133 (81, lv, st, S) r ↔ XL SK MT d 133 (83, lv, .int 8 :: st, S) r := X_pure rfl rfl rfl
theorem rX5_start_83 {d : Nat} {lv : xLV} {S : xS} {r : xO} {x1 : Int32} {x2 : Int32} {x3 : Int32} {x4 : Int32} : XL SK MT d 133 (83, lv, [.int x4, .int x3, .int x2, .int x1, .ref 9], S) r ↔ xK (XC SK MT d 15 [.ref 9, .int x1, .int x2, .int x3, .int x4] S) (fun v S => XL SK MT d 133 (86, lv, v.toList ++ [], S) r) := X_inv (n := 5) (kd := 2) (st0 := [.int x4, .int x3, .int x2, .int x1, .ref 9]) rfl (Or.inr ⟨rfl, rfl⟩) rfl (Nat.le_of_ble_eq_true rfl) (Nat.le_of_ble_eq_true rfl) (by decide) rfl
theorem rX5_start_86 {d : Nat} {lv : xLV} {st : List Value} {S : xS} {r : xO} : XL SK MT d 133 (86, lv, st, S) r ↔ xA (xlook lv 0) (fun x => XL SK MT d 133 (87, lv, .ref x :: st, S) r) := X_ldA rfl rfl (fun _ => rfl) rfl rfl rfl rfl
theorem rX5_start_87 {d : Nat} {lv : xLV} {st : List Value} {S : xS} {r : xO} : XL SK MT d 133 (87, lv, .ref 10 :: st, S) r ↔ XL SK MT d 133 (90, lv, .ref 9 :: st, S) r := X_heap rfl rfl rfl rfl rfl
theorem rX5_start_90 {d : Nat} {lv : xLV} {st : List Value} {S : xS} {r : xO} : XL SK MT d 133 (90, lv, st, S) r ↔ XL SK MT d 133 (92, lv, .int 20 :: st, S) r := X_pure rfl rfl rfl
theorem rX5_start_92 {d : Nat} {lv : xLV} {st : List Value} {S : xS} {r : xO} : XL SK MT d 133 (92, lv, st, S) r ↔ XL SK MT d 133 (95, lv, .int 1112 :: st, S) r := X_pure rfl rfl rfl
theorem rX5_start_95 {d : Nat} {lv : xLV} {st : List Value} {S : xS} {r : xO} : XL SK MT d 133 (95, lv, st, S) r ↔ XL SK MT d 133 (96, lv, .int 0 :: st, S) r := X_pure rfl rfl rfl
theorem rX5_start_96 {d : Nat} {lv : xLV} {S : xS} {r : xO} {x1 : Int32} {x2 : Int32} {x3 : Int32} : XL SK MT d 133 (96, lv, [.int x3, .int x2, .int x1, .ref 9], S) r ↔ xK (XC SK MT d 18 [.ref 9, .int x1, .int x2, .int x3] S) (fun v S => XL SK MT d 133 (99, lv, v.toList ++ [], S) r) := X_inv (n := 4) (kd := 2) (st0 := [.int x3, .int x2, .int x1, .ref 9]) rfl (Or.inr ⟨rfl, rfl⟩) rfl (Nat.le_of_ble_eq_true rfl) (Nat.le_of_ble_eq_true rfl) (by decide) rfl
theorem rX5_start_99 {d : Nat} {lv : xLV} {st : List Value} {S : xS} {r : xO} : XL SK MT d 133 (99, lv, st, S) r ↔ xA (xlook lv 0) (fun x => XL SK MT d 133 (100, lv, .ref x :: st, S) r) := X_ldA rfl rfl (fun _ => rfl) rfl rfl rfl rfl
theorem rX5_start_100 {d : Nat} {lv : xLV} {st : List Value} {S : xS} {r : xO} : XL SK MT d 133 (100, lv, .ref 10 :: st, S) r ↔ XL SK MT d 133 (103, lv, .ref 9 :: st, S) r := X_heap rfl rfl rfl rfl rfl
theorem rX5_start_103 {d : Nat} {lv : xLV} {st : List Value} {S : xS} {r : xO} : XL SK MT d 133 (103, lv, st, S) r ↔ XL SK MT d 133 (105, lv, .int 18 :: st, S) r := X_pure rfl rfl rfl
theorem rX5_start_105 {d : Nat} {lv : xLV} {st : List Value} {S : xS} {r : xO} : XL SK MT d 133 (105, lv, st, S) r ↔ XL SK MT d 133 (108, lv, .int 1088 :: st, S) r := X_pure rfl rfl rfl
theorem rX5_start_108 {d : Nat} {lv : xLV} {st : List Value} {S : xS} {r : xO} : XL SK MT d 133 (108, lv, st, S) r ↔ XL SK MT d 133 (109, lv, .int 0 :: st, S) r := X_pure rfl rfl rfl
theorem rX5_start_109 {d : Nat} {lv : xLV} {S : xS} {r : xO} {x1 : Int32} {x2 : Int32} {x3 : Int32} : XL SK MT d 133 (109, lv, [.int x3, .int x2, .int x1, .ref 9], S) r ↔ xK (XC SK MT d 19 [.ref 9, .int x1, .int x2, .int x3] S) (fun v S => XL SK MT d 133 (112, lv, v.toList ++ [], S) r) := X_inv (n := 4) (kd := 2) (st0 := [.int x3, .int x2, .int x1, .ref 9]) rfl (Or.inr ⟨rfl, rfl⟩) rfl (Nat.le_of_ble_eq_true rfl) (Nat.le_of_ble_eq_true rfl) (by decide) rfl
theorem rX5_start_112 {d : Nat} {lv : xLV} {st : List Value} {S : xS} {r : xO} : XL SK MT d 133 (112, lv, st, S) r ↔ xA (xlook lv 0) (fun x => XL SK MT d 133 (113, lv, .ref x :: st, S) r) := X_ldA rfl rfl (fun _ => rfl) rfl rfl rfl rfl
theorem rX5_start_113 {d : Nat} {lv : xLV} {st : List Value} {S : xS} {r : xO} : XL SK MT d 133 (113, lv, .ref 10 :: st, S) r ↔ XL SK MT d 133 (116, lv, .ref 9 :: st, S) r := X_heap rfl rfl rfl rfl rfl
theorem rX5_start_116 {d : Nat} {lv : xLV} {st : List Value} {S : xS} {r : xO} : XL SK MT d 133 (116, lv, st, S) r ↔ XL SK MT d 133 (118, lv, .int 9 :: st, S) r := X_pure rfl rfl rfl
theorem rX5_start_118 {d : Nat} {lv : xLV} {st : List Value} {S : xS} {r : xO} : XL SK MT d 133 (118, lv, st, S) r ↔ XL SK MT d 133 (121, lv, .int 1092 :: st, S) r := X_pure rfl rfl rfl
theorem rX5_start_121 {d : Nat} {lv : xLV} {st : List Value} {S : xS} {r : xO} : XL SK MT d 133 (121, lv, st, S) r ↔ XL SK MT d 133 (122, lv, .int 0 :: st, S) r := X_pure rfl rfl rfl
theorem rX5_start_122 {d : Nat} {lv : xLV} {S : xS} {r : xO} {x1 : Int32} {x2 : Int32} {x3 : Int32} : XL SK MT d 133 (122, lv, [.int x3, .int x2, .int x1, .ref 9], S) r ↔ xK (XC SK MT d 19 [.ref 9, .int x1, .int x2, .int x3] S) (fun v S => XL SK MT d 133 (125, lv, v.toList ++ [], S) r) := X_inv (n := 4) (kd := 2) (st0 := [.int x3, .int x2, .int x1, .ref 9]) rfl (Or.inr ⟨rfl, rfl⟩) rfl (Nat.le_of_ble_eq_true rfl) (Nat.le_of_ble_eq_true rfl) (by decide) rfl
theorem rX5_start_125 {d : Nat} {lv : xLV} {st : List Value} {S : xS} {r : xO} : XL SK MT d 133 (125, lv, st, S) r ↔ xA (xlook lv 0) (fun x => XL SK MT d 133 (126, lv, .ref x :: st, S) r) := X_ldA rfl rfl (fun _ => rfl) rfl rfl rfl rfl
theorem rX5_start_126 {d : Nat} {lv : xLV} {st : List Value} {S : xS} {r : xO} : XL SK MT d 133 (126, lv, .ref 10 :: st, S) r ↔ XL SK MT d 133 (129, lv, .ref 9 :: st, S) r := X_heap rfl rfl rfl rfl rfl
theorem rX5_start_129 {d : Nat} {lv : xLV} {st : List Value} {S : xS} {r : xO} : XL SK MT d 133 (129, lv, st, S) r ↔ XL SK MT d 133 (130, lv, .int 0 :: st, S) r := X_pure rfl rfl rfl
theorem rX5_start_130 {d : Nat} {lv : xLV} {st : List Value} {S : xS} {r : xO} : XL SK MT d 133 (130, lv, st, S) r ↔ XL SK MT d 133 (133, lv, .int 1100 :: st, S) r := X_pure rfl rfl rfl
theorem rX5_start_133 {d : Nat} {lv : xLV} {st : List Value} {S : xS} {r : xO} : XL SK MT d 133 (133, lv, st, S) r ↔ XL SK MT d 133 (134, lv, .int 0 :: st, S) r := X_pure rfl rfl rfl
theorem rX5_start_134 {d : Nat} {lv : xLV} {S : xS} {r : xO} {x1 : Int32} {x2 : Int32} {x3 : Int32} : XL SK MT d 133 (134, lv, [.int x3, .int x2, .int x1, .ref 9], S) r ↔ xK (XC SK MT d 19 [.ref 9, .int x1, .int x2, .int x3] S) (fun v S => XL SK MT d 133 (137, lv, v.toList ++ [], S) r) := X_inv (n := 4) (kd := 2) (st0 := [.int x3, .int x2, .int x1, .ref 9]) rfl (Or.inr ⟨rfl, rfl⟩) rfl (Nat.le_of_ble_eq_true rfl) (Nat.le_of_ble_eq_true rfl) (by decide) rfl
theorem rX5_start_137 {d : Nat} {lv : xLV} {st : List Value} {S : xS} {r : xO} : XL SK MT d 133 (137, lv, st, S) r ↔ xA (xlook lv 0) (fun x => XL SK MT d 133 (138, lv, .ref x :: st, S) r) := X_ldA rfl rfl (fun _ => rfl) rfl rfl rfl rfl
theorem rX5_start_138 {d : Nat} {lv : xLV} {st : List Value} {S : xS} {r : xO} : XL SK MT d 133 (138, lv, .ref 10 :: st, S) r ↔ XL SK MT d 133 (141, lv, .ref 9 :: st, S) r := X_heap rfl rfl rfl rfl rfl
theorem rX5_start_141 {d : Nat} {lv : xLV} {st : List Value} {S : xS} {r : xO} : XL SK MT d 133 (141, lv, st, S) r ↔ XL SK MT d 133 (142, lv, .int 0 :: st, S) r := X_pure rfl rfl rfl
theorem rX5_start_142 {d : Nat} {lv : xLV} {st : List Value} {S : xS} {r : xO} : XL SK MT d 133 (142, lv, st, S) r ↔ XL SK MT d 133 (145, lv, .int 1104 :: st, S) r := X_pure rfl rfl rfl
theorem rX5_start_145 {d : Nat} {lv : xLV} {st : List Value} {S : xS} {r : xO} : XL SK MT d 133 (145, lv, st, S) r ↔ XL SK MT d 133 (146, lv, .int 0 :: st, S) r := X_pure rfl rfl rfl
theorem rX5_start_146 {d : Nat} {lv : xLV} {S : xS} {r : xO} {x1 : Int32} {x2 : Int32} {x3 : Int32} : XL SK MT d 133 (146, lv, [.int x3, .int x2, .int x1, .ref 9], S) r ↔ xK (XC SK MT d 19 [.ref 9, .int x1, .int x2, .int x3] S) (fun v S => XL SK MT d 133 (149, lv, v.toList ++ [], S) r) := X_inv (n := 4) (kd := 2) (st0 := [.int x3, .int x2, .int x1, .ref 9]) rfl (Or.inr ⟨rfl, rfl⟩) rfl (Nat.le_of_ble_eq_true rfl) (Nat.le_of_ble_eq_true rfl) (by decide) rfl
theorem rX5_start_149 {d : Nat} {lv : xLV} {st : List Value} {S : xS} {r : xO} : XL SK MT d 133 (149, lv, st, S) r ↔ xA (xlook lv 0) (fun x => XL SK MT d 133 (150, lv, .ref x :: st, S) r) := X_ldA rfl rfl (fun _ => rfl) rfl rfl rfl rfl
theorem rX5_start_150 {d : Nat} {lv : xLV} {st : List Value} {S : xS} {r : xO} : XL SK MT d 133 (150, lv, .ref 10 :: st, S) r ↔ XL SK MT d 133 (153, lv, .ref 9 :: st, S) r := X_heap rfl rfl rfl rfl rfl
theorem rX5_start_153 {d : Nat} {lv : xLV} {st : List Value} {S : xS} {r : xO} : XL SK MT d 133 (153, lv, st, S) r ↔ XL SK MT d 133 (155, lv, .int 23 :: st, S) r := X_pure rfl rfl rfl
theorem rX5_start_155 {d : Nat} {lv : xLV} {st : List Value} {S : xS} {r : xO} : XL SK MT d 133 (155, lv, st, S) r ↔ XL SK MT d 133 (157, lv, .int 46528 :: st, S) r := X_pure rfl rfl rfl
theorem rX5_start_157 {d : Nat} {lv : xLV} {S : xS} {r : xO} {x1 : Int32} {x2 : Int32} : XL SK MT d 133 (157, lv, [.int x2, .int x1, .ref 9], S) r ↔ xK (XC SK MT d 22 [.ref 9, .int x1, .int x2] S) (fun v S => XL SK MT d 133 (160, lv, v.toList ++ [], S) r) := X_inv (n := 3) (kd := 2) (st0 := [.int x2, .int x1, .ref 9]) rfl (Or.inr ⟨rfl, rfl⟩) rfl (Nat.le_of_ble_eq_true rfl) (Nat.le_of_ble_eq_true rfl) (by decide) rfl
theorem rX5_start_160 {d : Nat} {lv : xLV} {st : List Value} {S : xS} {r : xO} : XL SK MT d 133 (160, lv, st, S) r ↔ xA (xlook lv 0) (fun x => XL SK MT d 133 (161, lv, .ref x :: st, S) r) := X_ldA rfl rfl (fun _ => rfl) rfl rfl rfl rfl
theorem rX5_start_161 {d : Nat} {lv : xLV} {st : List Value} {S : xS} {r : xO} : XL SK MT d 133 (161, lv, .ref 10 :: st, S) r ↔ XL SK MT d 133 (164, lv, .ref 9 :: st, S) r := X_heap rfl rfl rfl rfl rfl
theorem rX5_start_164 {d : Nat} {lv : xLV} {st : List Value} {S : xS} {r : xO} : XL SK MT d 133 (164, lv, st, S) r ↔ XL SK MT d 133 (166, lv, .int 21 :: st, S) r := X_pure rfl rfl rfl
theorem rX5_start_166 {d : Nat} {lv : xLV} {st : List Value} {S : xS} {r : xO} : XL SK MT d 133 (166, lv, st, S) r ↔ XL SK MT d 133 (167, lv, .int 0 :: st, S) r := X_pure rfl rfl rfl
theorem rX5_start_167 {d : Nat} {lv : xLV} {S : xS} {r : xO} {x1 : Int32} {x2 : Int32} : XL SK MT d 133 (167, lv, [.int x2, .int x1, .ref 9], S) r ↔ xK (XC SK MT d 22 [.ref 9, .int x1, .int x2] S) (fun v S => XL SK MT d 133 (170, lv, v.toList ++ [], S) r) := X_inv (n := 3) (kd := 2) (st0 := [.int x2, .int x1, .ref 9]) rfl (Or.inr ⟨rfl, rfl⟩) rfl (Nat.le_of_ble_eq_true rfl) (Nat.le_of_ble_eq_true rfl) (by decide) rfl
theorem rX5_start_170 {d : Nat} {lv : xLV} {st : List Value} {S : xS} {r : xO} : XL SK MT d 133 (170, lv, st, S) r ↔ xA (xlook lv 0) (fun x => XL SK MT d 133 (171, lv, .ref x :: st, S) r) := X_ldA rfl rfl (fun _ => rfl) rfl rfl rfl rfl
theorem rX5_start_171 {d : Nat} {lv : xLV} {st : List Value} {S : xS} {r : xO} : XL SK MT d 133 (171, lv, .ref 10 :: st, S) r ↔ XL SK MT d 133 (174, lv, .ref 9 :: st, S) r := X_heap rfl rfl rfl rfl rfl
theorem rX5_start_174 {d : Nat} {lv : xLV} {st : List Value} {S : xS} {r : xO} : XL SK MT d 133 (174, lv, st, S) r ↔ xI (xlook lv 1) (fun x => XL SK MT d 133 (175, lv, .int x :: st, S) r) := X_ldI rfl rfl (fun _ => rfl) rfl rfl rfl rfl
theorem rX5_start_175 {d : Nat} {lv : xLV} {S : xS} {r : xO} {x1 : Int32} : XL SK MT d 133 (175, lv, [.int x1, .ref 9], S) r ↔ xK (XC SK MT d 27 [.ref 9, .int x1] S) (fun v S => XL SK MT d 133 (178, lv, v.toList ++ [], S) r) := X_inv (n := 2) (kd := 2) (st0 := [.int x1, .ref 9]) rfl (Or.inr ⟨rfl, rfl⟩) rfl (Nat.le_of_ble_eq_true rfl) (Nat.le_of_ble_eq_true rfl) (by decide) rfl
theorem rX5_start_178 {d : Nat} {lv : xLV} {S : xS} {r : xO} : XL SK MT d 133 (178, lv, [], S) r ↔ (none, S) = r := X_ret rfl rfl rfl rfl rfl rfl

theorem rX5_ends_0 {d : Nat} {lv : xLV} {st : List Value} {S : xS} {r : xO} : XL SK MT d 134 (0, lv, st, S) r ↔ xA (xlook lv 0) (fun x => XL SK MT d 134 (1, lv, .ref x :: st, S) r) := X_ldA rfl rfl (fun _ => rfl) rfl rfl rfl rfl
theorem rX5_ends_1 {d : Nat} {lv : xLV} {st : List Value} {S : xS} {r : xO} : XL SK MT d 134 (1, lv, .ref 10 :: st, S) r ↔ XL SK MT d 134 (4, lv, .ref 9 :: st, S) r := X_heap rfl rfl rfl rfl rfl
theorem rX5_ends_4 {d : Nat} {lv : xLV} {st : List Value} {S : xS} {r : xO} : XL SK MT d 134 (4, lv, st, S) r ↔ XL SK MT d 134 (6, lv, .int 65560 :: st, S) r := X_pure rfl rfl rfl
theorem rX5_ends_6 {d : Nat} {lv : xLV} {S : xS} {r : xO} {x1 : Int32} : XL SK MT d 134 (6, lv, [.int x1, .ref 9], S) r ↔ xK (XC SK MT d 3 [.ref 9, .int x1] S) (fun v S => XL SK MT d 134 (9, lv, v.toList ++ [], S) r) := X_inv (n := 2) (kd := 2) (st0 := [.int x1, .ref 9]) rfl (Or.inr ⟨rfl, rfl⟩) rfl (Nat.le_of_ble_eq_true rfl) (Nat.le_of_ble_eq_true rfl) (by decide) rfl
theorem rX5_ends_9 {d : Nat} {lv : xLV} {st : List Value} {S : xS} {r : xO} : XL SK MT d 134 (9, lv, st, S) r ↔ xA (xlook lv 0) (fun x => XL SK MT d 134 (10, lv, .ref x :: st, S) r) := X_ldA rfl rfl (fun _ => rfl) rfl rfl rfl rfl
theorem rX5_ends_10 {d : Nat} {lv : xLV} {st : List Value} {S : xS} {r : xO} : XL SK MT d 134 (10, lv, .ref 10 :: st, S) r ↔ XL SK MT d 134 (13, lv, .ref 9 :: st, S) r := X_heap rfl rfl rfl rfl rfl
theorem rX5_ends_13 {d : Nat} {lv : xLV} {st : List Value} {S : xS} {r : xO} : XL SK MT d 134 (13, lv, st, S) r ↔ XL SK MT d 134 (14, lv, .int 2 :: st, S) r := X_pure rfl rfl rfl
theorem rX5_ends_14 {d : Nat} {lv : xLV} {st : List Value} {S : xS} {r : xO} : XL SK MT d 134 (14, lv, st, S) r ↔ XL SK MT d 134 (15, lv, .int 2 :: st, S) r := X_pure rfl rfl rfl
theorem rX5_ends_15 {d : Nat} {lv : xLV} {S : xS} {r : xO} {x1 : Int32} {x2 : Int32} : XL SK MT d 134 (15, lv, [.int x2, .int x1, .ref 9], S) r ↔ xK (XC SK MT d 22 [.ref 9, .int x1, .int x2] S) (fun v S => XL SK MT d 134 (18, lv, v.toList ++ [], S) r) := X_inv (n := 3) (kd := 2) (st0 := [.int x2, .int x1, .ref 9]) rfl (Or.inr ⟨rfl, rfl⟩) rfl (Nat.le_of_ble_eq_true rfl) (Nat.le_of_ble_eq_true rfl) (by decide) rfl
theorem rX5_ends_18 {d : Nat} {lv : xLV} {st : List Value} {S : xS} {r : xO} : XL SK MT d 134 (18, lv, st, S) r ↔ xA (xlook lv 0) (fun x => XL SK MT d 134 (19, lv, .ref x :: st, S) r) := X_ldA rfl rfl (fun _ => rfl) rfl rfl rfl rfl
theorem rX5_ends_19 {d : Nat} {lv : xLV} {st : List Value} {S : xS} {r : xO} : XL SK MT d 134 (19, lv, .ref 10 :: st, S) r ↔ XL SK MT d 134 (22, lv, .ref 9 :: st, S) r := X_heap rfl rfl rfl rfl rfl
theorem rX5_ends_22 {d : Nat} {lv : xLV} {st : List Value} {S : xS} {r : xO} : XL SK MT d 134 (22, lv, st, S) r ↔ XL SK MT d 134 (24, lv, .int 65561 :: st, S) r := X_pure rfl rfl rfl
theorem rX5_ends_24 {d : Nat} {lv : xLV} {S : xS} {r : xO} {x1 : Int32} : XL SK MT d 134 (24, lv, [.int x1, .ref 9], S) r ↔ xK (XC SK MT d 3 [.ref 9, .int x1] S) (fun v S => XL SK MT d 134 (27, lv, v.toList ++ [], S) r) := X_inv (n := 2) (kd := 2) (st0 := [.int x1, .ref 9]) rfl (Or.inr ⟨rfl, rfl⟩) rfl (Nat.le_of_ble_eq_true rfl) (Nat.le_of_ble_eq_true rfl) (by decide) rfl
theorem rX5_ends_27 {d : Nat} {lv : xLV} {st : List Value} {S : xS} {r : xO} : XL SK MT d 134 (27, lv, st, S) r ↔ xA (xlook lv 0) (fun x => XL SK MT d 134 (28, lv, .ref x :: st, S) r) := X_ldA rfl rfl (fun _ => rfl) rfl rfl rfl rfl
theorem rX5_ends_28 {d : Nat} {lv : xLV} {st : List Value} {S : xS} {r : xO} : XL SK MT d 134 (28, lv, .ref 10 :: st, S) r ↔ XL SK MT d 134 (31, lv, .ref 9 :: st, S) r := X_heap rfl rfl rfl rfl rfl
theorem rX5_ends_31 {d : Nat} {lv : xLV} {S : xS} {r : xO} : XL SK MT d 134 (31, lv, [.ref 9], S) r ↔ xK (XC SK MT d 30 [.ref 9] S) (fun v S => XL SK MT d 134 (34, lv, v.toList ++ [], S) r) := X_inv (n := 1) (kd := 2) (st0 := [.ref 9]) rfl (Or.inr ⟨rfl, rfl⟩) rfl (Nat.le_of_ble_eq_true rfl) (Nat.le_of_ble_eq_true rfl) (by decide) rfl
theorem rX5_ends_34 {d : Nat} {lv : xLV} {S : xS} {r : xO} : XL SK MT d 134 (34, lv, [], S) r ↔ (none, S) = r := X_ret rfl rfl rfl rfl rfl rfl

theorem rX5_layPush_0 {d : Nat} {lv : xLV} {st : List Value} {S : xS} {r : xO} : XL SK MT d 135 (0, lv, st, S) r ↔ xA (xlook lv 0) (fun x => XL SK MT d 135 (1, lv, .ref x :: st, S) r) := X_ldA rfl rfl (fun _ => rfl) rfl rfl rfl rfl
theorem rX5_layPush_1 {d : Nat} {lv : xLV} {st : List Value} {S : xS} {r : xO} : XL SK MT d 135 (1, lv, .ref 10 :: st, S) r ↔ XL SK MT d 135 (4, lv, .ref 9 :: st, S) r := X_heap rfl rfl rfl rfl rfl
theorem rX5_layPush_4 {d : Nat} {lv : xLV} {S : xS} {r : xO} : XL SK MT d 135 (4, lv, [.ref 9], S) r ↔ xK (XC SK MT d 1 [.ref 9] S) (fun v S => XL SK MT d 135 (7, lv, v.toList ++ [], S) r) := X_inv (n := 1) (kd := 2) (st0 := [.ref 9]) rfl (Or.inr ⟨rfl, rfl⟩) rfl (Nat.le_of_ble_eq_true rfl) (Nat.le_of_ble_eq_true rfl) (by decide) rfl
theorem rX5_layPush_7 {d : Nat} {lv : xLV} {st : List Value} {S : xS} {r : xO} {x : Int32} : XL SK MT d 135 (7, lv, .int x :: st, S) r ↔ XL SK MT d 135 (8, xst1 lv 1 (.int x), st, S) r := X_pure rfl rfl rfl
theorem rX5_layPush_8 {d : Nat} {lv : xLV} {st : List Value} {S : xS} {r : xO} : XL SK MT d 135 (8, lv, st, S) r ↔ xA (xlook lv 0) (fun x => XL SK MT d 135 (9, lv, .ref x :: st, S) r) := X_ldA rfl rfl (fun _ => rfl) rfl rfl rfl rfl
theorem rX5_layPush_9 {d : Nat} {lv : xLV} {st : List Value} {S : xS} {r : xO} : XL SK MT d 135 (9, lv, .ref 10 :: st, S) r ↔ XL SK MT d 135 (12, lv, .ref 9 :: st, S) r := X_heap rfl rfl rfl rfl rfl
theorem rX5_layPush_12 {d : Nat} {lv : xLV} {S : xS} {r : xO} : XL SK MT d 135 (12, lv, [.ref 9], S) r ↔ xK (XC SK MT d 1 [.ref 9] S) (fun v S => XL SK MT d 135 (15, lv, v.toList ++ [], S) r) := X_inv (n := 1) (kd := 2) (st0 := [.ref 9]) rfl (Or.inr ⟨rfl, rfl⟩) rfl (Nat.le_of_ble_eq_true rfl) (Nat.le_of_ble_eq_true rfl) (by decide) rfl
theorem rX5_layPush_15 {d : Nat} {lv : xLV} {st : List Value} {S : xS} {r : xO} {x : Int32} : XL SK MT d 135 (15, lv, .int x :: st, S) r ↔ XL SK MT d 135 (16, xst1 lv 2 (.int x), st, S) r := X_pure rfl rfl rfl
theorem rX5_layPush_16 {d : Nat} {lv : xLV} {st : List Value} {S : xS} {r : xO} : XL SK MT d 135 (16, lv, st, S) r ↔ xA (xlook lv 0) (fun x => XL SK MT d 135 (17, lv, .ref x :: st, S) r) := X_ldA rfl rfl (fun _ => rfl) rfl rfl rfl rfl
theorem rX5_layPush_17 {d : Nat} {lv : xLV} {st : List Value} {S : xS} {r : xO} : XL SK MT d 135 (17, lv, .ref 10 :: st, S) r ↔ XL SK MT d 135 (20, lv, .ref 9 :: st, S) r := X_heap rfl rfl rfl rfl rfl
theorem rX5_layPush_20 {d : Nat} {lv : xLV} {st : List Value} {S : xS} {r : xO} : XL SK MT d 135 (20, lv, st, S) r ↔ XL SK MT d 135 (22, lv, .int 65536 :: st, S) r := X_pure rfl rfl rfl
theorem rX5_layPush_22 {d : Nat} {lv : xLV} {S : xS} {r : xO} {x1 : Int32} : XL SK MT d 135 (22, lv, [.int x1, .ref 9], S) r ↔ xK (XC SK MT d 3 [.ref 9, .int x1] S) (fun v S => XL SK MT d 135 (25, lv, v.toList ++ [], S) r) := X_inv (n := 2) (kd := 2) (st0 := [.int x1, .ref 9]) rfl (Or.inr ⟨rfl, rfl⟩) rfl (Nat.le_of_ble_eq_true rfl) (Nat.le_of_ble_eq_true rfl) (by decide) rfl
theorem rX5_layPush_25 {d : Nat} {lv : xLV} {st : List Value} {S : xS} {r : xO} : XL SK MT d 135 (25, lv, st, S) r ↔ xA (xlook lv 0) (fun x => XL SK MT d 135 (26, lv, .ref x :: st, S) r) := X_ldA rfl rfl (fun _ => rfl) rfl rfl rfl rfl
theorem rX5_layPush_26 {d : Nat} {lv : xLV} {st : List Value} {S : xS} {r : xO} : XL SK MT d 135 (26, lv, .ref 10 :: st, S) r ↔ XL SK MT d 135 (29, lv, .ref 9 :: st, S) r := X_heap rfl rfl rfl rfl rfl
theorem rX5_layPush_29 {d : Nat} {lv : xLV} {st : List Value} {S : xS} {r : xO} : XL SK MT d 135 (29, lv, st, S) r ↔ XL SK MT d 135 (30, lv, .int 5 :: st, S) r := X_pure rfl rfl rfl
theorem rX5_layPush_30 {d : Nat} {lv : xLV} {st : List Value} {S : xS} {r : xO} : XL SK MT d 135 (30, lv, st, S) r ↔ XL SK MT d 135 (32, lv, .int 16 :: st, S) r := X_pure rfl rfl rfl
theorem rX5_layPush_32 {d : Nat} {lv : xLV} {st : List Value} {S : xS} {r : xO} : XL SK MT d 135 (32, lv, st, S) r ↔ XL SK MT d 135 (34, lv, .int 23 :: st, S) r := X_pure rfl rfl rfl
theorem rX5_layPush_34 {d : Nat} {lv : xLV} {st : List Value} {S : xS} {r : xO} : XL SK MT d 135 (34, lv, st, S) r ↔ xI (xlook lv 1) (fun x => XL SK MT d 135 (35, lv, .int x :: st, S) r) := X_ldI rfl rfl (fun _ => rfl) rfl rfl rfl rfl
theorem rX5_layPush_35 {d : Nat} {lv : xLV} {S : xS} {r : xO} {x1 : Int32} {x2 : Int32} {x3 : Int32} {x4 : Int32} : XL SK MT d 135 (35, lv, [.int x4, .int x3, .int x2, .int x1, .ref 9], S) r ↔ xK (XC SK MT d 24 [.ref 9, .int x1, .int x2, .int x3, .int x4] S) (fun v S => XL SK MT d 135 (38, lv, v.toList ++ [], S) r) := X_inv (n := 5) (kd := 2) (st0 := [.int x4, .int x3, .int x2, .int x1, .ref 9]) rfl (Or.inr ⟨rfl, rfl⟩) rfl (Nat.le_of_ble_eq_true rfl) (Nat.le_of_ble_eq_true rfl) (by decide) rfl
theorem rX5_layPush_38 {d : Nat} {lv : xLV} {st : List Value} {S : xS} {r : xO} : XL SK MT d 135 (38, lv, st, S) r ↔ xA (xlook lv 0) (fun x => XL SK MT d 135 (39, lv, .ref x :: st, S) r) := X_ldA rfl rfl (fun _ => rfl) rfl rfl rfl rfl
theorem rX5_layPush_39 {d : Nat} {lv : xLV} {st : List Value} {S : xS} {r : xO} : XL SK MT d 135 (39, lv, .ref 10 :: st, S) r ↔ XL SK MT d 135 (42, lv, .ref 9 :: st, S) r := X_heap rfl rfl rfl rfl rfl
theorem rX5_layPush_42 {d : Nat} {lv : xLV} {st : List Value} {S : xS} {r : xO} : XL SK MT d 135 (42, lv, st, S) r ↔ XL SK MT d 135 (43, lv, .int 2 :: st, S) r := X_pure rfl rfl rfl
theorem rX5_layPush_43 {d : Nat} {lv : xLV} {st : List Value} {S : xS} {r : xO} : XL SK MT d 135 (43, lv, st, S) r ↔ XL SK MT d 135 (44, lv, .int 4 :: st, S) r := X_pure rfl rfl rfl
theorem rX5_layPush_44 {d : Nat} {lv : xLV} {S : xS} {r : xO} {x1 : Int32} {x2 : Int32} : XL SK MT d 135 (44, lv, [.int x2, .int x1, .ref 9], S) r ↔ xK (XC SK MT d 22 [.ref 9, .int x1, .int x2] S) (fun v S => XL SK MT d 135 (47, lv, v.toList ++ [], S) r) := X_inv (n := 3) (kd := 2) (st0 := [.int x2, .int x1, .ref 9]) rfl (Or.inr ⟨rfl, rfl⟩) rfl (Nat.le_of_ble_eq_true rfl) (Nat.le_of_ble_eq_true rfl) (by decide) rfl
theorem rX5_layPush_47 {d : Nat} {lv : xLV} {st : List Value} {S : xS} {r : xO} : XL SK MT d 135 (47, lv, st, S) r ↔ xA (xlook lv 0) (fun x => XL SK MT d 135 (48, lv, .ref x :: st, S) r) := X_ldA rfl rfl (fun _ => rfl) rfl rfl rfl rfl
theorem rX5_layPush_48 {d : Nat} {lv : xLV} {st : List Value} {S : xS} {r : xO} : XL SK MT d 135 (48, lv, .ref 10 :: st, S) r ↔ XL SK MT d 135 (51, lv, .ref 9 :: st, S) r := X_heap rfl rfl rfl rfl rfl
theorem rX5_layPush_51 {d : Nat} {lv : xLV} {st : List Value} {S : xS} {r : xO} : XL SK MT d 135 (51, lv, st, S) r ↔ XL SK MT d 135 (53, lv, .int 65561 :: st, S) r := X_pure rfl rfl rfl
theorem rX5_layPush_53 {d : Nat} {lv : xLV} {S : xS} {r : xO} {x1 : Int32} : XL SK MT d 135 (53, lv, [.int x1, .ref 9], S) r ↔ xK (XC SK MT d 27 [.ref 9, .int x1] S) (fun v S => XL SK MT d 135 (56, lv, v.toList ++ [], S) r) := X_inv (n := 2) (kd := 2) (st0 := [.int x1, .ref 9]) rfl (Or.inr ⟨rfl, rfl⟩) rfl (Nat.le_of_ble_eq_true rfl) (Nat.le_of_ble_eq_true rfl) (by decide) rfl
theorem rX5_layPush_56 {d : Nat} {lv : xLV} {st : List Value} {S : xS} {r : xO} : XL SK MT d 135 (56, lv, st, S) r ↔ xA (xlook lv 0) (fun x => XL SK MT d 135 (57, lv, .ref x :: st, S) r) := X_ldA rfl rfl (fun _ => rfl) rfl rfl rfl rfl
theorem rX5_layPush_57 {d : Nat} {lv : xLV} {st : List Value} {S : xS} {r : xO} : XL SK MT d 135 (57, lv, .ref 10 :: st, S) r ↔ XL SK MT d 135 (60, lv, .ref 9 :: st, S) r := X_heap rfl rfl rfl rfl rfl
theorem rX5_layPush_60 {d : Nat} {lv : xLV} {st : List Value} {S : xS} {r : xO} : XL SK MT d 135 (60, lv, st, S) r ↔ xI (xlook lv 1) (fun x => XL SK MT d 135 (61, lv, .int x :: st, S) r) := X_ldI rfl rfl (fun _ => rfl) rfl rfl rfl rfl
theorem rX5_layPush_61 {d : Nat} {lv : xLV} {S : xS} {r : xO} {x1 : Int32} : XL SK MT d 135 (61, lv, [.int x1, .ref 9], S) r ↔ xK (XC SK MT d 3 [.ref 9, .int x1] S) (fun v S => XL SK MT d 135 (64, lv, v.toList ++ [], S) r) := X_inv (n := 2) (kd := 2) (st0 := [.int x1, .ref 9]) rfl (Or.inr ⟨rfl, rfl⟩) rfl (Nat.le_of_ble_eq_true rfl) (Nat.le_of_ble_eq_true rfl) (by decide) rfl
theorem rX5_layPush_64 {d : Nat} {lv : xLV} {st : List Value} {S : xS} {r : xO} : XL SK MT d 135 (64, lv, st, S) r ↔ xA (xlook lv 0) (fun x => XL SK MT d 135 (65, lv, .ref x :: st, S) r) := X_ldA rfl rfl (fun _ => rfl) rfl rfl rfl rfl
theorem rX5_layPush_65 {d : Nat} {lv : xLV} {st : List Value} {S : xS} {r : xO} : XL SK MT d 135 (65, lv, .ref 10 :: st, S) r ↔ XL SK MT d 135 (68, lv, .ref 9 :: st, S) r := X_heap rfl rfl rfl rfl rfl
theorem rX5_layPush_68 {d : Nat} {lv : xLV} {st : List Value} {S : xS} {r : xO} : XL SK MT d 135 (68, lv, st, S) r ↔ XL SK MT d 135 (69, lv, .int 4 :: st, S) r := X_pure rfl rfl rfl
theorem rX5_layPush_69 {d : Nat} {lv : xLV} {st : List Value} {S : xS} {r : xO} : XL SK MT d 135 (69, lv, st, S) r ↔ XL SK MT d 135 (70, lv, .int 0 :: st, S) r := X_pure rfl rfl rfl
theorem rX5_layPush_70 {d : Nat} {lv : xLV} {st : List Value} {S : xS} {r : xO} : XL SK MT d 135 (70, lv, st, S) r ↔ XL SK MT d 135 (72, lv, .int 16 :: st, S) r := X_pure rfl rfl rfl
theorem rX5_layPush_72 {d : Nat} {lv : xLV} {S : xS} {r : xO} {x1 : Int32} {x2 : Int32} {x3 : Int32} : XL SK MT d 135 (72, lv, [.int x3, .int x2, .int x1, .ref 9], S) r ↔ xK (XC SK MT d 19 [.ref 9, .int x1, .int x2, .int x3] S) (fun v S => XL SK MT d 135 (75, lv, v.toList ++ [], S) r) := X_inv (n := 4) (kd := 2) (st0 := [.int x3, .int x2, .int x1, .ref 9]) rfl (Or.inr ⟨rfl, rfl⟩) rfl (Nat.le_of_ble_eq_true rfl) (Nat.le_of_ble_eq_true rfl) (by decide) rfl
theorem rX5_layPush_75 {d : Nat} {lv : xLV} {st : List Value} {S : xS} {r : xO} : XL SK MT d 135 (75, lv, st, S) r ↔ xA (xlook lv 0) (fun x => XL SK MT d 135 (76, lv, .ref x :: st, S) r) := X_ldA rfl rfl (fun _ => rfl) rfl rfl rfl rfl
theorem rX5_layPush_76 {d : Nat} {lv : xLV} {st : List Value} {S : xS} {r : xO} : XL SK MT d 135 (76, lv, .ref 10 :: st, S) r ↔ XL SK MT d 135 (79, lv, .ref 9 :: st, S) r := X_heap rfl rfl rfl rfl rfl
theorem rX5_layPush_79 {d : Nat} {lv : xLV} {st : List Value} {S : xS} {r : xO} : XL SK MT d 135 (79, lv, st, S) r ↔ XL SK MT d 135 (81, lv, .int 16 :: st, S) r := X_pure rfl rfl rfl
theorem rX5_layPush_81 {d : Nat} {lv : xLV} {st : List Value} {S : xS} {r : xO} : XL SK MT d 135 (81, lv, st, S) r ↔ XL SK MT d 135 (83, lv, .int 16 :: st, S) r := X_pure rfl rfl rfl
theorem rX5_layPush_83 {d : Nat} {lv : xLV} {st : List Value} {S : xS} {r : xO} : XL SK MT d 135 (83, lv, st, S) r ↔ XL SK MT d 135 (84, lv, .int 4 :: st, S) r := X_pure rfl rfl rfl
theorem rX5_layPush_84 {d : Nat} {lv : xLV} {S : xS} {r : xO} {x1 : Int32} {x2 : Int32} {x3 : Int32} : XL SK MT d 135 (84, lv, [.int x3, .int x2, .int x1, .ref 9], S) r ↔ xK (XC SK MT d 20 [.ref 9, .int x1, .int x2, .int x3] S) (fun v S => XL SK MT d 135 (87, lv, v.toList ++ [], S) r) := X_inv (n := 4) (kd := 2) (st0 := [.int x3, .int x2, .int x1, .ref 9]) rfl (Or.inr ⟨rfl, rfl⟩) rfl (Nat.le_of_ble_eq_true rfl) (Nat.le_of_ble_eq_true rfl) (by decide) rfl
theorem rX5_layPush_87 {d : Nat} {lv : xLV} {st : List Value} {S : xS} {r : xO} : XL SK MT d 135 (87, lv, st, S) r ↔ xA (xlook lv 0) (fun x => XL SK MT d 135 (88, lv, .ref x :: st, S) r) := X_ldA rfl rfl (fun _ => rfl) rfl rfl rfl rfl
theorem rX5_layPush_88 {d : Nat} {lv : xLV} {st : List Value} {S : xS} {r : xO} : XL SK MT d 135 (88, lv, .ref 10 :: st, S) r ↔ XL SK MT d 135 (91, lv, .ref 9 :: st, S) r := X_heap rfl rfl rfl rfl rfl
theorem rX5_layPush_91 {d : Nat} {lv : xLV} {st : List Value} {S : xS} {r : xO} : XL SK MT d 135 (91, lv, st, S) r ↔ XL SK MT d 135 (93, lv, .int 43 :: st, S) r := X_pure rfl rfl rfl
theorem rX5_layPush_93 {d : Nat} {lv : xLV} {st : List Value} {S : xS} {r : xO} : XL SK MT d 135 (93, lv, st, S) r ↔ XL SK MT d 135 (94, lv, .int 1 :: st, S) r := X_pure rfl rfl rfl
theorem rX5_layPush_94 {d : Nat} {lv : xLV} {st : List Value} {S : xS} {r : xO} : XL SK MT d 135 (94, lv, st, S) r ↔ XL SK MT d 135 (96, lv, .int 22 :: st, S) r := X_pure rfl rfl rfl
theorem rX5_layPush_96 {d : Nat} {lv : xLV} {st : List Value} {S : xS} {r : xO} : XL SK MT d 135 (96, lv, st, S) r ↔ XL SK MT d 135 (98, lv, .int 16 :: st, S) r := X_pure rfl rfl rfl
theorem rX5_layPush_98 {d : Nat} {lv : xLV} {S : xS} {r : xO} {x1 : Int32} {x2 : Int32} {x3 : Int32} {x4 : Int32} : XL SK MT d 135 (98, lv, [.int x4, .int x3, .int x2, .int x1, .ref 9], S) r ↔ xK (XC SK MT d 15 [.ref 9, .int x1, .int x2, .int x3, .int x4] S) (fun v S => XL SK MT d 135 (101, lv, v.toList ++ [], S) r) := X_inv (n := 5) (kd := 2) (st0 := [.int x4, .int x3, .int x2, .int x1, .ref 9]) rfl (Or.inr ⟨rfl, rfl⟩) rfl (Nat.le_of_ble_eq_true rfl) (Nat.le_of_ble_eq_true rfl) (by decide) rfl
theorem rX5_layPush_101 {d : Nat} {lv : xLV} {st : List Value} {S : xS} {r : xO} : XL SK MT d 135 (101, lv, st, S) r ↔ xA (xlook lv 0) (fun x => XL SK MT d 135 (102, lv, .ref x :: st, S) r) := X_ldA rfl rfl (fun _ => rfl) rfl rfl rfl rfl
theorem rX5_layPush_102 {d : Nat} {lv : xLV} {st : List Value} {S : xS} {r : xO} : XL SK MT d 135 (102, lv, .ref 10 :: st, S) r ↔ XL SK MT d 135 (105, lv, .ref 9 :: st, S) r := X_heap rfl rfl rfl rfl rfl
theorem rX5_layPush_105 {d : Nat} {lv : xLV} {st : List Value} {S : xS} {r : xO} : XL SK MT d 135 (105, lv, st, S) r ↔ XL SK MT d 135 (106, lv, .int 4 :: st, S) r := X_pure rfl rfl rfl
theorem rX5_layPush_106 {d : Nat} {lv : xLV} {st : List Value} {S : xS} {r : xO} : XL SK MT d 135 (106, lv, st, S) r ↔ XL SK MT d 135 (107, lv, .int 1 :: st, S) r := X_pure rfl rfl rfl
theorem rX5_layPush_107 {d : Nat} {lv : xLV} {st : List Value} {S : xS} {r : xO} : XL SK MT d 135 (107, lv, st, S) r ↔ XL SK MT d 135 (108, lv, .int 0 :: st, S) r := X_pure rfl rfl rfl
theorem rX5_layPush_108 {d : Nat} {lv : xLV} {st : List Value} {S : xS} {r : xO} : XL SK MT d 135 (108, lv, st, S) r ↔ xI (xlook lv 2) (fun x => XL SK MT d 135 (109, lv, .int x :: st, S) r) := X_ldI rfl rfl (fun _ => rfl) rfl rfl rfl rfl
theorem rX5_layPush_109 {d : Nat} {lv : xLV} {S : xS} {r : xO} {x1 : Int32} {x2 : Int32} {x3 : Int32} {x4 : Int32} : XL SK MT d 135 (109, lv, [.int x4, .int x3, .int x2, .int x1, .ref 9], S) r ↔ xK (XC SK MT d 24 [.ref 9, .int x1, .int x2, .int x3, .int x4] S) (fun v S => XL SK MT d 135 (112, lv, v.toList ++ [], S) r) := X_inv (n := 5) (kd := 2) (st0 := [.int x4, .int x3, .int x2, .int x1, .ref 9]) rfl (Or.inr ⟨rfl, rfl⟩) rfl (Nat.le_of_ble_eq_true rfl) (Nat.le_of_ble_eq_true rfl) (by decide) rfl
theorem rX5_layPush_112 {d : Nat} {lv : xLV} {st : List Value} {S : xS} {r : xO} : XL SK MT d 135 (112, lv, st, S) r ↔ xA (xlook lv 0) (fun x => XL SK MT d 135 (113, lv, .ref x :: st, S) r) := X_ldA rfl rfl (fun _ => rfl) rfl rfl rfl rfl
theorem rX5_layPush_113 {d : Nat} {lv : xLV} {st : List Value} {S : xS} {r : xO} : XL SK MT d 135 (113, lv, .ref 10 :: st, S) r ↔ XL SK MT d 135 (116, lv, .ref 9 :: st, S) r := X_heap rfl rfl rfl rfl rfl
theorem rX5_layPush_116 {d : Nat} {lv : xLV} {st : List Value} {S : xS} {r : xO} : XL SK MT d 135 (116, lv, st, S) r ↔ XL SK MT d 135 (118, lv, .int 22 :: st, S) r := X_pure rfl rfl rfl
theorem rX5_layPush_118 {d : Nat} {lv : xLV} {st : List Value} {S : xS} {r : xO} : XL SK MT d 135 (118, lv, st, S) r ↔ XL SK MT d 135 (120, lv, .int 16 :: st, S) r := X_pure rfl rfl rfl
theorem rX5_layPush_120 {d : Nat} {lv : xLV} {S : xS} {r : xO} {x1 : Int32} {x2 : Int32} : XL SK MT d 135 (120, lv, [.int x2, .int x1, .ref 9], S) r ↔ xK (XC SK MT d 21 [.ref 9, .int x1, .int x2] S) (fun v S => XL SK MT d 135 (123, lv, v.toList ++ [], S) r) := X_inv (n := 3) (kd := 2) (st0 := [.int x2, .int x1, .ref 9]) rfl (Or.inr ⟨rfl, rfl⟩) rfl (Nat.le_of_ble_eq_true rfl) (Nat.le_of_ble_eq_true rfl) (by decide) rfl
theorem rX5_layPush_123 {d : Nat} {lv : xLV} {st : List Value} {S : xS} {r : xO} : XL SK MT d 135 (123, lv, st, S) r ↔ xA (xlook lv 0) (fun x => XL SK MT d 135 (124, lv, .ref x :: st, S) r) := X_ldA rfl rfl (fun _ => rfl) rfl rfl rfl rfl
theorem rX5_layPush_124 {d : Nat} {lv : xLV} {st : List Value} {S : xS} {r : xO} : XL SK MT d 135 (124, lv, .ref 10 :: st, S) r ↔ XL SK MT d 135 (127, lv, .ref 9 :: st, S) r := X_heap rfl rfl rfl rfl rfl
theorem rX5_layPush_127 {d : Nat} {lv : xLV} {st : List Value} {S : xS} {r : xO} : XL SK MT d 135 (127, lv, st, S) r ↔ xI (xlook lv 2) (fun x => XL SK MT d 135 (128, lv, .int x :: st, S) r) := X_ldI rfl rfl (fun _ => rfl) rfl rfl rfl rfl
theorem rX5_layPush_128 {d : Nat} {lv : xLV} {S : xS} {r : xO} {x1 : Int32} : XL SK MT d 135 (128, lv, [.int x1, .ref 9], S) r ↔ xK (XC SK MT d 3 [.ref 9, .int x1] S) (fun v S => XL SK MT d 135 (131, lv, v.toList ++ [], S) r) := X_inv (n := 2) (kd := 2) (st0 := [.int x1, .ref 9]) rfl (Or.inr ⟨rfl, rfl⟩) rfl (Nat.le_of_ble_eq_true rfl) (Nat.le_of_ble_eq_true rfl) (by decide) rfl
theorem rX5_layPush_131 {d : Nat} {lv : xLV} {st : List Value} {S : xS} {r : xO} : XL SK MT d 135 (131, lv, st, S) r ↔ xA (xlook lv 0) (fun x => XL SK MT d 135 (132, lv, .ref x :: st, S) r) := X_ldA rfl rfl (fun _ => rfl) rfl rfl rfl rfl
theorem rX5_layPush_132 {d : Nat} {lv : xLV} {st : List Value} {S : xS} {r : xO} : XL SK MT d 135 (132, lv, .ref 10 :: st, S) r ↔ XL SK MT d 135 (135, lv, .ref 9 :: st, S) r := X_heap rfl rfl rfl rfl rfl
theorem rX5_layPush_135 {d : Nat} {lv : xLV} {st : List Value} {S : xS} {r : xO} : XL SK MT d 135 (135, lv, st, S) r ↔ XL SK MT d 135 (137, lv, .int 31 :: st, S) r := X_pure rfl rfl rfl
theorem rX5_layPush_137 {d : Nat} {lv : xLV} {S : xS} {r : xO} {x1 : Int32} : XL SK MT d 135 (137, lv, [.int x1, .ref 9], S) r ↔ xK (XC SK MT d 29 [.ref 9, .int x1] S) (fun v S => XL SK MT d 135 (140, lv, v.toList ++ [], S) r) := X_inv (n := 2) (kd := 2) (st0 := [.int x1, .ref 9]) rfl (Or.inr ⟨rfl, rfl⟩) rfl (Nat.le_of_ble_eq_true rfl) (Nat.le_of_ble_eq_true rfl) (by decide) rfl
theorem rX5_layPush_140 {d : Nat} {lv : xLV} {S : xS} {r : xO} : XL SK MT d 135 (140, lv, [], S) r ↔ (none, S) = r := X_ret rfl rfl rfl rfl rfl rfl

/-! Library: size, copyWords, step, enterObject, start, ends, layPush. -/
def pL_size (a0 : PA) (r0 r1 : Int32) : PA :=
  let a1 := pLb a0
  let a2 := pLb a1
  let a3 := pEm a2 (wImm 12 8 14 7)
  let a4 := pSe a3 9 3
  let a5 := pSe a4 13 8
  let a6 := pLp a5 (wBr 4 8 9) r1
  let a7 := pSe a6 9 5
  let a8 := pEm a7 (wShift 2 13 14 3)
  let a9 := pLp a8 (wBr 5 8 9) r0
  let a10 := pEm a9 (wAdd 13 13 3)
  let a11 := pEm a10 (wShift 2 13 13 2)
  let a12 := pLd a11 r0
  let a13 := pEm a12 (wAdd 13 13 1)
  let a14 := pEm a13 (wShift 0 13 13 2)
  let a15 := pLd a14 r1
  a15
set_option maxHeartbeats 4000000 in
set_option maxRecDepth 100000 in
theorem l_size {S0 S : xS} {a0 : PA} {r0 r1 : Int32} (h : AS S0 S a0) (q0 : a0.own = r0) (q1 : (pLb a0).own = r1) : ∃ S', (∀ d, XC SK MT (d + 5) 137 [.ref 10] S = some (none, S')) ∧ AS S0 S' (pL_size a0 r0 r1) := by
  obtain ⟨S1, n0, e1, z0, h1⟩ := o_label h
  have y0 : r0 = n0 := (z0.trans q0).symm
  subst y0
  obtain ⟨S2, n1, e2, z1, h2⟩ := o_label h1
  have y1 : r1 = n1 := (z1.trans q1).symm
  subst y1
  obtain ⟨S3, e3, h3⟩ := o_immediate h2 12 8 14 7
  obtain ⟨S4, e4, h4⟩ := o_set h3 9 3
  obtain ⟨S5, e5, h5⟩ := o_set h4 13 8
  obtain ⟨S6, e6, h6⟩ := o_branch h5 4 8 9 r1
  obtain ⟨S7, e7, h7⟩ := o_set h6 9 5
  obtain ⟨S8, e8, h8⟩ := o_shift h7 2 13 14 3
  obtain ⟨S9, e9, h9⟩ := o_branch h8 5 8 9 r0
  obtain ⟨S10, e10, h10⟩ := o_add h9 13 13 3
  obtain ⟨S11, e11, h11⟩ := o_shift h10 2 13 13 2
  obtain ⟨S12, e12, h12⟩ := o_land h11 r0
  obtain ⟨S13, e13, h13⟩ := o_add h12 13 13 1
  obtain ⟨S14, e14, h14⟩ := o_shift h13 0 13 13 2
  obtain ⟨S15, e15, h15⟩ := o_land h14 r1
  refine ⟨S15, fun d => ?_, ?_⟩
  · rw [XC_iff]
    refine ⟨Nat.le_of_ble_eq_true rfl, ?_⟩
    show XL SK MT (d + 4) 137 (0, [some (.ref 10), none, none], [], S) _
    simp (config := { decide := true }) only [rX5_size_0, rX5_size_1, rX5_size_4, rX5_size_7, rX5_size_8, rX5_size_9, rX5_size_12, rX5_size_15, rX5_size_16, rX5_size_17, rX5_size_20, rX5_size_22, rX5_size_24, rX5_size_26, rX5_size_28, rX5_size_31, rX5_size_32, rX5_size_35, rX5_size_37, rX5_size_38, rX5_size_41, rX5_size_42, rX5_size_45, rX5_size_47, rX5_size_49, rX5_size_52, rX5_size_53, rX5_size_56, rX5_size_57, rX5_size_59, rX5_size_61, rX5_size_62, rX5_size_65, rX5_size_66, rX5_size_69, rX5_size_71, rX5_size_72, rX5_size_75, rX5_size_76, rX5_size_79, rX5_size_80, rX5_size_82, rX5_size_84, rX5_size_85, rX5_size_88, rX5_size_89, rX5_size_92, rX5_size_93, rX5_size_95, rX5_size_97, rX5_size_98, rX5_size_101, rX5_size_102, rX5_size_105, rX5_size_107, rX5_size_109, rX5_size_110, rX5_size_113, rX5_size_114, rX5_size_117, rX5_size_118, rX5_size_120, rX5_size_122, rX5_size_123, rX5_size_126, rX5_size_127, rX5_size_130, rX5_size_131, rX5_size_134, rX5_size_135, rX5_size_138, rX5_size_140, rX5_size_142, rX5_size_143, rX5_size_146, rX5_size_147, rX5_size_150, rX5_size_151, rX5_size_153, rX5_size_155, rX5_size_156, rX5_size_159, rX5_size_160, rX5_size_163, rX5_size_164, rX5_size_167, ↓reduceIte, m1_le, m1_lt, m1_eq, ofInt_m1, ex_ret, Int32.reduceAdd, Int32.reduceSub, Int32.reduceMul, Int32.reduceLT, Int32.reduceLE, xsI, Nat.reduceEqDiff, and_false, false_and, and_true, true_and, if_true, if_false, ite_true, ite_false, xlook_0, xlook_s, xI_int, xA_ref, xJ_long, xK_some, xRow_row, xTo_some, xst1, xclr, List.set_cons_zero, List.set_cons_succ, xsum_nil, xsum_int, xsum_ref, xsum_long, Option.toList_some, Option.toList_none, List.nil_append, List.cons_append, e1, e2, e3, e4, e5, e6, e7, e8, e9, e10, e11, e12, e13, e14, e15]
  · exact h15
theorem pL_size_own {a0 : PA} {r0 r1 : Int32} : (pL_size a0 r0 r1).own = bump (bump (a0.own)) := by
  simp only [pL_size, pEm_own, pSe_own, pLp_own, pLd_own, pSt_own, pSc_own, pLb_own]
def pL_copyWords (a0 : PA) (r0 : Int32) : PA :=
  let a1 := pLd (pLb a0) r0
  let a2 := pEm a1 (wLw 13 0 10)
  let a3 := pEm a2 (wAdd 10 10 4)
  let a4 := pEm a3 (wSw 13 0 11)
  let a5 := pEm a4 (wAdd 11 11 4)
  let a6 := pLp a5 (wBr 5 11 12) r0
  a6
set_option maxHeartbeats 4000000 in
set_option maxRecDepth 100000 in
theorem l_copyWords {S0 S : xS} {a0 : PA} {r0 : Int32} (h : AS S0 S a0) (q0 : a0.own = r0) : ∃ S', (∀ d, XC SK MT (d + 5) 140 [.ref 10] S = some (none, S')) ∧ AS S0 S' (pL_copyWords a0 r0) := by
  obtain ⟨S1, n0, e1, z0, h1⟩ := o_labelHere h
  rw [← z0] at h1
  have y0 : r0 = n0 := (z0.trans q0).symm
  subst y0
  obtain ⟨S2, e2, h2⟩ := o_lw h1 13 0 10
  obtain ⟨S3, e3, h3⟩ := o_add h2 10 10 4
  obtain ⟨S4, e4, h4⟩ := o_sw h3 13 0 11
  obtain ⟨S5, e5, h5⟩ := o_add h4 11 11 4
  obtain ⟨S6, e6, h6⟩ := o_branch h5 5 11 12 r0
  refine ⟨S6, fun d => ?_, ?_⟩
  · rw [XC_iff]
    refine ⟨Nat.le_of_ble_eq_true rfl, ?_⟩
    show XL SK MT (d + 4) 140 (0, [some (.ref 10), none], [], S) _
    simp (config := { decide := true }) only [rX5_copyWords_0, rX5_copyWords_1, rX5_copyWords_4, rX5_copyWords_7, rX5_copyWords_8, rX5_copyWords_9, rX5_copyWords_12, rX5_copyWords_14, rX5_copyWords_15, rX5_copyWords_17, rX5_copyWords_20, rX5_copyWords_21, rX5_copyWords_24, rX5_copyWords_26, rX5_copyWords_28, rX5_copyWords_29, rX5_copyWords_32, rX5_copyWords_33, rX5_copyWords_36, rX5_copyWords_38, rX5_copyWords_39, rX5_copyWords_41, rX5_copyWords_44, rX5_copyWords_45, rX5_copyWords_48, rX5_copyWords_50, rX5_copyWords_52, rX5_copyWords_53, rX5_copyWords_56, rX5_copyWords_57, rX5_copyWords_60, rX5_copyWords_61, rX5_copyWords_63, rX5_copyWords_65, rX5_copyWords_66, rX5_copyWords_69, ↓reduceIte, m1_le, m1_lt, m1_eq, ofInt_m1, ex_ret, Int32.reduceAdd, Int32.reduceSub, Int32.reduceMul, Int32.reduceLT, Int32.reduceLE, xsI, Nat.reduceEqDiff, and_false, false_and, and_true, true_and, if_true, if_false, ite_true, ite_false, xlook_0, xlook_s, xI_int, xA_ref, xJ_long, xK_some, xRow_row, xTo_some, xst1, xclr, List.set_cons_zero, List.set_cons_succ, xsum_nil, xsum_int, xsum_ref, xsum_long, Option.toList_some, Option.toList_none, List.nil_append, List.cons_append, e1, e2, e3, e4, e5, e6]
  · exact h6
theorem pL_copyWords_own {a0 : PA} {r0 : Int32} : (pL_copyWords a0 r0).own = bump (a0.own) := by
  simp only [pL_copyWords, pEm_own, pSe_own, pLp_own, pLd_own, pSt_own, pSc_own, pLb_own, pL_size_own]
def pL_step (a0 : PA) : PA :=
  let a1 := pLp a0 (wOv 5 20 0) (-1)
  let a2 := pLp a1 wJ 65560
  let a3 := pEm a2 (wAdd 20 20 (-1))
  a3
set_option maxHeartbeats 4000000 in
set_option maxRecDepth 100000 in
theorem l_step {S0 S : xS} {a0 : PA} (h : AS S0 S a0) : ∃ S', (∀ d, XC SK MT (d + 5) 148 [.ref 10] S = some (none, S')) ∧ AS S0 S' (pL_step a0) := by
  obtain ⟨S1, e1, h1⟩ := o_over h 5 20 0
  obtain ⟨S2, e2, h2⟩ := o_jump h1 65560
  obtain ⟨S3, e3, h3⟩ := o_add h2 20 20 (-1)
  refine ⟨S3, fun d => ?_, ?_⟩
  · rw [XC_iff]
    refine ⟨Nat.le_of_ble_eq_true rfl, ?_⟩
    show XL SK MT (d + 4) 148 (0, [some (.ref 10)], [], S) _
    simp (config := { decide := true }) only [rX5_step_0, rX5_step_1, rX5_step_4, rX5_step_5, rX5_step_7, rX5_step_8, rX5_step_11, rX5_step_12, rX5_step_15, rX5_step_17, rX5_step_20, rX5_step_21, rX5_step_24, rX5_step_26, rX5_step_28, rX5_step_29, rX5_step_32, ↓reduceIte, m1_le, m1_lt, m1_eq, ofInt_m1, ex_ret, Int32.reduceAdd, Int32.reduceSub, Int32.reduceMul, Int32.reduceLT, Int32.reduceLE, xsI, Nat.reduceEqDiff, and_false, false_and, and_true, true_and, if_true, if_false, ite_true, ite_false, xlook_0, xlook_s, xI_int, xA_ref, xJ_long, xK_some, xRow_row, xTo_some, xst1, xclr, List.set_cons_zero, List.set_cons_succ, xsum_nil, xsum_int, xsum_ref, xsum_long, Option.toList_some, Option.toList_none, List.nil_append, List.cons_append, e1, e2, e3]
  · exact h3
theorem pL_step_own {a0 : PA} : (pL_step a0).own = a0.own := by
  simp only [pL_step, pEm_own, pSe_own, pLp_own, pLd_own, pSt_own, pSc_own, pLb_own, pL_size_own, pL_copyWords_own]
def pL_enterObject (a0 : PA) : PA :=
  let a1 := pEm a0 (wLw 9 4 8)
  let a2 := pEm a1 (wAdd 9 9 (-1))
  let a3 := pLp a2 (wJr 9) (-1)
  a3
set_option maxHeartbeats 4000000 in
set_option maxRecDepth 100000 in
theorem l_enterObject {S0 S : xS} {a0 : PA} (h : AS S0 S a0) : ∃ S', (∀ d, XC SK MT (d + 5) 149 [.ref 10] S = some (none, S')) ∧ AS S0 S' (pL_enterObject a0) := by
  obtain ⟨S1, e1, h1⟩ := o_lw h 9 4 8
  obtain ⟨S2, e2, h2⟩ := o_add h1 9 9 (-1)
  obtain ⟨S3, e3, h3⟩ := o_back h2 9
  refine ⟨S3, fun d => ?_, ?_⟩
  · rw [XC_iff]
    refine ⟨Nat.le_of_ble_eq_true rfl, ?_⟩
    show XL SK MT (d + 4) 149 (0, [some (.ref 10)], [], S) _
    simp (config := { decide := true }) only [rX5_enterObject_0, rX5_enterObject_1, rX5_enterObject_4, rX5_enterObject_6, rX5_enterObject_7, rX5_enterObject_9, rX5_enterObject_12, rX5_enterObject_13, rX5_enterObject_16, rX5_enterObject_18, rX5_enterObject_20, rX5_enterObject_21, rX5_enterObject_24, rX5_enterObject_25, rX5_enterObject_28, rX5_enterObject_30, rX5_enterObject_33, ↓reduceIte, m1_le, m1_lt, m1_eq, ofInt_m1, ex_ret, Int32.reduceAdd, Int32.reduceSub, Int32.reduceMul, Int32.reduceLT, Int32.reduceLE, xsI, Nat.reduceEqDiff, and_false, false_and, and_true, true_and, if_true, if_false, ite_true, ite_false, xlook_0, xlook_s, xI_int, xA_ref, xJ_long, xK_some, xRow_row, xTo_some, xst1, xclr, List.set_cons_zero, List.set_cons_succ, xsum_nil, xsum_int, xsum_ref, xsum_long, Option.toList_some, Option.toList_none, List.nil_append, List.cons_append, e1, e2, e3]
  · exact h3
theorem pL_enterObject_own {a0 : PA} : (pL_enterObject a0).own = a0.own := by
  simp only [pL_enterObject, pEm_own, pSe_own, pLp_own, pLd_own, pSt_own, pSc_own, pLb_own, pL_size_own, pL_copyWords_own, pL_step_own]
def pL_start (a0 : PA) : PA :=
  let a1 := pSe a0 16 22528
  let a2 := pSe a1 18 46592
  let a3 := pEm a2 (wLw 8 1096 0)
  let a4 := pSe a3 9 62976
  let a5 := pEm a4 (wMove 17 16)
  let a6 := pEm a5 (wMove 22 16)
  let a7 := pEm a6 (wThree 33 19 18 8)
  let a8 := pEm a7 (wLw 20 1112 0)
  let a9 := pEm a8 (wSw 18 1088 0)
  let a10 := pEm a9 (wSw 9 1092 0)
  let a11 := pEm a10 (wSw 0 1100 0)
  let a12 := pEm a11 (wSw 0 1104 0)
  let a13 := pSe a12 23 46528
  let a14 := pSe a13 21 0
  let a15 := pLp a14 wJ 0
  a15
set_option maxHeartbeats 4000000 in
set_option maxRecDepth 100000 in
theorem l_start {S0 S : xS} {a0 : PA} (h : AS S0 S a0) : ∃ S', (∀ d, XC SK MT (d + 5) 133 [.ref 10] S = some (none, S')) ∧ AS S0 S' (pL_start a0) := by
  obtain ⟨S1, e1, h1⟩ := o_set h 16 22528
  obtain ⟨S2, e2, h2⟩ := o_set h1 18 46592
  obtain ⟨S3, e3, h3⟩ := o_lw h2 8 1096 0
  obtain ⟨S4, e4, h4⟩ := o_set h3 9 62976
  obtain ⟨S5, e5, h5⟩ := o_move h4 17 16
  obtain ⟨S6, e6, h6⟩ := o_move h5 22 16
  obtain ⟨S7, e7, h7⟩ := o_three h6 33 19 18 8
  obtain ⟨S8, e8, h8⟩ := o_lw h7 20 1112 0
  obtain ⟨S9, e9, h9⟩ := o_sw h8 18 1088 0
  obtain ⟨S10, e10, h10⟩ := o_sw h9 9 1092 0
  obtain ⟨S11, e11, h11⟩ := o_sw h10 0 1100 0
  obtain ⟨S12, e12, h12⟩ := o_sw h11 0 1104 0
  obtain ⟨S13, e13, h13⟩ := o_set h12 23 46528
  obtain ⟨S14, e14, h14⟩ := o_set h13 21 0
  obtain ⟨S15, e15, h15⟩ := o_jump h14 0
  refine ⟨S15, fun d => ?_, ?_⟩
  · rw [XC_iff]
    refine ⟨Nat.le_of_ble_eq_true rfl, ?_⟩
    show XL SK MT (d + 4) 133 (0, [some (.ref 10), none], [], S) _
    simp (config := { decide := true }) only [rX5_start_0, rX5_start_1, rX5_start_2, rX5_start_3, rX5_start_6, rX5_start_8, rX5_start_11, rX5_start_14, rX5_start_15, rX5_start_18, rX5_start_20, rX5_start_22, rX5_start_25, rX5_start_26, rX5_start_29, rX5_start_31, rX5_start_34, rX5_start_35, rX5_start_38, rX5_start_39, rX5_start_42, rX5_start_44, rX5_start_46, rX5_start_49, rX5_start_50, rX5_start_53, rX5_start_55, rX5_start_57, rX5_start_60, rX5_start_61, rX5_start_64, rX5_start_66, rX5_start_68, rX5_start_71, rX5_start_72, rX5_start_75, rX5_start_77, rX5_start_79, rX5_start_81, rX5_start_83, rX5_start_86, rX5_start_87, rX5_start_90, rX5_start_92, rX5_start_95, rX5_start_96, rX5_start_99, rX5_start_100, rX5_start_103, rX5_start_105, rX5_start_108, rX5_start_109, rX5_start_112, rX5_start_113, rX5_start_116, rX5_start_118, rX5_start_121, rX5_start_122, rX5_start_125, rX5_start_126, rX5_start_129, rX5_start_130, rX5_start_133, rX5_start_134, rX5_start_137, rX5_start_138, rX5_start_141, rX5_start_142, rX5_start_145, rX5_start_146, rX5_start_149, rX5_start_150, rX5_start_153, rX5_start_155, rX5_start_157, rX5_start_160, rX5_start_161, rX5_start_164, rX5_start_166, rX5_start_167, rX5_start_170, rX5_start_171, rX5_start_174, rX5_start_175, rX5_start_178, ↓reduceIte, m1_le, m1_lt, m1_eq, ofInt_m1, ex_ret, Int32.reduceAdd, Int32.reduceSub, Int32.reduceMul, Int32.reduceLT, Int32.reduceLE, xsI, Nat.reduceEqDiff, and_false, false_and, and_true, true_and, if_true, if_false, ite_true, ite_false, xlook_0, xlook_s, xI_int, xA_ref, xJ_long, xK_some, xRow_row, xTo_some, xst1, xclr, List.set_cons_zero, List.set_cons_succ, xsum_nil, xsum_int, xsum_ref, xsum_long, Option.toList_some, Option.toList_none, List.nil_append, List.cons_append, e1, e2, e3, e4, e5, e6, e7, e8, e9, e10, e11, e12, e13, e14, e15]
  · exact h15
def pL_ends (a0 : PA) : PA :=
  let a1 := pLd a0 65560
  let a2 := pSe a1 2 2
  let a3 := pLd a2 65561
  let a4 := pSt a3 
  a4
set_option maxHeartbeats 4000000 in
set_option maxRecDepth 100000 in
theorem l_ends {S0 S : xS} {a0 : PA} (h : AS S0 S a0) : ∃ S', (∀ d, XC SK MT (d + 5) 134 [.ref 10] S = some (none, S')) ∧ AS S0 S' (pL_ends a0) := by
  obtain ⟨S1, e1, h1⟩ := o_land h 65560
  obtain ⟨S2, e2, h2⟩ := o_set h1 2 2
  obtain ⟨S3, e3, h3⟩ := o_land h2 65561
  obtain ⟨S4, e4, h4⟩ := o_stop h3 
  refine ⟨S4, fun d => ?_, ?_⟩
  · rw [XC_iff]
    refine ⟨Nat.le_of_ble_eq_true rfl, ?_⟩
    show XL SK MT (d + 4) 134 (0, [some (.ref 10)], [], S) _
    simp (config := { decide := true }) only [rX5_ends_0, rX5_ends_1, rX5_ends_4, rX5_ends_6, rX5_ends_9, rX5_ends_10, rX5_ends_13, rX5_ends_14, rX5_ends_15, rX5_ends_18, rX5_ends_19, rX5_ends_22, rX5_ends_24, rX5_ends_27, rX5_ends_28, rX5_ends_31, rX5_ends_34, ↓reduceIte, m1_le, m1_lt, m1_eq, ofInt_m1, ex_ret, Int32.reduceAdd, Int32.reduceSub, Int32.reduceMul, Int32.reduceLT, Int32.reduceLE, xsI, Nat.reduceEqDiff, and_false, false_and, and_true, true_and, if_true, if_false, ite_true, ite_false, xlook_0, xlook_s, xI_int, xA_ref, xJ_long, xK_some, xRow_row, xTo_some, xst1, xclr, List.set_cons_zero, List.set_cons_succ, xsum_nil, xsum_int, xsum_ref, xsum_long, Option.toList_some, Option.toList_none, List.nil_append, List.cons_append, e1, e2, e3, e4]
  · exact h4
def pL_layPush (a0 : PA) : PA :=
  let a1 := pLb a0
  let a2 := pLb a1
  let a3 := pLd a2 65536
  let a4 := pLp a3 (wBr 5 16 23) 65574
  let a5 := pSe a4 2 4
  let a6 := pLp a5 wJ 65561
  let a7 := pLd a6 65574
  let a8 := pEm a7 (wSw 4 0 16)
  let a9 := pEm a8 (wAdd 16 16 4)
  let a10 := pEm a9 (wThree 43 1 22 16)
  let a11 := pLp a10 (wBr 4 1 0) 65575
  let a12 := pEm a11 (wMove 22 16)
  let a13 := pLd a12 65575
  let a14 := pLp a13 (wJr 31) (-1)
  a14
set_option maxHeartbeats 4000000 in
set_option maxRecDepth 100000 in
theorem l_layPush {S0 S : xS} {a0 : PA} (h : AS S0 S a0) (hq : a0.own = 65574) : ∃ S', (∀ d, XC SK MT (d + 5) 135 [.ref 10] S = some (none, S')) ∧ AS S0 S' (pL_layPush a0) := by
  obtain ⟨S1, n0, e1, z0, h1⟩ := o_label h
  have y0 : n0 = 65574 := by rw [z0]; simp only [pEm_own, pSe_own, pLp_own, pLd_own, pSt_own, pSc_own, pLb_own, pL_size_own, pL_copyWords_own, pL_step_own, pL_enterObject_own, hq] <;> rfl
  subst y0
  obtain ⟨S2, n1, e2, z1, h2⟩ := o_label h1
  have y1 : n1 = 65575 := by rw [z1]; simp only [pEm_own, pSe_own, pLp_own, pLd_own, pSt_own, pSc_own, pLb_own, pL_size_own, pL_copyWords_own, pL_step_own, pL_enterObject_own, hq] <;> rfl
  subst y1
  obtain ⟨S3, e3, h3⟩ := o_land h2 65536
  obtain ⟨S4, e4, h4⟩ := o_branch h3 5 16 23 65574
  obtain ⟨S5, e5, h5⟩ := o_set h4 2 4
  obtain ⟨S6, e6, h6⟩ := o_jump h5 65561
  obtain ⟨S7, e7, h7⟩ := o_land h6 65574
  obtain ⟨S8, e8, h8⟩ := o_sw h7 4 0 16
  obtain ⟨S9, e9, h9⟩ := o_add h8 16 16 4
  obtain ⟨S10, e10, h10⟩ := o_three h9 43 1 22 16
  obtain ⟨S11, e11, h11⟩ := o_branch h10 4 1 0 65575
  obtain ⟨S12, e12, h12⟩ := o_move h11 22 16
  obtain ⟨S13, e13, h13⟩ := o_land h12 65575
  obtain ⟨S14, e14, h14⟩ := o_back h13 31
  refine ⟨S14, fun d => ?_, ?_⟩
  · rw [XC_iff]
    refine ⟨Nat.le_of_ble_eq_true rfl, ?_⟩
    show XL SK MT (d + 4) 135 (0, [some (.ref 10), none, none], [], S) _
    simp (config := { decide := true }) only [rX5_layPush_0, rX5_layPush_1, rX5_layPush_4, rX5_layPush_7, rX5_layPush_8, rX5_layPush_9, rX5_layPush_12, rX5_layPush_15, rX5_layPush_16, rX5_layPush_17, rX5_layPush_20, rX5_layPush_22, rX5_layPush_25, rX5_layPush_26, rX5_layPush_29, rX5_layPush_30, rX5_layPush_32, rX5_layPush_34, rX5_layPush_35, rX5_layPush_38, rX5_layPush_39, rX5_layPush_42, rX5_layPush_43, rX5_layPush_44, rX5_layPush_47, rX5_layPush_48, rX5_layPush_51, rX5_layPush_53, rX5_layPush_56, rX5_layPush_57, rX5_layPush_60, rX5_layPush_61, rX5_layPush_64, rX5_layPush_65, rX5_layPush_68, rX5_layPush_69, rX5_layPush_70, rX5_layPush_72, rX5_layPush_75, rX5_layPush_76, rX5_layPush_79, rX5_layPush_81, rX5_layPush_83, rX5_layPush_84, rX5_layPush_87, rX5_layPush_88, rX5_layPush_91, rX5_layPush_93, rX5_layPush_94, rX5_layPush_96, rX5_layPush_98, rX5_layPush_101, rX5_layPush_102, rX5_layPush_105, rX5_layPush_106, rX5_layPush_107, rX5_layPush_108, rX5_layPush_109, rX5_layPush_112, rX5_layPush_113, rX5_layPush_116, rX5_layPush_118, rX5_layPush_120, rX5_layPush_123, rX5_layPush_124, rX5_layPush_127, rX5_layPush_128, rX5_layPush_131, rX5_layPush_132, rX5_layPush_135, rX5_layPush_137, rX5_layPush_140, ↓reduceIte, m1_le, m1_lt, m1_eq, ofInt_m1, ex_ret, Int32.reduceAdd, Int32.reduceSub, Int32.reduceMul, Int32.reduceLT, Int32.reduceLE, xsI, Nat.reduceEqDiff, and_false, false_and, and_true, true_and, if_true, if_false, ite_true, ite_false, xlook_0, xlook_s, xI_int, xA_ref, xJ_long, xK_some, xRow_row, xTo_some, xst1, xclr, List.set_cons_zero, List.set_cons_succ, xsum_nil, xsum_int, xsum_ref, xsum_long, Option.toList_some, Option.toList_none, List.nil_append, List.cons_append, e1, e2, e3, e4, e5, e6, e7, e8, e9, e10, e11, e12, e13, e14]
  · exact h14
