/-! XF: rows, then what is proved of them. -/
theorem rX5_layCalls_0 {d : Nat} {lv : xLV} {st : List Value} {S : xS} {r : xO} : XL SK MT d 147 (0, lv, st, S) r ↔ xA (xlook lv 0) (fun x => XL SK MT d 147 (1, lv, .ref x :: st, S) r) := X_ldA rfl rfl (fun _ => rfl) rfl rfl rfl rfl
theorem rX5_layCalls_1 {d : Nat} {lv : xLV} {st : List Value} {S : xS} {r : xO} : XL SK MT d 147 (1, lv, .ref 10 :: st, S) r ↔ XL SK MT d 147 (4, lv, .ref 9 :: st, S) r := X_heap rfl rfl rfl rfl rfl
theorem rX5_layCalls_4 {d : Nat} {lv : xLV} {S : xS} {r : xO} : XL SK MT d 147 (4, lv, [.ref 9], S) r ↔ xK (XC SK MT d 1 [.ref 9] S) (fun v S => XL SK MT d 147 (7, lv, v.toList ++ [], S) r) := X_inv (n := 1) (kd := 2) (st0 := [.ref 9]) rfl (Or.inr ⟨rfl, rfl⟩) rfl (Nat.le_of_ble_eq_true rfl) (Nat.le_of_ble_eq_true rfl) (by decide) rfl
theorem rX5_layCalls_7 {d : Nat} {lv : xLV} {st : List Value} {S : xS} {r : xO} {x : Int32} : XL SK MT d 147 (7, lv, .int x :: st, S) r ↔ XL SK MT d 147 (8, xst1 lv 1 (.int x), st, S) r := X_pure rfl rfl rfl
theorem rX5_layCalls_8 {d : Nat} {lv : xLV} {st : List Value} {S : xS} {r : xO} : XL SK MT d 147 (8, lv, st, S) r ↔ xA (xlook lv 0) (fun x => XL SK MT d 147 (9, lv, .ref x :: st, S) r) := X_ldA rfl rfl (fun _ => rfl) rfl rfl rfl rfl
theorem rX5_layCalls_9 {d : Nat} {lv : xLV} {st : List Value} {S : xS} {r : xO} : XL SK MT d 147 (9, lv, .ref 10 :: st, S) r ↔ XL SK MT d 147 (12, lv, .ref 9 :: st, S) r := X_heap rfl rfl rfl rfl rfl
theorem rX5_layCalls_12 {d : Nat} {lv : xLV} {S : xS} {r : xO} : XL SK MT d 147 (12, lv, [.ref 9], S) r ↔ xK (XC SK MT d 1 [.ref 9] S) (fun v S => XL SK MT d 147 (15, lv, v.toList ++ [], S) r) := X_inv (n := 1) (kd := 2) (st0 := [.ref 9]) rfl (Or.inr ⟨rfl, rfl⟩) rfl (Nat.le_of_ble_eq_true rfl) (Nat.le_of_ble_eq_true rfl) (by decide) rfl
theorem rX5_layCalls_15 {d : Nat} {lv : xLV} {st : List Value} {S : xS} {r : xO} {x : Int32} : XL SK MT d 147 (15, lv, .int x :: st, S) r ↔ XL SK MT d 147 (16, xst1 lv 2 (.int x), st, S) r := X_pure rfl rfl rfl
theorem rX5_layCalls_16 {d : Nat} {lv : xLV} {st : List Value} {S : xS} {r : xO} : XL SK MT d 147 (16, lv, st, S) r ↔ xA (xlook lv 0) (fun x => XL SK MT d 147 (17, lv, .ref x :: st, S) r) := X_ldA rfl rfl (fun _ => rfl) rfl rfl rfl rfl
theorem rX5_layCalls_17 {d : Nat} {lv : xLV} {st : List Value} {S : xS} {r : xO} : XL SK MT d 147 (17, lv, .ref 10 :: st, S) r ↔ XL SK MT d 147 (20, lv, .ref 9 :: st, S) r := X_heap rfl rfl rfl rfl rfl
theorem rX5_layCalls_20 {d : Nat} {lv : xLV} {st : List Value} {S : xS} {r : xO} : XL SK MT d 147 (20, lv, st, S) r ↔ XL SK MT d 147 (22, lv, .int 65553 :: st, S) r := X_pure rfl rfl rfl
theorem rX5_layCalls_22 {d : Nat} {lv : xLV} {S : xS} {r : xO} {x1 : Int32} : XL SK MT d 147 (22, lv, [.int x1, .ref 9], S) r ↔ xK (XC SK MT d 3 [.ref 9, .int x1] S) (fun v S => XL SK MT d 147 (25, lv, v.toList ++ [], S) r) := X_inv (n := 2) (kd := 2) (st0 := [.int x1, .ref 9]) rfl (Or.inr ⟨rfl, rfl⟩) rfl (Nat.le_of_ble_eq_true rfl) (Nat.le_of_ble_eq_true rfl) (by decide) rfl
theorem rX5_layCalls_25 {d : Nat} {lv : xLV} {st : List Value} {S : xS} {r : xO} : XL SK MT d 147 (25, lv, st, S) r ↔ xA (xlook lv 0) (fun x => XL SK MT d 147 (26, lv, .ref x :: st, S) r) := X_ldA rfl rfl (fun _ => rfl) rfl rfl rfl rfl
theorem rX5_layCalls_26 {d : Nat} {lv : xLV} {S : xS} {r : xO} : XL SK MT d 147 (26, lv, [.ref 10], S) r ↔ xK (XC SK MT d 148 [.ref 10] S) (fun v S => XL SK MT d 147 (29, lv, v.toList ++ [], S) r) := X_inv (n := 1) (kd := 7) (st0 := [.ref 10]) rfl (Or.inr ⟨rfl, rfl⟩) rfl (Nat.le_of_ble_eq_true rfl) (Nat.le_of_ble_eq_true rfl) (by decide) rfl
theorem rX5_layCalls_29 {d : Nat} {lv : xLV} {st : List Value} {S : xS} {r : xO} : XL SK MT d 147 (29, lv, st, S) r ↔ xA (xlook lv 0) (fun x => XL SK MT d 147 (30, lv, .ref x :: st, S) r) := X_ldA rfl rfl (fun _ => rfl) rfl rfl rfl rfl
theorem rX5_layCalls_30 {d : Nat} {lv : xLV} {st : List Value} {S : xS} {r : xO} : XL SK MT d 147 (30, lv, .ref 10 :: st, S) r ↔ XL SK MT d 147 (33, lv, .ref 9 :: st, S) r := X_heap rfl rfl rfl rfl rfl
theorem rX5_layCalls_33 {d : Nat} {lv : xLV} {st : List Value} {S : xS} {r : xO} : XL SK MT d 147 (33, lv, st, S) r ↔ XL SK MT d 147 (35, lv, .int 8 :: st, S) r := X_pure rfl rfl rfl
theorem rX5_layCalls_35 {d : Nat} {lv : xLV} {st : List Value} {S : xS} {r : xO} : XL SK MT d 147 (35, lv, st, S) r ↔ XL SK MT d 147 (37, lv, .int (-8) :: st, S) r := X_pure rfl rfl rfl
theorem rX5_layCalls_37 {d : Nat} {lv : xLV} {st : List Value} {S : xS} {r : xO} : XL SK MT d 147 (37, lv, st, S) r ↔ XL SK MT d 147 (39, lv, .int 16 :: st, S) r := X_pure rfl rfl rfl
theorem rX5_layCalls_39 {d : Nat} {lv : xLV} {S : xS} {r : xO} {x1 : Int32} {x2 : Int32} {x3 : Int32} : XL SK MT d 147 (39, lv, [.int x3, .int x2, .int x1, .ref 9], S) r ↔ xK (XC SK MT d 18 [.ref 9, .int x1, .int x2, .int x3] S) (fun v S => XL SK MT d 147 (42, lv, v.toList ++ [], S) r) := X_inv (n := 4) (kd := 2) (st0 := [.int x3, .int x2, .int x1, .ref 9]) rfl (Or.inr ⟨rfl, rfl⟩) rfl (Nat.le_of_ble_eq_true rfl) (Nat.le_of_ble_eq_true rfl) (by decide) rfl
theorem rX5_layCalls_42 {d : Nat} {lv : xLV} {st : List Value} {S : xS} {r : xO} : XL SK MT d 147 (42, lv, st, S) r ↔ xA (xlook lv 0) (fun x => XL SK MT d 147 (43, lv, .ref x :: st, S) r) := X_ldA rfl rfl (fun _ => rfl) rfl rfl rfl rfl
theorem rX5_layCalls_43 {d : Nat} {lv : xLV} {st : List Value} {S : xS} {r : xO} : XL SK MT d 147 (43, lv, .ref 10 :: st, S) r ↔ XL SK MT d 147 (46, lv, .ref 9 :: st, S) r := X_heap rfl rfl rfl rfl rfl
theorem rX5_layCalls_46 {d : Nat} {lv : xLV} {st : List Value} {S : xS} {r : xO} : XL SK MT d 147 (46, lv, st, S) r ↔ XL SK MT d 147 (48, lv, .int 12 :: st, S) r := X_pure rfl rfl rfl
theorem rX5_layCalls_48 {d : Nat} {lv : xLV} {st : List Value} {S : xS} {r : xO} : XL SK MT d 147 (48, lv, st, S) r ↔ XL SK MT d 147 (50, lv, .int 9 :: st, S) r := X_pure rfl rfl rfl
theorem rX5_layCalls_50 {d : Nat} {lv : xLV} {st : List Value} {S : xS} {r : xO} : XL SK MT d 147 (50, lv, st, S) r ↔ XL SK MT d 147 (52, lv, .int 8 :: st, S) r := X_pure rfl rfl rfl
theorem rX5_layCalls_52 {d : Nat} {lv : xLV} {st : List Value} {S : xS} {r : xO} : XL SK MT d 147 (52, lv, st, S) r ↔ XL SK MT d 147 (53, lv, .int 3 :: st, S) r := X_pure rfl rfl rfl
theorem rX5_layCalls_53 {d : Nat} {lv : xLV} {S : xS} {r : xO} {x1 : Int32} {x2 : Int32} {x3 : Int32} {x4 : Int32} : XL SK MT d 147 (53, lv, [.int x4, .int x3, .int x2, .int x1, .ref 9], S) r ↔ xK (XC SK MT d 17 [.ref 9, .int x1, .int x2, .int x3, .int x4] S) (fun v S => XL SK MT d 147 (56, lv, v.toList ++ [], S) r) := X_inv (n := 5) (kd := 2) (st0 := [.int x4, .int x3, .int x2, .int x1, .ref 9]) rfl (Or.inr ⟨rfl, rfl⟩) rfl (Nat.le_of_ble_eq_true rfl) (Nat.le_of_ble_eq_true rfl) (by decide) rfl
theorem rX5_layCalls_56 {d : Nat} {lv : xLV} {st : List Value} {S : xS} {r : xO} : XL SK MT d 147 (56, lv, st, S) r ↔ xA (xlook lv 0) (fun x => XL SK MT d 147 (57, lv, .ref x :: st, S) r) := X_ldA rfl rfl (fun _ => rfl) rfl rfl rfl rfl
theorem rX5_layCalls_57 {d : Nat} {lv : xLV} {st : List Value} {S : xS} {r : xO} : XL SK MT d 147 (57, lv, .ref 10 :: st, S) r ↔ XL SK MT d 147 (60, lv, .ref 9 :: st, S) r := X_heap rfl rfl rfl rfl rfl
theorem rX5_layCalls_60 {d : Nat} {lv : xLV} {st : List Value} {S : xS} {r : xO} : XL SK MT d 147 (60, lv, st, S) r ↔ XL SK MT d 147 (61, lv, .int 4 :: st, S) r := X_pure rfl rfl rfl
theorem rX5_layCalls_61 {d : Nat} {lv : xLV} {st : List Value} {S : xS} {r : xO} : XL SK MT d 147 (61, lv, st, S) r ↔ XL SK MT d 147 (63, lv, .int 9 :: st, S) r := X_pure rfl rfl rfl
theorem rX5_layCalls_63 {d : Nat} {lv : xLV} {st : List Value} {S : xS} {r : xO} : XL SK MT d 147 (63, lv, st, S) r ↔ XL SK MT d 147 (64, lv, .int 0 :: st, S) r := X_pure rfl rfl rfl
theorem rX5_layCalls_64 {d : Nat} {lv : xLV} {st : List Value} {S : xS} {r : xO} : XL SK MT d 147 (64, lv, st, S) r ↔ xI (xlook lv 1) (fun x => XL SK MT d 147 (65, lv, .int x :: st, S) r) := X_ldI rfl rfl (fun _ => rfl) rfl rfl rfl rfl
theorem rX5_layCalls_65 {d : Nat} {lv : xLV} {S : xS} {r : xO} {x1 : Int32} {x2 : Int32} {x3 : Int32} {x4 : Int32} : XL SK MT d 147 (65, lv, [.int x4, .int x3, .int x2, .int x1, .ref 9], S) r ↔ xK (XC SK MT d 24 [.ref 9, .int x1, .int x2, .int x3, .int x4] S) (fun v S => XL SK MT d 147 (68, lv, v.toList ++ [], S) r) := X_inv (n := 5) (kd := 2) (st0 := [.int x4, .int x3, .int x2, .int x1, .ref 9]) rfl (Or.inr ⟨rfl, rfl⟩) rfl (Nat.le_of_ble_eq_true rfl) (Nat.le_of_ble_eq_true rfl) (by decide) rfl
theorem rX5_layCalls_68 {d : Nat} {lv : xLV} {st : List Value} {S : xS} {r : xO} : XL SK MT d 147 (68, lv, st, S) r ↔ xA (xlook lv 0) (fun x => XL SK MT d 147 (69, lv, .ref x :: st, S) r) := X_ldA rfl rfl (fun _ => rfl) rfl rfl rfl rfl
theorem rX5_layCalls_69 {d : Nat} {lv : xLV} {st : List Value} {S : xS} {r : xO} : XL SK MT d 147 (69, lv, .ref 10 :: st, S) r ↔ XL SK MT d 147 (72, lv, .ref 9 :: st, S) r := X_heap rfl rfl rfl rfl rfl
theorem rX5_layCalls_72 {d : Nat} {lv : xLV} {st : List Value} {S : xS} {r : xO} : XL SK MT d 147 (72, lv, st, S) r ↔ XL SK MT d 147 (74, lv, .int 65556 :: st, S) r := X_pure rfl rfl rfl
theorem rX5_layCalls_74 {d : Nat} {lv : xLV} {S : xS} {r : xO} {x1 : Int32} : XL SK MT d 147 (74, lv, [.int x1, .ref 9], S) r ↔ xK (XC SK MT d 27 [.ref 9, .int x1] S) (fun v S => XL SK MT d 147 (77, lv, v.toList ++ [], S) r) := X_inv (n := 2) (kd := 2) (st0 := [.int x1, .ref 9]) rfl (Or.inr ⟨rfl, rfl⟩) rfl (Nat.le_of_ble_eq_true rfl) (Nat.le_of_ble_eq_true rfl) (by decide) rfl
theorem rX5_layCalls_77 {d : Nat} {lv : xLV} {st : List Value} {S : xS} {r : xO} : XL SK MT d 147 (77, lv, st, S) r ↔ xA (xlook lv 0) (fun x => XL SK MT d 147 (78, lv, .ref x :: st, S) r) := X_ldA rfl rfl (fun _ => rfl) rfl rfl rfl rfl
theorem rX5_layCalls_78 {d : Nat} {lv : xLV} {st : List Value} {S : xS} {r : xO} : XL SK MT d 147 (78, lv, .ref 10 :: st, S) r ↔ XL SK MT d 147 (81, lv, .ref 9 :: st, S) r := X_heap rfl rfl rfl rfl rfl
theorem rX5_layCalls_81 {d : Nat} {lv : xLV} {st : List Value} {S : xS} {r : xO} : XL SK MT d 147 (81, lv, st, S) r ↔ xI (xlook lv 1) (fun x => XL SK MT d 147 (82, lv, .int x :: st, S) r) := X_ldI rfl rfl (fun _ => rfl) rfl rfl rfl rfl
theorem rX5_layCalls_82 {d : Nat} {lv : xLV} {S : xS} {r : xO} {x1 : Int32} : XL SK MT d 147 (82, lv, [.int x1, .ref 9], S) r ↔ xK (XC SK MT d 3 [.ref 9, .int x1] S) (fun v S => XL SK MT d 147 (85, lv, v.toList ++ [], S) r) := X_inv (n := 2) (kd := 2) (st0 := [.int x1, .ref 9]) rfl (Or.inr ⟨rfl, rfl⟩) rfl (Nat.le_of_ble_eq_true rfl) (Nat.le_of_ble_eq_true rfl) (by decide) rfl
theorem rX5_layCalls_85 {d : Nat} {lv : xLV} {st : List Value} {S : xS} {r : xO} : XL SK MT d 147 (85, lv, st, S) r ↔ xA (xlook lv 0) (fun x => XL SK MT d 147 (86, lv, .ref x :: st, S) r) := X_ldA rfl rfl (fun _ => rfl) rfl rfl rfl rfl
theorem rX5_layCalls_86 {d : Nat} {lv : xLV} {st : List Value} {S : xS} {r : xO} : XL SK MT d 147 (86, lv, .ref 10 :: st, S) r ↔ XL SK MT d 147 (89, lv, .ref 9 :: st, S) r := X_heap rfl rfl rfl rfl rfl
theorem rX5_layCalls_89 {d : Nat} {lv : xLV} {st : List Value} {S : xS} {r : xO} : XL SK MT d 147 (89, lv, st, S) r ↔ XL SK MT d 147 (90, lv, .int 4 :: st, S) r := X_pure rfl rfl rfl
theorem rX5_layCalls_90 {d : Nat} {lv : xLV} {st : List Value} {S : xS} {r : xO} : XL SK MT d 147 (90, lv, st, S) r ↔ XL SK MT d 147 (92, lv, .int 31 :: st, S) r := X_pure rfl rfl rfl
theorem rX5_layCalls_92 {d : Nat} {lv : xLV} {st : List Value} {S : xS} {r : xO} : XL SK MT d 147 (92, lv, st, S) r ↔ XL SK MT d 147 (93, lv, .int 1 :: st, S) r := X_pure rfl rfl rfl
theorem rX5_layCalls_93 {d : Nat} {lv : xLV} {S : xS} {r : xO} {x1 : Int32} {x2 : Int32} {x3 : Int32} : XL SK MT d 147 (93, lv, [.int x3, .int x2, .int x1, .ref 9], S) r ↔ xK (XC SK MT d 20 [.ref 9, .int x1, .int x2, .int x3] S) (fun v S => XL SK MT d 147 (96, lv, v.toList ++ [], S) r) := X_inv (n := 4) (kd := 2) (st0 := [.int x3, .int x2, .int x1, .ref 9]) rfl (Or.inr ⟨rfl, rfl⟩) rfl (Nat.le_of_ble_eq_true rfl) (Nat.le_of_ble_eq_true rfl) (by decide) rfl
theorem rX5_layCalls_96 {d : Nat} {lv : xLV} {st : List Value} {S : xS} {r : xO} : XL SK MT d 147 (96, lv, st, S) r ↔ xA (xlook lv 0) (fun x => XL SK MT d 147 (97, lv, .ref x :: st, S) r) := X_ldA rfl rfl (fun _ => rfl) rfl rfl rfl rfl
theorem rX5_layCalls_97 {d : Nat} {lv : xLV} {st : List Value} {S : xS} {r : xO} : XL SK MT d 147 (97, lv, .ref 10 :: st, S) r ↔ XL SK MT d 147 (100, lv, .ref 9 :: st, S) r := X_heap rfl rfl rfl rfl rfl
theorem rX5_layCalls_100 {d : Nat} {lv : xLV} {st : List Value} {S : xS} {r : xO} : XL SK MT d 147 (100, lv, st, S) r ↔ XL SK MT d 147 (102, lv, .int 65536 :: st, S) r := X_pure rfl rfl rfl
theorem rX5_layCalls_102 {d : Nat} {lv : xLV} {S : xS} {r : xO} {x1 : Int32} : XL SK MT d 147 (102, lv, [.int x1, .ref 9], S) r ↔ xK (XC SK MT d 28 [.ref 9, .int x1] S) (fun v S => XL SK MT d 147 (105, lv, v.toList ++ [], S) r) := X_inv (n := 2) (kd := 2) (st0 := [.int x1, .ref 9]) rfl (Or.inr ⟨rfl, rfl⟩) rfl (Nat.le_of_ble_eq_true rfl) (Nat.le_of_ble_eq_true rfl) (by decide) rfl
theorem rX5_layCalls_105 {d : Nat} {lv : xLV} {st : List Value} {S : xS} {r : xO} : XL SK MT d 147 (105, lv, st, S) r ↔ xA (xlook lv 0) (fun x => XL SK MT d 147 (106, lv, .ref x :: st, S) r) := X_ldA rfl rfl (fun _ => rfl) rfl rfl rfl rfl
theorem rX5_layCalls_106 {d : Nat} {lv : xLV} {st : List Value} {S : xS} {r : xO} : XL SK MT d 147 (106, lv, .ref 10 :: st, S) r ↔ XL SK MT d 147 (109, lv, .ref 9 :: st, S) r := X_heap rfl rfl rfl rfl rfl
theorem rX5_layCalls_109 {d : Nat} {lv : xLV} {st : List Value} {S : xS} {r : xO} : XL SK MT d 147 (109, lv, st, S) r ↔ XL SK MT d 147 (110, lv, .int 4 :: st, S) r := X_pure rfl rfl rfl
theorem rX5_layCalls_110 {d : Nat} {lv : xLV} {st : List Value} {S : xS} {r : xO} : XL SK MT d 147 (110, lv, st, S) r ↔ XL SK MT d 147 (112, lv, .int 17 :: st, S) r := X_pure rfl rfl rfl
theorem rX5_layCalls_112 {d : Nat} {lv : xLV} {st : List Value} {S : xS} {r : xO} : XL SK MT d 147 (112, lv, st, S) r ↔ XL SK MT d 147 (113, lv, .int 1 :: st, S) r := X_pure rfl rfl rfl
theorem rX5_layCalls_113 {d : Nat} {lv : xLV} {S : xS} {r : xO} {x1 : Int32} {x2 : Int32} {x3 : Int32} : XL SK MT d 147 (113, lv, [.int x3, .int x2, .int x1, .ref 9], S) r ↔ xK (XC SK MT d 20 [.ref 9, .int x1, .int x2, .int x3] S) (fun v S => XL SK MT d 147 (116, lv, v.toList ++ [], S) r) := X_inv (n := 4) (kd := 2) (st0 := [.int x3, .int x2, .int x1, .ref 9]) rfl (Or.inr ⟨rfl, rfl⟩) rfl (Nat.le_of_ble_eq_true rfl) (Nat.le_of_ble_eq_true rfl) (by decide) rfl
theorem rX5_layCalls_116 {d : Nat} {lv : xLV} {st : List Value} {S : xS} {r : xO} : XL SK MT d 147 (116, lv, st, S) r ↔ xA (xlook lv 0) (fun x => XL SK MT d 147 (117, lv, .ref x :: st, S) r) := X_ldA rfl rfl (fun _ => rfl) rfl rfl rfl rfl
theorem rX5_layCalls_117 {d : Nat} {lv : xLV} {st : List Value} {S : xS} {r : xO} : XL SK MT d 147 (117, lv, .ref 10 :: st, S) r ↔ XL SK MT d 147 (120, lv, .ref 9 :: st, S) r := X_heap rfl rfl rfl rfl rfl
theorem rX5_layCalls_120 {d : Nat} {lv : xLV} {st : List Value} {S : xS} {r : xO} : XL SK MT d 147 (120, lv, st, S) r ↔ XL SK MT d 147 (122, lv, .int 65536 :: st, S) r := X_pure rfl rfl rfl
theorem rX5_layCalls_122 {d : Nat} {lv : xLV} {S : xS} {r : xO} {x1 : Int32} : XL SK MT d 147 (122, lv, [.int x1, .ref 9], S) r ↔ xK (XC SK MT d 28 [.ref 9, .int x1] S) (fun v S => XL SK MT d 147 (125, lv, v.toList ++ [], S) r) := X_inv (n := 2) (kd := 2) (st0 := [.int x1, .ref 9]) rfl (Or.inr ⟨rfl, rfl⟩) rfl (Nat.le_of_ble_eq_true rfl) (Nat.le_of_ble_eq_true rfl) (by decide) rfl
theorem rX5_layCalls_125 {d : Nat} {lv : xLV} {st : List Value} {S : xS} {r : xO} : XL SK MT d 147 (125, lv, st, S) r ↔ xA (xlook lv 0) (fun x => XL SK MT d 147 (126, lv, .ref x :: st, S) r) := X_ldA rfl rfl (fun _ => rfl) rfl rfl rfl rfl
theorem rX5_layCalls_126 {d : Nat} {lv : xLV} {st : List Value} {S : xS} {r : xO} : XL SK MT d 147 (126, lv, .ref 10 :: st, S) r ↔ XL SK MT d 147 (129, lv, .ref 9 :: st, S) r := X_heap rfl rfl rfl rfl rfl
theorem rX5_layCalls_129 {d : Nat} {lv : xLV} {st : List Value} {S : xS} {r : xO} : XL SK MT d 147 (129, lv, st, S) r ↔ XL SK MT d 147 (131, lv, .int 8 :: st, S) r := X_pure rfl rfl rfl
theorem rX5_layCalls_131 {d : Nat} {lv : xLV} {st : List Value} {S : xS} {r : xO} : XL SK MT d 147 (131, lv, st, S) r ↔ XL SK MT d 147 (133, lv, .int (-16) :: st, S) r := X_pure rfl rfl rfl
theorem rX5_layCalls_133 {d : Nat} {lv : xLV} {st : List Value} {S : xS} {r : xO} : XL SK MT d 147 (133, lv, st, S) r ↔ XL SK MT d 147 (135, lv, .int 16 :: st, S) r := X_pure rfl rfl rfl
theorem rX5_layCalls_135 {d : Nat} {lv : xLV} {S : xS} {r : xO} {x1 : Int32} {x2 : Int32} {x3 : Int32} : XL SK MT d 147 (135, lv, [.int x3, .int x2, .int x1, .ref 9], S) r ↔ xK (XC SK MT d 18 [.ref 9, .int x1, .int x2, .int x3] S) (fun v S => XL SK MT d 147 (138, lv, v.toList ++ [], S) r) := X_inv (n := 4) (kd := 2) (st0 := [.int x3, .int x2, .int x1, .ref 9]) rfl (Or.inr ⟨rfl, rfl⟩) rfl (Nat.le_of_ble_eq_true rfl) (Nat.le_of_ble_eq_true rfl) (by decide) rfl
theorem rX5_layCalls_138 {d : Nat} {lv : xLV} {st : List Value} {S : xS} {r : xO} : XL SK MT d 147 (138, lv, st, S) r ↔ xA (xlook lv 0) (fun x => XL SK MT d 147 (139, lv, .ref x :: st, S) r) := X_ldA rfl rfl (fun _ => rfl) rfl rfl rfl rfl
theorem rX5_layCalls_139 {d : Nat} {lv : xLV} {st : List Value} {S : xS} {r : xO} : XL SK MT d 147 (139, lv, .ref 10 :: st, S) r ↔ XL SK MT d 147 (142, lv, .ref 9 :: st, S) r := X_heap rfl rfl rfl rfl rfl
theorem rX5_layCalls_142 {d : Nat} {lv : xLV} {st : List Value} {S : xS} {r : xO} : XL SK MT d 147 (142, lv, st, S) r ↔ XL SK MT d 147 (144, lv, .int 17 :: st, S) r := X_pure rfl rfl rfl
theorem rX5_layCalls_144 {d : Nat} {lv : xLV} {st : List Value} {S : xS} {r : xO} : XL SK MT d 147 (144, lv, st, S) r ↔ XL SK MT d 147 (146, lv, .int 16 :: st, S) r := X_pure rfl rfl rfl
theorem rX5_layCalls_146 {d : Nat} {lv : xLV} {st : List Value} {S : xS} {r : xO} : XL SK MT d 147 (146, lv, st, S) r ↔ XL SK MT d 147 (148, lv, .int (-16) :: st, S) r := X_pure rfl rfl rfl
theorem rX5_layCalls_148 {d : Nat} {lv : xLV} {S : xS} {r : xO} {x1 : Int32} {x2 : Int32} {x3 : Int32} : XL SK MT d 147 (148, lv, [.int x3, .int x2, .int x1, .ref 9], S) r ↔ xK (XC SK MT d 20 [.ref 9, .int x1, .int x2, .int x3] S) (fun v S => XL SK MT d 147 (151, lv, v.toList ++ [], S) r) := X_inv (n := 4) (kd := 2) (st0 := [.int x3, .int x2, .int x1, .ref 9]) rfl (Or.inr ⟨rfl, rfl⟩) rfl (Nat.le_of_ble_eq_true rfl) (Nat.le_of_ble_eq_true rfl) (by decide) rfl
theorem rX5_layCalls_151 {d : Nat} {lv : xLV} {st : List Value} {S : xS} {r : xO} : XL SK MT d 147 (151, lv, st, S) r ↔ xA (xlook lv 0) (fun x => XL SK MT d 147 (152, lv, .ref x :: st, S) r) := X_ldA rfl rfl (fun _ => rfl) rfl rfl rfl rfl
theorem rX5_layCalls_152 {d : Nat} {lv : xLV} {S : xS} {r : xO} : XL SK MT d 147 (152, lv, [.ref 10], S) r ↔ xK (XC SK MT d 149 [.ref 10] S) (fun v S => XL SK MT d 147 (155, lv, v.toList ++ [], S) r) := X_inv (n := 1) (kd := 7) (st0 := [.ref 10]) rfl (Or.inr ⟨rfl, rfl⟩) rfl (Nat.le_of_ble_eq_true rfl) (Nat.le_of_ble_eq_true rfl) (by decide) rfl
theorem rX5_layCalls_155 {d : Nat} {lv : xLV} {st : List Value} {S : xS} {r : xO} : XL SK MT d 147 (155, lv, st, S) r ↔ xA (xlook lv 0) (fun x => XL SK MT d 147 (156, lv, .ref x :: st, S) r) := X_ldA rfl rfl (fun _ => rfl) rfl rfl rfl rfl
theorem rX5_layCalls_156 {d : Nat} {lv : xLV} {st : List Value} {S : xS} {r : xO} : XL SK MT d 147 (156, lv, .ref 10 :: st, S) r ↔ XL SK MT d 147 (159, lv, .ref 9 :: st, S) r := X_heap rfl rfl rfl rfl rfl
theorem rX5_layCalls_159 {d : Nat} {lv : xLV} {st : List Value} {S : xS} {r : xO} : XL SK MT d 147 (159, lv, st, S) r ↔ XL SK MT d 147 (161, lv, .int 65554 :: st, S) r := X_pure rfl rfl rfl
theorem rX5_layCalls_161 {d : Nat} {lv : xLV} {S : xS} {r : xO} {x1 : Int32} : XL SK MT d 147 (161, lv, [.int x1, .ref 9], S) r ↔ xK (XC SK MT d 3 [.ref 9, .int x1] S) (fun v S => XL SK MT d 147 (164, lv, v.toList ++ [], S) r) := X_inv (n := 2) (kd := 2) (st0 := [.int x1, .ref 9]) rfl (Or.inr ⟨rfl, rfl⟩) rfl (Nat.le_of_ble_eq_true rfl) (Nat.le_of_ble_eq_true rfl) (by decide) rfl
theorem rX5_layCalls_164 {d : Nat} {lv : xLV} {st : List Value} {S : xS} {r : xO} : XL SK MT d 147 (164, lv, st, S) r ↔ xA (xlook lv 0) (fun x => XL SK MT d 147 (165, lv, .ref x :: st, S) r) := X_ldA rfl rfl (fun _ => rfl) rfl rfl rfl rfl
theorem rX5_layCalls_165 {d : Nat} {lv : xLV} {S : xS} {r : xO} : XL SK MT d 147 (165, lv, [.ref 10], S) r ↔ xK (XC SK MT d 148 [.ref 10] S) (fun v S => XL SK MT d 147 (168, lv, v.toList ++ [], S) r) := X_inv (n := 1) (kd := 7) (st0 := [.ref 10]) rfl (Or.inr ⟨rfl, rfl⟩) rfl (Nat.le_of_ble_eq_true rfl) (Nat.le_of_ble_eq_true rfl) (by decide) rfl
theorem rX5_layCalls_168 {d : Nat} {lv : xLV} {st : List Value} {S : xS} {r : xO} : XL SK MT d 147 (168, lv, st, S) r ↔ xA (xlook lv 0) (fun x => XL SK MT d 147 (169, lv, .ref x :: st, S) r) := X_ldA rfl rfl (fun _ => rfl) rfl rfl rfl rfl
theorem rX5_layCalls_169 {d : Nat} {lv : xLV} {st : List Value} {S : xS} {r : xO} : XL SK MT d 147 (169, lv, .ref 10 :: st, S) r ↔ XL SK MT d 147 (172, lv, .ref 9 :: st, S) r := X_heap rfl rfl rfl rfl rfl
theorem rX5_layCalls_172 {d : Nat} {lv : xLV} {st : List Value} {S : xS} {r : xO} : XL SK MT d 147 (172, lv, st, S) r ↔ XL SK MT d 147 (174, lv, .int 8 :: st, S) r := X_pure rfl rfl rfl
theorem rX5_layCalls_174 {d : Nat} {lv : xLV} {st : List Value} {S : xS} {r : xO} : XL SK MT d 147 (174, lv, st, S) r ↔ XL SK MT d 147 (176, lv, .int (-8) :: st, S) r := X_pure rfl rfl rfl
theorem rX5_layCalls_176 {d : Nat} {lv : xLV} {st : List Value} {S : xS} {r : xO} : XL SK MT d 147 (176, lv, st, S) r ↔ XL SK MT d 147 (178, lv, .int 16 :: st, S) r := X_pure rfl rfl rfl
theorem rX5_layCalls_178 {d : Nat} {lv : xLV} {S : xS} {r : xO} {x1 : Int32} {x2 : Int32} {x3 : Int32} : XL SK MT d 147 (178, lv, [.int x3, .int x2, .int x1, .ref 9], S) r ↔ xK (XC SK MT d 18 [.ref 9, .int x1, .int x2, .int x3] S) (fun v S => XL SK MT d 147 (181, lv, v.toList ++ [], S) r) := X_inv (n := 4) (kd := 2) (st0 := [.int x3, .int x2, .int x1, .ref 9]) rfl (Or.inr ⟨rfl, rfl⟩) rfl (Nat.le_of_ble_eq_true rfl) (Nat.le_of_ble_eq_true rfl) (by decide) rfl
theorem rX5_layCalls_181 {d : Nat} {lv : xLV} {st : List Value} {S : xS} {r : xO} : XL SK MT d 147 (181, lv, st, S) r ↔ xA (xlook lv 0) (fun x => XL SK MT d 147 (182, lv, .ref x :: st, S) r) := X_ldA rfl rfl (fun _ => rfl) rfl rfl rfl rfl
theorem rX5_layCalls_182 {d : Nat} {lv : xLV} {st : List Value} {S : xS} {r : xO} : XL SK MT d 147 (182, lv, .ref 10 :: st, S) r ↔ XL SK MT d 147 (185, lv, .ref 9 :: st, S) r := X_heap rfl rfl rfl rfl rfl
theorem rX5_layCalls_185 {d : Nat} {lv : xLV} {st : List Value} {S : xS} {r : xO} : XL SK MT d 147 (185, lv, st, S) r ↔ XL SK MT d 147 (187, lv, .int 12 :: st, S) r := X_pure rfl rfl rfl
theorem rX5_layCalls_187 {d : Nat} {lv : xLV} {st : List Value} {S : xS} {r : xO} : XL SK MT d 147 (187, lv, st, S) r ↔ XL SK MT d 147 (189, lv, .int 9 :: st, S) r := X_pure rfl rfl rfl
theorem rX5_layCalls_189 {d : Nat} {lv : xLV} {st : List Value} {S : xS} {r : xO} : XL SK MT d 147 (189, lv, st, S) r ↔ XL SK MT d 147 (191, lv, .int 8 :: st, S) r := X_pure rfl rfl rfl
theorem rX5_layCalls_191 {d : Nat} {lv : xLV} {st : List Value} {S : xS} {r : xO} : XL SK MT d 147 (191, lv, st, S) r ↔ XL SK MT d 147 (192, lv, .int 3 :: st, S) r := X_pure rfl rfl rfl
theorem rX5_layCalls_192 {d : Nat} {lv : xLV} {S : xS} {r : xO} {x1 : Int32} {x2 : Int32} {x3 : Int32} {x4 : Int32} : XL SK MT d 147 (192, lv, [.int x4, .int x3, .int x2, .int x1, .ref 9], S) r ↔ xK (XC SK MT d 17 [.ref 9, .int x1, .int x2, .int x3, .int x4] S) (fun v S => XL SK MT d 147 (195, lv, v.toList ++ [], S) r) := X_inv (n := 5) (kd := 2) (st0 := [.int x4, .int x3, .int x2, .int x1, .ref 9]) rfl (Or.inr ⟨rfl, rfl⟩) rfl (Nat.le_of_ble_eq_true rfl) (Nat.le_of_ble_eq_true rfl) (by decide) rfl
theorem rX5_layCalls_195 {d : Nat} {lv : xLV} {st : List Value} {S : xS} {r : xO} : XL SK MT d 147 (195, lv, st, S) r ↔ xA (xlook lv 0) (fun x => XL SK MT d 147 (196, lv, .ref x :: st, S) r) := X_ldA rfl rfl (fun _ => rfl) rfl rfl rfl rfl
theorem rX5_layCalls_196 {d : Nat} {lv : xLV} {st : List Value} {S : xS} {r : xO} : XL SK MT d 147 (196, lv, .ref 10 :: st, S) r ↔ XL SK MT d 147 (199, lv, .ref 9 :: st, S) r := X_heap rfl rfl rfl rfl rfl
theorem rX5_layCalls_199 {d : Nat} {lv : xLV} {st : List Value} {S : xS} {r : xO} : XL SK MT d 147 (199, lv, st, S) r ↔ XL SK MT d 147 (200, lv, .int 4 :: st, S) r := X_pure rfl rfl rfl
theorem rX5_layCalls_200 {d : Nat} {lv : xLV} {st : List Value} {S : xS} {r : xO} : XL SK MT d 147 (200, lv, st, S) r ↔ XL SK MT d 147 (202, lv, .int 9 :: st, S) r := X_pure rfl rfl rfl
theorem rX5_layCalls_202 {d : Nat} {lv : xLV} {st : List Value} {S : xS} {r : xO} : XL SK MT d 147 (202, lv, st, S) r ↔ XL SK MT d 147 (203, lv, .int 0 :: st, S) r := X_pure rfl rfl rfl
theorem rX5_layCalls_203 {d : Nat} {lv : xLV} {st : List Value} {S : xS} {r : xO} : XL SK MT d 147 (203, lv, st, S) r ↔ xI (xlook lv 2) (fun x => XL SK MT d 147 (204, lv, .int x :: st, S) r) := X_ldI rfl rfl (fun _ => rfl) rfl rfl rfl rfl
theorem rX5_layCalls_204 {d : Nat} {lv : xLV} {S : xS} {r : xO} {x1 : Int32} {x2 : Int32} {x3 : Int32} {x4 : Int32} : XL SK MT d 147 (204, lv, [.int x4, .int x3, .int x2, .int x1, .ref 9], S) r ↔ xK (XC SK MT d 24 [.ref 9, .int x1, .int x2, .int x3, .int x4] S) (fun v S => XL SK MT d 147 (207, lv, v.toList ++ [], S) r) := X_inv (n := 5) (kd := 2) (st0 := [.int x4, .int x3, .int x2, .int x1, .ref 9]) rfl (Or.inr ⟨rfl, rfl⟩) rfl (Nat.le_of_ble_eq_true rfl) (Nat.le_of_ble_eq_true rfl) (by decide) rfl
theorem rX5_layCalls_207 {d : Nat} {lv : xLV} {st : List Value} {S : xS} {r : xO} : XL SK MT d 147 (207, lv, st, S) r ↔ xA (xlook lv 0) (fun x => XL SK MT d 147 (208, lv, .ref x :: st, S) r) := X_ldA rfl rfl (fun _ => rfl) rfl rfl rfl rfl
theorem rX5_layCalls_208 {d : Nat} {lv : xLV} {st : List Value} {S : xS} {r : xO} : XL SK MT d 147 (208, lv, .ref 10 :: st, S) r ↔ XL SK MT d 147 (211, lv, .ref 9 :: st, S) r := X_heap rfl rfl rfl rfl rfl
theorem rX5_layCalls_211 {d : Nat} {lv : xLV} {st : List Value} {S : xS} {r : xO} : XL SK MT d 147 (211, lv, st, S) r ↔ XL SK MT d 147 (213, lv, .int 65556 :: st, S) r := X_pure rfl rfl rfl
theorem rX5_layCalls_213 {d : Nat} {lv : xLV} {S : xS} {r : xO} {x1 : Int32} : XL SK MT d 147 (213, lv, [.int x1, .ref 9], S) r ↔ xK (XC SK MT d 27 [.ref 9, .int x1] S) (fun v S => XL SK MT d 147 (216, lv, v.toList ++ [], S) r) := X_inv (n := 2) (kd := 2) (st0 := [.int x1, .ref 9]) rfl (Or.inr ⟨rfl, rfl⟩) rfl (Nat.le_of_ble_eq_true rfl) (Nat.le_of_ble_eq_true rfl) (by decide) rfl
theorem rX5_layCalls_216 {d : Nat} {lv : xLV} {st : List Value} {S : xS} {r : xO} : XL SK MT d 147 (216, lv, st, S) r ↔ xA (xlook lv 0) (fun x => XL SK MT d 147 (217, lv, .ref x :: st, S) r) := X_ldA rfl rfl (fun _ => rfl) rfl rfl rfl rfl
theorem rX5_layCalls_217 {d : Nat} {lv : xLV} {st : List Value} {S : xS} {r : xO} : XL SK MT d 147 (217, lv, .ref 10 :: st, S) r ↔ XL SK MT d 147 (220, lv, .ref 9 :: st, S) r := X_heap rfl rfl rfl rfl rfl
theorem rX5_layCalls_220 {d : Nat} {lv : xLV} {st : List Value} {S : xS} {r : xO} : XL SK MT d 147 (220, lv, st, S) r ↔ xI (xlook lv 2) (fun x => XL SK MT d 147 (221, lv, .int x :: st, S) r) := X_ldI rfl rfl (fun _ => rfl) rfl rfl rfl rfl
theorem rX5_layCalls_221 {d : Nat} {lv : xLV} {S : xS} {r : xO} {x1 : Int32} : XL SK MT d 147 (221, lv, [.int x1, .ref 9], S) r ↔ xK (XC SK MT d 3 [.ref 9, .int x1] S) (fun v S => XL SK MT d 147 (224, lv, v.toList ++ [], S) r) := X_inv (n := 2) (kd := 2) (st0 := [.int x1, .ref 9]) rfl (Or.inr ⟨rfl, rfl⟩) rfl (Nat.le_of_ble_eq_true rfl) (Nat.le_of_ble_eq_true rfl) (by decide) rfl
theorem rX5_layCalls_224 {d : Nat} {lv : xLV} {st : List Value} {S : xS} {r : xO} : XL SK MT d 147 (224, lv, st, S) r ↔ xA (xlook lv 0) (fun x => XL SK MT d 147 (225, lv, .ref x :: st, S) r) := X_ldA rfl rfl (fun _ => rfl) rfl rfl rfl rfl
theorem rX5_layCalls_225 {d : Nat} {lv : xLV} {st : List Value} {S : xS} {r : xO} : XL SK MT d 147 (225, lv, .ref 10 :: st, S) r ↔ XL SK MT d 147 (228, lv, .ref 9 :: st, S) r := X_heap rfl rfl rfl rfl rfl
theorem rX5_layCalls_228 {d : Nat} {lv : xLV} {st : List Value} {S : xS} {r : xO} : XL SK MT d 147 (228, lv, st, S) r ↔ XL SK MT d 147 (230, lv, .int 10 :: st, S) r := X_pure rfl rfl rfl
theorem rX5_layCalls_230 {d : Nat} {lv : xLV} {st : List Value} {S : xS} {r : xO} : XL SK MT d 147 (230, lv, st, S) r ↔ XL SK MT d 147 (232, lv, .int (-4) :: st, S) r := X_pure rfl rfl rfl
theorem rX5_layCalls_232 {d : Nat} {lv : xLV} {st : List Value} {S : xS} {r : xO} : XL SK MT d 147 (232, lv, st, S) r ↔ XL SK MT d 147 (234, lv, .int 16 :: st, S) r := X_pure rfl rfl rfl
theorem rX5_layCalls_234 {d : Nat} {lv : xLV} {S : xS} {r : xO} {x1 : Int32} {x2 : Int32} {x3 : Int32} : XL SK MT d 147 (234, lv, [.int x3, .int x2, .int x1, .ref 9], S) r ↔ xK (XC SK MT d 18 [.ref 9, .int x1, .int x2, .int x3] S) (fun v S => XL SK MT d 147 (237, lv, v.toList ++ [], S) r) := X_inv (n := 4) (kd := 2) (st0 := [.int x3, .int x2, .int x1, .ref 9]) rfl (Or.inr ⟨rfl, rfl⟩) rfl (Nat.le_of_ble_eq_true rfl) (Nat.le_of_ble_eq_true rfl) (by decide) rfl
theorem rX5_layCalls_237 {d : Nat} {lv : xLV} {st : List Value} {S : xS} {r : xO} : XL SK MT d 147 (237, lv, st, S) r ↔ xA (xlook lv 0) (fun x => XL SK MT d 147 (238, lv, .ref x :: st, S) r) := X_ldA rfl rfl (fun _ => rfl) rfl rfl rfl rfl
theorem rX5_layCalls_238 {d : Nat} {lv : xLV} {st : List Value} {S : xS} {r : xO} : XL SK MT d 147 (238, lv, .ref 10 :: st, S) r ↔ XL SK MT d 147 (241, lv, .ref 9 :: st, S) r := X_heap rfl rfl rfl rfl rfl
theorem rX5_layCalls_241 {d : Nat} {lv : xLV} {st : List Value} {S : xS} {r : xO} : XL SK MT d 147 (241, lv, st, S) r ↔ XL SK MT d 147 (243, lv, .int 8 :: st, S) r := X_pure rfl rfl rfl
theorem rX5_layCalls_243 {d : Nat} {lv : xLV} {st : List Value} {S : xS} {r : xO} : XL SK MT d 147 (243, lv, st, S) r ↔ XL SK MT d 147 (244, lv, .int 0 :: st, S) r := X_pure rfl rfl rfl
theorem rX5_layCalls_244 {d : Nat} {lv : xLV} {st : List Value} {S : xS} {r : xO} : XL SK MT d 147 (244, lv, st, S) r ↔ XL SK MT d 147 (246, lv, .int 17 :: st, S) r := X_pure rfl rfl rfl
theorem rX5_layCalls_246 {d : Nat} {lv : xLV} {S : xS} {r : xO} {x1 : Int32} {x2 : Int32} {x3 : Int32} : XL SK MT d 147 (246, lv, [.int x3, .int x2, .int x1, .ref 9], S) r ↔ xK (XC SK MT d 19 [.ref 9, .int x1, .int x2, .int x3] S) (fun v S => XL SK MT d 147 (249, lv, v.toList ++ [], S) r) := X_inv (n := 4) (kd := 2) (st0 := [.int x3, .int x2, .int x1, .ref 9]) rfl (Or.inr ⟨rfl, rfl⟩) rfl (Nat.le_of_ble_eq_true rfl) (Nat.le_of_ble_eq_true rfl) (by decide) rfl
theorem rX5_layCalls_249 {d : Nat} {lv : xLV} {st : List Value} {S : xS} {r : xO} : XL SK MT d 147 (249, lv, st, S) r ↔ xA (xlook lv 0) (fun x => XL SK MT d 147 (250, lv, .ref x :: st, S) r) := X_ldA rfl rfl (fun _ => rfl) rfl rfl rfl rfl
theorem rX5_layCalls_250 {d : Nat} {lv : xLV} {st : List Value} {S : xS} {r : xO} : XL SK MT d 147 (250, lv, .ref 10 :: st, S) r ↔ XL SK MT d 147 (253, lv, .ref 9 :: st, S) r := X_heap rfl rfl rfl rfl rfl
theorem rX5_layCalls_253 {d : Nat} {lv : xLV} {st : List Value} {S : xS} {r : xO} : XL SK MT d 147 (253, lv, st, S) r ↔ XL SK MT d 147 (255, lv, .int 10 :: st, S) r := X_pure rfl rfl rfl
theorem rX5_layCalls_255 {d : Nat} {lv : xLV} {st : List Value} {S : xS} {r : xO} : XL SK MT d 147 (255, lv, st, S) r ↔ XL SK MT d 147 (256, lv, .int 4 :: st, S) r := X_pure rfl rfl rfl
theorem rX5_layCalls_256 {d : Nat} {lv : xLV} {st : List Value} {S : xS} {r : xO} : XL SK MT d 147 (256, lv, st, S) r ↔ XL SK MT d 147 (258, lv, .int 17 :: st, S) r := X_pure rfl rfl rfl
theorem rX5_layCalls_258 {d : Nat} {lv : xLV} {S : xS} {r : xO} {x1 : Int32} {x2 : Int32} {x3 : Int32} : XL SK MT d 147 (258, lv, [.int x3, .int x2, .int x1, .ref 9], S) r ↔ xK (XC SK MT d 19 [.ref 9, .int x1, .int x2, .int x3] S) (fun v S => XL SK MT d 147 (261, lv, v.toList ++ [], S) r) := X_inv (n := 4) (kd := 2) (st0 := [.int x3, .int x2, .int x1, .ref 9]) rfl (Or.inr ⟨rfl, rfl⟩) rfl (Nat.le_of_ble_eq_true rfl) (Nat.le_of_ble_eq_true rfl) (by decide) rfl
theorem rX5_layCalls_261 {d : Nat} {lv : xLV} {st : List Value} {S : xS} {r : xO} : XL SK MT d 147 (261, lv, st, S) r ↔ xA (xlook lv 0) (fun x => XL SK MT d 147 (262, lv, .ref x :: st, S) r) := X_ldA rfl rfl (fun _ => rfl) rfl rfl rfl rfl
theorem rX5_layCalls_262 {d : Nat} {lv : xLV} {st : List Value} {S : xS} {r : xO} : XL SK MT d 147 (262, lv, .ref 10 :: st, S) r ↔ XL SK MT d 147 (265, lv, .ref 9 :: st, S) r := X_heap rfl rfl rfl rfl rfl
theorem rX5_layCalls_265 {d : Nat} {lv : xLV} {st : List Value} {S : xS} {r : xO} : XL SK MT d 147 (265, lv, st, S) r ↔ XL SK MT d 147 (267, lv, .int 16 :: st, S) r := X_pure rfl rfl rfl
theorem rX5_layCalls_267 {d : Nat} {lv : xLV} {st : List Value} {S : xS} {r : xO} : XL SK MT d 147 (267, lv, st, S) r ↔ XL SK MT d 147 (269, lv, .int 17 :: st, S) r := X_pure rfl rfl rfl
theorem rX5_layCalls_269 {d : Nat} {lv : xLV} {st : List Value} {S : xS} {r : xO} : XL SK MT d 147 (269, lv, st, S) r ↔ XL SK MT d 147 (271, lv, .int 16 :: st, S) r := X_pure rfl rfl rfl
theorem rX5_layCalls_271 {d : Nat} {lv : xLV} {S : xS} {r : xO} {x1 : Int32} {x2 : Int32} {x3 : Int32} : XL SK MT d 147 (271, lv, [.int x3, .int x2, .int x1, .ref 9], S) r ↔ xK (XC SK MT d 20 [.ref 9, .int x1, .int x2, .int x3] S) (fun v S => XL SK MT d 147 (274, lv, v.toList ++ [], S) r) := X_inv (n := 4) (kd := 2) (st0 := [.int x3, .int x2, .int x1, .ref 9]) rfl (Or.inr ⟨rfl, rfl⟩) rfl (Nat.le_of_ble_eq_true rfl) (Nat.le_of_ble_eq_true rfl) (by decide) rfl
theorem rX5_layCalls_274 {d : Nat} {lv : xLV} {st : List Value} {S : xS} {r : xO} : XL SK MT d 147 (274, lv, st, S) r ↔ xA (xlook lv 0) (fun x => XL SK MT d 147 (275, lv, .ref x :: st, S) r) := X_ldA rfl rfl (fun _ => rfl) rfl rfl rfl rfl
theorem rX5_layCalls_275 {d : Nat} {lv : xLV} {S : xS} {r : xO} : XL SK MT d 147 (275, lv, [.ref 10], S) r ↔ xK (XC SK MT d 149 [.ref 10] S) (fun v S => XL SK MT d 147 (278, lv, v.toList ++ [], S) r) := X_inv (n := 1) (kd := 7) (st0 := [.ref 10]) rfl (Or.inr ⟨rfl, rfl⟩) rfl (Nat.le_of_ble_eq_true rfl) (Nat.le_of_ble_eq_true rfl) (by decide) rfl
theorem rX5_layCalls_278 {d : Nat} {lv : xLV} {st : List Value} {S : xS} {r : xO} : XL SK MT d 147 (278, lv, st, S) r ↔ xA (xlook lv 0) (fun x => XL SK MT d 147 (279, lv, .ref x :: st, S) r) := X_ldA rfl rfl (fun _ => rfl) rfl rfl rfl rfl
theorem rX5_layCalls_279 {d : Nat} {lv : xLV} {st : List Value} {S : xS} {r : xO} : XL SK MT d 147 (279, lv, .ref 10 :: st, S) r ↔ XL SK MT d 147 (282, lv, .ref 9 :: st, S) r := X_heap rfl rfl rfl rfl rfl
theorem rX5_layCalls_282 {d : Nat} {lv : xLV} {st : List Value} {S : xS} {r : xO} : XL SK MT d 147 (282, lv, st, S) r ↔ XL SK MT d 147 (284, lv, .int 65555 :: st, S) r := X_pure rfl rfl rfl
theorem rX5_layCalls_284 {d : Nat} {lv : xLV} {S : xS} {r : xO} {x1 : Int32} : XL SK MT d 147 (284, lv, [.int x1, .ref 9], S) r ↔ xK (XC SK MT d 3 [.ref 9, .int x1] S) (fun v S => XL SK MT d 147 (287, lv, v.toList ++ [], S) r) := X_inv (n := 2) (kd := 2) (st0 := [.int x1, .ref 9]) rfl (Or.inr ⟨rfl, rfl⟩) rfl (Nat.le_of_ble_eq_true rfl) (Nat.le_of_ble_eq_true rfl) (by decide) rfl
theorem rX5_layCalls_287 {d : Nat} {lv : xLV} {st : List Value} {S : xS} {r : xO} : XL SK MT d 147 (287, lv, st, S) r ↔ xA (xlook lv 0) (fun x => XL SK MT d 147 (288, lv, .ref x :: st, S) r) := X_ldA rfl rfl (fun _ => rfl) rfl rfl rfl rfl
theorem rX5_layCalls_288 {d : Nat} {lv : xLV} {st : List Value} {S : xS} {r : xO} : XL SK MT d 147 (288, lv, .ref 10 :: st, S) r ↔ XL SK MT d 147 (291, lv, .ref 9 :: st, S) r := X_heap rfl rfl rfl rfl rfl
theorem rX5_layCalls_291 {d : Nat} {lv : xLV} {st : List Value} {S : xS} {r : xO} : XL SK MT d 147 (291, lv, st, S) r ↔ XL SK MT d 147 (293, lv, .int 8 :: st, S) r := X_pure rfl rfl rfl
theorem rX5_layCalls_293 {d : Nat} {lv : xLV} {st : List Value} {S : xS} {r : xO} : XL SK MT d 147 (293, lv, st, S) r ↔ XL SK MT d 147 (295, lv, .int (-4) :: st, S) r := X_pure rfl rfl rfl
theorem rX5_layCalls_295 {d : Nat} {lv : xLV} {st : List Value} {S : xS} {r : xO} : XL SK MT d 147 (295, lv, st, S) r ↔ XL SK MT d 147 (297, lv, .int 16 :: st, S) r := X_pure rfl rfl rfl
theorem rX5_layCalls_297 {d : Nat} {lv : xLV} {S : xS} {r : xO} {x1 : Int32} {x2 : Int32} {x3 : Int32} : XL SK MT d 147 (297, lv, [.int x3, .int x2, .int x1, .ref 9], S) r ↔ xK (XC SK MT d 18 [.ref 9, .int x1, .int x2, .int x3] S) (fun v S => XL SK MT d 147 (300, lv, v.toList ++ [], S) r) := X_inv (n := 4) (kd := 2) (st0 := [.int x3, .int x2, .int x1, .ref 9]) rfl (Or.inr ⟨rfl, rfl⟩) rfl (Nat.le_of_ble_eq_true rfl) (Nat.le_of_ble_eq_true rfl) (by decide) rfl
theorem rX5_layCalls_300 {d : Nat} {lv : xLV} {st : List Value} {S : xS} {r : xO} : XL SK MT d 147 (300, lv, st, S) r ↔ xA (xlook lv 0) (fun x => XL SK MT d 147 (301, lv, .ref x :: st, S) r) := X_ldA rfl rfl (fun _ => rfl) rfl rfl rfl rfl
theorem rX5_layCalls_301 {d : Nat} {lv : xLV} {st : List Value} {S : xS} {r : xO} : XL SK MT d 147 (301, lv, .ref 10 :: st, S) r ↔ XL SK MT d 147 (304, lv, .ref 9 :: st, S) r := X_heap rfl rfl rfl rfl rfl
theorem rX5_layCalls_304 {d : Nat} {lv : xLV} {st : List Value} {S : xS} {r : xO} : XL SK MT d 147 (304, lv, st, S) r ↔ XL SK MT d 147 (306, lv, .int 9 :: st, S) r := X_pure rfl rfl rfl
theorem rX5_layCalls_306 {d : Nat} {lv : xLV} {st : List Value} {S : xS} {r : xO} : XL SK MT d 147 (306, lv, st, S) r ↔ XL SK MT d 147 (308, lv, .int 8 :: st, S) r := X_pure rfl rfl rfl
theorem rX5_layCalls_308 {d : Nat} {lv : xLV} {st : List Value} {S : xS} {r : xO} : XL SK MT d 147 (308, lv, st, S) r ↔ XL SK MT d 147 (310, lv, .int 17 :: st, S) r := X_pure rfl rfl rfl
theorem rX5_layCalls_310 {d : Nat} {lv : xLV} {S : xS} {r : xO} {x1 : Int32} {x2 : Int32} {x3 : Int32} : XL SK MT d 147 (310, lv, [.int x3, .int x2, .int x1, .ref 9], S) r ↔ xK (XC SK MT d 18 [.ref 9, .int x1, .int x2, .int x3] S) (fun v S => XL SK MT d 147 (313, lv, v.toList ++ [], S) r) := X_inv (n := 4) (kd := 2) (st0 := [.int x3, .int x2, .int x1, .ref 9]) rfl (Or.inr ⟨rfl, rfl⟩) rfl (Nat.le_of_ble_eq_true rfl) (Nat.le_of_ble_eq_true rfl) (by decide) rfl
theorem rX5_layCalls_313 {d : Nat} {lv : xLV} {st : List Value} {S : xS} {r : xO} : XL SK MT d 147 (313, lv, st, S) r ↔ xA (xlook lv 0) (fun x => XL SK MT d 147 (314, lv, .ref x :: st, S) r) := X_ldA rfl rfl (fun _ => rfl) rfl rfl rfl rfl
theorem rX5_layCalls_314 {d : Nat} {lv : xLV} {st : List Value} {S : xS} {r : xO} : XL SK MT d 147 (314, lv, .ref 10 :: st, S) r ↔ XL SK MT d 147 (317, lv, .ref 9 :: st, S) r := X_heap rfl rfl rfl rfl rfl
theorem rX5_layCalls_317 {d : Nat} {lv : xLV} {st : List Value} {S : xS} {r : xO} : XL SK MT d 147 (317, lv, st, S) r ↔ XL SK MT d 147 (319, lv, .int 10 :: st, S) r := X_pure rfl rfl rfl
theorem rX5_layCalls_319 {d : Nat} {lv : xLV} {st : List Value} {S : xS} {r : xO} : XL SK MT d 147 (319, lv, st, S) r ↔ XL SK MT d 147 (321, lv, .int 12 :: st, S) r := X_pure rfl rfl rfl
theorem rX5_layCalls_321 {d : Nat} {lv : xLV} {st : List Value} {S : xS} {r : xO} : XL SK MT d 147 (321, lv, st, S) r ↔ XL SK MT d 147 (323, lv, .int 17 :: st, S) r := X_pure rfl rfl rfl
theorem rX5_layCalls_323 {d : Nat} {lv : xLV} {S : xS} {r : xO} {x1 : Int32} {x2 : Int32} {x3 : Int32} : XL SK MT d 147 (323, lv, [.int x3, .int x2, .int x1, .ref 9], S) r ↔ xK (XC SK MT d 18 [.ref 9, .int x1, .int x2, .int x3] S) (fun v S => XL SK MT d 147 (326, lv, v.toList ++ [], S) r) := X_inv (n := 4) (kd := 2) (st0 := [.int x3, .int x2, .int x1, .ref 9]) rfl (Or.inr ⟨rfl, rfl⟩) rfl (Nat.le_of_ble_eq_true rfl) (Nat.le_of_ble_eq_true rfl) (by decide) rfl
theorem rX5_layCalls_326 {d : Nat} {lv : xLV} {st : List Value} {S : xS} {r : xO} : XL SK MT d 147 (326, lv, st, S) r ↔ xA (xlook lv 0) (fun x => XL SK MT d 147 (327, lv, .ref x :: st, S) r) := X_ldA rfl rfl (fun _ => rfl) rfl rfl rfl rfl
theorem rX5_layCalls_327 {d : Nat} {lv : xLV} {st : List Value} {S : xS} {r : xO} : XL SK MT d 147 (327, lv, .ref 10 :: st, S) r ↔ XL SK MT d 147 (330, lv, .ref 9 :: st, S) r := X_heap rfl rfl rfl rfl rfl
theorem rX5_layCalls_330 {d : Nat} {lv : xLV} {st : List Value} {S : xS} {r : xO} : XL SK MT d 147 (330, lv, st, S) r ↔ XL SK MT d 147 (332, lv, .int 16 :: st, S) r := X_pure rfl rfl rfl
theorem rX5_layCalls_332 {d : Nat} {lv : xLV} {st : List Value} {S : xS} {r : xO} : XL SK MT d 147 (332, lv, st, S) r ↔ XL SK MT d 147 (334, lv, .int 17 :: st, S) r := X_pure rfl rfl rfl
theorem rX5_layCalls_334 {d : Nat} {lv : xLV} {st : List Value} {S : xS} {r : xO} : XL SK MT d 147 (334, lv, st, S) r ↔ XL SK MT d 147 (335, lv, .int 4 :: st, S) r := X_pure rfl rfl rfl
theorem rX5_layCalls_335 {d : Nat} {lv : xLV} {S : xS} {r : xO} {x1 : Int32} {x2 : Int32} {x3 : Int32} : XL SK MT d 147 (335, lv, [.int x3, .int x2, .int x1, .ref 9], S) r ↔ xK (XC SK MT d 20 [.ref 9, .int x1, .int x2, .int x3] S) (fun v S => XL SK MT d 147 (338, lv, v.toList ++ [], S) r) := X_inv (n := 4) (kd := 2) (st0 := [.int x3, .int x2, .int x1, .ref 9]) rfl (Or.inr ⟨rfl, rfl⟩) rfl (Nat.le_of_ble_eq_true rfl) (Nat.le_of_ble_eq_true rfl) (by decide) rfl
theorem rX5_layCalls_338 {d : Nat} {lv : xLV} {st : List Value} {S : xS} {r : xO} : XL SK MT d 147 (338, lv, st, S) r ↔ xA (xlook lv 0) (fun x => XL SK MT d 147 (339, lv, .ref x :: st, S) r) := X_ldA rfl rfl (fun _ => rfl) rfl rfl rfl rfl
theorem rX5_layCalls_339 {d : Nat} {lv : xLV} {st : List Value} {S : xS} {r : xO} : XL SK MT d 147 (339, lv, .ref 10 :: st, S) r ↔ XL SK MT d 147 (342, lv, .ref 9 :: st, S) r := X_heap rfl rfl rfl rfl rfl
theorem rX5_layCalls_342 {d : Nat} {lv : xLV} {st : List Value} {S : xS} {r : xO} : XL SK MT d 147 (342, lv, st, S) r ↔ XL SK MT d 147 (344, lv, .int 8 :: st, S) r := X_pure rfl rfl rfl
theorem rX5_layCalls_344 {d : Nat} {lv : xLV} {st : List Value} {S : xS} {r : xO} : XL SK MT d 147 (344, lv, st, S) r ↔ XL SK MT d 147 (345, lv, .int 0 :: st, S) r := X_pure rfl rfl rfl
theorem rX5_layCalls_345 {d : Nat} {lv : xLV} {st : List Value} {S : xS} {r : xO} : XL SK MT d 147 (345, lv, st, S) r ↔ XL SK MT d 147 (347, lv, .int 17 :: st, S) r := X_pure rfl rfl rfl
theorem rX5_layCalls_347 {d : Nat} {lv : xLV} {S : xS} {r : xO} {x1 : Int32} {x2 : Int32} {x3 : Int32} : XL SK MT d 147 (347, lv, [.int x3, .int x2, .int x1, .ref 9], S) r ↔ xK (XC SK MT d 19 [.ref 9, .int x1, .int x2, .int x3] S) (fun v S => XL SK MT d 147 (350, lv, v.toList ++ [], S) r) := X_inv (n := 4) (kd := 2) (st0 := [.int x3, .int x2, .int x1, .ref 9]) rfl (Or.inr ⟨rfl, rfl⟩) rfl (Nat.le_of_ble_eq_true rfl) (Nat.le_of_ble_eq_true rfl) (by decide) rfl
theorem rX5_layCalls_350 {d : Nat} {lv : xLV} {st : List Value} {S : xS} {r : xO} : XL SK MT d 147 (350, lv, st, S) r ↔ xA (xlook lv 0) (fun x => XL SK MT d 147 (351, lv, .ref x :: st, S) r) := X_ldA rfl rfl (fun _ => rfl) rfl rfl rfl rfl
theorem rX5_layCalls_351 {d : Nat} {lv : xLV} {st : List Value} {S : xS} {r : xO} : XL SK MT d 147 (351, lv, .ref 10 :: st, S) r ↔ XL SK MT d 147 (354, lv, .ref 9 :: st, S) r := X_heap rfl rfl rfl rfl rfl
theorem rX5_layCalls_354 {d : Nat} {lv : xLV} {st : List Value} {S : xS} {r : xO} : XL SK MT d 147 (354, lv, st, S) r ↔ XL SK MT d 147 (356, lv, .int 9 :: st, S) r := X_pure rfl rfl rfl
theorem rX5_layCalls_356 {d : Nat} {lv : xLV} {st : List Value} {S : xS} {r : xO} : XL SK MT d 147 (356, lv, st, S) r ↔ XL SK MT d 147 (358, lv, .int 9 :: st, S) r := X_pure rfl rfl rfl
theorem rX5_layCalls_358 {d : Nat} {lv : xLV} {st : List Value} {S : xS} {r : xO} : XL SK MT d 147 (358, lv, st, S) r ↔ XL SK MT d 147 (359, lv, .int (-1) :: st, S) r := X_pure rfl rfl rfl
theorem rX5_layCalls_359 {d : Nat} {lv : xLV} {S : xS} {r : xO} {x1 : Int32} {x2 : Int32} {x3 : Int32} : XL SK MT d 147 (359, lv, [.int x3, .int x2, .int x1, .ref 9], S) r ↔ xK (XC SK MT d 20 [.ref 9, .int x1, .int x2, .int x3] S) (fun v S => XL SK MT d 147 (362, lv, v.toList ++ [], S) r) := X_inv (n := 4) (kd := 2) (st0 := [.int x3, .int x2, .int x1, .ref 9]) rfl (Or.inr ⟨rfl, rfl⟩) rfl (Nat.le_of_ble_eq_true rfl) (Nat.le_of_ble_eq_true rfl) (by decide) rfl
theorem rX5_layCalls_362 {d : Nat} {lv : xLV} {st : List Value} {S : xS} {r : xO} : XL SK MT d 147 (362, lv, st, S) r ↔ xA (xlook lv 0) (fun x => XL SK MT d 147 (363, lv, .ref x :: st, S) r) := X_ldA rfl rfl (fun _ => rfl) rfl rfl rfl rfl
theorem rX5_layCalls_363 {d : Nat} {lv : xLV} {st : List Value} {S : xS} {r : xO} : XL SK MT d 147 (363, lv, .ref 10 :: st, S) r ↔ XL SK MT d 147 (366, lv, .ref 9 :: st, S) r := X_heap rfl rfl rfl rfl rfl
theorem rX5_layCalls_366 {d : Nat} {lv : xLV} {st : List Value} {S : xS} {r : xO} : XL SK MT d 147 (366, lv, st, S) r ↔ XL SK MT d 147 (368, lv, .int 17 :: st, S) r := X_pure rfl rfl rfl
theorem rX5_layCalls_368 {d : Nat} {lv : xLV} {st : List Value} {S : xS} {r : xO} : XL SK MT d 147 (368, lv, st, S) r ↔ XL SK MT d 147 (370, lv, .int 10 :: st, S) r := X_pure rfl rfl rfl
theorem rX5_layCalls_370 {d : Nat} {lv : xLV} {st : List Value} {S : xS} {r : xO} : XL SK MT d 147 (370, lv, st, S) r ↔ XL SK MT d 147 (371, lv, .int (-1) :: st, S) r := X_pure rfl rfl rfl
theorem rX5_layCalls_371 {d : Nat} {lv : xLV} {S : xS} {r : xO} {x1 : Int32} {x2 : Int32} {x3 : Int32} : XL SK MT d 147 (371, lv, [.int x3, .int x2, .int x1, .ref 9], S) r ↔ xK (XC SK MT d 20 [.ref 9, .int x1, .int x2, .int x3] S) (fun v S => XL SK MT d 147 (374, lv, v.toList ++ [], S) r) := X_inv (n := 4) (kd := 2) (st0 := [.int x3, .int x2, .int x1, .ref 9]) rfl (Or.inr ⟨rfl, rfl⟩) rfl (Nat.le_of_ble_eq_true rfl) (Nat.le_of_ble_eq_true rfl) (by decide) rfl
theorem rX5_layCalls_374 {d : Nat} {lv : xLV} {st : List Value} {S : xS} {r : xO} : XL SK MT d 147 (374, lv, st, S) r ↔ xA (xlook lv 0) (fun x => XL SK MT d 147 (375, lv, .ref x :: st, S) r) := X_ldA rfl rfl (fun _ => rfl) rfl rfl rfl rfl
theorem rX5_layCalls_375 {d : Nat} {lv : xLV} {st : List Value} {S : xS} {r : xO} : XL SK MT d 147 (375, lv, .ref 10 :: st, S) r ↔ XL SK MT d 147 (378, lv, .ref 9 :: st, S) r := X_heap rfl rfl rfl rfl rfl
theorem rX5_layCalls_378 {d : Nat} {lv : xLV} {st : List Value} {S : xS} {r : xO} : XL SK MT d 147 (378, lv, st, S) r ↔ XL SK MT d 147 (380, lv, .int 9 :: st, S) r := X_pure rfl rfl rfl
theorem rX5_layCalls_380 {d : Nat} {lv : xLV} {S : xS} {r : xO} {x1 : Int32} : XL SK MT d 147 (380, lv, [.int x1, .ref 9], S) r ↔ xK (XC SK MT d 29 [.ref 9, .int x1] S) (fun v S => XL SK MT d 147 (383, lv, v.toList ++ [], S) r) := X_inv (n := 2) (kd := 2) (st0 := [.int x1, .ref 9]) rfl (Or.inr ⟨rfl, rfl⟩) rfl (Nat.le_of_ble_eq_true rfl) (Nat.le_of_ble_eq_true rfl) (by decide) rfl
theorem rX5_layCalls_383 {d : Nat} {lv : xLV} {S : xS} {r : xO} : XL SK MT d 147 (383, lv, [], S) r ↔ (none, S) = r := X_ret rfl rfl rfl rfl rfl rfl

/-! Library: layCalls. -/
def pL_layCalls (a0 : PA) : PA :=
  let a1 := pLb a0
  let a2 := pLb a1
  let a3 := pLd a2 65553
  let a4 := pL_step a3
  let a5 := pEm a4 (wLw 8 (-8) 16)
  let a6 := pEm a5 (wImm 12 9 8 3)
  let a7 := pLp a6 (wBr 4 9 0) 65605
  let a8 := pLp a7 wJ 65556
  let a9 := pLd a8 65605
  let a10 := pEm a9 (wAdd 4 31 1)
  let a11 := pLp a10 wJal 65536
  let a12 := pEm a11 (wAdd 4 17 1)
  let a13 := pLp a12 wJal 65536
  let a14 := pEm a13 (wLw 8 (-16) 16)
  let a15 := pEm a14 (wAdd 17 16 (-16))
  let a16 := pL_enterObject a15
  let a17 := pLd a16 65554
  let a18 := pL_step a17
  let a19 := pEm a18 (wLw 8 (-8) 16)
  let a20 := pEm a19 (wImm 12 9 8 3)
  let a21 := pLp a20 (wBr 4 9 0) 65606
  let a22 := pLp a21 wJ 65556
  let a23 := pLd a22 65606
  let a24 := pEm a23 (wLw 10 (-4) 16)
  let a25 := pEm a24 (wSw 8 0 17)
  let a26 := pEm a25 (wSw 10 4 17)
  let a27 := pEm a26 (wAdd 16 17 16)
  let a28 := pL_enterObject a27
  let a29 := pLd a28 65555
  let a30 := pEm a29 (wLw 8 (-4) 16)
  let a31 := pEm a30 (wLw 9 8 17)
  let a32 := pEm a31 (wLw 10 12 17)
  let a33 := pEm a32 (wAdd 16 17 4)
  let a34 := pEm a33 (wSw 8 0 17)
  let a35 := pEm a34 (wAdd 9 9 (-1))
  let a36 := pEm a35 (wAdd 17 10 (-1))
  let a37 := pLp a36 (wJr 9) (-1)
  a37
set_option maxHeartbeats 4000000 in
set_option maxRecDepth 100000 in
theorem l_layCalls {S0 S : xS} {a0 : PA} (h : AS S0 S a0) (hq : a0.own = 65605) : ∃ S', (∀ d, XC SK MT (d + 6) 147 [.ref 10] S = some (none, S')) ∧ AS S0 S' (pL_layCalls a0) := by
  obtain ⟨S1, n0, e1, z0, h1⟩ := o_label h
  have y0 : n0 = 65605 := by rw [z0]; simp only [pEm_own, pSe_own, pLp_own, pLd_own, pSt_own, pSc_own, pLb_own, pL_size_own, pL_copyWords_own, pL_step_own, pL_enterObject_own, hq] <;> rfl
  subst y0
  obtain ⟨S2, n1, e2, z1, h2⟩ := o_label h1
  have y1 : n1 = 65606 := by rw [z1]; simp only [pEm_own, pSe_own, pLp_own, pLd_own, pSt_own, pSc_own, pLb_own, pL_size_own, pL_copyWords_own, pL_step_own, pL_enterObject_own, hq] <;> rfl
  subst y1
  obtain ⟨S3, e3, h3⟩ := o_land h2 65553
  obtain ⟨S4, e4, h4⟩ := l_step h3
  obtain ⟨S5, e5, h5⟩ := o_lw h4 8 (-8) 16
  obtain ⟨S6, e6, h6⟩ := o_immediate h5 12 9 8 3
  obtain ⟨S7, e7, h7⟩ := o_branch h6 4 9 0 65605
  obtain ⟨S8, e8, h8⟩ := o_jump h7 65556
  obtain ⟨S9, e9, h9⟩ := o_land h8 65605
  obtain ⟨S10, e10, h10⟩ := o_add h9 4 31 1
  obtain ⟨S11, e11, h11⟩ := o_jumpAndLink h10 65536
  obtain ⟨S12, e12, h12⟩ := o_add h11 4 17 1
  obtain ⟨S13, e13, h13⟩ := o_jumpAndLink h12 65536
  obtain ⟨S14, e14, h14⟩ := o_lw h13 8 (-16) 16
  obtain ⟨S15, e15, h15⟩ := o_add h14 17 16 (-16)
  obtain ⟨S16, e16, h16⟩ := l_enterObject h15
  obtain ⟨S17, e17, h17⟩ := o_land h16 65554
  obtain ⟨S18, e18, h18⟩ := l_step h17
  obtain ⟨S19, e19, h19⟩ := o_lw h18 8 (-8) 16
  obtain ⟨S20, e20, h20⟩ := o_immediate h19 12 9 8 3
  obtain ⟨S21, e21, h21⟩ := o_branch h20 4 9 0 65606
  obtain ⟨S22, e22, h22⟩ := o_jump h21 65556
  obtain ⟨S23, e23, h23⟩ := o_land h22 65606
  obtain ⟨S24, e24, h24⟩ := o_lw h23 10 (-4) 16
  obtain ⟨S25, e25, h25⟩ := o_sw h24 8 0 17
  obtain ⟨S26, e26, h26⟩ := o_sw h25 10 4 17
  obtain ⟨S27, e27, h27⟩ := o_add h26 16 17 16
  obtain ⟨S28, e28, h28⟩ := l_enterObject h27
  obtain ⟨S29, e29, h29⟩ := o_land h28 65555
  obtain ⟨S30, e30, h30⟩ := o_lw h29 8 (-4) 16
  obtain ⟨S31, e31, h31⟩ := o_lw h30 9 8 17
  obtain ⟨S32, e32, h32⟩ := o_lw h31 10 12 17
  obtain ⟨S33, e33, h33⟩ := o_add h32 16 17 4
  obtain ⟨S34, e34, h34⟩ := o_sw h33 8 0 17
  obtain ⟨S35, e35, h35⟩ := o_add h34 9 9 (-1)
  obtain ⟨S36, e36, h36⟩ := o_add h35 17 10 (-1)
  obtain ⟨S37, e37, h37⟩ := o_back h36 9
  refine ⟨S37, fun d => ?_, ?_⟩
  · rw [XC_iff]
    refine ⟨Nat.le_of_ble_eq_true rfl, ?_⟩
    show XL SK MT (d + 5) 147 (0, [some (.ref 10), none, none], [], S) _
    simp (config := { decide := true }) only [rX5_layCalls_0, rX5_layCalls_1, rX5_layCalls_4, rX5_layCalls_7, rX5_layCalls_8, rX5_layCalls_9, rX5_layCalls_12, rX5_layCalls_15, rX5_layCalls_16, rX5_layCalls_17, rX5_layCalls_20, rX5_layCalls_22, rX5_layCalls_25, rX5_layCalls_26, rX5_layCalls_29, rX5_layCalls_30, rX5_layCalls_33, rX5_layCalls_35, rX5_layCalls_37, rX5_layCalls_39, rX5_layCalls_42, rX5_layCalls_43, rX5_layCalls_46, rX5_layCalls_48, rX5_layCalls_50, rX5_layCalls_52, rX5_layCalls_53, rX5_layCalls_56, rX5_layCalls_57, rX5_layCalls_60, rX5_layCalls_61, rX5_layCalls_63, rX5_layCalls_64, rX5_layCalls_65, rX5_layCalls_68, rX5_layCalls_69, rX5_layCalls_72, rX5_layCalls_74, rX5_layCalls_77, rX5_layCalls_78, rX5_layCalls_81, rX5_layCalls_82, rX5_layCalls_85, rX5_layCalls_86, rX5_layCalls_89, rX5_layCalls_90, rX5_layCalls_92, rX5_layCalls_93, rX5_layCalls_96, rX5_layCalls_97, rX5_layCalls_100, rX5_layCalls_102, rX5_layCalls_105, rX5_layCalls_106, rX5_layCalls_109, rX5_layCalls_110, rX5_layCalls_112, rX5_layCalls_113, rX5_layCalls_116, rX5_layCalls_117, rX5_layCalls_120, rX5_layCalls_122, rX5_layCalls_125, rX5_layCalls_126, rX5_layCalls_129, rX5_layCalls_131, rX5_layCalls_133, rX5_layCalls_135, rX5_layCalls_138, rX5_layCalls_139, rX5_layCalls_142, rX5_layCalls_144, rX5_layCalls_146, rX5_layCalls_148, rX5_layCalls_151, rX5_layCalls_152, rX5_layCalls_155, rX5_layCalls_156, rX5_layCalls_159, rX5_layCalls_161, rX5_layCalls_164, rX5_layCalls_165, rX5_layCalls_168, rX5_layCalls_169, rX5_layCalls_172, rX5_layCalls_174, rX5_layCalls_176, rX5_layCalls_178, rX5_layCalls_181, rX5_layCalls_182, rX5_layCalls_185, rX5_layCalls_187, rX5_layCalls_189, rX5_layCalls_191, rX5_layCalls_192, rX5_layCalls_195, rX5_layCalls_196, rX5_layCalls_199, rX5_layCalls_200, rX5_layCalls_202, rX5_layCalls_203, rX5_layCalls_204, rX5_layCalls_207, rX5_layCalls_208, rX5_layCalls_211, rX5_layCalls_213, rX5_layCalls_216, rX5_layCalls_217, rX5_layCalls_220, rX5_layCalls_221, rX5_layCalls_224, rX5_layCalls_225, rX5_layCalls_228, rX5_layCalls_230, rX5_layCalls_232, rX5_layCalls_234, rX5_layCalls_237, rX5_layCalls_238, rX5_layCalls_241, rX5_layCalls_243, rX5_layCalls_244, rX5_layCalls_246, rX5_layCalls_249, rX5_layCalls_250, rX5_layCalls_253, rX5_layCalls_255, rX5_layCalls_256, rX5_layCalls_258, rX5_layCalls_261, rX5_layCalls_262, rX5_layCalls_265, rX5_layCalls_267, rX5_layCalls_269, rX5_layCalls_271, rX5_layCalls_274, rX5_layCalls_275, rX5_layCalls_278, rX5_layCalls_279, rX5_layCalls_282, rX5_layCalls_284, rX5_layCalls_287, rX5_layCalls_288, rX5_layCalls_291, rX5_layCalls_293, rX5_layCalls_295, rX5_layCalls_297, rX5_layCalls_300, rX5_layCalls_301, rX5_layCalls_304, rX5_layCalls_306, rX5_layCalls_308, rX5_layCalls_310, rX5_layCalls_313, rX5_layCalls_314, rX5_layCalls_317, rX5_layCalls_319, rX5_layCalls_321, rX5_layCalls_323, rX5_layCalls_326, rX5_layCalls_327, rX5_layCalls_330, rX5_layCalls_332, rX5_layCalls_334, rX5_layCalls_335, rX5_layCalls_338, rX5_layCalls_339, rX5_layCalls_342, rX5_layCalls_344, rX5_layCalls_345, rX5_layCalls_347, rX5_layCalls_350, rX5_layCalls_351, rX5_layCalls_354, rX5_layCalls_356, rX5_layCalls_358, rX5_layCalls_359, rX5_layCalls_362, rX5_layCalls_363, rX5_layCalls_366, rX5_layCalls_368, rX5_layCalls_370, rX5_layCalls_371, rX5_layCalls_374, rX5_layCalls_375, rX5_layCalls_378, rX5_layCalls_380, rX5_layCalls_383, ↓reduceIte, m1_le, m1_lt, m1_eq, ofInt_m1, ex_ret, Int32.reduceAdd, Int32.reduceSub, Int32.reduceMul, Int32.reduceLT, Int32.reduceLE, xsI, Nat.reduceEqDiff, and_false, false_and, and_true, true_and, if_true, if_false, ite_true, ite_false, xlook_0, xlook_s, xI_int, xA_ref, xJ_long, xK_some, xRow_row, xTo_some, xst1, xclr, List.set_cons_zero, List.set_cons_succ, xsum_nil, xsum_int, xsum_ref, xsum_long, Option.toList_some, Option.toList_none, List.nil_append, List.cons_append, e1, e2, e3, e4, e5, e6, e7, e8, e9, e10, e11, e12, e13, e14, e15, e16, e17, e18, e19, e20, e21, e22, e23, e24, e25, e26, e27, e28, e29, e30, e31, e32, e33, e34, e35, e36, e37]
  · exact h37
