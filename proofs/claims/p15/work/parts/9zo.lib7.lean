/-! XF: rows, then what is proved of them. -/
theorem rX5_layKnown_0 {d : Nat} {lv : xLV} {st : List Value} {S : xS} {r : xO} : XL SK MT d 150 (0, lv, st, S) r ↔ xA (xlook lv 0) (fun x => XL SK MT d 150 (1, lv, .ref x :: st, S) r) := X_ldA rfl rfl (fun _ => rfl) rfl rfl rfl rfl
theorem rX5_layKnown_1 {d : Nat} {lv : xLV} {st : List Value} {S : xS} {r : xO} : XL SK MT d 150 (1, lv, .ref 10 :: st, S) r ↔ XL SK MT d 150 (4, lv, .ref 9 :: st, S) r := X_heap rfl rfl rfl rfl rfl
theorem rX5_layKnown_4 {d : Nat} {lv : xLV} {S : xS} {r : xO} : XL SK MT d 150 (4, lv, [.ref 9], S) r ↔ xK (XC SK MT d 2 [.ref 9] S) (fun v S => XL SK MT d 150 (7, lv, v.toList ++ [], S) r) := X_inv (n := 1) (kd := 2) (st0 := [.ref 9]) rfl (Or.inr ⟨rfl, rfl⟩) rfl (Nat.le_of_ble_eq_true rfl) (Nat.le_of_ble_eq_true rfl) (by decide) rfl
theorem rX5_layKnown_7 {d : Nat} {lv : xLV} {st : List Value} {S : xS} {r : xO} {x : Int32} : XL SK MT d 150 (7, lv, .int x :: st, S) r ↔ XL SK MT d 150 (8, xst1 lv 1 (.int x), st, S) r := X_pure rfl rfl rfl
theorem rX5_layKnown_8 {d : Nat} {lv : xLV} {st : List Value} {S : xS} {r : xO} : XL SK MT d 150 (8, lv, st, S) r ↔ XL SK MT d 150 (9, lv, .int 0 :: st, S) r := X_pure rfl rfl rfl
theorem rX5_layKnown_9 {d : Nat} {lv : xLV} {st : List Value} {S : xS} {r : xO} {x : Int32} : XL SK MT d 150 (9, lv, .int x :: st, S) r ↔ XL SK MT d 150 (10, xst1 lv 2 (.int x), st, S) r := X_pure rfl rfl rfl
theorem rX5_layKnown_10 {d : Nat} {lv : xLV} {st : List Value} {S : xS} {r : xO} : XL SK MT d 150 (10, lv, st, S) r ↔ xI (xlook lv 2) (fun x => XL SK MT d 150 (11, lv, .int x :: st, S) r) := X_ldI rfl rfl (fun _ => rfl) rfl rfl rfl rfl
theorem rX5_layKnown_11 {d : Nat} {lv : xLV} {st : List Value} {S : xS} {r : xO} : XL SK MT d 150 (11, lv, st, S) r ↔ XL SK MT d 150 (13, lv, .int 11 :: st, S) r := X_pure rfl rfl rfl
theorem rX5_layKnown_13 {d : Nat} {lv : xLV} {st : List Value} {S : xS} {r : xO} {x z : Int32} : XL SK MT d 150 (13, lv, .int z :: .int x :: st, S) r ↔ if z < x then XL SK MT d 150 (33, lv, st, S) r else XL SK MT d 150 (16, lv, st, S) r := (X_icmp rfl rfl).trans xc_gt
theorem rX5_layKnown_16 {d : Nat} {lv : xLV} {st : List Value} {S : xS} {r : xO} : XL SK MT d 150 (16, lv, st, S) r ↔ xA (xlook lv 0) (fun x => XL SK MT d 150 (17, lv, .ref x :: st, S) r) := X_ldA rfl rfl (fun _ => rfl) rfl rfl rfl rfl
theorem rX5_layKnown_17 {d : Nat} {lv : xLV} {st : List Value} {S : xS} {r : xO} : XL SK MT d 150 (17, lv, .ref 10 :: st, S) r ↔ XL SK MT d 150 (20, lv, .ref 9 :: st, S) r := X_heap rfl rfl rfl rfl rfl
theorem rX5_layKnown_20 {d : Nat} {lv : xLV} {st : List Value} {S : xS} {r : xO} : XL SK MT d 150 (20, lv, st, S) r ↔ XL SK MT d 150 (22, lv, .int 65562 :: st, S) r := X_pure rfl rfl rfl
theorem rX5_layKnown_22 {d : Nat} {lv : xLV} {st : List Value} {S : xS} {r : xO} : XL SK MT d 150 (22, lv, st, S) r ↔ xI (xlook lv 2) (fun x => XL SK MT d 150 (23, lv, .int x :: st, S) r) := X_ldI rfl rfl (fun _ => rfl) rfl rfl rfl rfl
theorem rX5_layKnown_23 {d : Nat} {lv : xLV} {st : List Value} {S : xS} {r : xO} {x z : Int32} : XL SK MT d 150 (23, lv, .int z :: .int x :: st, S) r ↔ XL SK MT d 150 (24, lv, .int (x + z) :: st, S) r := X_pure rfl rfl rfl
theorem rX5_layKnown_24 {d : Nat} {lv : xLV} {S : xS} {r : xO} {x1 : Int32} : XL SK MT d 150 (24, lv, [.int x1, .ref 9], S) r ↔ xK (XC SK MT d 27 [.ref 9, .int x1] S) (fun v S => XL SK MT d 150 (27, lv, v.toList ++ [], S) r) := X_inv (n := 2) (kd := 2) (st0 := [.int x1, .ref 9]) rfl (Or.inr ⟨rfl, rfl⟩) rfl (Nat.le_of_ble_eq_true rfl) (Nat.le_of_ble_eq_true rfl) (by decide) rfl
theorem rX5_layKnown_27 {d : Nat} {lv : xLV} {st : List Value} {S : xS} {r : xO} : XL SK MT d 150 (27, lv, st, S) r ↔ xI (xlook lv 2) (fun x => XL SK MT d 150 (30, xst1 lv 2 (.int (x + 1)), st, S) r) := X_inc (i := 2) (n := 1) rfl (Nat.le_of_ble_eq_true rfl)
theorem rX5_layKnown_30 {d : Nat} {lv : xLV} {st : List Value} {S : xS} {r : xO} : XL SK MT d 150 (30, lv, st, S) r ↔ XL SK MT d 150 (10, lv, st, S) r := X_jump rfl rfl rfl
theorem rX5_layKnown_33 {d : Nat} {lv : xLV} {st : List Value} {S : xS} {r : xO} : XL SK MT d 150 (33, lv, st, S) r ↔ xA (xlook lv 0) (fun x => XL SK MT d 150 (34, lv, .ref x :: st, S) r) := X_ldA rfl rfl (fun _ => rfl) rfl rfl rfl rfl
theorem rX5_layKnown_34 {d : Nat} {lv : xLV} {st : List Value} {S : xS} {r : xO} : XL SK MT d 150 (34, lv, .ref 10 :: st, S) r ↔ XL SK MT d 150 (37, lv, .ref 9 :: st, S) r := X_heap rfl rfl rfl rfl rfl
theorem rX5_layKnown_37 {d : Nat} {lv : xLV} {st : List Value} {S : xS} {r : xO} : XL SK MT d 150 (37, lv, st, S) r ↔ XL SK MT d 150 (39, lv, .int 65557 :: st, S) r := X_pure rfl rfl rfl
theorem rX5_layKnown_39 {d : Nat} {lv : xLV} {S : xS} {r : xO} {x1 : Int32} : XL SK MT d 150 (39, lv, [.int x1, .ref 9], S) r ↔ xK (XC SK MT d 3 [.ref 9, .int x1] S) (fun v S => XL SK MT d 150 (42, lv, v.toList ++ [], S) r) := X_inv (n := 2) (kd := 2) (st0 := [.int x1, .ref 9]) rfl (Or.inr ⟨rfl, rfl⟩) rfl (Nat.le_of_ble_eq_true rfl) (Nat.le_of_ble_eq_true rfl) (by decide) rfl
theorem rX5_layKnown_42 {d : Nat} {lv : xLV} {st : List Value} {S : xS} {r : xO} : XL SK MT d 150 (42, lv, st, S) r ↔ xA (xlook lv 0) (fun x => XL SK MT d 150 (43, lv, .ref x :: st, S) r) := X_ldA rfl rfl (fun _ => rfl) rfl rfl rfl rfl
theorem rX5_layKnown_43 {d : Nat} {lv : xLV} {st : List Value} {S : xS} {r : xO} : XL SK MT d 150 (43, lv, .ref 10 :: st, S) r ↔ XL SK MT d 150 (46, lv, .ref 9 :: st, S) r := X_heap rfl rfl rfl rfl rfl
theorem rX5_layKnown_46 {d : Nat} {lv : xLV} {st : List Value} {S : xS} {r : xO} : XL SK MT d 150 (46, lv, st, S) r ↔ XL SK MT d 150 (47, lv, .int 4 :: st, S) r := X_pure rfl rfl rfl
theorem rX5_layKnown_47 {d : Nat} {lv : xLV} {st : List Value} {S : xS} {r : xO} : XL SK MT d 150 (47, lv, st, S) r ↔ XL SK MT d 150 (49, lv, .int (-8) :: st, S) r := X_pure rfl rfl rfl
theorem rX5_layKnown_49 {d : Nat} {lv : xLV} {st : List Value} {S : xS} {r : xO} : XL SK MT d 150 (49, lv, st, S) r ↔ XL SK MT d 150 (51, lv, .int 16 :: st, S) r := X_pure rfl rfl rfl
theorem rX5_layKnown_51 {d : Nat} {lv : xLV} {S : xS} {r : xO} {x1 : Int32} {x2 : Int32} {x3 : Int32} : XL SK MT d 150 (51, lv, [.int x3, .int x2, .int x1, .ref 9], S) r ↔ xK (XC SK MT d 19 [.ref 9, .int x1, .int x2, .int x3] S) (fun v S => XL SK MT d 150 (54, lv, v.toList ++ [], S) r) := X_inv (n := 4) (kd := 2) (st0 := [.int x3, .int x2, .int x1, .ref 9]) rfl (Or.inr ⟨rfl, rfl⟩) rfl (Nat.le_of_ble_eq_true rfl) (Nat.le_of_ble_eq_true rfl) (by decide) rfl
theorem rX5_layKnown_54 {d : Nat} {lv : xLV} {st : List Value} {S : xS} {r : xO} : XL SK MT d 150 (54, lv, st, S) r ↔ xA (xlook lv 0) (fun x => XL SK MT d 150 (55, lv, .ref x :: st, S) r) := X_ldA rfl rfl (fun _ => rfl) rfl rfl rfl rfl
theorem rX5_layKnown_55 {d : Nat} {lv : xLV} {st : List Value} {S : xS} {r : xO} : XL SK MT d 150 (55, lv, .ref 10 :: st, S) r ↔ XL SK MT d 150 (58, lv, .ref 9 :: st, S) r := X_heap rfl rfl rfl rfl rfl
theorem rX5_layKnown_58 {d : Nat} {lv : xLV} {st : List Value} {S : xS} {r : xO} : XL SK MT d 150 (58, lv, st, S) r ↔ XL SK MT d 150 (60, lv, .int 16 :: st, S) r := X_pure rfl rfl rfl
theorem rX5_layKnown_60 {d : Nat} {lv : xLV} {st : List Value} {S : xS} {r : xO} : XL SK MT d 150 (60, lv, st, S) r ↔ XL SK MT d 150 (62, lv, .int 16 :: st, S) r := X_pure rfl rfl rfl
theorem rX5_layKnown_62 {d : Nat} {lv : xLV} {st : List Value} {S : xS} {r : xO} : XL SK MT d 150 (62, lv, st, S) r ↔ XL SK MT d 150 (64, lv, .int (-4) :: st, S) r := X_pure rfl rfl rfl
theorem rX5_layKnown_64 {d : Nat} {lv : xLV} {S : xS} {r : xO} {x1 : Int32} {x2 : Int32} {x3 : Int32} : XL SK MT d 150 (64, lv, [.int x3, .int x2, .int x1, .ref 9], S) r ↔ xK (XC SK MT d 20 [.ref 9, .int x1, .int x2, .int x3] S) (fun v S => XL SK MT d 150 (67, lv, v.toList ++ [], S) r) := X_inv (n := 4) (kd := 2) (st0 := [.int x3, .int x2, .int x1, .ref 9]) rfl (Or.inr ⟨rfl, rfl⟩) rfl (Nat.le_of_ble_eq_true rfl) (Nat.le_of_ble_eq_true rfl) (by decide) rfl
theorem rX5_layKnown_67 {d : Nat} {lv : xLV} {st : List Value} {S : xS} {r : xO} : XL SK MT d 150 (67, lv, st, S) r ↔ xA (xlook lv 0) (fun x => XL SK MT d 150 (68, lv, .ref x :: st, S) r) := X_ldA rfl rfl (fun _ => rfl) rfl rfl rfl rfl
theorem rX5_layKnown_68 {d : Nat} {lv : xLV} {st : List Value} {S : xS} {r : xO} : XL SK MT d 150 (68, lv, .ref 10 :: st, S) r ↔ XL SK MT d 150 (71, lv, .ref 9 :: st, S) r := X_heap rfl rfl rfl rfl rfl
theorem rX5_layKnown_71 {d : Nat} {lv : xLV} {st : List Value} {S : xS} {r : xO} : XL SK MT d 150 (71, lv, st, S) r ↔ XL SK MT d 150 (73, lv, .int 25 :: st, S) r := X_pure rfl rfl rfl
theorem rX5_layKnown_73 {d : Nat} {lv : xLV} {S : xS} {r : xO} {x1 : Int32} : XL SK MT d 150 (73, lv, [.int x1, .ref 9], S) r ↔ xK (XC SK MT d 29 [.ref 9, .int x1] S) (fun v S => XL SK MT d 150 (76, lv, v.toList ++ [], S) r) := X_inv (n := 2) (kd := 2) (st0 := [.int x1, .ref 9]) rfl (Or.inr ⟨rfl, rfl⟩) rfl (Nat.le_of_ble_eq_true rfl) (Nat.le_of_ble_eq_true rfl) (by decide) rfl
theorem rX5_layKnown_76 {d : Nat} {lv : xLV} {st : List Value} {S : xS} {r : xO} : XL SK MT d 150 (76, lv, st, S) r ↔ xA (xlook lv 0) (fun x => XL SK MT d 150 (77, lv, .ref x :: st, S) r) := X_ldA rfl rfl (fun _ => rfl) rfl rfl rfl rfl
theorem rX5_layKnown_77 {d : Nat} {lv : xLV} {st : List Value} {S : xS} {r : xO} : XL SK MT d 150 (77, lv, .ref 10 :: st, S) r ↔ XL SK MT d 150 (80, lv, .ref 9 :: st, S) r := X_heap rfl rfl rfl rfl rfl
theorem rX5_layKnown_80 {d : Nat} {lv : xLV} {st : List Value} {S : xS} {r : xO} : XL SK MT d 150 (80, lv, st, S) r ↔ XL SK MT d 150 (82, lv, .int 65556 :: st, S) r := X_pure rfl rfl rfl
theorem rX5_layKnown_82 {d : Nat} {lv : xLV} {S : xS} {r : xO} {x1 : Int32} : XL SK MT d 150 (82, lv, [.int x1, .ref 9], S) r ↔ xK (XC SK MT d 3 [.ref 9, .int x1] S) (fun v S => XL SK MT d 150 (85, lv, v.toList ++ [], S) r) := X_inv (n := 2) (kd := 2) (st0 := [.int x1, .ref 9]) rfl (Or.inr ⟨rfl, rfl⟩) rfl (Nat.le_of_ble_eq_true rfl) (Nat.le_of_ble_eq_true rfl) (by decide) rfl
theorem rX5_layKnown_85 {d : Nat} {lv : xLV} {st : List Value} {S : xS} {r : xO} : XL SK MT d 150 (85, lv, st, S) r ↔ xA (xlook lv 0) (fun x => XL SK MT d 150 (86, lv, .ref x :: st, S) r) := X_ldA rfl rfl (fun _ => rfl) rfl rfl rfl rfl
theorem rX5_layKnown_86 {d : Nat} {lv : xLV} {st : List Value} {S : xS} {r : xO} : XL SK MT d 150 (86, lv, .ref 10 :: st, S) r ↔ XL SK MT d 150 (89, lv, .ref 9 :: st, S) r := X_heap rfl rfl rfl rfl rfl
theorem rX5_layKnown_89 {d : Nat} {lv : xLV} {S : xS} {r : xO} : XL SK MT d 150 (89, lv, [.ref 9], S) r ↔ xK (XC SK MT d 1 [.ref 9] S) (fun v S => XL SK MT d 150 (92, lv, v.toList ++ [], S) r) := X_inv (n := 1) (kd := 2) (st0 := [.ref 9]) rfl (Or.inr ⟨rfl, rfl⟩) rfl (Nat.le_of_ble_eq_true rfl) (Nat.le_of_ble_eq_true rfl) (by decide) rfl
theorem rX5_layKnown_92 {d : Nat} {lv : xLV} {st : List Value} {S : xS} {r : xO} {x : Int32} : XL SK MT d 150 (92, lv, .int x :: st, S) r ↔ XL SK MT d 150 (93, xst1 lv 2 (.int x), st, S) r := X_pure rfl rfl rfl
theorem rX5_layKnown_93 {d : Nat} {lv : xLV} {st : List Value} {S : xS} {r : xO} : XL SK MT d 150 (93, lv, st, S) r ↔ xA (xlook lv 0) (fun x => XL SK MT d 150 (94, lv, .ref x :: st, S) r) := X_ldA rfl rfl (fun _ => rfl) rfl rfl rfl rfl
theorem rX5_layKnown_94 {d : Nat} {lv : xLV} {st : List Value} {S : xS} {r : xO} : XL SK MT d 150 (94, lv, .ref 10 :: st, S) r ↔ XL SK MT d 150 (97, lv, .ref 9 :: st, S) r := X_heap rfl rfl rfl rfl rfl
theorem rX5_layKnown_97 {d : Nat} {lv : xLV} {st : List Value} {S : xS} {r : xO} : XL SK MT d 150 (97, lv, st, S) r ↔ XL SK MT d 150 (99, lv, .int 25 :: st, S) r := X_pure rfl rfl rfl
theorem rX5_layKnown_99 {d : Nat} {lv : xLV} {st : List Value} {S : xS} {r : xO} : XL SK MT d 150 (99, lv, st, S) r ↔ XL SK MT d 150 (101, lv, .int 31 :: st, S) r := X_pure rfl rfl rfl
theorem rX5_layKnown_101 {d : Nat} {lv : xLV} {S : xS} {r : xO} {x1 : Int32} {x2 : Int32} : XL SK MT d 150 (101, lv, [.int x2, .int x1, .ref 9], S) r ↔ xK (XC SK MT d 21 [.ref 9, .int x1, .int x2] S) (fun v S => XL SK MT d 150 (104, lv, v.toList ++ [], S) r) := X_inv (n := 3) (kd := 2) (st0 := [.int x2, .int x1, .ref 9]) rfl (Or.inr ⟨rfl, rfl⟩) rfl (Nat.le_of_ble_eq_true rfl) (Nat.le_of_ble_eq_true rfl) (by decide) rfl
theorem rX5_layKnown_104 {d : Nat} {lv : xLV} {st : List Value} {S : xS} {r : xO} : XL SK MT d 150 (104, lv, st, S) r ↔ xA (xlook lv 0) (fun x => XL SK MT d 150 (105, lv, .ref x :: st, S) r) := X_ldA rfl rfl (fun _ => rfl) rfl rfl rfl rfl
theorem rX5_layKnown_105 {d : Nat} {lv : xLV} {st : List Value} {S : xS} {r : xO} : XL SK MT d 150 (105, lv, .ref 10 :: st, S) r ↔ XL SK MT d 150 (108, lv, .ref 9 :: st, S) r := X_heap rfl rfl rfl rfl rfl
theorem rX5_layKnown_108 {d : Nat} {lv : xLV} {st : List Value} {S : xS} {r : xO} : XL SK MT d 150 (108, lv, st, S) r ↔ XL SK MT d 150 (109, lv, .int 5 :: st, S) r := X_pure rfl rfl rfl
theorem rX5_layKnown_109 {d : Nat} {lv : xLV} {st : List Value} {S : xS} {r : xO} : XL SK MT d 150 (109, lv, st, S) r ↔ XL SK MT d 150 (111, lv, .int (-4) :: st, S) r := X_pure rfl rfl rfl
theorem rX5_layKnown_111 {d : Nat} {lv : xLV} {st : List Value} {S : xS} {r : xO} : XL SK MT d 150 (111, lv, st, S) r ↔ XL SK MT d 150 (113, lv, .int 16 :: st, S) r := X_pure rfl rfl rfl
theorem rX5_layKnown_113 {d : Nat} {lv : xLV} {S : xS} {r : xO} {x1 : Int32} {x2 : Int32} {x3 : Int32} : XL SK MT d 150 (113, lv, [.int x3, .int x2, .int x1, .ref 9], S) r ↔ xK (XC SK MT d 18 [.ref 9, .int x1, .int x2, .int x3] S) (fun v S => XL SK MT d 150 (116, lv, v.toList ++ [], S) r) := X_inv (n := 4) (kd := 2) (st0 := [.int x3, .int x2, .int x1, .ref 9]) rfl (Or.inr ⟨rfl, rfl⟩) rfl (Nat.le_of_ble_eq_true rfl) (Nat.le_of_ble_eq_true rfl) (by decide) rfl
theorem rX5_layKnown_116 {d : Nat} {lv : xLV} {st : List Value} {S : xS} {r : xO} : XL SK MT d 150 (116, lv, st, S) r ↔ xA (xlook lv 0) (fun x => XL SK MT d 150 (117, lv, .ref x :: st, S) r) := X_ldA rfl rfl (fun _ => rfl) rfl rfl rfl rfl
theorem rX5_layKnown_117 {d : Nat} {lv : xLV} {st : List Value} {S : xS} {r : xO} : XL SK MT d 150 (117, lv, .ref 10 :: st, S) r ↔ XL SK MT d 150 (120, lv, .ref 9 :: st, S) r := X_heap rfl rfl rfl rfl rfl
theorem rX5_layKnown_120 {d : Nat} {lv : xLV} {st : List Value} {S : xS} {r : xO} : XL SK MT d 150 (120, lv, st, S) r ↔ XL SK MT d 150 (121, lv, .int 2 :: st, S) r := X_pure rfl rfl rfl
theorem rX5_layKnown_121 {d : Nat} {lv : xLV} {st : List Value} {S : xS} {r : xO} : XL SK MT d 150 (121, lv, st, S) r ↔ XL SK MT d 150 (123, lv, .int 9 :: st, S) r := X_pure rfl rfl rfl
theorem rX5_layKnown_123 {d : Nat} {lv : xLV} {st : List Value} {S : xS} {r : xO} : XL SK MT d 150 (123, lv, st, S) r ↔ XL SK MT d 150 (125, lv, .int 8 :: st, S) r := X_pure rfl rfl rfl
theorem rX5_layKnown_125 {d : Nat} {lv : xLV} {st : List Value} {S : xS} {r : xO} : XL SK MT d 150 (125, lv, st, S) r ↔ XL SK MT d 150 (127, lv, .int 12 :: st, S) r := X_pure rfl rfl rfl
theorem rX5_layKnown_127 {d : Nat} {lv : xLV} {S : xS} {r : xO} {x1 : Int32} {x2 : Int32} {x3 : Int32} {x4 : Int32} : XL SK MT d 150 (127, lv, [.int x4, .int x3, .int x2, .int x1, .ref 9], S) r ↔ xK (XC SK MT d 16 [.ref 9, .int x1, .int x2, .int x3, .int x4] S) (fun v S => XL SK MT d 150 (130, lv, v.toList ++ [], S) r) := X_inv (n := 5) (kd := 2) (st0 := [.int x4, .int x3, .int x2, .int x1, .ref 9]) rfl (Or.inr ⟨rfl, rfl⟩) rfl (Nat.le_of_ble_eq_true rfl) (Nat.le_of_ble_eq_true rfl) (by decide) rfl
theorem rX5_layKnown_130 {d : Nat} {lv : xLV} {st : List Value} {S : xS} {r : xO} : XL SK MT d 150 (130, lv, st, S) r ↔ xA (xlook lv 0) (fun x => XL SK MT d 150 (131, lv, .ref x :: st, S) r) := X_ldA rfl rfl (fun _ => rfl) rfl rfl rfl rfl
theorem rX5_layKnown_131 {d : Nat} {lv : xLV} {st : List Value} {S : xS} {r : xO} : XL SK MT d 150 (131, lv, .ref 10 :: st, S) r ↔ XL SK MT d 150 (134, lv, .ref 9 :: st, S) r := X_heap rfl rfl rfl rfl rfl
theorem rX5_layKnown_134 {d : Nat} {lv : xLV} {st : List Value} {S : xS} {r : xO} : XL SK MT d 150 (134, lv, st, S) r ↔ XL SK MT d 150 (136, lv, .int 10 :: st, S) r := X_pure rfl rfl rfl
theorem rX5_layKnown_136 {d : Nat} {lv : xLV} {st : List Value} {S : xS} {r : xO} : XL SK MT d 150 (136, lv, st, S) r ↔ XL SK MT d 150 (137, lv, .int 1 :: st, S) r := X_pure rfl rfl rfl
theorem rX5_layKnown_137 {d : Nat} {lv : xLV} {S : xS} {r : xO} {x1 : Int32} {x2 : Int32} : XL SK MT d 150 (137, lv, [.int x2, .int x1, .ref 9], S) r ↔ xK (XC SK MT d 22 [.ref 9, .int x1, .int x2] S) (fun v S => XL SK MT d 150 (140, lv, v.toList ++ [], S) r) := X_inv (n := 3) (kd := 2) (st0 := [.int x2, .int x1, .ref 9]) rfl (Or.inr ⟨rfl, rfl⟩) rfl (Nat.le_of_ble_eq_true rfl) (Nat.le_of_ble_eq_true rfl) (by decide) rfl
theorem rX5_layKnown_140 {d : Nat} {lv : xLV} {st : List Value} {S : xS} {r : xO} : XL SK MT d 150 (140, lv, st, S) r ↔ xA (xlook lv 0) (fun x => XL SK MT d 150 (141, lv, .ref x :: st, S) r) := X_ldA rfl rfl (fun _ => rfl) rfl rfl rfl rfl
theorem rX5_layKnown_141 {d : Nat} {lv : xLV} {st : List Value} {S : xS} {r : xO} : XL SK MT d 150 (141, lv, .ref 10 :: st, S) r ↔ XL SK MT d 150 (144, lv, .ref 9 :: st, S) r := X_heap rfl rfl rfl rfl rfl
theorem rX5_layKnown_144 {d : Nat} {lv : xLV} {st : List Value} {S : xS} {r : xO} : XL SK MT d 150 (144, lv, st, S) r ↔ XL SK MT d 150 (146, lv, .int 12 :: st, S) r := X_pure rfl rfl rfl
theorem rX5_layKnown_146 {d : Nat} {lv : xLV} {st : List Value} {S : xS} {r : xO} : XL SK MT d 150 (146, lv, st, S) r ↔ XL SK MT d 150 (148, lv, .int 11 :: st, S) r := X_pure rfl rfl rfl
theorem rX5_layKnown_148 {d : Nat} {lv : xLV} {st : List Value} {S : xS} {r : xO} : XL SK MT d 150 (148, lv, st, S) r ↔ XL SK MT d 150 (150, lv, .int 8 :: st, S) r := X_pure rfl rfl rfl
theorem rX5_layKnown_150 {d : Nat} {lv : xLV} {st : List Value} {S : xS} {r : xO} : XL SK MT d 150 (150, lv, st, S) r ↔ XL SK MT d 150 (153, lv, .int 4095 :: st, S) r := X_pure rfl rfl rfl
theorem rX5_layKnown_153 {d : Nat} {lv : xLV} {S : xS} {r : xO} {x1 : Int32} {x2 : Int32} {x3 : Int32} {x4 : Int32} : XL SK MT d 150 (153, lv, [.int x4, .int x3, .int x2, .int x1, .ref 9], S) r ↔ xK (XC SK MT d 17 [.ref 9, .int x1, .int x2, .int x3, .int x4] S) (fun v S => XL SK MT d 150 (156, lv, v.toList ++ [], S) r) := X_inv (n := 5) (kd := 2) (st0 := [.int x4, .int x3, .int x2, .int x1, .ref 9]) rfl (Or.inr ⟨rfl, rfl⟩) rfl (Nat.le_of_ble_eq_true rfl) (Nat.le_of_ble_eq_true rfl) (by decide) rfl
theorem rX5_layKnown_156 {d : Nat} {lv : xLV} {st : List Value} {S : xS} {r : xO} : XL SK MT d 150 (156, lv, st, S) r ↔ xA (xlook lv 0) (fun x => XL SK MT d 150 (157, lv, .ref x :: st, S) r) := X_ldA rfl rfl (fun _ => rfl) rfl rfl rfl rfl
theorem rX5_layKnown_157 {d : Nat} {lv : xLV} {st : List Value} {S : xS} {r : xO} : XL SK MT d 150 (157, lv, .ref 10 :: st, S) r ↔ XL SK MT d 150 (160, lv, .ref 9 :: st, S) r := X_heap rfl rfl rfl rfl rfl
theorem rX5_layKnown_160 {d : Nat} {lv : xLV} {st : List Value} {S : xS} {r : xO} : XL SK MT d 150 (160, lv, st, S) r ↔ XL SK MT d 150 (161, lv, .int 2 :: st, S) r := X_pure rfl rfl rfl
theorem rX5_layKnown_161 {d : Nat} {lv : xLV} {st : List Value} {S : xS} {r : xO} : XL SK MT d 150 (161, lv, st, S) r ↔ XL SK MT d 150 (163, lv, .int 11 :: st, S) r := X_pure rfl rfl rfl
theorem rX5_layKnown_163 {d : Nat} {lv : xLV} {st : List Value} {S : xS} {r : xO} : XL SK MT d 150 (163, lv, st, S) r ↔ XL SK MT d 150 (165, lv, .int 11 :: st, S) r := X_pure rfl rfl rfl
theorem rX5_layKnown_165 {d : Nat} {lv : xLV} {st : List Value} {S : xS} {r : xO} : XL SK MT d 150 (165, lv, st, S) r ↔ XL SK MT d 150 (166, lv, .int 2 :: st, S) r := X_pure rfl rfl rfl
theorem rX5_layKnown_166 {d : Nat} {lv : xLV} {S : xS} {r : xO} {x1 : Int32} {x2 : Int32} {x3 : Int32} {x4 : Int32} : XL SK MT d 150 (166, lv, [.int x4, .int x3, .int x2, .int x1, .ref 9], S) r ↔ xK (XC SK MT d 16 [.ref 9, .int x1, .int x2, .int x3, .int x4] S) (fun v S => XL SK MT d 150 (169, lv, v.toList ++ [], S) r) := X_inv (n := 5) (kd := 2) (st0 := [.int x4, .int x3, .int x2, .int x1, .ref 9]) rfl (Or.inr ⟨rfl, rfl⟩) rfl (Nat.le_of_ble_eq_true rfl) (Nat.le_of_ble_eq_true rfl) (by decide) rfl
theorem rX5_layKnown_169 {d : Nat} {lv : xLV} {st : List Value} {S : xS} {r : xO} : XL SK MT d 150 (169, lv, st, S) r ↔ xA (xlook lv 0) (fun x => XL SK MT d 150 (170, lv, .ref x :: st, S) r) := X_ldA rfl rfl (fun _ => rfl) rfl rfl rfl rfl
theorem rX5_layKnown_170 {d : Nat} {lv : xLV} {st : List Value} {S : xS} {r : xO} : XL SK MT d 150 (170, lv, .ref 10 :: st, S) r ↔ XL SK MT d 150 (173, lv, .ref 9 :: st, S) r := X_heap rfl rfl rfl rfl rfl
theorem rX5_layKnown_173 {d : Nat} {lv : xLV} {st : List Value} {S : xS} {r : xO} : XL SK MT d 150 (173, lv, st, S) r ↔ XL SK MT d 150 (174, lv, .int 5 :: st, S) r := X_pure rfl rfl rfl
theorem rX5_layKnown_174 {d : Nat} {lv : xLV} {st : List Value} {S : xS} {r : xO} : XL SK MT d 150 (174, lv, st, S) r ↔ XL SK MT d 150 (176, lv, .int 9 :: st, S) r := X_pure rfl rfl rfl
theorem rX5_layKnown_176 {d : Nat} {lv : xLV} {st : List Value} {S : xS} {r : xO} : XL SK MT d 150 (176, lv, st, S) r ↔ XL SK MT d 150 (178, lv, .int 10 :: st, S) r := X_pure rfl rfl rfl
theorem rX5_layKnown_178 {d : Nat} {lv : xLV} {st : List Value} {S : xS} {r : xO} : XL SK MT d 150 (178, lv, st, S) r ↔ xI (xlook lv 2) (fun x => XL SK MT d 150 (179, lv, .int x :: st, S) r) := X_ldI rfl rfl (fun _ => rfl) rfl rfl rfl rfl
theorem rX5_layKnown_179 {d : Nat} {lv : xLV} {S : xS} {r : xO} {x1 : Int32} {x2 : Int32} {x3 : Int32} {x4 : Int32} : XL SK MT d 150 (179, lv, [.int x4, .int x3, .int x2, .int x1, .ref 9], S) r ↔ xK (XC SK MT d 24 [.ref 9, .int x1, .int x2, .int x3, .int x4] S) (fun v S => XL SK MT d 150 (182, lv, v.toList ++ [], S) r) := X_inv (n := 5) (kd := 2) (st0 := [.int x4, .int x3, .int x2, .int x1, .ref 9]) rfl (Or.inr ⟨rfl, rfl⟩) rfl (Nat.le_of_ble_eq_true rfl) (Nat.le_of_ble_eq_true rfl) (by decide) rfl
theorem rX5_layKnown_182 {d : Nat} {lv : xLV} {st : List Value} {S : xS} {r : xO} : XL SK MT d 150 (182, lv, st, S) r ↔ xA (xlook lv 0) (fun x => XL SK MT d 150 (183, lv, .ref x :: st, S) r) := X_ldA rfl rfl (fun _ => rfl) rfl rfl rfl rfl
theorem rX5_layKnown_183 {d : Nat} {lv : xLV} {st : List Value} {S : xS} {r : xO} : XL SK MT d 150 (183, lv, .ref 10 :: st, S) r ↔ XL SK MT d 150 (186, lv, .ref 9 :: st, S) r := X_heap rfl rfl rfl rfl rfl
theorem rX5_layKnown_186 {d : Nat} {lv : xLV} {st : List Value} {S : xS} {r : xO} : XL SK MT d 150 (186, lv, st, S) r ↔ XL SK MT d 150 (188, lv, .int 65558 :: st, S) r := X_pure rfl rfl rfl
theorem rX5_layKnown_188 {d : Nat} {lv : xLV} {S : xS} {r : xO} {x1 : Int32} : XL SK MT d 150 (188, lv, [.int x1, .ref 9], S) r ↔ xK (XC SK MT d 27 [.ref 9, .int x1] S) (fun v S => XL SK MT d 150 (191, lv, v.toList ++ [], S) r) := X_inv (n := 2) (kd := 2) (st0 := [.int x1, .ref 9]) rfl (Or.inr ⟨rfl, rfl⟩) rfl (Nat.le_of_ble_eq_true rfl) (Nat.le_of_ble_eq_true rfl) (by decide) rfl
theorem rX5_layKnown_191 {d : Nat} {lv : xLV} {st : List Value} {S : xS} {r : xO} : XL SK MT d 150 (191, lv, st, S) r ↔ xA (xlook lv 0) (fun x => XL SK MT d 150 (192, lv, .ref x :: st, S) r) := X_ldA rfl rfl (fun _ => rfl) rfl rfl rfl rfl
theorem rX5_layKnown_192 {d : Nat} {lv : xLV} {st : List Value} {S : xS} {r : xO} : XL SK MT d 150 (192, lv, .ref 10 :: st, S) r ↔ XL SK MT d 150 (195, lv, .ref 9 :: st, S) r := X_heap rfl rfl rfl rfl rfl
theorem rX5_layKnown_195 {d : Nat} {lv : xLV} {st : List Value} {S : xS} {r : xO} : XL SK MT d 150 (195, lv, st, S) r ↔ xI (xlook lv 2) (fun x => XL SK MT d 150 (196, lv, .int x :: st, S) r) := X_ldI rfl rfl (fun _ => rfl) rfl rfl rfl rfl
theorem rX5_layKnown_196 {d : Nat} {lv : xLV} {S : xS} {r : xO} {x1 : Int32} : XL SK MT d 150 (196, lv, [.int x1, .ref 9], S) r ↔ xK (XC SK MT d 3 [.ref 9, .int x1] S) (fun v S => XL SK MT d 150 (199, lv, v.toList ++ [], S) r) := X_inv (n := 2) (kd := 2) (st0 := [.int x1, .ref 9]) rfl (Or.inr ⟨rfl, rfl⟩) rfl (Nat.le_of_ble_eq_true rfl) (Nat.le_of_ble_eq_true rfl) (by decide) rfl
theorem rX5_layKnown_199 {d : Nat} {lv : xLV} {st : List Value} {S : xS} {r : xO} : XL SK MT d 150 (199, lv, st, S) r ↔ xA (xlook lv 0) (fun x => XL SK MT d 150 (200, lv, .ref x :: st, S) r) := X_ldA rfl rfl (fun _ => rfl) rfl rfl rfl rfl
theorem rX5_layKnown_200 {d : Nat} {lv : xLV} {st : List Value} {S : xS} {r : xO} : XL SK MT d 150 (200, lv, .ref 10 :: st, S) r ↔ XL SK MT d 150 (203, lv, .ref 9 :: st, S) r := X_heap rfl rfl rfl rfl rfl
theorem rX5_layKnown_203 {d : Nat} {lv : xLV} {st : List Value} {S : xS} {r : xO} : XL SK MT d 150 (203, lv, st, S) r ↔ XL SK MT d 150 (205, lv, .int 10 :: st, S) r := X_pure rfl rfl rfl
theorem rX5_layKnown_205 {d : Nat} {lv : xLV} {st : List Value} {S : xS} {r : xO} : XL SK MT d 150 (205, lv, st, S) r ↔ xA (xlook lv 0) (fun x => XL SK MT d 150 (206, lv, .ref x :: st, S) r) := X_ldA rfl rfl (fun _ => rfl) rfl rfl rfl rfl
theorem rX5_layKnown_206 {d : Nat} {lv : xLV} {st : List Value} {S : xS} {r : xO} : XL SK MT d 150 (206, lv, .ref 10 :: st, S) r ↔ XL SK MT d 150 (209, lv, .ref 9 :: st, S) r := X_heap rfl rfl rfl rfl rfl
theorem rX5_layKnown_209 {d : Nat} {lv : xLV} {st : List Value} {S : xS} {r : xO} : XL SK MT d 150 (209, lv, st, S) r ↔ xI (xlook lv 1) (fun x => XL SK MT d 150 (210, lv, .int x :: st, S) r) := X_ldI rfl rfl (fun _ => rfl) rfl rfl rfl rfl
theorem rX5_layKnown_210 {d : Nat} {lv : xLV} {S : xS} {r : xO} {x1 : Int32} {u1 : Int32} {u2 : Nat} : XL SK MT d 150 (210, lv, [.int x1, .ref 9, .int u1, .ref u2], S) r ↔ xK (XC SK MT d 4 [.ref 9, .int x1] S) (fun v S => XL SK MT d 150 (213, lv, v.toList ++ [.int u1, .ref u2], S) r) := X_inv (n := 2) (kd := 2) (st0 := [.int x1, .ref 9, .int u1, .ref u2]) rfl (Or.inr ⟨rfl, rfl⟩) rfl (Nat.le_of_ble_eq_true rfl) (Nat.le_of_ble_eq_true rfl) (by decide) rfl
theorem rX5_layKnown_213 {d : Nat} {lv : xLV} {S : xS} {r : xO} {x1 : Int32} {x2 : Int32} : XL SK MT d 150 (213, lv, [.int x2, .int x1, .ref 9], S) r ↔ xK (XC SK MT d 22 [.ref 9, .int x1, .int x2] S) (fun v S => XL SK MT d 150 (216, lv, v.toList ++ [], S) r) := X_inv (n := 3) (kd := 2) (st0 := [.int x2, .int x1, .ref 9]) rfl (Or.inr ⟨rfl, rfl⟩) rfl (Nat.le_of_ble_eq_true rfl) (Nat.le_of_ble_eq_true rfl) (by decide) rfl
theorem rX5_layKnown_216 {d : Nat} {lv : xLV} {st : List Value} {S : xS} {r : xO} : XL SK MT d 150 (216, lv, st, S) r ↔ xA (xlook lv 0) (fun x => XL SK MT d 150 (217, lv, .ref x :: st, S) r) := X_ldA rfl rfl (fun _ => rfl) rfl rfl rfl rfl
theorem rX5_layKnown_217 {d : Nat} {lv : xLV} {st : List Value} {S : xS} {r : xO} : XL SK MT d 150 (217, lv, .ref 10 :: st, S) r ↔ XL SK MT d 150 (220, lv, .ref 9 :: st, S) r := X_heap rfl rfl rfl rfl rfl
theorem rX5_layKnown_220 {d : Nat} {lv : xLV} {st : List Value} {S : xS} {r : xO} : XL SK MT d 150 (220, lv, st, S) r ↔ XL SK MT d 150 (221, lv, .int 0 :: st, S) r := X_pure rfl rfl rfl
theorem rX5_layKnown_221 {d : Nat} {lv : xLV} {st : List Value} {S : xS} {r : xO} : XL SK MT d 150 (221, lv, st, S) r ↔ XL SK MT d 150 (223, lv, .int 11 :: st, S) r := X_pure rfl rfl rfl
theorem rX5_layKnown_223 {d : Nat} {lv : xLV} {st : List Value} {S : xS} {r : xO} : XL SK MT d 150 (223, lv, st, S) r ↔ XL SK MT d 150 (225, lv, .int 11 :: st, S) r := X_pure rfl rfl rfl
theorem rX5_layKnown_225 {d : Nat} {lv : xLV} {st : List Value} {S : xS} {r : xO} : XL SK MT d 150 (225, lv, st, S) r ↔ XL SK MT d 150 (226, lv, .int 3 :: st, S) r := X_pure rfl rfl rfl
theorem rX5_layKnown_226 {d : Nat} {lv : xLV} {S : xS} {r : xO} {x1 : Int32} {x2 : Int32} {x3 : Int32} {x4 : Int32} : XL SK MT d 150 (226, lv, [.int x4, .int x3, .int x2, .int x1, .ref 9], S) r ↔ xK (XC SK MT d 16 [.ref 9, .int x1, .int x2, .int x3, .int x4] S) (fun v S => XL SK MT d 150 (229, lv, v.toList ++ [], S) r) := X_inv (n := 5) (kd := 2) (st0 := [.int x4, .int x3, .int x2, .int x1, .ref 9]) rfl (Or.inr ⟨rfl, rfl⟩) rfl (Nat.le_of_ble_eq_true rfl) (Nat.le_of_ble_eq_true rfl) (by decide) rfl
theorem rX5_layKnown_229 {d : Nat} {lv : xLV} {st : List Value} {S : xS} {r : xO} : XL SK MT d 150 (229, lv, st, S) r ↔ xA (xlook lv 0) (fun x => XL SK MT d 150 (230, lv, .ref x :: st, S) r) := X_ldA rfl rfl (fun _ => rfl) rfl rfl rfl rfl
theorem rX5_layKnown_230 {d : Nat} {lv : xLV} {st : List Value} {S : xS} {r : xO} : XL SK MT d 150 (230, lv, .ref 10 :: st, S) r ↔ XL SK MT d 150 (233, lv, .ref 9 :: st, S) r := X_heap rfl rfl rfl rfl rfl
theorem rX5_layKnown_233 {d : Nat} {lv : xLV} {st : List Value} {S : xS} {r : xO} : XL SK MT d 150 (233, lv, st, S) r ↔ XL SK MT d 150 (235, lv, .int 33 :: st, S) r := X_pure rfl rfl rfl
theorem rX5_layKnown_235 {d : Nat} {lv : xLV} {st : List Value} {S : xS} {r : xO} : XL SK MT d 150 (235, lv, st, S) r ↔ XL SK MT d 150 (237, lv, .int 10 :: st, S) r := X_pure rfl rfl rfl
theorem rX5_layKnown_237 {d : Nat} {lv : xLV} {st : List Value} {S : xS} {r : xO} : XL SK MT d 150 (237, lv, st, S) r ↔ XL SK MT d 150 (239, lv, .int 10 :: st, S) r := X_pure rfl rfl rfl
theorem rX5_layKnown_239 {d : Nat} {lv : xLV} {st : List Value} {S : xS} {r : xO} : XL SK MT d 150 (239, lv, st, S) r ↔ XL SK MT d 150 (241, lv, .int 11 :: st, S) r := X_pure rfl rfl rfl
theorem rX5_layKnown_241 {d : Nat} {lv : xLV} {S : xS} {r : xO} {x1 : Int32} {x2 : Int32} {x3 : Int32} {x4 : Int32} : XL SK MT d 150 (241, lv, [.int x4, .int x3, .int x2, .int x1, .ref 9], S) r ↔ xK (XC SK MT d 15 [.ref 9, .int x1, .int x2, .int x3, .int x4] S) (fun v S => XL SK MT d 150 (244, lv, v.toList ++ [], S) r) := X_inv (n := 5) (kd := 2) (st0 := [.int x4, .int x3, .int x2, .int x1, .ref 9]) rfl (Or.inr ⟨rfl, rfl⟩) rfl (Nat.le_of_ble_eq_true rfl) (Nat.le_of_ble_eq_true rfl) (by decide) rfl
theorem rX5_layKnown_244 {d : Nat} {lv : xLV} {st : List Value} {S : xS} {r : xO} : XL SK MT d 150 (244, lv, st, S) r ↔ xA (xlook lv 0) (fun x => XL SK MT d 150 (245, lv, .ref x :: st, S) r) := X_ldA rfl rfl (fun _ => rfl) rfl rfl rfl rfl
theorem rX5_layKnown_245 {d : Nat} {lv : xLV} {st : List Value} {S : xS} {r : xO} : XL SK MT d 150 (245, lv, .ref 10 :: st, S) r ↔ XL SK MT d 150 (248, lv, .ref 9 :: st, S) r := X_heap rfl rfl rfl rfl rfl
theorem rX5_layKnown_248 {d : Nat} {lv : xLV} {st : List Value} {S : xS} {r : xO} : XL SK MT d 150 (248, lv, st, S) r ↔ XL SK MT d 150 (250, lv, .int 10 :: st, S) r := X_pure rfl rfl rfl
theorem rX5_layKnown_250 {d : Nat} {lv : xLV} {S : xS} {r : xO} {x1 : Int32} : XL SK MT d 150 (250, lv, [.int x1, .ref 9], S) r ↔ xK (XC SK MT d 29 [.ref 9, .int x1] S) (fun v S => XL SK MT d 150 (253, lv, v.toList ++ [], S) r) := X_inv (n := 2) (kd := 2) (st0 := [.int x1, .ref 9]) rfl (Or.inr ⟨rfl, rfl⟩) rfl (Nat.le_of_ble_eq_true rfl) (Nat.le_of_ble_eq_true rfl) (by decide) rfl
theorem rX5_layKnown_253 {d : Nat} {lv : xLV} {st : List Value} {S : xS} {r : xO} : XL SK MT d 150 (253, lv, st, S) r ↔ xA (xlook lv 0) (fun x => XL SK MT d 150 (254, lv, .ref x :: st, S) r) := X_ldA rfl rfl (fun _ => rfl) rfl rfl rfl rfl
theorem rX5_layKnown_254 {d : Nat} {lv : xLV} {st : List Value} {S : xS} {r : xO} : XL SK MT d 150 (254, lv, .ref 10 :: st, S) r ↔ XL SK MT d 150 (257, lv, .ref 9 :: st, S) r := X_heap rfl rfl rfl rfl rfl
theorem rX5_layKnown_257 {d : Nat} {lv : xLV} {st : List Value} {S : xS} {r : xO} : XL SK MT d 150 (257, lv, st, S) r ↔ XL SK MT d 150 (259, lv, .int 65573 :: st, S) r := X_pure rfl rfl rfl
theorem rX5_layKnown_259 {d : Nat} {lv : xLV} {S : xS} {r : xO} {x1 : Int32} : XL SK MT d 150 (259, lv, [.int x1, .ref 9], S) r ↔ xK (XC SK MT d 3 [.ref 9, .int x1] S) (fun v S => XL SK MT d 150 (262, lv, v.toList ++ [], S) r) := X_inv (n := 2) (kd := 2) (st0 := [.int x1, .ref 9]) rfl (Or.inr ⟨rfl, rfl⟩) rfl (Nat.le_of_ble_eq_true rfl) (Nat.le_of_ble_eq_true rfl) (by decide) rfl
theorem rX5_layKnown_262 {d : Nat} {lv : xLV} {st : List Value} {S : xS} {r : xO} : XL SK MT d 150 (262, lv, st, S) r ↔ xA (xlook lv 0) (fun x => XL SK MT d 150 (263, lv, .ref x :: st, S) r) := X_ldA rfl rfl (fun _ => rfl) rfl rfl rfl rfl
theorem rX5_layKnown_263 {d : Nat} {lv : xLV} {st : List Value} {S : xS} {r : xO} : XL SK MT d 150 (263, lv, .ref 10 :: st, S) r ↔ XL SK MT d 150 (266, lv, .ref 9 :: st, S) r := X_heap rfl rfl rfl rfl rfl
theorem rX5_layKnown_266 {d : Nat} {lv : xLV} {st : List Value} {S : xS} {r : xO} : XL SK MT d 150 (266, lv, st, S) r ↔ XL SK MT d 150 (268, lv, .int 11 :: st, S) r := X_pure rfl rfl rfl
theorem rX5_layKnown_268 {d : Nat} {lv : xLV} {st : List Value} {S : xS} {r : xO} : XL SK MT d 150 (268, lv, st, S) r ↔ XL SK MT d 150 (271, lv, .int 1000 :: st, S) r := X_pure rfl rfl rfl
theorem rX5_layKnown_271 {d : Nat} {lv : xLV} {S : xS} {r : xO} {x1 : Int32} {x2 : Int32} : XL SK MT d 150 (271, lv, [.int x2, .int x1, .ref 9], S) r ↔ xK (XC SK MT d 22 [.ref 9, .int x1, .int x2] S) (fun v S => XL SK MT d 150 (274, lv, v.toList ++ [], S) r) := X_inv (n := 3) (kd := 2) (st0 := [.int x2, .int x1, .ref 9]) rfl (Or.inr ⟨rfl, rfl⟩) rfl (Nat.le_of_ble_eq_true rfl) (Nat.le_of_ble_eq_true rfl) (by decide) rfl
theorem rX5_layKnown_274 {d : Nat} {lv : xLV} {st : List Value} {S : xS} {r : xO} : XL SK MT d 150 (274, lv, st, S) r ↔ xA (xlook lv 0) (fun x => XL SK MT d 150 (275, lv, .ref x :: st, S) r) := X_ldA rfl rfl (fun _ => rfl) rfl rfl rfl rfl
theorem rX5_layKnown_275 {d : Nat} {lv : xLV} {st : List Value} {S : xS} {r : xO} : XL SK MT d 150 (275, lv, .ref 10 :: st, S) r ↔ XL SK MT d 150 (278, lv, .ref 9 :: st, S) r := X_heap rfl rfl rfl rfl rfl
theorem rX5_layKnown_278 {d : Nat} {lv : xLV} {st : List Value} {S : xS} {r : xO} : XL SK MT d 150 (278, lv, st, S) r ↔ XL SK MT d 150 (280, lv, .int 65558 :: st, S) r := X_pure rfl rfl rfl
theorem rX5_layKnown_280 {d : Nat} {lv : xLV} {S : xS} {r : xO} {x1 : Int32} : XL SK MT d 150 (280, lv, [.int x1, .ref 9], S) r ↔ xK (XC SK MT d 27 [.ref 9, .int x1] S) (fun v S => XL SK MT d 150 (283, lv, v.toList ++ [], S) r) := X_inv (n := 2) (kd := 2) (st0 := [.int x1, .ref 9]) rfl (Or.inr ⟨rfl, rfl⟩) rfl (Nat.le_of_ble_eq_true rfl) (Nat.le_of_ble_eq_true rfl) (by decide) rfl
theorem rX5_layKnown_283 {d : Nat} {lv : xLV} {S : xS} {r : xO} : XL SK MT d 150 (283, lv, [], S) r ↔ (none, S) = r := X_ret rfl rfl rfl rfl rfl rfl

theorem rX5_layBox_0 {d : Nat} {lv : xLV} {st : List Value} {S : xS} {r : xO} : XL SK MT d 151 (0, lv, st, S) r ↔ xA (xlook lv 0) (fun x => XL SK MT d 151 (1, lv, .ref x :: st, S) r) := X_ldA rfl rfl (fun _ => rfl) rfl rfl rfl rfl
theorem rX5_layBox_1 {d : Nat} {lv : xLV} {st : List Value} {S : xS} {r : xO} : XL SK MT d 151 (1, lv, .ref 10 :: st, S) r ↔ XL SK MT d 151 (4, lv, .ref 9 :: st, S) r := X_heap rfl rfl rfl rfl rfl
theorem rX5_layBox_4 {d : Nat} {lv : xLV} {st : List Value} {S : xS} {r : xO} : XL SK MT d 151 (4, lv, st, S) r ↔ XL SK MT d 151 (6, lv, .int 65558 :: st, S) r := X_pure rfl rfl rfl
theorem rX5_layBox_6 {d : Nat} {lv : xLV} {S : xS} {r : xO} {x1 : Int32} : XL SK MT d 151 (6, lv, [.int x1, .ref 9], S) r ↔ xK (XC SK MT d 3 [.ref 9, .int x1] S) (fun v S => XL SK MT d 151 (9, lv, v.toList ++ [], S) r) := X_inv (n := 2) (kd := 2) (st0 := [.int x1, .ref 9]) rfl (Or.inr ⟨rfl, rfl⟩) rfl (Nat.le_of_ble_eq_true rfl) (Nat.le_of_ble_eq_true rfl) (by decide) rfl
theorem rX5_layBox_9 {d : Nat} {lv : xLV} {st : List Value} {S : xS} {r : xO} : XL SK MT d 151 (9, lv, st, S) r ↔ xA (xlook lv 0) (fun x => XL SK MT d 151 (10, lv, .ref x :: st, S) r) := X_ldA rfl rfl (fun _ => rfl) rfl rfl rfl rfl
theorem rX5_layBox_10 {d : Nat} {lv : xLV} {st : List Value} {S : xS} {r : xO} : XL SK MT d 151 (10, lv, .ref 10 :: st, S) r ↔ XL SK MT d 151 (13, lv, .ref 9 :: st, S) r := X_heap rfl rfl rfl rfl rfl
theorem rX5_layBox_13 {d : Nat} {lv : xLV} {st : List Value} {S : xS} {r : xO} : XL SK MT d 151 (13, lv, st, S) r ↔ XL SK MT d 151 (15, lv, .int 11 :: st, S) r := X_pure rfl rfl rfl
theorem rX5_layBox_15 {d : Nat} {lv : xLV} {st : List Value} {S : xS} {r : xO} : XL SK MT d 151 (15, lv, st, S) r ↔ XL SK MT d 151 (18, lv, .int 1116 :: st, S) r := X_pure rfl rfl rfl
theorem rX5_layBox_18 {d : Nat} {lv : xLV} {st : List Value} {S : xS} {r : xO} : XL SK MT d 151 (18, lv, st, S) r ↔ XL SK MT d 151 (19, lv, .int 0 :: st, S) r := X_pure rfl rfl rfl
theorem rX5_layBox_19 {d : Nat} {lv : xLV} {S : xS} {r : xO} {x1 : Int32} {x2 : Int32} {x3 : Int32} : XL SK MT d 151 (19, lv, [.int x3, .int x2, .int x1, .ref 9], S) r ↔ xK (XC SK MT d 19 [.ref 9, .int x1, .int x2, .int x3] S) (fun v S => XL SK MT d 151 (22, lv, v.toList ++ [], S) r) := X_inv (n := 4) (kd := 2) (st0 := [.int x3, .int x2, .int x1, .ref 9]) rfl (Or.inr ⟨rfl, rfl⟩) rfl (Nat.le_of_ble_eq_true rfl) (Nat.le_of_ble_eq_true rfl) (by decide) rfl
theorem rX5_layBox_22 {d : Nat} {lv : xLV} {st : List Value} {S : xS} {r : xO} : XL SK MT d 151 (22, lv, st, S) r ↔ xA (xlook lv 0) (fun x => XL SK MT d 151 (23, lv, .ref x :: st, S) r) := X_ldA rfl rfl (fun _ => rfl) rfl rfl rfl rfl
theorem rX5_layBox_23 {d : Nat} {lv : xLV} {st : List Value} {S : xS} {r : xO} : XL SK MT d 151 (23, lv, .ref 10 :: st, S) r ↔ XL SK MT d 151 (26, lv, .ref 9 :: st, S) r := X_heap rfl rfl rfl rfl rfl
theorem rX5_layBox_26 {d : Nat} {lv : xLV} {st : List Value} {S : xS} {r : xO} : XL SK MT d 151 (26, lv, st, S) r ↔ XL SK MT d 151 (27, lv, .int 4 :: st, S) r := X_pure rfl rfl rfl
theorem rX5_layBox_27 {d : Nat} {lv : xLV} {st : List Value} {S : xS} {r : xO} : XL SK MT d 151 (27, lv, st, S) r ↔ XL SK MT d 151 (29, lv, .int 8 :: st, S) r := X_pure rfl rfl rfl
theorem rX5_layBox_29 {d : Nat} {lv : xLV} {S : xS} {r : xO} {x1 : Int32} {x2 : Int32} : XL SK MT d 151 (29, lv, [.int x2, .int x1, .ref 9], S) r ↔ xK (XC SK MT d 22 [.ref 9, .int x1, .int x2] S) (fun v S => XL SK MT d 151 (32, lv, v.toList ++ [], S) r) := X_inv (n := 3) (kd := 2) (st0 := [.int x2, .int x1, .ref 9]) rfl (Or.inr ⟨rfl, rfl⟩) rfl (Nat.le_of_ble_eq_true rfl) (Nat.le_of_ble_eq_true rfl) (by decide) rfl
theorem rX5_layBox_32 {d : Nat} {lv : xLV} {st : List Value} {S : xS} {r : xO} : XL SK MT d 151 (32, lv, st, S) r ↔ xA (xlook lv 0) (fun x => XL SK MT d 151 (33, lv, .ref x :: st, S) r) := X_ldA rfl rfl (fun _ => rfl) rfl rfl rfl rfl
theorem rX5_layBox_33 {d : Nat} {lv : xLV} {st : List Value} {S : xS} {r : xO} : XL SK MT d 151 (33, lv, .ref 10 :: st, S) r ↔ XL SK MT d 151 (36, lv, .ref 9 :: st, S) r := X_heap rfl rfl rfl rfl rfl
theorem rX5_layBox_36 {d : Nat} {lv : xLV} {st : List Value} {S : xS} {r : xO} : XL SK MT d 151 (36, lv, st, S) r ↔ XL SK MT d 151 (38, lv, .int 65537 :: st, S) r := X_pure rfl rfl rfl
theorem rX5_layBox_38 {d : Nat} {lv : xLV} {S : xS} {r : xO} {x1 : Int32} : XL SK MT d 151 (38, lv, [.int x1, .ref 9], S) r ↔ xK (XC SK MT d 28 [.ref 9, .int x1] S) (fun v S => XL SK MT d 151 (41, lv, v.toList ++ [], S) r) := X_inv (n := 2) (kd := 2) (st0 := [.int x1, .ref 9]) rfl (Or.inr ⟨rfl, rfl⟩) rfl (Nat.le_of_ble_eq_true rfl) (Nat.le_of_ble_eq_true rfl) (by decide) rfl
theorem rX5_layBox_41 {d : Nat} {lv : xLV} {st : List Value} {S : xS} {r : xO} : XL SK MT d 151 (41, lv, st, S) r ↔ xA (xlook lv 0) (fun x => XL SK MT d 151 (42, lv, .ref x :: st, S) r) := X_ldA rfl rfl (fun _ => rfl) rfl rfl rfl rfl
theorem rX5_layBox_42 {d : Nat} {lv : xLV} {st : List Value} {S : xS} {r : xO} : XL SK MT d 151 (42, lv, .ref 10 :: st, S) r ↔ XL SK MT d 151 (45, lv, .ref 9 :: st, S) r := X_heap rfl rfl rfl rfl rfl
theorem rX5_layBox_45 {d : Nat} {lv : xLV} {st : List Value} {S : xS} {r : xO} : XL SK MT d 151 (45, lv, st, S) r ↔ XL SK MT d 151 (47, lv, .int 11 :: st, S) r := X_pure rfl rfl rfl
theorem rX5_layBox_47 {d : Nat} {lv : xLV} {st : List Value} {S : xS} {r : xO} : XL SK MT d 151 (47, lv, st, S) r ↔ XL SK MT d 151 (50, lv, .int 1116 :: st, S) r := X_pure rfl rfl rfl
theorem rX5_layBox_50 {d : Nat} {lv : xLV} {st : List Value} {S : xS} {r : xO} : XL SK MT d 151 (50, lv, st, S) r ↔ XL SK MT d 151 (51, lv, .int 0 :: st, S) r := X_pure rfl rfl rfl
theorem rX5_layBox_51 {d : Nat} {lv : xLV} {S : xS} {r : xO} {x1 : Int32} {x2 : Int32} {x3 : Int32} : XL SK MT d 151 (51, lv, [.int x3, .int x2, .int x1, .ref 9], S) r ↔ xK (XC SK MT d 18 [.ref 9, .int x1, .int x2, .int x3] S) (fun v S => XL SK MT d 151 (54, lv, v.toList ++ [], S) r) := X_inv (n := 4) (kd := 2) (st0 := [.int x3, .int x2, .int x1, .ref 9]) rfl (Or.inr ⟨rfl, rfl⟩) rfl (Nat.le_of_ble_eq_true rfl) (Nat.le_of_ble_eq_true rfl) (by decide) rfl
theorem rX5_layBox_54 {d : Nat} {lv : xLV} {st : List Value} {S : xS} {r : xO} : XL SK MT d 151 (54, lv, st, S) r ↔ xA (xlook lv 0) (fun x => XL SK MT d 151 (55, lv, .ref x :: st, S) r) := X_ldA rfl rfl (fun _ => rfl) rfl rfl rfl rfl
theorem rX5_layBox_55 {d : Nat} {lv : xLV} {st : List Value} {S : xS} {r : xO} : XL SK MT d 151 (55, lv, .ref 10 :: st, S) r ↔ XL SK MT d 151 (58, lv, .ref 9 :: st, S) r := X_heap rfl rfl rfl rfl rfl
theorem rX5_layBox_58 {d : Nat} {lv : xLV} {st : List Value} {S : xS} {r : xO} : XL SK MT d 151 (58, lv, st, S) r ↔ XL SK MT d 151 (60, lv, .int 8 :: st, S) r := X_pure rfl rfl rfl
theorem rX5_layBox_60 {d : Nat} {lv : xLV} {st : List Value} {S : xS} {r : xO} : XL SK MT d 151 (60, lv, st, S) r ↔ XL SK MT d 151 (62, lv, .int (-4) :: st, S) r := X_pure rfl rfl rfl
theorem rX5_layBox_62 {d : Nat} {lv : xLV} {st : List Value} {S : xS} {r : xO} : XL SK MT d 151 (62, lv, st, S) r ↔ XL SK MT d 151 (64, lv, .int 16 :: st, S) r := X_pure rfl rfl rfl
theorem rX5_layBox_64 {d : Nat} {lv : xLV} {S : xS} {r : xO} {x1 : Int32} {x2 : Int32} {x3 : Int32} : XL SK MT d 151 (64, lv, [.int x3, .int x2, .int x1, .ref 9], S) r ↔ xK (XC SK MT d 18 [.ref 9, .int x1, .int x2, .int x3] S) (fun v S => XL SK MT d 151 (67, lv, v.toList ++ [], S) r) := X_inv (n := 4) (kd := 2) (st0 := [.int x3, .int x2, .int x1, .ref 9]) rfl (Or.inr ⟨rfl, rfl⟩) rfl (Nat.le_of_ble_eq_true rfl) (Nat.le_of_ble_eq_true rfl) (by decide) rfl
theorem rX5_layBox_67 {d : Nat} {lv : xLV} {st : List Value} {S : xS} {r : xO} : XL SK MT d 151 (67, lv, st, S) r ↔ xA (xlook lv 0) (fun x => XL SK MT d 151 (68, lv, .ref x :: st, S) r) := X_ldA rfl rfl (fun _ => rfl) rfl rfl rfl rfl
theorem rX5_layBox_68 {d : Nat} {lv : xLV} {st : List Value} {S : xS} {r : xO} : XL SK MT d 151 (68, lv, .ref 10 :: st, S) r ↔ XL SK MT d 151 (71, lv, .ref 9 :: st, S) r := X_heap rfl rfl rfl rfl rfl
theorem rX5_layBox_71 {d : Nat} {lv : xLV} {st : List Value} {S : xS} {r : xO} : XL SK MT d 151 (71, lv, st, S) r ↔ XL SK MT d 151 (72, lv, .int 0 :: st, S) r := X_pure rfl rfl rfl
theorem rX5_layBox_72 {d : Nat} {lv : xLV} {st : List Value} {S : xS} {r : xO} : XL SK MT d 151 (72, lv, st, S) r ↔ XL SK MT d 151 (74, lv, .int 11 :: st, S) r := X_pure rfl rfl rfl
theorem rX5_layBox_74 {d : Nat} {lv : xLV} {st : List Value} {S : xS} {r : xO} : XL SK MT d 151 (74, lv, st, S) r ↔ XL SK MT d 151 (76, lv, .int 11 :: st, S) r := X_pure rfl rfl rfl
theorem rX5_layBox_76 {d : Nat} {lv : xLV} {st : List Value} {S : xS} {r : xO} : XL SK MT d 151 (76, lv, st, S) r ↔ XL SK MT d 151 (77, lv, .int 3 :: st, S) r := X_pure rfl rfl rfl
theorem rX5_layBox_77 {d : Nat} {lv : xLV} {S : xS} {r : xO} {x1 : Int32} {x2 : Int32} {x3 : Int32} {x4 : Int32} : XL SK MT d 151 (77, lv, [.int x4, .int x3, .int x2, .int x1, .ref 9], S) r ↔ xK (XC SK MT d 16 [.ref 9, .int x1, .int x2, .int x3, .int x4] S) (fun v S => XL SK MT d 151 (80, lv, v.toList ++ [], S) r) := X_inv (n := 5) (kd := 2) (st0 := [.int x4, .int x3, .int x2, .int x1, .ref 9]) rfl (Or.inr ⟨rfl, rfl⟩) rfl (Nat.le_of_ble_eq_true rfl) (Nat.le_of_ble_eq_true rfl) (by decide) rfl
theorem rX5_layBox_80 {d : Nat} {lv : xLV} {st : List Value} {S : xS} {r : xO} : XL SK MT d 151 (80, lv, st, S) r ↔ xA (xlook lv 0) (fun x => XL SK MT d 151 (81, lv, .ref x :: st, S) r) := X_ldA rfl rfl (fun _ => rfl) rfl rfl rfl rfl
theorem rX5_layBox_81 {d : Nat} {lv : xLV} {st : List Value} {S : xS} {r : xO} : XL SK MT d 151 (81, lv, .ref 10 :: st, S) r ↔ XL SK MT d 151 (84, lv, .ref 9 :: st, S) r := X_heap rfl rfl rfl rfl rfl
theorem rX5_layBox_84 {d : Nat} {lv : xLV} {st : List Value} {S : xS} {r : xO} : XL SK MT d 151 (84, lv, st, S) r ↔ XL SK MT d 151 (86, lv, .int 11 :: st, S) r := X_pure rfl rfl rfl
theorem rX5_layBox_86 {d : Nat} {lv : xLV} {st : List Value} {S : xS} {r : xO} : XL SK MT d 151 (86, lv, st, S) r ↔ XL SK MT d 151 (88, lv, .int 11 :: st, S) r := X_pure rfl rfl rfl
theorem rX5_layBox_88 {d : Nat} {lv : xLV} {st : List Value} {S : xS} {r : xO} : XL SK MT d 151 (88, lv, st, S) r ↔ XL SK MT d 151 (89, lv, .int 3 :: st, S) r := X_pure rfl rfl rfl
theorem rX5_layBox_89 {d : Nat} {lv : xLV} {S : xS} {r : xO} {x1 : Int32} {x2 : Int32} {x3 : Int32} : XL SK MT d 151 (89, lv, [.int x3, .int x2, .int x1, .ref 9], S) r ↔ xK (XC SK MT d 20 [.ref 9, .int x1, .int x2, .int x3] S) (fun v S => XL SK MT d 151 (92, lv, v.toList ++ [], S) r) := X_inv (n := 4) (kd := 2) (st0 := [.int x3, .int x2, .int x1, .ref 9]) rfl (Or.inr ⟨rfl, rfl⟩) rfl (Nat.le_of_ble_eq_true rfl) (Nat.le_of_ble_eq_true rfl) (by decide) rfl
theorem rX5_layBox_92 {d : Nat} {lv : xLV} {st : List Value} {S : xS} {r : xO} : XL SK MT d 151 (92, lv, st, S) r ↔ xA (xlook lv 0) (fun x => XL SK MT d 151 (93, lv, .ref x :: st, S) r) := X_ldA rfl rfl (fun _ => rfl) rfl rfl rfl rfl
theorem rX5_layBox_93 {d : Nat} {lv : xLV} {st : List Value} {S : xS} {r : xO} : XL SK MT d 151 (93, lv, .ref 10 :: st, S) r ↔ XL SK MT d 151 (96, lv, .ref 9 :: st, S) r := X_heap rfl rfl rfl rfl rfl
theorem rX5_layBox_96 {d : Nat} {lv : xLV} {st : List Value} {S : xS} {r : xO} : XL SK MT d 151 (96, lv, st, S) r ↔ XL SK MT d 151 (98, lv, .int 11 :: st, S) r := X_pure rfl rfl rfl
theorem rX5_layBox_98 {d : Nat} {lv : xLV} {st : List Value} {S : xS} {r : xO} : XL SK MT d 151 (98, lv, st, S) r ↔ XL SK MT d 151 (99, lv, .int 0 :: st, S) r := X_pure rfl rfl rfl
theorem rX5_layBox_99 {d : Nat} {lv : xLV} {st : List Value} {S : xS} {r : xO} : XL SK MT d 151 (99, lv, st, S) r ↔ XL SK MT d 151 (100, lv, .int 2 :: st, S) r := X_pure rfl rfl rfl
theorem rX5_layBox_100 {d : Nat} {lv : xLV} {S : xS} {r : xO} {x1 : Int32} {x2 : Int32} {x3 : Int32} : XL SK MT d 151 (100, lv, [.int x3, .int x2, .int x1, .ref 9], S) r ↔ xK (XC SK MT d 19 [.ref 9, .int x1, .int x2, .int x3] S) (fun v S => XL SK MT d 151 (103, lv, v.toList ++ [], S) r) := X_inv (n := 4) (kd := 2) (st0 := [.int x3, .int x2, .int x1, .ref 9]) rfl (Or.inr ⟨rfl, rfl⟩) rfl (Nat.le_of_ble_eq_true rfl) (Nat.le_of_ble_eq_true rfl) (by decide) rfl
theorem rX5_layBox_103 {d : Nat} {lv : xLV} {st : List Value} {S : xS} {r : xO} : XL SK MT d 151 (103, lv, st, S) r ↔ xA (xlook lv 0) (fun x => XL SK MT d 151 (104, lv, .ref x :: st, S) r) := X_ldA rfl rfl (fun _ => rfl) rfl rfl rfl rfl
theorem rX5_layBox_104 {d : Nat} {lv : xLV} {st : List Value} {S : xS} {r : xO} : XL SK MT d 151 (104, lv, .ref 10 :: st, S) r ↔ XL SK MT d 151 (107, lv, .ref 9 :: st, S) r := X_heap rfl rfl rfl rfl rfl
theorem rX5_layBox_107 {d : Nat} {lv : xLV} {st : List Value} {S : xS} {r : xO} : XL SK MT d 151 (107, lv, st, S) r ↔ XL SK MT d 151 (109, lv, .int 8 :: st, S) r := X_pure rfl rfl rfl
theorem rX5_layBox_109 {d : Nat} {lv : xLV} {st : List Value} {S : xS} {r : xO} : XL SK MT d 151 (109, lv, st, S) r ↔ XL SK MT d 151 (110, lv, .int 4 :: st, S) r := X_pure rfl rfl rfl
theorem rX5_layBox_110 {d : Nat} {lv : xLV} {st : List Value} {S : xS} {r : xO} : XL SK MT d 151 (110, lv, st, S) r ↔ XL SK MT d 151 (111, lv, .int 2 :: st, S) r := X_pure rfl rfl rfl
theorem rX5_layBox_111 {d : Nat} {lv : xLV} {S : xS} {r : xO} {x1 : Int32} {x2 : Int32} {x3 : Int32} : XL SK MT d 151 (111, lv, [.int x3, .int x2, .int x1, .ref 9], S) r ↔ xK (XC SK MT d 19 [.ref 9, .int x1, .int x2, .int x3] S) (fun v S => XL SK MT d 151 (114, lv, v.toList ++ [], S) r) := X_inv (n := 4) (kd := 2) (st0 := [.int x3, .int x2, .int x1, .ref 9]) rfl (Or.inr ⟨rfl, rfl⟩) rfl (Nat.le_of_ble_eq_true rfl) (Nat.le_of_ble_eq_true rfl) (by decide) rfl
theorem rX5_layBox_114 {d : Nat} {lv : xLV} {st : List Value} {S : xS} {r : xO} : XL SK MT d 151 (114, lv, st, S) r ↔ xA (xlook lv 0) (fun x => XL SK MT d 151 (115, lv, .ref x :: st, S) r) := X_ldA rfl rfl (fun _ => rfl) rfl rfl rfl rfl
theorem rX5_layBox_115 {d : Nat} {lv : xLV} {st : List Value} {S : xS} {r : xO} : XL SK MT d 151 (115, lv, .ref 10 :: st, S) r ↔ XL SK MT d 151 (118, lv, .ref 9 :: st, S) r := X_heap rfl rfl rfl rfl rfl
theorem rX5_layBox_118 {d : Nat} {lv : xLV} {st : List Value} {S : xS} {r : xO} : XL SK MT d 151 (118, lv, st, S) r ↔ XL SK MT d 151 (119, lv, .int 4 :: st, S) r := X_pure rfl rfl rfl
theorem rX5_layBox_119 {d : Nat} {lv : xLV} {st : List Value} {S : xS} {r : xO} : XL SK MT d 151 (119, lv, st, S) r ↔ XL SK MT d 151 (120, lv, .int 2 :: st, S) r := X_pure rfl rfl rfl
theorem rX5_layBox_120 {d : Nat} {lv : xLV} {S : xS} {r : xO} {x1 : Int32} {x2 : Int32} : XL SK MT d 151 (120, lv, [.int x2, .int x1, .ref 9], S) r ↔ xK (XC SK MT d 21 [.ref 9, .int x1, .int x2] S) (fun v S => XL SK MT d 151 (123, lv, v.toList ++ [], S) r) := X_inv (n := 3) (kd := 2) (st0 := [.int x2, .int x1, .ref 9]) rfl (Or.inr ⟨rfl, rfl⟩) rfl (Nat.le_of_ble_eq_true rfl) (Nat.le_of_ble_eq_true rfl) (by decide) rfl
theorem rX5_layBox_123 {d : Nat} {lv : xLV} {st : List Value} {S : xS} {r : xO} : XL SK MT d 151 (123, lv, st, S) r ↔ xA (xlook lv 0) (fun x => XL SK MT d 151 (124, lv, .ref x :: st, S) r) := X_ldA rfl rfl (fun _ => rfl) rfl rfl rfl rfl
theorem rX5_layBox_124 {d : Nat} {lv : xLV} {st : List Value} {S : xS} {r : xO} : XL SK MT d 151 (124, lv, .ref 10 :: st, S) r ↔ XL SK MT d 151 (127, lv, .ref 9 :: st, S) r := X_heap rfl rfl rfl rfl rfl
theorem rX5_layBox_127 {d : Nat} {lv : xLV} {st : List Value} {S : xS} {r : xO} : XL SK MT d 151 (127, lv, st, S) r ↔ XL SK MT d 151 (129, lv, .int 65557 :: st, S) r := X_pure rfl rfl rfl
theorem rX5_layBox_129 {d : Nat} {lv : xLV} {S : xS} {r : xO} {x1 : Int32} : XL SK MT d 151 (129, lv, [.int x1, .ref 9], S) r ↔ xK (XC SK MT d 27 [.ref 9, .int x1] S) (fun v S => XL SK MT d 151 (132, lv, v.toList ++ [], S) r) := X_inv (n := 2) (kd := 2) (st0 := [.int x1, .ref 9]) rfl (Or.inr ⟨rfl, rfl⟩) rfl (Nat.le_of_ble_eq_true rfl) (Nat.le_of_ble_eq_true rfl) (by decide) rfl
theorem rX5_layBox_132 {d : Nat} {lv : xLV} {S : xS} {r : xO} : XL SK MT d 151 (132, lv, [], S) r ↔ (none, S) = r := X_ret rfl rfl rfl rfl rfl rfl

theorem rX5_layPlain_0 {d : Nat} {lv : xLV} {st : List Value} {S : xS} {r : xO} : XL SK MT d 152 (0, lv, st, S) r ↔ xA (xlook lv 0) (fun x => XL SK MT d 152 (1, lv, .ref x :: st, S) r) := X_ldA rfl rfl (fun _ => rfl) rfl rfl rfl rfl
theorem rX5_layPlain_1 {d : Nat} {lv : xLV} {st : List Value} {S : xS} {r : xO} : XL SK MT d 152 (1, lv, .ref 10 :: st, S) r ↔ XL SK MT d 152 (4, lv, .ref 9 :: st, S) r := X_heap rfl rfl rfl rfl rfl
theorem rX5_layPlain_4 {d : Nat} {lv : xLV} {st : List Value} {S : xS} {r : xO} : XL SK MT d 152 (4, lv, st, S) r ↔ XL SK MT d 152 (6, lv, .int 65562 :: st, S) r := X_pure rfl rfl rfl
theorem rX5_layPlain_6 {d : Nat} {lv : xLV} {S : xS} {r : xO} {x1 : Int32} : XL SK MT d 152 (6, lv, [.int x1, .ref 9], S) r ↔ xK (XC SK MT d 3 [.ref 9, .int x1] S) (fun v S => XL SK MT d 152 (9, lv, v.toList ++ [], S) r) := X_inv (n := 2) (kd := 2) (st0 := [.int x1, .ref 9]) rfl (Or.inr ⟨rfl, rfl⟩) rfl (Nat.le_of_ble_eq_true rfl) (Nat.le_of_ble_eq_true rfl) (by decide) rfl
theorem rX5_layPlain_9 {d : Nat} {lv : xLV} {st : List Value} {S : xS} {r : xO} : XL SK MT d 152 (9, lv, st, S) r ↔ xA (xlook lv 0) (fun x => XL SK MT d 152 (10, lv, .ref x :: st, S) r) := X_ldA rfl rfl (fun _ => rfl) rfl rfl rfl rfl
theorem rX5_layPlain_10 {d : Nat} {lv : xLV} {st : List Value} {S : xS} {r : xO} : XL SK MT d 152 (10, lv, .ref 10 :: st, S) r ↔ XL SK MT d 152 (13, lv, .ref 9 :: st, S) r := X_heap rfl rfl rfl rfl rfl
theorem rX5_layPlain_13 {d : Nat} {lv : xLV} {st : List Value} {S : xS} {r : xO} : XL SK MT d 152 (13, lv, st, S) r ↔ XL SK MT d 152 (15, lv, .int 8 :: st, S) r := X_pure rfl rfl rfl
theorem rX5_layPlain_15 {d : Nat} {lv : xLV} {st : List Value} {S : xS} {r : xO} : XL SK MT d 152 (15, lv, st, S) r ↔ XL SK MT d 152 (16, lv, .int 2 :: st, S) r := X_pure rfl rfl rfl
theorem rX5_layPlain_16 {d : Nat} {lv : xLV} {S : xS} {r : xO} {x1 : Int32} {x2 : Int32} : XL SK MT d 152 (16, lv, [.int x2, .int x1, .ref 9], S) r ↔ xK (XC SK MT d 22 [.ref 9, .int x1, .int x2] S) (fun v S => XL SK MT d 152 (19, lv, v.toList ++ [], S) r) := X_inv (n := 3) (kd := 2) (st0 := [.int x2, .int x1, .ref 9]) rfl (Or.inr ⟨rfl, rfl⟩) rfl (Nat.le_of_ble_eq_true rfl) (Nat.le_of_ble_eq_true rfl) (by decide) rfl
theorem rX5_layPlain_19 {d : Nat} {lv : xLV} {st : List Value} {S : xS} {r : xO} : XL SK MT d 152 (19, lv, st, S) r ↔ xA (xlook lv 0) (fun x => XL SK MT d 152 (20, lv, .ref x :: st, S) r) := X_ldA rfl rfl (fun _ => rfl) rfl rfl rfl rfl
theorem rX5_layPlain_20 {d : Nat} {lv : xLV} {st : List Value} {S : xS} {r : xO} : XL SK MT d 152 (20, lv, .ref 10 :: st, S) r ↔ XL SK MT d 152 (23, lv, .ref 9 :: st, S) r := X_heap rfl rfl rfl rfl rfl
theorem rX5_layPlain_23 {d : Nat} {lv : xLV} {st : List Value} {S : xS} {r : xO} : XL SK MT d 152 (23, lv, st, S) r ↔ XL SK MT d 152 (25, lv, .int 35 :: st, S) r := X_pure rfl rfl rfl
theorem rX5_layPlain_25 {d : Nat} {lv : xLV} {st : List Value} {S : xS} {r : xO} : XL SK MT d 152 (25, lv, st, S) r ↔ XL SK MT d 152 (26, lv, .int 4 :: st, S) r := X_pure rfl rfl rfl
theorem rX5_layPlain_26 {d : Nat} {lv : xLV} {st : List Value} {S : xS} {r : xO} : XL SK MT d 152 (26, lv, st, S) r ↔ XL SK MT d 152 (28, lv, .int 8 :: st, S) r := X_pure rfl rfl rfl
theorem rX5_layPlain_28 {d : Nat} {lv : xLV} {st : List Value} {S : xS} {r : xO} : XL SK MT d 152 (28, lv, st, S) r ↔ XL SK MT d 152 (29, lv, .int 5 :: st, S) r := X_pure rfl rfl rfl
theorem rX5_layPlain_29 {d : Nat} {lv : xLV} {S : xS} {r : xO} {x1 : Int32} {x2 : Int32} {x3 : Int32} {x4 : Int32} : XL SK MT d 152 (29, lv, [.int x4, .int x3, .int x2, .int x1, .ref 9], S) r ↔ xK (XC SK MT d 15 [.ref 9, .int x1, .int x2, .int x3, .int x4] S) (fun v S => XL SK MT d 152 (32, lv, v.toList ++ [], S) r) := X_inv (n := 5) (kd := 2) (st0 := [.int x4, .int x3, .int x2, .int x1, .ref 9]) rfl (Or.inr ⟨rfl, rfl⟩) rfl (Nat.le_of_ble_eq_true rfl) (Nat.le_of_ble_eq_true rfl) (by decide) rfl
theorem rX5_layPlain_32 {d : Nat} {lv : xLV} {st : List Value} {S : xS} {r : xO} : XL SK MT d 152 (32, lv, st, S) r ↔ xA (xlook lv 0) (fun x => XL SK MT d 152 (33, lv, .ref x :: st, S) r) := X_ldA rfl rfl (fun _ => rfl) rfl rfl rfl rfl
theorem rX5_layPlain_33 {d : Nat} {lv : xLV} {st : List Value} {S : xS} {r : xO} : XL SK MT d 152 (33, lv, .ref 10 :: st, S) r ↔ XL SK MT d 152 (36, lv, .ref 9 :: st, S) r := X_heap rfl rfl rfl rfl rfl
theorem rX5_layPlain_36 {d : Nat} {lv : xLV} {st : List Value} {S : xS} {r : xO} : XL SK MT d 152 (36, lv, st, S) r ↔ XL SK MT d 152 (38, lv, .int 65557 :: st, S) r := X_pure rfl rfl rfl
theorem rX5_layPlain_38 {d : Nat} {lv : xLV} {S : xS} {r : xO} {x1 : Int32} : XL SK MT d 152 (38, lv, [.int x1, .ref 9], S) r ↔ xK (XC SK MT d 27 [.ref 9, .int x1] S) (fun v S => XL SK MT d 152 (41, lv, v.toList ++ [], S) r) := X_inv (n := 2) (kd := 2) (st0 := [.int x1, .ref 9]) rfl (Or.inr ⟨rfl, rfl⟩) rfl (Nat.le_of_ble_eq_true rfl) (Nat.le_of_ble_eq_true rfl) (by decide) rfl
theorem rX5_layPlain_41 {d : Nat} {lv : xLV} {st : List Value} {S : xS} {r : xO} : XL SK MT d 152 (41, lv, st, S) r ↔ xA (xlook lv 0) (fun x => XL SK MT d 152 (42, lv, .ref x :: st, S) r) := X_ldA rfl rfl (fun _ => rfl) rfl rfl rfl rfl
theorem rX5_layPlain_42 {d : Nat} {lv : xLV} {st : List Value} {S : xS} {r : xO} : XL SK MT d 152 (42, lv, .ref 10 :: st, S) r ↔ XL SK MT d 152 (45, lv, .ref 9 :: st, S) r := X_heap rfl rfl rfl rfl rfl
theorem rX5_layPlain_45 {d : Nat} {lv : xLV} {st : List Value} {S : xS} {r : xO} : XL SK MT d 152 (45, lv, st, S) r ↔ XL SK MT d 152 (47, lv, .int 65563 :: st, S) r := X_pure rfl rfl rfl
theorem rX5_layPlain_47 {d : Nat} {lv : xLV} {S : xS} {r : xO} {x1 : Int32} : XL SK MT d 152 (47, lv, [.int x1, .ref 9], S) r ↔ xK (XC SK MT d 3 [.ref 9, .int x1] S) (fun v S => XL SK MT d 152 (50, lv, v.toList ++ [], S) r) := X_inv (n := 2) (kd := 2) (st0 := [.int x1, .ref 9]) rfl (Or.inr ⟨rfl, rfl⟩) rfl (Nat.le_of_ble_eq_true rfl) (Nat.le_of_ble_eq_true rfl) (by decide) rfl
theorem rX5_layPlain_50 {d : Nat} {lv : xLV} {st : List Value} {S : xS} {r : xO} : XL SK MT d 152 (50, lv, st, S) r ↔ xA (xlook lv 0) (fun x => XL SK MT d 152 (51, lv, .ref x :: st, S) r) := X_ldA rfl rfl (fun _ => rfl) rfl rfl rfl rfl
theorem rX5_layPlain_51 {d : Nat} {lv : xLV} {st : List Value} {S : xS} {r : xO} : XL SK MT d 152 (51, lv, .ref 10 :: st, S) r ↔ XL SK MT d 152 (54, lv, .ref 9 :: st, S) r := X_heap rfl rfl rfl rfl rfl
theorem rX5_layPlain_54 {d : Nat} {lv : xLV} {st : List Value} {S : xS} {r : xO} : XL SK MT d 152 (54, lv, st, S) r ↔ XL SK MT d 152 (55, lv, .int 4 :: st, S) r := X_pure rfl rfl rfl
theorem rX5_layPlain_55 {d : Nat} {lv : xLV} {st : List Value} {S : xS} {r : xO} : XL SK MT d 152 (55, lv, st, S) r ↔ XL SK MT d 152 (56, lv, .int 4 :: st, S) r := X_pure rfl rfl rfl
theorem rX5_layPlain_56 {d : Nat} {lv : xLV} {st : List Value} {S : xS} {r : xO} : XL SK MT d 152 (56, lv, st, S) r ↔ XL SK MT d 152 (57, lv, .int 5 :: st, S) r := X_pure rfl rfl rfl
theorem rX5_layPlain_57 {d : Nat} {lv : xLV} {S : xS} {r : xO} {x1 : Int32} {x2 : Int32} {x3 : Int32} : XL SK MT d 152 (57, lv, [.int x3, .int x2, .int x1, .ref 9], S) r ↔ xK (XC SK MT d 18 [.ref 9, .int x1, .int x2, .int x3] S) (fun v S => XL SK MT d 152 (60, lv, v.toList ++ [], S) r) := X_inv (n := 4) (kd := 2) (st0 := [.int x3, .int x2, .int x1, .ref 9]) rfl (Or.inr ⟨rfl, rfl⟩) rfl (Nat.le_of_ble_eq_true rfl) (Nat.le_of_ble_eq_true rfl) (by decide) rfl
theorem rX5_layPlain_60 {d : Nat} {lv : xLV} {st : List Value} {S : xS} {r : xO} : XL SK MT d 152 (60, lv, st, S) r ↔ xA (xlook lv 0) (fun x => XL SK MT d 152 (61, lv, .ref x :: st, S) r) := X_ldA rfl rfl (fun _ => rfl) rfl rfl rfl rfl
theorem rX5_layPlain_61 {d : Nat} {lv : xLV} {st : List Value} {S : xS} {r : xO} : XL SK MT d 152 (61, lv, .ref 10 :: st, S) r ↔ XL SK MT d 152 (64, lv, .ref 9 :: st, S) r := X_heap rfl rfl rfl rfl rfl
theorem rX5_layPlain_64 {d : Nat} {lv : xLV} {st : List Value} {S : xS} {r : xO} : XL SK MT d 152 (64, lv, st, S) r ↔ XL SK MT d 152 (66, lv, .int 65557 :: st, S) r := X_pure rfl rfl rfl
theorem rX5_layPlain_66 {d : Nat} {lv : xLV} {S : xS} {r : xO} {x1 : Int32} : XL SK MT d 152 (66, lv, [.int x1, .ref 9], S) r ↔ xK (XC SK MT d 27 [.ref 9, .int x1] S) (fun v S => XL SK MT d 152 (69, lv, v.toList ++ [], S) r) := X_inv (n := 2) (kd := 2) (st0 := [.int x1, .ref 9]) rfl (Or.inr ⟨rfl, rfl⟩) rfl (Nat.le_of_ble_eq_true rfl) (Nat.le_of_ble_eq_true rfl) (by decide) rfl
theorem rX5_layPlain_69 {d : Nat} {lv : xLV} {st : List Value} {S : xS} {r : xO} : XL SK MT d 152 (69, lv, st, S) r ↔ xA (xlook lv 0) (fun x => XL SK MT d 152 (70, lv, .ref x :: st, S) r) := X_ldA rfl rfl (fun _ => rfl) rfl rfl rfl rfl
theorem rX5_layPlain_70 {d : Nat} {lv : xLV} {st : List Value} {S : xS} {r : xO} : XL SK MT d 152 (70, lv, .ref 10 :: st, S) r ↔ XL SK MT d 152 (73, lv, .ref 9 :: st, S) r := X_heap rfl rfl rfl rfl rfl
theorem rX5_layPlain_73 {d : Nat} {lv : xLV} {st : List Value} {S : xS} {r : xO} : XL SK MT d 152 (73, lv, st, S) r ↔ XL SK MT d 152 (75, lv, .int 65564 :: st, S) r := X_pure rfl rfl rfl
theorem rX5_layPlain_75 {d : Nat} {lv : xLV} {S : xS} {r : xO} {x1 : Int32} : XL SK MT d 152 (75, lv, [.int x1, .ref 9], S) r ↔ xK (XC SK MT d 3 [.ref 9, .int x1] S) (fun v S => XL SK MT d 152 (78, lv, v.toList ++ [], S) r) := X_inv (n := 2) (kd := 2) (st0 := [.int x1, .ref 9]) rfl (Or.inr ⟨rfl, rfl⟩) rfl (Nat.le_of_ble_eq_true rfl) (Nat.le_of_ble_eq_true rfl) (by decide) rfl
theorem rX5_layPlain_78 {d : Nat} {lv : xLV} {st : List Value} {S : xS} {r : xO} : XL SK MT d 152 (78, lv, st, S) r ↔ xA (xlook lv 0) (fun x => XL SK MT d 152 (79, lv, .ref x :: st, S) r) := X_ldA rfl rfl (fun _ => rfl) rfl rfl rfl rfl
theorem rX5_layPlain_79 {d : Nat} {lv : xLV} {st : List Value} {S : xS} {r : xO} : XL SK MT d 152 (79, lv, .ref 10 :: st, S) r ↔ XL SK MT d 152 (82, lv, .ref 9 :: st, S) r := X_heap rfl rfl rfl rfl rfl
theorem rX5_layPlain_82 {d : Nat} {lv : xLV} {st : List Value} {S : xS} {r : xO} : XL SK MT d 152 (82, lv, st, S) r ↔ XL SK MT d 152 (84, lv, .int 8 :: st, S) r := X_pure rfl rfl rfl
theorem rX5_layPlain_84 {d : Nat} {lv : xLV} {st : List Value} {S : xS} {r : xO} : XL SK MT d 152 (84, lv, st, S) r ↔ XL SK MT d 152 (86, lv, .int 8 :: st, S) r := X_pure rfl rfl rfl
theorem rX5_layPlain_86 {d : Nat} {lv : xLV} {S : xS} {r : xO} {x1 : Int32} {x2 : Int32} : XL SK MT d 152 (86, lv, [.int x2, .int x1, .ref 9], S) r ↔ xK (XC SK MT d 22 [.ref 9, .int x1, .int x2] S) (fun v S => XL SK MT d 152 (89, lv, v.toList ++ [], S) r) := X_inv (n := 3) (kd := 2) (st0 := [.int x2, .int x1, .ref 9]) rfl (Or.inr ⟨rfl, rfl⟩) rfl (Nat.le_of_ble_eq_true rfl) (Nat.le_of_ble_eq_true rfl) (by decide) rfl
theorem rX5_layPlain_89 {d : Nat} {lv : xLV} {st : List Value} {S : xS} {r : xO} : XL SK MT d 152 (89, lv, st, S) r ↔ xA (xlook lv 0) (fun x => XL SK MT d 152 (90, lv, .ref x :: st, S) r) := X_ldA rfl rfl (fun _ => rfl) rfl rfl rfl rfl
theorem rX5_layPlain_90 {d : Nat} {lv : xLV} {st : List Value} {S : xS} {r : xO} : XL SK MT d 152 (90, lv, .ref 10 :: st, S) r ↔ XL SK MT d 152 (93, lv, .ref 9 :: st, S) r := X_heap rfl rfl rfl rfl rfl
theorem rX5_layPlain_93 {d : Nat} {lv : xLV} {st : List Value} {S : xS} {r : xO} : XL SK MT d 152 (93, lv, st, S) r ↔ XL SK MT d 152 (95, lv, .int 35 :: st, S) r := X_pure rfl rfl rfl
theorem rX5_layPlain_95 {d : Nat} {lv : xLV} {st : List Value} {S : xS} {r : xO} : XL SK MT d 152 (95, lv, st, S) r ↔ XL SK MT d 152 (96, lv, .int 4 :: st, S) r := X_pure rfl rfl rfl
theorem rX5_layPlain_96 {d : Nat} {lv : xLV} {st : List Value} {S : xS} {r : xO} : XL SK MT d 152 (96, lv, st, S) r ↔ XL SK MT d 152 (98, lv, .int 8 :: st, S) r := X_pure rfl rfl rfl
theorem rX5_layPlain_98 {d : Nat} {lv : xLV} {st : List Value} {S : xS} {r : xO} : XL SK MT d 152 (98, lv, st, S) r ↔ XL SK MT d 152 (99, lv, .int 5 :: st, S) r := X_pure rfl rfl rfl
theorem rX5_layPlain_99 {d : Nat} {lv : xLV} {S : xS} {r : xO} {x1 : Int32} {x2 : Int32} {x3 : Int32} {x4 : Int32} : XL SK MT d 152 (99, lv, [.int x4, .int x3, .int x2, .int x1, .ref 9], S) r ↔ xK (XC SK MT d 15 [.ref 9, .int x1, .int x2, .int x3, .int x4] S) (fun v S => XL SK MT d 152 (102, lv, v.toList ++ [], S) r) := X_inv (n := 5) (kd := 2) (st0 := [.int x4, .int x3, .int x2, .int x1, .ref 9]) rfl (Or.inr ⟨rfl, rfl⟩) rfl (Nat.le_of_ble_eq_true rfl) (Nat.le_of_ble_eq_true rfl) (by decide) rfl
theorem rX5_layPlain_102 {d : Nat} {lv : xLV} {st : List Value} {S : xS} {r : xO} : XL SK MT d 152 (102, lv, st, S) r ↔ xA (xlook lv 0) (fun x => XL SK MT d 152 (103, lv, .ref x :: st, S) r) := X_ldA rfl rfl (fun _ => rfl) rfl rfl rfl rfl
theorem rX5_layPlain_103 {d : Nat} {lv : xLV} {st : List Value} {S : xS} {r : xO} : XL SK MT d 152 (103, lv, .ref 10 :: st, S) r ↔ XL SK MT d 152 (106, lv, .ref 9 :: st, S) r := X_heap rfl rfl rfl rfl rfl
theorem rX5_layPlain_106 {d : Nat} {lv : xLV} {st : List Value} {S : xS} {r : xO} : XL SK MT d 152 (106, lv, st, S) r ↔ XL SK MT d 152 (108, lv, .int 65557 :: st, S) r := X_pure rfl rfl rfl
theorem rX5_layPlain_108 {d : Nat} {lv : xLV} {S : xS} {r : xO} {x1 : Int32} : XL SK MT d 152 (108, lv, [.int x1, .ref 9], S) r ↔ xK (XC SK MT d 27 [.ref 9, .int x1] S) (fun v S => XL SK MT d 152 (111, lv, v.toList ++ [], S) r) := X_inv (n := 2) (kd := 2) (st0 := [.int x1, .ref 9]) rfl (Or.inr ⟨rfl, rfl⟩) rfl (Nat.le_of_ble_eq_true rfl) (Nat.le_of_ble_eq_true rfl) (by decide) rfl
theorem rX5_layPlain_111 {d : Nat} {lv : xLV} {st : List Value} {S : xS} {r : xO} : XL SK MT d 152 (111, lv, st, S) r ↔ xA (xlook lv 0) (fun x => XL SK MT d 152 (112, lv, .ref x :: st, S) r) := X_ldA rfl rfl (fun _ => rfl) rfl rfl rfl rfl
theorem rX5_layPlain_112 {d : Nat} {lv : xLV} {st : List Value} {S : xS} {r : xO} : XL SK MT d 152 (112, lv, .ref 10 :: st, S) r ↔ XL SK MT d 152 (115, lv, .ref 9 :: st, S) r := X_heap rfl rfl rfl rfl rfl
theorem rX5_layPlain_115 {d : Nat} {lv : xLV} {st : List Value} {S : xS} {r : xO} : XL SK MT d 152 (115, lv, st, S) r ↔ XL SK MT d 152 (117, lv, .int 65569 :: st, S) r := X_pure rfl rfl rfl
theorem rX5_layPlain_117 {d : Nat} {lv : xLV} {S : xS} {r : xO} {x1 : Int32} : XL SK MT d 152 (117, lv, [.int x1, .ref 9], S) r ↔ xK (XC SK MT d 3 [.ref 9, .int x1] S) (fun v S => XL SK MT d 152 (120, lv, v.toList ++ [], S) r) := X_inv (n := 2) (kd := 2) (st0 := [.int x1, .ref 9]) rfl (Or.inr ⟨rfl, rfl⟩) rfl (Nat.le_of_ble_eq_true rfl) (Nat.le_of_ble_eq_true rfl) (by decide) rfl
theorem rX5_layPlain_120 {d : Nat} {lv : xLV} {st : List Value} {S : xS} {r : xO} : XL SK MT d 152 (120, lv, st, S) r ↔ xA (xlook lv 0) (fun x => XL SK MT d 152 (121, lv, .ref x :: st, S) r) := X_ldA rfl rfl (fun _ => rfl) rfl rfl rfl rfl
theorem rX5_layPlain_121 {d : Nat} {lv : xLV} {st : List Value} {S : xS} {r : xO} : XL SK MT d 152 (121, lv, .ref 10 :: st, S) r ↔ XL SK MT d 152 (124, lv, .ref 9 :: st, S) r := X_heap rfl rfl rfl rfl rfl
theorem rX5_layPlain_124 {d : Nat} {lv : xLV} {st : List Value} {S : xS} {r : xO} : XL SK MT d 152 (124, lv, st, S) r ↔ XL SK MT d 152 (126, lv, .int 8 :: st, S) r := X_pure rfl rfl rfl
theorem rX5_layPlain_126 {d : Nat} {lv : xLV} {st : List Value} {S : xS} {r : xO} : XL SK MT d 152 (126, lv, st, S) r ↔ XL SK MT d 152 (127, lv, .int 0 :: st, S) r := X_pure rfl rfl rfl
theorem rX5_layPlain_127 {d : Nat} {lv : xLV} {st : List Value} {S : xS} {r : xO} : XL SK MT d 152 (127, lv, st, S) r ↔ XL SK MT d 152 (128, lv, .int 5 :: st, S) r := X_pure rfl rfl rfl
theorem rX5_layPlain_128 {d : Nat} {lv : xLV} {S : xS} {r : xO} {x1 : Int32} {x2 : Int32} {x3 : Int32} : XL SK MT d 152 (128, lv, [.int x3, .int x2, .int x1, .ref 9], S) r ↔ xK (XC SK MT d 18 [.ref 9, .int x1, .int x2, .int x3] S) (fun v S => XL SK MT d 152 (131, lv, v.toList ++ [], S) r) := X_inv (n := 4) (kd := 2) (st0 := [.int x3, .int x2, .int x1, .ref 9]) rfl (Or.inr ⟨rfl, rfl⟩) rfl (Nat.le_of_ble_eq_true rfl) (Nat.le_of_ble_eq_true rfl) (by decide) rfl
theorem rX5_layPlain_131 {d : Nat} {lv : xLV} {st : List Value} {S : xS} {r : xO} : XL SK MT d 152 (131, lv, st, S) r ↔ xA (xlook lv 0) (fun x => XL SK MT d 152 (132, lv, .ref x :: st, S) r) := X_ldA rfl rfl (fun _ => rfl) rfl rfl rfl rfl
theorem rX5_layPlain_132 {d : Nat} {lv : xLV} {st : List Value} {S : xS} {r : xO} : XL SK MT d 152 (132, lv, .ref 10 :: st, S) r ↔ XL SK MT d 152 (135, lv, .ref 9 :: st, S) r := X_heap rfl rfl rfl rfl rfl
theorem rX5_layPlain_135 {d : Nat} {lv : xLV} {st : List Value} {S : xS} {r : xO} : XL SK MT d 152 (135, lv, st, S) r ↔ XL SK MT d 152 (136, lv, .int 2 :: st, S) r := X_pure rfl rfl rfl
theorem rX5_layPlain_136 {d : Nat} {lv : xLV} {st : List Value} {S : xS} {r : xO} : XL SK MT d 152 (136, lv, st, S) r ↔ XL SK MT d 152 (138, lv, .int 8 :: st, S) r := X_pure rfl rfl rfl
theorem rX5_layPlain_138 {d : Nat} {lv : xLV} {st : List Value} {S : xS} {r : xO} : XL SK MT d 152 (138, lv, st, S) r ↔ XL SK MT d 152 (140, lv, .int 8 :: st, S) r := X_pure rfl rfl rfl
theorem rX5_layPlain_140 {d : Nat} {lv : xLV} {st : List Value} {S : xS} {r : xO} : XL SK MT d 152 (140, lv, st, S) r ↔ XL SK MT d 152 (141, lv, .int 3 :: st, S) r := X_pure rfl rfl rfl
theorem rX5_layPlain_141 {d : Nat} {lv : xLV} {S : xS} {r : xO} {x1 : Int32} {x2 : Int32} {x3 : Int32} {x4 : Int32} : XL SK MT d 152 (141, lv, [.int x4, .int x3, .int x2, .int x1, .ref 9], S) r ↔ xK (XC SK MT d 16 [.ref 9, .int x1, .int x2, .int x3, .int x4] S) (fun v S => XL SK MT d 152 (144, lv, v.toList ++ [], S) r) := X_inv (n := 5) (kd := 2) (st0 := [.int x4, .int x3, .int x2, .int x1, .ref 9]) rfl (Or.inr ⟨rfl, rfl⟩) rfl (Nat.le_of_ble_eq_true rfl) (Nat.le_of_ble_eq_true rfl) (by decide) rfl
theorem rX5_layPlain_144 {d : Nat} {lv : xLV} {st : List Value} {S : xS} {r : xO} : XL SK MT d 152 (144, lv, st, S) r ↔ xA (xlook lv 0) (fun x => XL SK MT d 152 (145, lv, .ref x :: st, S) r) := X_ldA rfl rfl (fun _ => rfl) rfl rfl rfl rfl
theorem rX5_layPlain_145 {d : Nat} {lv : xLV} {st : List Value} {S : xS} {r : xO} : XL SK MT d 152 (145, lv, .ref 10 :: st, S) r ↔ XL SK MT d 152 (148, lv, .ref 9 :: st, S) r := X_heap rfl rfl rfl rfl rfl
theorem rX5_layPlain_148 {d : Nat} {lv : xLV} {st : List Value} {S : xS} {r : xO} : XL SK MT d 152 (148, lv, st, S) r ↔ XL SK MT d 152 (149, lv, .int 0 :: st, S) r := X_pure rfl rfl rfl
theorem rX5_layPlain_149 {d : Nat} {lv : xLV} {st : List Value} {S : xS} {r : xO} : XL SK MT d 152 (149, lv, st, S) r ↔ XL SK MT d 152 (151, lv, .int 8 :: st, S) r := X_pure rfl rfl rfl
theorem rX5_layPlain_151 {d : Nat} {lv : xLV} {st : List Value} {S : xS} {r : xO} : XL SK MT d 152 (151, lv, st, S) r ↔ XL SK MT d 152 (153, lv, .int 8 :: st, S) r := X_pure rfl rfl rfl
theorem rX5_layPlain_153 {d : Nat} {lv : xLV} {st : List Value} {S : xS} {r : xO} : XL SK MT d 152 (153, lv, st, S) r ↔ XL SK MT d 152 (154, lv, .int 1 :: st, S) r := X_pure rfl rfl rfl
theorem rX5_layPlain_154 {d : Nat} {lv : xLV} {S : xS} {r : xO} {x1 : Int32} {x2 : Int32} {x3 : Int32} {x4 : Int32} : XL SK MT d 152 (154, lv, [.int x4, .int x3, .int x2, .int x1, .ref 9], S) r ↔ xK (XC SK MT d 16 [.ref 9, .int x1, .int x2, .int x3, .int x4] S) (fun v S => XL SK MT d 152 (157, lv, v.toList ++ [], S) r) := X_inv (n := 5) (kd := 2) (st0 := [.int x4, .int x3, .int x2, .int x1, .ref 9]) rfl (Or.inr ⟨rfl, rfl⟩) rfl (Nat.le_of_ble_eq_true rfl) (Nat.le_of_ble_eq_true rfl) (by decide) rfl
theorem rX5_layPlain_157 {d : Nat} {lv : xLV} {st : List Value} {S : xS} {r : xO} : XL SK MT d 152 (157, lv, st, S) r ↔ xA (xlook lv 0) (fun x => XL SK MT d 152 (158, lv, .ref x :: st, S) r) := X_ldA rfl rfl (fun _ => rfl) rfl rfl rfl rfl
theorem rX5_layPlain_158 {d : Nat} {lv : xLV} {st : List Value} {S : xS} {r : xO} : XL SK MT d 152 (158, lv, .ref 10 :: st, S) r ↔ XL SK MT d 152 (161, lv, .ref 9 :: st, S) r := X_heap rfl rfl rfl rfl rfl
theorem rX5_layPlain_161 {d : Nat} {lv : xLV} {st : List Value} {S : xS} {r : xO} : XL SK MT d 152 (161, lv, st, S) r ↔ XL SK MT d 152 (162, lv, .int 4 :: st, S) r := X_pure rfl rfl rfl
theorem rX5_layPlain_162 {d : Nat} {lv : xLV} {st : List Value} {S : xS} {r : xO} : XL SK MT d 152 (162, lv, st, S) r ↔ XL SK MT d 152 (164, lv, .int 8 :: st, S) r := X_pure rfl rfl rfl
theorem rX5_layPlain_164 {d : Nat} {lv : xLV} {st : List Value} {S : xS} {r : xO} : XL SK MT d 152 (164, lv, st, S) r ↔ XL SK MT d 152 (165, lv, .int 1 :: st, S) r := X_pure rfl rfl rfl
theorem rX5_layPlain_165 {d : Nat} {lv : xLV} {S : xS} {r : xO} {x1 : Int32} {x2 : Int32} {x3 : Int32} : XL SK MT d 152 (165, lv, [.int x3, .int x2, .int x1, .ref 9], S) r ↔ xK (XC SK MT d 20 [.ref 9, .int x1, .int x2, .int x3] S) (fun v S => XL SK MT d 152 (168, lv, v.toList ++ [], S) r) := X_inv (n := 4) (kd := 2) (st0 := [.int x3, .int x2, .int x1, .ref 9]) rfl (Or.inr ⟨rfl, rfl⟩) rfl (Nat.le_of_ble_eq_true rfl) (Nat.le_of_ble_eq_true rfl) (by decide) rfl
theorem rX5_layPlain_168 {d : Nat} {lv : xLV} {st : List Value} {S : xS} {r : xO} : XL SK MT d 152 (168, lv, st, S) r ↔ xA (xlook lv 0) (fun x => XL SK MT d 152 (169, lv, .ref x :: st, S) r) := X_ldA rfl rfl (fun _ => rfl) rfl rfl rfl rfl
theorem rX5_layPlain_169 {d : Nat} {lv : xLV} {st : List Value} {S : xS} {r : xO} : XL SK MT d 152 (169, lv, .ref 10 :: st, S) r ↔ XL SK MT d 152 (172, lv, .ref 9 :: st, S) r := X_heap rfl rfl rfl rfl rfl
theorem rX5_layPlain_172 {d : Nat} {lv : xLV} {st : List Value} {S : xS} {r : xO} : XL SK MT d 152 (172, lv, st, S) r ↔ XL SK MT d 152 (174, lv, .int 65557 :: st, S) r := X_pure rfl rfl rfl
theorem rX5_layPlain_174 {d : Nat} {lv : xLV} {S : xS} {r : xO} {x1 : Int32} : XL SK MT d 152 (174, lv, [.int x1, .ref 9], S) r ↔ xK (XC SK MT d 27 [.ref 9, .int x1] S) (fun v S => XL SK MT d 152 (177, lv, v.toList ++ [], S) r) := X_inv (n := 2) (kd := 2) (st0 := [.int x1, .ref 9]) rfl (Or.inr ⟨rfl, rfl⟩) rfl (Nat.le_of_ble_eq_true rfl) (Nat.le_of_ble_eq_true rfl) (by decide) rfl
theorem rX5_layPlain_177 {d : Nat} {lv : xLV} {st : List Value} {S : xS} {r : xO} : XL SK MT d 152 (177, lv, st, S) r ↔ xA (xlook lv 0) (fun x => XL SK MT d 152 (178, lv, .ref x :: st, S) r) := X_ldA rfl rfl (fun _ => rfl) rfl rfl rfl rfl
theorem rX5_layPlain_178 {d : Nat} {lv : xLV} {st : List Value} {S : xS} {r : xO} : XL SK MT d 152 (178, lv, .ref 10 :: st, S) r ↔ XL SK MT d 152 (181, lv, .ref 9 :: st, S) r := X_heap rfl rfl rfl rfl rfl
theorem rX5_layPlain_181 {d : Nat} {lv : xLV} {st : List Value} {S : xS} {r : xO} : XL SK MT d 152 (181, lv, st, S) r ↔ XL SK MT d 152 (183, lv, .int 65572 :: st, S) r := X_pure rfl rfl rfl
theorem rX5_layPlain_183 {d : Nat} {lv : xLV} {S : xS} {r : xO} {x1 : Int32} : XL SK MT d 152 (183, lv, [.int x1, .ref 9], S) r ↔ xK (XC SK MT d 3 [.ref 9, .int x1] S) (fun v S => XL SK MT d 152 (186, lv, v.toList ++ [], S) r) := X_inv (n := 2) (kd := 2) (st0 := [.int x1, .ref 9]) rfl (Or.inr ⟨rfl, rfl⟩) rfl (Nat.le_of_ble_eq_true rfl) (Nat.le_of_ble_eq_true rfl) (by decide) rfl
theorem rX5_layPlain_186 {d : Nat} {lv : xLV} {st : List Value} {S : xS} {r : xO} : XL SK MT d 152 (186, lv, st, S) r ↔ xA (xlook lv 0) (fun x => XL SK MT d 152 (187, lv, .ref x :: st, S) r) := X_ldA rfl rfl (fun _ => rfl) rfl rfl rfl rfl
theorem rX5_layPlain_187 {d : Nat} {lv : xLV} {st : List Value} {S : xS} {r : xO} : XL SK MT d 152 (187, lv, .ref 10 :: st, S) r ↔ XL SK MT d 152 (190, lv, .ref 9 :: st, S) r := X_heap rfl rfl rfl rfl rfl
theorem rX5_layPlain_190 {d : Nat} {lv : xLV} {st : List Value} {S : xS} {r : xO} : XL SK MT d 152 (190, lv, st, S) r ↔ XL SK MT d 152 (192, lv, .int 8 :: st, S) r := X_pure rfl rfl rfl
theorem rX5_layPlain_192 {d : Nat} {lv : xLV} {st : List Value} {S : xS} {r : xO} : XL SK MT d 152 (192, lv, st, S) r ↔ XL SK MT d 152 (195, lv, .int 1108 :: st, S) r := X_pure rfl rfl rfl
theorem rX5_layPlain_195 {d : Nat} {lv : xLV} {st : List Value} {S : xS} {r : xO} : XL SK MT d 152 (195, lv, st, S) r ↔ XL SK MT d 152 (196, lv, .int 0 :: st, S) r := X_pure rfl rfl rfl
theorem rX5_layPlain_196 {d : Nat} {lv : xLV} {S : xS} {r : xO} {x1 : Int32} {x2 : Int32} {x3 : Int32} : XL SK MT d 152 (196, lv, [.int x3, .int x2, .int x1, .ref 9], S) r ↔ xK (XC SK MT d 18 [.ref 9, .int x1, .int x2, .int x3] S) (fun v S => XL SK MT d 152 (199, lv, v.toList ++ [], S) r) := X_inv (n := 4) (kd := 2) (st0 := [.int x3, .int x2, .int x1, .ref 9]) rfl (Or.inr ⟨rfl, rfl⟩) rfl (Nat.le_of_ble_eq_true rfl) (Nat.le_of_ble_eq_true rfl) (by decide) rfl
theorem rX5_layPlain_199 {d : Nat} {lv : xLV} {st : List Value} {S : xS} {r : xO} : XL SK MT d 152 (199, lv, st, S) r ↔ xA (xlook lv 0) (fun x => XL SK MT d 152 (200, lv, .ref x :: st, S) r) := X_ldA rfl rfl (fun _ => rfl) rfl rfl rfl rfl
theorem rX5_layPlain_200 {d : Nat} {lv : xLV} {st : List Value} {S : xS} {r : xO} : XL SK MT d 152 (200, lv, .ref 10 :: st, S) r ↔ XL SK MT d 152 (203, lv, .ref 9 :: st, S) r := X_heap rfl rfl rfl rfl rfl
theorem rX5_layPlain_203 {d : Nat} {lv : xLV} {st : List Value} {S : xS} {r : xO} : XL SK MT d 152 (203, lv, st, S) r ↔ XL SK MT d 152 (204, lv, .int 0 :: st, S) r := X_pure rfl rfl rfl
theorem rX5_layPlain_204 {d : Nat} {lv : xLV} {st : List Value} {S : xS} {r : xO} : XL SK MT d 152 (204, lv, st, S) r ↔ XL SK MT d 152 (206, lv, .int 8 :: st, S) r := X_pure rfl rfl rfl
theorem rX5_layPlain_206 {d : Nat} {lv : xLV} {st : List Value} {S : xS} {r : xO} : XL SK MT d 152 (206, lv, st, S) r ↔ XL SK MT d 152 (208, lv, .int 8 :: st, S) r := X_pure rfl rfl rfl
theorem rX5_layPlain_208 {d : Nat} {lv : xLV} {st : List Value} {S : xS} {r : xO} : XL SK MT d 152 (208, lv, st, S) r ↔ XL SK MT d 152 (209, lv, .int 1 :: st, S) r := X_pure rfl rfl rfl
theorem rX5_layPlain_209 {d : Nat} {lv : xLV} {S : xS} {r : xO} {x1 : Int32} {x2 : Int32} {x3 : Int32} {x4 : Int32} : XL SK MT d 152 (209, lv, [.int x4, .int x3, .int x2, .int x1, .ref 9], S) r ↔ xK (XC SK MT d 16 [.ref 9, .int x1, .int x2, .int x3, .int x4] S) (fun v S => XL SK MT d 152 (212, lv, v.toList ++ [], S) r) := X_inv (n := 5) (kd := 2) (st0 := [.int x4, .int x3, .int x2, .int x1, .ref 9]) rfl (Or.inr ⟨rfl, rfl⟩) rfl (Nat.le_of_ble_eq_true rfl) (Nat.le_of_ble_eq_true rfl) (by decide) rfl
theorem rX5_layPlain_212 {d : Nat} {lv : xLV} {st : List Value} {S : xS} {r : xO} : XL SK MT d 152 (212, lv, st, S) r ↔ xA (xlook lv 0) (fun x => XL SK MT d 152 (213, lv, .ref x :: st, S) r) := X_ldA rfl rfl (fun _ => rfl) rfl rfl rfl rfl
theorem rX5_layPlain_213 {d : Nat} {lv : xLV} {st : List Value} {S : xS} {r : xO} : XL SK MT d 152 (213, lv, .ref 10 :: st, S) r ↔ XL SK MT d 152 (216, lv, .ref 9 :: st, S) r := X_heap rfl rfl rfl rfl rfl
theorem rX5_layPlain_216 {d : Nat} {lv : xLV} {st : List Value} {S : xS} {r : xO} : XL SK MT d 152 (216, lv, st, S) r ↔ XL SK MT d 152 (217, lv, .int 4 :: st, S) r := X_pure rfl rfl rfl
theorem rX5_layPlain_217 {d : Nat} {lv : xLV} {st : List Value} {S : xS} {r : xO} : XL SK MT d 152 (217, lv, st, S) r ↔ XL SK MT d 152 (219, lv, .int 8 :: st, S) r := X_pure rfl rfl rfl
theorem rX5_layPlain_219 {d : Nat} {lv : xLV} {st : List Value} {S : xS} {r : xO} : XL SK MT d 152 (219, lv, st, S) r ↔ XL SK MT d 152 (220, lv, .int 1 :: st, S) r := X_pure rfl rfl rfl
theorem rX5_layPlain_220 {d : Nat} {lv : xLV} {S : xS} {r : xO} {x1 : Int32} {x2 : Int32} {x3 : Int32} : XL SK MT d 152 (220, lv, [.int x3, .int x2, .int x1, .ref 9], S) r ↔ xK (XC SK MT d 20 [.ref 9, .int x1, .int x2, .int x3] S) (fun v S => XL SK MT d 152 (223, lv, v.toList ++ [], S) r) := X_inv (n := 4) (kd := 2) (st0 := [.int x3, .int x2, .int x1, .ref 9]) rfl (Or.inr ⟨rfl, rfl⟩) rfl (Nat.le_of_ble_eq_true rfl) (Nat.le_of_ble_eq_true rfl) (by decide) rfl
theorem rX5_layPlain_223 {d : Nat} {lv : xLV} {st : List Value} {S : xS} {r : xO} : XL SK MT d 152 (223, lv, st, S) r ↔ xA (xlook lv 0) (fun x => XL SK MT d 152 (224, lv, .ref x :: st, S) r) := X_ldA rfl rfl (fun _ => rfl) rfl rfl rfl rfl
theorem rX5_layPlain_224 {d : Nat} {lv : xLV} {st : List Value} {S : xS} {r : xO} : XL SK MT d 152 (224, lv, .ref 10 :: st, S) r ↔ XL SK MT d 152 (227, lv, .ref 9 :: st, S) r := X_heap rfl rfl rfl rfl rfl
theorem rX5_layPlain_227 {d : Nat} {lv : xLV} {st : List Value} {S : xS} {r : xO} : XL SK MT d 152 (227, lv, st, S) r ↔ XL SK MT d 152 (229, lv, .int 65557 :: st, S) r := X_pure rfl rfl rfl
theorem rX5_layPlain_229 {d : Nat} {lv : xLV} {S : xS} {r : xO} {x1 : Int32} : XL SK MT d 152 (229, lv, [.int x1, .ref 9], S) r ↔ xK (XC SK MT d 27 [.ref 9, .int x1] S) (fun v S => XL SK MT d 152 (232, lv, v.toList ++ [], S) r) := X_inv (n := 2) (kd := 2) (st0 := [.int x1, .ref 9]) rfl (Or.inr ⟨rfl, rfl⟩) rfl (Nat.le_of_ble_eq_true rfl) (Nat.le_of_ble_eq_true rfl) (by decide) rfl
theorem rX5_layPlain_232 {d : Nat} {lv : xLV} {S : xS} {r : xO} : XL SK MT d 152 (232, lv, [], S) r ↔ (none, S) = r := X_ret rfl rfl rfl rfl rfl rfl

/-! Library: layKnown, layBox, layPlain. -/
def pA_layKnown (a0 : PA) : PA :=
  let a1 := pLd (pLb a0) 65607
  let a2 := pLp a1 wJ 65562
  let a3 := pLp a2 wJ 65563
  let a4 := pLp a3 wJ 65564
  let a5 := pLp a4 wJ 65565
  let a6 := pLp a5 wJ 65566
  let a7 := pLp a6 wJ 65567
  let a8 := pLp a7 wJ 65568
  let a9 := pLp a8 wJ 65569
  let a10 := pLp a9 wJ 65570
  let a11 := pLp a10 wJ 65571
  let a12 := pLp a11 wJ 65572
  let a13 := pLp a12 wJ 65573
  let a14 := pLd a13 65557
  let a15 := pEm a14 (wSw 4 (-8) 16)
  let a16 := pEm a15 (wAdd 16 16 (-4))
  let a17 := pLp a16 (wJr 25) (-1)
  let a18 := pLd a17 65556
  let a19 := pLb a18
  let a20 := pEm a19 (wMove 25 31)
  let a21 := pEm a20 (wLw 5 (-4) 16)
  let a22 := pEm a21 (wShift 2 9 8 12)
  let a23 := pSe a22 10 1
  let a24 := pEm a23 (wImm 12 11 8 4095)
  let a25 := pEm a24 (wShift 2 11 11 2)
  let a26 := pLp a25 (wBr 5 9 10) 65608
  let a27 := pLp a26 wJ 65558
  let a28 := pLd a27 65608
  a28
def pL_layKnown (a0 : PA) : PA :=
  let a1 := pLd (pLb a0) 65607
  let a2 := pLp a1 wJ 65562
  let a3 := pLp a2 wJ 65563
  let a4 := pLp a3 wJ 65564
  let a5 := pLp a4 wJ 65565
  let a6 := pLp a5 wJ 65566
  let a7 := pLp a6 wJ 65567
  let a8 := pLp a7 wJ 65568
  let a9 := pLp a8 wJ 65569
  let a10 := pLp a9 wJ 65570
  let a11 := pLp a10 wJ 65571
  let a12 := pLp a11 wJ 65572
  let a13 := pLp a12 wJ 65573
  let a14 := pLd a13 65557
  let a15 := pEm a14 (wSw 4 (-8) 16)
  let a16 := pEm a15 (wAdd 16 16 (-4))
  let a17 := pLp a16 (wJr 25) (-1)
  let a18 := pLd a17 65556
  let a19 := pLb a18
  let a20 := pEm a19 (wMove 25 31)
  let a21 := pEm a20 (wLw 5 (-4) 16)
  let a22 := pEm a21 (wShift 2 9 8 12)
  let a23 := pSe a22 10 1
  let a24 := pEm a23 (wImm 12 11 8 4095)
  let a25 := pEm a24 (wShift 2 11 11 2)
  let a26 := pLp a25 (wBr 5 9 10) 65608
  let a27 := pLp a26 wJ 65558
  let a28 := pLd a27 65608
  let adr := pAd a28 65607
  let a29 := pSe a28 10 adr
  let a30 := pEm a29 (wShift 0 11 11 3)
  let a31 := pEm a30 (wThree 33 10 10 11)
  let a32 := pLp a31 (wJr 10) (-1)
  let a33 := pLd a32 65573
  let a34 := pSe a33 11 1000
  let a35 := pLp a34 wJ 65558
  a35
set_option maxHeartbeats 4000000 in
set_option maxRecDepth 100000 in
theorem l_layKnown {S0 S : xS} {a0 : PA} (h : AS S0 S a0) (hq : a0.own = 65607) (t2 : ∃ v, lkL (pA_layKnown a0).lb 65607 = some v) : ∃ S', (∀ d, XC SK MT (d + 5) 150 [.ref 10] S = some (none, S')) ∧ AS S0 S' (pL_layKnown a0) := by
  obtain ⟨S1, n0, e1, z0, h1⟩ := o_labelHere h
  rw [← z0] at h1
  have y0 : n0 = 65607 := by rw [z0]; simp only [pEm_own, pSe_own, pLp_own, pLd_own, pSt_own, pSc_own, pLb_own, pL_size_own, pL_copyWords_own, pL_step_own, pL_enterObject_own, hq] <;> rfl
  subst y0
  obtain ⟨S2, e2, h2⟩ := o_jump h1 65562
  obtain ⟨S3, e3, h3⟩ := o_jump h2 65563
  obtain ⟨S4, e4, h4⟩ := o_jump h3 65564
  obtain ⟨S5, e5, h5⟩ := o_jump h4 65565
  obtain ⟨S6, e6, h6⟩ := o_jump h5 65566
  obtain ⟨S7, e7, h7⟩ := o_jump h6 65567
  obtain ⟨S8, e8, h8⟩ := o_jump h7 65568
  obtain ⟨S9, e9, h9⟩ := o_jump h8 65569
  obtain ⟨S10, e10, h10⟩ := o_jump h9 65570
  obtain ⟨S11, e11, h11⟩ := o_jump h10 65571
  obtain ⟨S12, e12, h12⟩ := o_jump h11 65572
  obtain ⟨S13, e13, h13⟩ := o_jump h12 65573
  obtain ⟨S14, e14, h14⟩ := o_land h13 65557
  obtain ⟨S15, e15, h15⟩ := o_sw h14 4 (-8) 16
  obtain ⟨S16, e16, h16⟩ := o_add h15 16 16 (-4)
  obtain ⟨S17, e17, h17⟩ := o_back h16 25
  obtain ⟨S18, e18, h18⟩ := o_land h17 65556
  obtain ⟨S19, n1, e19, z1, h19⟩ := o_label h18
  have y1 : n1 = 65608 := by rw [z1]; simp only [pEm_own, pSe_own, pLp_own, pLd_own, pSt_own, pSc_own, pLb_own, pL_size_own, pL_copyWords_own, pL_step_own, pL_enterObject_own, hq] <;> rfl
  subst y1
  obtain ⟨S20, e20, h20⟩ := o_move h19 25 31
  obtain ⟨S21, e21, h21⟩ := o_lw h20 5 (-4) 16
  obtain ⟨S22, e22, h22⟩ := o_shift h21 2 9 8 12
  obtain ⟨S23, e23, h23⟩ := o_set h22 10 1
  obtain ⟨S24, e24, h24⟩ := o_immediate h23 12 11 8 4095
  obtain ⟨S25, e25, h25⟩ := o_shift h24 2 11 11 2
  obtain ⟨S26, e26, h26⟩ := o_branch h25 5 9 10 65608
  obtain ⟨S27, e27, h27⟩ := o_jump h26 65558
  obtain ⟨S28, e28, h28⟩ := o_land h27 65608
  have e0 := o_addressOf h28 65607 (by decide) (by decide) t2
  generalize hadr : pAd _ 65607 = adr at e0
  obtain ⟨S29, e29, h29⟩ := o_set h28 10 adr
  obtain ⟨S30, e30, h30⟩ := o_shift h29 0 11 11 3
  obtain ⟨S31, e31, h31⟩ := o_three h30 33 10 10 11
  obtain ⟨S32, e32, h32⟩ := o_back h31 10
  obtain ⟨S33, e33, h33⟩ := o_land h32 65573
  obtain ⟨S34, e34, h34⟩ := o_set h33 11 1000
  obtain ⟨S35, e35, h35⟩ := o_jump h34 65558
  refine ⟨S35, fun d => ?_, ?_⟩
  · rw [XC_iff]
    refine ⟨Nat.le_of_ble_eq_true rfl, ?_⟩
    show XL SK MT (d + 4) 150 (0, [some (.ref 10), none, none], [], S) _
    simp (config := { decide := true }) only [rX5_layKnown_0, rX5_layKnown_1, rX5_layKnown_4, rX5_layKnown_7, rX5_layKnown_8, rX5_layKnown_9, rX5_layKnown_10, rX5_layKnown_11, rX5_layKnown_13, rX5_layKnown_16, rX5_layKnown_17, rX5_layKnown_20, rX5_layKnown_22, rX5_layKnown_23, rX5_layKnown_24, rX5_layKnown_27, rX5_layKnown_30, rX5_layKnown_33, rX5_layKnown_34, rX5_layKnown_37, rX5_layKnown_39, rX5_layKnown_42, rX5_layKnown_43, rX5_layKnown_46, rX5_layKnown_47, rX5_layKnown_49, rX5_layKnown_51, rX5_layKnown_54, rX5_layKnown_55, rX5_layKnown_58, rX5_layKnown_60, rX5_layKnown_62, rX5_layKnown_64, rX5_layKnown_67, rX5_layKnown_68, rX5_layKnown_71, rX5_layKnown_73, rX5_layKnown_76, rX5_layKnown_77, rX5_layKnown_80, rX5_layKnown_82, rX5_layKnown_85, rX5_layKnown_86, rX5_layKnown_89, rX5_layKnown_92, rX5_layKnown_93, rX5_layKnown_94, rX5_layKnown_97, rX5_layKnown_99, rX5_layKnown_101, rX5_layKnown_104, rX5_layKnown_105, rX5_layKnown_108, rX5_layKnown_109, rX5_layKnown_111, rX5_layKnown_113, rX5_layKnown_116, rX5_layKnown_117, rX5_layKnown_120, rX5_layKnown_121, rX5_layKnown_123, rX5_layKnown_125, rX5_layKnown_127, rX5_layKnown_130, rX5_layKnown_131, rX5_layKnown_134, rX5_layKnown_136, rX5_layKnown_137, rX5_layKnown_140, rX5_layKnown_141, rX5_layKnown_144, rX5_layKnown_146, rX5_layKnown_148, rX5_layKnown_150, rX5_layKnown_153, rX5_layKnown_156, rX5_layKnown_157, rX5_layKnown_160, rX5_layKnown_161, rX5_layKnown_163, rX5_layKnown_165, rX5_layKnown_166, rX5_layKnown_169, rX5_layKnown_170, rX5_layKnown_173, rX5_layKnown_174, rX5_layKnown_176, rX5_layKnown_178, rX5_layKnown_179, rX5_layKnown_182, rX5_layKnown_183, rX5_layKnown_186, rX5_layKnown_188, rX5_layKnown_191, rX5_layKnown_192, rX5_layKnown_195, rX5_layKnown_196, rX5_layKnown_199, rX5_layKnown_200, rX5_layKnown_203, rX5_layKnown_205, rX5_layKnown_206, rX5_layKnown_209, rX5_layKnown_210, rX5_layKnown_213, rX5_layKnown_216, rX5_layKnown_217, rX5_layKnown_220, rX5_layKnown_221, rX5_layKnown_223, rX5_layKnown_225, rX5_layKnown_226, rX5_layKnown_229, rX5_layKnown_230, rX5_layKnown_233, rX5_layKnown_235, rX5_layKnown_237, rX5_layKnown_239, rX5_layKnown_241, rX5_layKnown_244, rX5_layKnown_245, rX5_layKnown_248, rX5_layKnown_250, rX5_layKnown_253, rX5_layKnown_254, rX5_layKnown_257, rX5_layKnown_259, rX5_layKnown_262, rX5_layKnown_263, rX5_layKnown_266, rX5_layKnown_268, rX5_layKnown_271, rX5_layKnown_274, rX5_layKnown_275, rX5_layKnown_278, rX5_layKnown_280, rX5_layKnown_283, ↓reduceIte, m1_le, m1_lt, m1_eq, ofInt_m1, ex_ret, Int32.reduceAdd, Int32.reduceSub, Int32.reduceMul, Int32.reduceLT, Int32.reduceLE, xsI, Nat.reduceEqDiff, and_false, false_and, and_true, true_and, if_true, if_false, ite_true, ite_false, xlook_0, xlook_s, xI_int, xA_ref, xJ_long, xK_some, xRow_row, xTo_some, xst1, xclr, List.set_cons_zero, List.set_cons_succ, xsum_nil, xsum_int, xsum_ref, xsum_long, Option.toList_some, Option.toList_none, List.nil_append, List.cons_append, e1, e2, e3, e4, e5, e6, e7, e8, e9, e10, e11, e12, e13, e14, e15, e16, e17, e18, e19, e20, e21, e22, e23, e24, e25, e26, e27, e28, e0, e29, e30, e31, e32, e33, e34, e35]
  · subst hadr; exact h35
def pL_layBox (a0 : PA) : PA :=
  let a1 := pLd a0 65558
  let a2 := pEm a1 (wSw 11 1116 0)
  let a3 := pSe a2 4 8
  let a4 := pLp a3 wJal 65537
  let a5 := pEm a4 (wLw 11 1116 0)
  let a6 := pEm a5 (wLw 8 (-4) 16)
  let a7 := pEm a6 (wShift 0 11 11 3)
  let a8 := pEm a7 (wAdd 11 11 3)
  let a9 := pEm a8 (wSw 11 0 2)
  let a10 := pEm a9 (wSw 8 4 2)
  let a11 := pEm a10 (wMove 4 2)
  let a12 := pLp a11 wJ 65557
  a12
set_option maxHeartbeats 4000000 in
set_option maxRecDepth 100000 in
theorem l_layBox {S0 S : xS} {a0 : PA} (h : AS S0 S a0) : ∃ S', (∀ d, XC SK MT (d + 5) 151 [.ref 10] S = some (none, S')) ∧ AS S0 S' (pL_layBox a0) := by
  obtain ⟨S1, e1, h1⟩ := o_land h 65558
  obtain ⟨S2, e2, h2⟩ := o_sw h1 11 1116 0
  obtain ⟨S3, e3, h3⟩ := o_set h2 4 8
  obtain ⟨S4, e4, h4⟩ := o_jumpAndLink h3 65537
  obtain ⟨S5, e5, h5⟩ := o_lw h4 11 1116 0
  obtain ⟨S6, e6, h6⟩ := o_lw h5 8 (-4) 16
  obtain ⟨S7, e7, h7⟩ := o_shift h6 0 11 11 3
  obtain ⟨S8, e8, h8⟩ := o_add h7 11 11 3
  obtain ⟨S9, e9, h9⟩ := o_sw h8 11 0 2
  obtain ⟨S10, e10, h10⟩ := o_sw h9 8 4 2
  obtain ⟨S11, e11, h11⟩ := o_move h10 4 2
  obtain ⟨S12, e12, h12⟩ := o_jump h11 65557
  refine ⟨S12, fun d => ?_, ?_⟩
  · rw [XC_iff]
    refine ⟨Nat.le_of_ble_eq_true rfl, ?_⟩
    show XL SK MT (d + 4) 151 (0, [some (.ref 10)], [], S) _
    simp (config := { decide := true }) only [rX5_layBox_0, rX5_layBox_1, rX5_layBox_4, rX5_layBox_6, rX5_layBox_9, rX5_layBox_10, rX5_layBox_13, rX5_layBox_15, rX5_layBox_18, rX5_layBox_19, rX5_layBox_22, rX5_layBox_23, rX5_layBox_26, rX5_layBox_27, rX5_layBox_29, rX5_layBox_32, rX5_layBox_33, rX5_layBox_36, rX5_layBox_38, rX5_layBox_41, rX5_layBox_42, rX5_layBox_45, rX5_layBox_47, rX5_layBox_50, rX5_layBox_51, rX5_layBox_54, rX5_layBox_55, rX5_layBox_58, rX5_layBox_60, rX5_layBox_62, rX5_layBox_64, rX5_layBox_67, rX5_layBox_68, rX5_layBox_71, rX5_layBox_72, rX5_layBox_74, rX5_layBox_76, rX5_layBox_77, rX5_layBox_80, rX5_layBox_81, rX5_layBox_84, rX5_layBox_86, rX5_layBox_88, rX5_layBox_89, rX5_layBox_92, rX5_layBox_93, rX5_layBox_96, rX5_layBox_98, rX5_layBox_99, rX5_layBox_100, rX5_layBox_103, rX5_layBox_104, rX5_layBox_107, rX5_layBox_109, rX5_layBox_110, rX5_layBox_111, rX5_layBox_114, rX5_layBox_115, rX5_layBox_118, rX5_layBox_119, rX5_layBox_120, rX5_layBox_123, rX5_layBox_124, rX5_layBox_127, rX5_layBox_129, rX5_layBox_132, ↓reduceIte, m1_le, m1_lt, m1_eq, ofInt_m1, ex_ret, Int32.reduceAdd, Int32.reduceSub, Int32.reduceMul, Int32.reduceLT, Int32.reduceLE, xsI, Nat.reduceEqDiff, and_false, false_and, and_true, true_and, if_true, if_false, ite_true, ite_false, xlook_0, xlook_s, xI_int, xA_ref, xJ_long, xK_some, xRow_row, xTo_some, xst1, xclr, List.set_cons_zero, List.set_cons_succ, xsum_nil, xsum_int, xsum_ref, xsum_long, Option.toList_some, Option.toList_none, List.nil_append, List.cons_append, e1, e2, e3, e4, e5, e6, e7, e8, e9, e10, e11, e12]
  · exact h12
def pL_layPlain (a0 : PA) : PA :=
  let a1 := pLd a0 65562
  let a2 := pSe a1 8 2
  let a3 := pEm a2 (wThree 35 4 8 5)
  let a4 := pLp a3 wJ 65557
  let a5 := pLd a4 65563
  let a6 := pEm a5 (wLw 4 4 5)
  let a7 := pLp a6 wJ 65557
  let a8 := pLd a7 65564
  let a9 := pSe a8 8 8
  let a10 := pEm a9 (wThree 35 4 8 5)
  let a11 := pLp a10 wJ 65557
  let a12 := pLd a11 65569
  let a13 := pEm a12 (wLw 8 0 5)
  let a14 := pEm a13 (wShift 2 8 8 3)
  let a15 := pEm a14 (wShift 0 8 8 1)
  let a16 := pEm a15 (wAdd 4 8 1)
  let a17 := pLp a16 wJ 65557
  let a18 := pLd a17 65572
  let a19 := pEm a18 (wLw 8 1108 0)
  let a20 := pEm a19 (wShift 0 8 8 1)
  let a21 := pEm a20 (wAdd 4 8 1)
  let a22 := pLp a21 wJ 65557
  a22
set_option maxHeartbeats 4000000 in
set_option maxRecDepth 100000 in
theorem l_layPlain {S0 S : xS} {a0 : PA} (h : AS S0 S a0) : ∃ S', (∀ d, XC SK MT (d + 5) 152 [.ref 10] S = some (none, S')) ∧ AS S0 S' (pL_layPlain a0) := by
  obtain ⟨S1, e1, h1⟩ := o_land h 65562
  obtain ⟨S2, e2, h2⟩ := o_set h1 8 2
  obtain ⟨S3, e3, h3⟩ := o_three h2 35 4 8 5
  obtain ⟨S4, e4, h4⟩ := o_jump h3 65557
  obtain ⟨S5, e5, h5⟩ := o_land h4 65563
  obtain ⟨S6, e6, h6⟩ := o_lw h5 4 4 5
  obtain ⟨S7, e7, h7⟩ := o_jump h6 65557
  obtain ⟨S8, e8, h8⟩ := o_land h7 65564
  obtain ⟨S9, e9, h9⟩ := o_set h8 8 8
  obtain ⟨S10, e10, h10⟩ := o_three h9 35 4 8 5
  obtain ⟨S11, e11, h11⟩ := o_jump h10 65557
  obtain ⟨S12, e12, h12⟩ := o_land h11 65569
  obtain ⟨S13, e13, h13⟩ := o_lw h12 8 0 5
  obtain ⟨S14, e14, h14⟩ := o_shift h13 2 8 8 3
  obtain ⟨S15, e15, h15⟩ := o_shift h14 0 8 8 1
  obtain ⟨S16, e16, h16⟩ := o_add h15 4 8 1
  obtain ⟨S17, e17, h17⟩ := o_jump h16 65557
  obtain ⟨S18, e18, h18⟩ := o_land h17 65572
  obtain ⟨S19, e19, h19⟩ := o_lw h18 8 1108 0
  obtain ⟨S20, e20, h20⟩ := o_shift h19 0 8 8 1
  obtain ⟨S21, e21, h21⟩ := o_add h20 4 8 1
  obtain ⟨S22, e22, h22⟩ := o_jump h21 65557
  refine ⟨S22, fun d => ?_, ?_⟩
  · rw [XC_iff]
    refine ⟨Nat.le_of_ble_eq_true rfl, ?_⟩
    show XL SK MT (d + 4) 152 (0, [some (.ref 10)], [], S) _
    simp (config := { decide := true }) only [rX5_layPlain_0, rX5_layPlain_1, rX5_layPlain_4, rX5_layPlain_6, rX5_layPlain_9, rX5_layPlain_10, rX5_layPlain_13, rX5_layPlain_15, rX5_layPlain_16, rX5_layPlain_19, rX5_layPlain_20, rX5_layPlain_23, rX5_layPlain_25, rX5_layPlain_26, rX5_layPlain_28, rX5_layPlain_29, rX5_layPlain_32, rX5_layPlain_33, rX5_layPlain_36, rX5_layPlain_38, rX5_layPlain_41, rX5_layPlain_42, rX5_layPlain_45, rX5_layPlain_47, rX5_layPlain_50, rX5_layPlain_51, rX5_layPlain_54, rX5_layPlain_55, rX5_layPlain_56, rX5_layPlain_57, rX5_layPlain_60, rX5_layPlain_61, rX5_layPlain_64, rX5_layPlain_66, rX5_layPlain_69, rX5_layPlain_70, rX5_layPlain_73, rX5_layPlain_75, rX5_layPlain_78, rX5_layPlain_79, rX5_layPlain_82, rX5_layPlain_84, rX5_layPlain_86, rX5_layPlain_89, rX5_layPlain_90, rX5_layPlain_93, rX5_layPlain_95, rX5_layPlain_96, rX5_layPlain_98, rX5_layPlain_99, rX5_layPlain_102, rX5_layPlain_103, rX5_layPlain_106, rX5_layPlain_108, rX5_layPlain_111, rX5_layPlain_112, rX5_layPlain_115, rX5_layPlain_117, rX5_layPlain_120, rX5_layPlain_121, rX5_layPlain_124, rX5_layPlain_126, rX5_layPlain_127, rX5_layPlain_128, rX5_layPlain_131, rX5_layPlain_132, rX5_layPlain_135, rX5_layPlain_136, rX5_layPlain_138, rX5_layPlain_140, rX5_layPlain_141, rX5_layPlain_144, rX5_layPlain_145, rX5_layPlain_148, rX5_layPlain_149, rX5_layPlain_151, rX5_layPlain_153, rX5_layPlain_154, rX5_layPlain_157, rX5_layPlain_158, rX5_layPlain_161, rX5_layPlain_162, rX5_layPlain_164, rX5_layPlain_165, rX5_layPlain_168, rX5_layPlain_169, rX5_layPlain_172, rX5_layPlain_174, rX5_layPlain_177, rX5_layPlain_178, rX5_layPlain_181, rX5_layPlain_183, rX5_layPlain_186, rX5_layPlain_187, rX5_layPlain_190, rX5_layPlain_192, rX5_layPlain_195, rX5_layPlain_196, rX5_layPlain_199, rX5_layPlain_200, rX5_layPlain_203, rX5_layPlain_204, rX5_layPlain_206, rX5_layPlain_208, rX5_layPlain_209, rX5_layPlain_212, rX5_layPlain_213, rX5_layPlain_216, rX5_layPlain_217, rX5_layPlain_219, rX5_layPlain_220, rX5_layPlain_223, rX5_layPlain_224, rX5_layPlain_227, rX5_layPlain_229, rX5_layPlain_232, ↓reduceIte, m1_le, m1_lt, m1_eq, ofInt_m1, ex_ret, Int32.reduceAdd, Int32.reduceSub, Int32.reduceMul, Int32.reduceLT, Int32.reduceLE, xsI, Nat.reduceEqDiff, and_false, false_and, and_true, true_and, if_true, if_false, ite_true, ite_false, xlook_0, xlook_s, xI_int, xA_ref, xJ_long, xK_some, xRow_row, xTo_some, xst1, xclr, List.set_cons_zero, List.set_cons_succ, xsum_nil, xsum_int, xsum_ref, xsum_long, Option.toList_some, Option.toList_none, List.nil_append, List.cons_append, e1, e2, e3, e4, e5, e6, e7, e8, e9, e10, e11, e12, e13, e14, e15, e16, e17, e18, e19, e20, e21, e22]
  · exact h22
