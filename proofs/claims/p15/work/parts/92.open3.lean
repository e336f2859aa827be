/-! XF: rows, then what is proved of them. -/
theorem rX9_openCons_0 {d : Nat} {lv : xLV} {st : List Value} {S : xS} {r : xO} : XL SK MT d 233 (0, lv, st, S) r ↔ xA (xlook lv 0) (fun x => XL SK MT d 233 (1, lv, .ref x :: st, S) r) := X_ldA rfl rfl (fun _ => rfl) rfl rfl rfl rfl
theorem rX9_openCons_1 {d : Nat} {lv : xLV} {st : List Value} {S : xS} {r : xO} : XL SK MT d 233 (1, lv, st, S) r ↔ XL SK MT d 233 (3, lv, .int 31 :: st, S) r := X_pure rfl rfl rfl
theorem rX9_openCons_3 {d : Nat} {lv : xLV} {st : List Value} {S : xS} {r : xO} : XL SK MT d 233 (3, lv, st, S) r ↔ XL SK MT d 233 (4, lv, .int 0 :: st, S) r := X_pure rfl rfl rfl
theorem rX9_openCons_4 {d : Nat} {lv : xLV} {S : xS} {r : xO} {x1 : Int32} {x2 : Int32} : XL SK MT d 233 (4, lv, [.int x2, .int x1, .ref 4], S) r ↔ xK (XC SK MT d 234 [.ref 4, .int x1, .int x2] S) (fun v S => XL SK MT d 233 (7, lv, v.toList ++ [], S) r) := X_inv (n := 3) (kd := 11) (st0 := [.int x2, .int x1, .ref 4]) rfl (Or.inr ⟨rfl, rfl⟩) rfl (Nat.le_of_ble_eq_true rfl) (Nat.le_of_ble_eq_true rfl) (by decide) rfl
theorem rX9_openCons_7 {d : Nat} {lv : xLV} {st : List Value} {S : xS} {r : xO} {x : Int32} : XL SK MT d 233 (7, lv, .int x :: st, S) r ↔ XL SK MT d 233 (8, lv, st, S) r := X_pure rfl rfl rfl
theorem rX9_openCons_8 {d : Nat} {lv : xLV} {st : List Value} {S : xS} {r : xO} : XL SK MT d 233 (8, lv, st, S) r ↔ xA (xlook lv 0) (fun x => XL SK MT d 233 (9, lv, .ref x :: st, S) r) := X_ldA rfl rfl (fun _ => rfl) rfl rfl rfl rfl
theorem rX9_openCons_9 {d : Nat} {lv : xLV} {st : List Value} {S : xS} {r : xO} : XL SK MT d 233 (9, lv, st, S) r ↔ XL SK MT d 233 (10, lv, .int 0 :: st, S) r := X_pure rfl rfl rfl
theorem rX9_openCons_10 {d : Nat} {lv : xLV} {st : List Value} {S : xS} {r : xO} : XL SK MT d 233 (10, lv, st, S) r ↔ XL SK MT d 233 (11, lv, .int 3 :: st, S) r := X_pure rfl rfl rfl
theorem rX9_openCons_11 {d : Nat} {lv : xLV} {S : xS} {r : xO} {x1 : Int32} {x2 : Int32} : XL SK MT d 233 (11, lv, [.int x2, .int x1, .ref 4], S) r ↔ xK (XC SK MT d 235 [.ref 4, .int x1, .int x2] S) (fun v S => XL SK MT d 233 (14, lv, v.toList ++ [], S) r) := X_inv (n := 3) (kd := 11) (st0 := [.int x2, .int x1, .ref 4]) rfl (Or.inr ⟨rfl, rfl⟩) rfl (Nat.le_of_ble_eq_true rfl) (Nat.le_of_ble_eq_true rfl) (by decide) rfl
theorem rX9_openCons_14 {d : Nat} {lv : xLV} {st : List Value} {S : xS} {r : xO} {x : Int32} : XL SK MT d 233 (14, lv, .int x :: st, S) r ↔ XL SK MT d 233 (15, lv, st, S) r := X_pure rfl rfl rfl
theorem rX9_openCons_15 {d : Nat} {lv : xLV} {st : List Value} {S : xS} {r : xO} : XL SK MT d 233 (15, lv, st, S) r ↔ xA (xlook lv 0) (fun x => XL SK MT d 233 (16, lv, .ref x :: st, S) r) := X_ldA rfl rfl (fun _ => rfl) rfl rfl rfl rfl
theorem rX9_openCons_16 {d : Nat} {lv : xLV} {st : List Value} {S : xS} {r : xO} : XL SK MT d 233 (16, lv, st, S) r ↔ XL SK MT d 233 (18, lv, .int 32 :: st, S) r := X_pure rfl rfl rfl
theorem rX9_openCons_18 {d : Nat} {lv : xLV} {st : List Value} {S : xS} {r : xO} : XL SK MT d 233 (18, lv, st, S) r ↔ XL SK MT d 233 (19, lv, .int 0 :: st, S) r := X_pure rfl rfl rfl
theorem rX9_openCons_19 {d : Nat} {lv : xLV} {S : xS} {r : xO} {x1 : Int32} {x2 : Int32} : XL SK MT d 233 (19, lv, [.int x2, .int x1, .ref 4], S) r ↔ xK (XC SK MT d 234 [.ref 4, .int x1, .int x2] S) (fun v S => XL SK MT d 233 (22, lv, v.toList ++ [], S) r) := X_inv (n := 3) (kd := 11) (st0 := [.int x2, .int x1, .ref 4]) rfl (Or.inr ⟨rfl, rfl⟩) rfl (Nat.le_of_ble_eq_true rfl) (Nat.le_of_ble_eq_true rfl) (by decide) rfl
theorem rX9_openCons_22 {d : Nat} {lv : xLV} {st : List Value} {S : xS} {r : xO} {x : Int32} : XL SK MT d 233 (22, lv, .int x :: st, S) r ↔ XL SK MT d 233 (23, lv, st, S) r := X_pure rfl rfl rfl
theorem rX9_openCons_23 {d : Nat} {lv : xLV} {st : List Value} {S : xS} {r : xO} : XL SK MT d 233 (23, lv, st, S) r ↔ xA (xlook lv 0) (fun x => XL SK MT d 233 (24, lv, .ref x :: st, S) r) := X_ldA rfl rfl (fun _ => rfl) rfl rfl rfl rfl
theorem rX9_openCons_24 {d : Nat} {lv : xLV} {st : List Value} {S : xS} {r : xO} : XL SK MT d 233 (24, lv, st, S) r ↔ XL SK MT d 233 (25, lv, .int 1 :: st, S) r := X_pure rfl rfl rfl
theorem rX9_openCons_25 {d : Nat} {lv : xLV} {st : List Value} {S : xS} {r : xO} : XL SK MT d 233 (25, lv, st, S) r ↔ XL SK MT d 233 (26, lv, .int 3 :: st, S) r := X_pure rfl rfl rfl
theorem rX9_openCons_26 {d : Nat} {lv : xLV} {S : xS} {r : xO} {x1 : Int32} {x2 : Int32} : XL SK MT d 233 (26, lv, [.int x2, .int x1, .ref 4], S) r ↔ xK (XC SK MT d 235 [.ref 4, .int x1, .int x2] S) (fun v S => XL SK MT d 233 (29, lv, v.toList ++ [], S) r) := X_inv (n := 3) (kd := 11) (st0 := [.int x2, .int x1, .ref 4]) rfl (Or.inr ⟨rfl, rfl⟩) rfl (Nat.le_of_ble_eq_true rfl) (Nat.le_of_ble_eq_true rfl) (by decide) rfl
theorem rX9_openCons_29 {d : Nat} {lv : xLV} {st : List Value} {S : xS} {r : xO} {x : Int32} : XL SK MT d 233 (29, lv, .int x :: st, S) r ↔ XL SK MT d 233 (30, lv, st, S) r := X_pure rfl rfl rfl
theorem rX9_openCons_30 {d : Nat} {lv : xLV} {st : List Value} {S : xS} {r : xO} : XL SK MT d 233 (30, lv, st, S) r ↔ xA (xlook lv 0) (fun x => XL SK MT d 233 (31, lv, .ref x :: st, S) r) := X_ldA rfl rfl (fun _ => rfl) rfl rfl rfl rfl
theorem rX9_openCons_31 {d : Nat} {lv : xLV} {st : List Value} {S : xS} {r : xO} : XL SK MT d 233 (31, lv, st, S) r ↔ XL SK MT d 233 (33, lv, .int 33 :: st, S) r := X_pure rfl rfl rfl
theorem rX9_openCons_33 {d : Nat} {lv : xLV} {st : List Value} {S : xS} {r : xO} : XL SK MT d 233 (33, lv, st, S) r ↔ XL SK MT d 233 (34, lv, .int 0 :: st, S) r := X_pure rfl rfl rfl
theorem rX9_openCons_34 {d : Nat} {lv : xLV} {S : xS} {r : xO} {x1 : Int32} {x2 : Int32} : XL SK MT d 233 (34, lv, [.int x2, .int x1, .ref 4], S) r ↔ xK (XC SK MT d 234 [.ref 4, .int x1, .int x2] S) (fun v S => XL SK MT d 233 (37, lv, v.toList ++ [], S) r) := X_inv (n := 3) (kd := 11) (st0 := [.int x2, .int x1, .ref 4]) rfl (Or.inr ⟨rfl, rfl⟩) rfl (Nat.le_of_ble_eq_true rfl) (Nat.le_of_ble_eq_true rfl) (by decide) rfl
theorem rX9_openCons_37 {d : Nat} {lv : xLV} {st : List Value} {S : xS} {r : xO} {x : Int32} : XL SK MT d 233 (37, lv, .int x :: st, S) r ↔ XL SK MT d 233 (38, lv, st, S) r := X_pure rfl rfl rfl
theorem rX9_openCons_38 {d : Nat} {lv : xLV} {st : List Value} {S : xS} {r : xO} : XL SK MT d 233 (38, lv, st, S) r ↔ xA (xlook lv 0) (fun x => XL SK MT d 233 (39, lv, .ref x :: st, S) r) := X_ldA rfl rfl (fun _ => rfl) rfl rfl rfl rfl
theorem rX9_openCons_39 {d : Nat} {lv : xLV} {st : List Value} {S : xS} {r : xO} : XL SK MT d 233 (39, lv, st, S) r ↔ XL SK MT d 233 (40, lv, .int 2 :: st, S) r := X_pure rfl rfl rfl
theorem rX9_openCons_40 {d : Nat} {lv : xLV} {st : List Value} {S : xS} {r : xO} : XL SK MT d 233 (40, lv, st, S) r ↔ xA (xlook lv 0) (fun x => XL SK MT d 233 (41, lv, .ref x :: st, S) r) := X_ldA rfl rfl (fun _ => rfl) rfl rfl rfl rfl
theorem rX9_openCons_41 {d : Nat} {lv : xLV} {st : List Value} {S : xS} {r : xO} : XL SK MT d 233 (41, lv, .ref 4 :: st, S) r ↔ XL SK MT d 233 (44, lv, .ref 5 :: st, S) r := X_heap rfl rfl rfl rfl rfl
theorem rX9_openCons_44 {d : Nat} {lv : xLV} {st : List Value} {S : xS} {r : xO} : XL SK MT d 233 (44, lv, st, S) r ↔ XL SK MT d 233 (46, lv, .int 7 :: st, S) r := X_pure rfl rfl rfl
theorem rX9_openCons_46 {d : Nat} {lv : xLV} {st : List Value} {S : xS} {r : xO} : XL SK MT d 233 (46, lv, st, S) r ↔ xA (xlook lv 0) (fun x => XL SK MT d 233 (47, lv, .ref x :: st, S) r) := X_ldA rfl rfl (fun _ => rfl) rfl rfl rfl rfl
theorem rX9_openCons_47 {d : Nat} {lv : xLV} {st : List Value} {S : xS} {r : xO} : XL SK MT d 233 (47, lv, .ref 4 :: st, S) r ↔ XL SK MT d 233 (50, lv, .ref 5 :: st, S) r := X_heap rfl rfl rfl rfl rfl
theorem rX9_openCons_50 {d : Nat} {lv : xLV} {st : List Value} {S : xS} {r : xO} : XL SK MT d 233 (50, lv, st, S) r ↔ XL SK MT d 233 (51, lv, .int 1 :: st, S) r := X_pure rfl rfl rfl
theorem rX9_openCons_51 {d : Nat} {lv : xLV} {S : xS} {r : xO} {x1 : Int32} {u1 : Int32} {u2 : Nat} {u3 : Int32} {u4 : Nat} : XL SK MT d 233 (51, lv, [.int x1, .ref 5, .int u1, .ref u2, .int u3, .ref u4], S) r ↔ xK (XC SK MT d 266 [.ref 5, .int x1] S) (fun v S => XL SK MT d 233 (54, lv, v.toList ++ [.int u1, .ref u2, .int u3, .ref u4], S) r) := X_inv (n := 2) (kd := 12) (st0 := [.int x1, .ref 5, .int u1, .ref u2, .int u3, .ref u4]) rfl (Or.inr ⟨rfl, rfl⟩) rfl (Nat.le_of_ble_eq_true rfl) (Nat.le_of_ble_eq_true rfl) (by decide) rfl
theorem rX9_openCons_54 {d : Nat} {lv : xLV} {S : xS} {r : xO} {x1 : Int32} {x2 : Int32} {u1 : Int32} {u2 : Nat} : XL SK MT d 233 (54, lv, [.int x2, .int x1, .ref 5, .int u1, .ref u2], S) r ↔ xK (XC SK MT d 268 [.ref 5, .int x1, .int x2] S) (fun v S => XL SK MT d 233 (57, lv, v.toList ++ [.int u1, .ref u2], S) r) := X_inv (n := 3) (kd := 12) (st0 := [.int x2, .int x1, .ref 5, .int u1, .ref u2]) rfl (Or.inr ⟨rfl, rfl⟩) rfl (Nat.le_of_ble_eq_true rfl) (Nat.le_of_ble_eq_true rfl) (by decide) rfl
theorem rX9_openCons_57 {d : Nat} {lv : xLV} {S : xS} {r : xO} {x1 : Int32} {x2 : Int32} : XL SK MT d 233 (57, lv, [.int x2, .int x1, .ref 4], S) r ↔ xK (XC SK MT d 235 [.ref 4, .int x1, .int x2] S) (fun v S => XL SK MT d 233 (60, lv, v.toList ++ [], S) r) := X_inv (n := 3) (kd := 11) (st0 := [.int x2, .int x1, .ref 4]) rfl (Or.inr ⟨rfl, rfl⟩) rfl (Nat.le_of_ble_eq_true rfl) (Nat.le_of_ble_eq_true rfl) (by decide) rfl
theorem rX9_openCons_60 {d : Nat} {lv : xLV} {st : List Value} {S : xS} {r : xO} {x : Int32} : XL SK MT d 233 (60, lv, .int x :: st, S) r ↔ XL SK MT d 233 (61, lv, st, S) r := X_pure rfl rfl rfl
theorem rX9_openCons_61 {d : Nat} {lv : xLV} {st : List Value} {S : xS} {r : xO} : XL SK MT d 233 (61, lv, st, S) r ↔ xA (xlook lv 0) (fun x => XL SK MT d 233 (62, lv, .ref x :: st, S) r) := X_ldA rfl rfl (fun _ => rfl) rfl rfl rfl rfl
theorem rX9_openCons_62 {d : Nat} {lv : xLV} {st : List Value} {S : xS} {r : xO} : XL SK MT d 233 (62, lv, st, S) r ↔ XL SK MT d 233 (64, lv, .int 34 :: st, S) r := X_pure rfl rfl rfl
theorem rX9_openCons_64 {d : Nat} {lv : xLV} {st : List Value} {S : xS} {r : xO} : XL SK MT d 233 (64, lv, st, S) r ↔ XL SK MT d 233 (65, lv, .int 1 :: st, S) r := X_pure rfl rfl rfl
theorem rX9_openCons_65 {d : Nat} {lv : xLV} {S : xS} {r : xO} {x1 : Int32} {x2 : Int32} : XL SK MT d 233 (65, lv, [.int x2, .int x1, .ref 4], S) r ↔ xK (XC SK MT d 234 [.ref 4, .int x1, .int x2] S) (fun v S => XL SK MT d 233 (68, lv, v.toList ++ [], S) r) := X_inv (n := 3) (kd := 11) (st0 := [.int x2, .int x1, .ref 4]) rfl (Or.inr ⟨rfl, rfl⟩) rfl (Nat.le_of_ble_eq_true rfl) (Nat.le_of_ble_eq_true rfl) (by decide) rfl
theorem rX9_openCons_68 {d : Nat} {lv : xLV} {st : List Value} {S : xS} {r : xO} {x : Int32} : XL SK MT d 233 (68, lv, .int x :: st, S) r ↔ XL SK MT d 233 (69, lv, st, S) r := X_pure rfl rfl rfl
theorem rX9_openCons_69 {d : Nat} {lv : xLV} {st : List Value} {S : xS} {r : xO} : XL SK MT d 233 (69, lv, st, S) r ↔ xA (xlook lv 0) (fun x => XL SK MT d 233 (70, lv, .ref x :: st, S) r) := X_ldA rfl rfl (fun _ => rfl) rfl rfl rfl rfl
theorem rX9_openCons_70 {d : Nat} {lv : xLV} {st : List Value} {S : xS} {r : xO} : XL SK MT d 233 (70, lv, st, S) r ↔ XL SK MT d 233 (71, lv, .int 3 :: st, S) r := X_pure rfl rfl rfl
theorem rX9_openCons_71 {d : Nat} {lv : xLV} {st : List Value} {S : xS} {r : xO} : XL SK MT d 233 (71, lv, st, S) r ↔ XL SK MT d 233 (73, lv, .int 6 :: st, S) r := X_pure rfl rfl rfl
theorem rX9_openCons_73 {d : Nat} {lv : xLV} {S : xS} {r : xO} {x1 : Int32} {x2 : Int32} : XL SK MT d 233 (73, lv, [.int x2, .int x1, .ref 4], S) r ↔ xK (XC SK MT d 235 [.ref 4, .int x1, .int x2] S) (fun v S => XL SK MT d 233 (76, lv, v.toList ++ [], S) r) := X_inv (n := 3) (kd := 11) (st0 := [.int x2, .int x1, .ref 4]) rfl (Or.inr ⟨rfl, rfl⟩) rfl (Nat.le_of_ble_eq_true rfl) (Nat.le_of_ble_eq_true rfl) (by decide) rfl
theorem rX9_openCons_76 {d : Nat} {lv : xLV} {st : List Value} {S : xS} {r : xO} {x : Int32} : XL SK MT d 233 (76, lv, .int x :: st, S) r ↔ XL SK MT d 233 (77, lv, st, S) r := X_pure rfl rfl rfl
theorem rX9_openCons_77 {d : Nat} {lv : xLV} {st : List Value} {S : xS} {r : xO} : XL SK MT d 233 (77, lv, st, S) r ↔ XL SK MT d 233 (78, lv, .int 4 :: st, S) r := X_pure rfl rfl rfl
theorem rX9_openCons_78 {d : Nat} {lv : xLV} {st : List Value} {S : xS} {r : xO} {x : Int32} : XL SK MT d 233 (78, lv, .int x :: st, S) r ↔ XL SK MT d 233 (79, xst1 lv 1 (.int x), st, S) r := X_pure rfl rfl rfl
theorem rX9_openCons_79 {d : Nat} {lv : xLV} {st : List Value} {S : xS} {r : xO} : XL SK MT d 233 (79, lv, st, S) r ↔ xI (xlook lv 1) (fun x => XL SK MT d 233 (80, lv, .int x :: st, S) r) := X_ldI rfl rfl (fun _ => rfl) rfl rfl rfl rfl
theorem rX9_openCons_80 {d : Nat} {lv : xLV} {st : List Value} {S : xS} {r : xO} : XL SK MT d 233 (80, lv, st, S) r ↔ XL SK MT d 233 (82, lv, .int 9 :: st, S) r := X_pure rfl rfl rfl
theorem rX9_openCons_82 {d : Nat} {lv : xLV} {st : List Value} {S : xS} {r : xO} {x z : Int32} : XL SK MT d 233 (82, lv, .int z :: .int x :: st, S) r ↔ if z ≤ x then XL SK MT d 233 (109, lv, st, S) r else XL SK MT d 233 (85, lv, st, S) r := (X_icmp rfl rfl).trans xc_ge
theorem rX9_openCons_85 {d : Nat} {lv : xLV} {st : List Value} {S : xS} {r : xO} : XL SK MT d 233 (85, lv, st, S) r ↔ xA (xlook lv 0) (fun x => XL SK MT d 233 (86, lv, .ref x :: st, S) r) := X_ldA rfl rfl (fun _ => rfl) rfl rfl rfl rfl
theorem rX9_openCons_86 {d : Nat} {lv : xLV} {st : List Value} {S : xS} {r : xO} : XL SK MT d 233 (86, lv, st, S) r ↔ XL SK MT d 233 (88, lv, .int 31 :: st, S) r := X_pure rfl rfl rfl
theorem rX9_openCons_88 {d : Nat} {lv : xLV} {st : List Value} {S : xS} {r : xO} : XL SK MT d 233 (88, lv, st, S) r ↔ xI (xlook lv 1) (fun x => XL SK MT d 233 (89, lv, .int x :: st, S) r) := X_ldI rfl rfl (fun _ => rfl) rfl rfl rfl rfl
theorem rX9_openCons_89 {d : Nat} {lv : xLV} {st : List Value} {S : xS} {r : xO} {x z : Int32} : XL SK MT d 233 (89, lv, .int z :: .int x :: st, S) r ↔ XL SK MT d 233 (90, lv, .int (x + z) :: st, S) r := X_pure rfl rfl rfl
theorem rX9_openCons_90 {d : Nat} {lv : xLV} {st : List Value} {S : xS} {r : xO} : XL SK MT d 233 (90, lv, st, S) r ↔ XL SK MT d 233 (91, lv, .int 0 :: st, S) r := X_pure rfl rfl rfl
theorem rX9_openCons_91 {d : Nat} {lv : xLV} {S : xS} {r : xO} {x1 : Int32} {x2 : Int32} : XL SK MT d 233 (91, lv, [.int x2, .int x1, .ref 4], S) r ↔ xK (XC SK MT d 234 [.ref 4, .int x1, .int x2] S) (fun v S => XL SK MT d 233 (94, lv, v.toList ++ [], S) r) := X_inv (n := 3) (kd := 11) (st0 := [.int x2, .int x1, .ref 4]) rfl (Or.inr ⟨rfl, rfl⟩) rfl (Nat.le_of_ble_eq_true rfl) (Nat.le_of_ble_eq_true rfl) (by decide) rfl
theorem rX9_openCons_94 {d : Nat} {lv : xLV} {st : List Value} {S : xS} {r : xO} {x : Int32} : XL SK MT d 233 (94, lv, .int x :: st, S) r ↔ XL SK MT d 233 (95, lv, st, S) r := X_pure rfl rfl rfl
theorem rX9_openCons_95 {d : Nat} {lv : xLV} {st : List Value} {S : xS} {r : xO} : XL SK MT d 233 (95, lv, st, S) r ↔ xA (xlook lv 0) (fun x => XL SK MT d 233 (96, lv, .ref x :: st, S) r) := X_ldA rfl rfl (fun _ => rfl) rfl rfl rfl rfl
theorem rX9_openCons_96 {d : Nat} {lv : xLV} {st : List Value} {S : xS} {r : xO} : XL SK MT d 233 (96, lv, st, S) r ↔ xI (xlook lv 1) (fun x => XL SK MT d 233 (97, lv, .int x :: st, S) r) := X_ldI rfl rfl (fun _ => rfl) rfl rfl rfl rfl
theorem rX9_openCons_97 {d : Nat} {lv : xLV} {st : List Value} {S : xS} {r : xO} : XL SK MT d 233 (97, lv, st, S) r ↔ XL SK MT d 233 (99, lv, .int 6 :: st, S) r := X_pure rfl rfl rfl
theorem rX9_openCons_99 {d : Nat} {lv : xLV} {S : xS} {r : xO} {x1 : Int32} {x2 : Int32} : XL SK MT d 233 (99, lv, [.int x2, .int x1, .ref 4], S) r ↔ xK (XC SK MT d 235 [.ref 4, .int x1, .int x2] S) (fun v S => XL SK MT d 233 (102, lv, v.toList ++ [], S) r) := X_inv (n := 3) (kd := 11) (st0 := [.int x2, .int x1, .ref 4]) rfl (Or.inr ⟨rfl, rfl⟩) rfl (Nat.le_of_ble_eq_true rfl) (Nat.le_of_ble_eq_true rfl) (by decide) rfl
theorem rX9_openCons_102 {d : Nat} {lv : xLV} {st : List Value} {S : xS} {r : xO} {x : Int32} : XL SK MT d 233 (102, lv, .int x :: st, S) r ↔ XL SK MT d 233 (103, lv, st, S) r := X_pure rfl rfl rfl
theorem rX9_openCons_103 {d : Nat} {lv : xLV} {st : List Value} {S : xS} {r : xO} : XL SK MT d 233 (103, lv, st, S) r ↔ xI (xlook lv 1) (fun x => XL SK MT d 233 (106, xst1 lv 1 (.int (x + 1)), st, S) r) := X_inc (i := 1) (n := 1) rfl (Nat.le_of_ble_eq_true rfl)
theorem rX9_openCons_106 {d : Nat} {lv : xLV} {st : List Value} {S : xS} {r : xO} : XL SK MT d 233 (106, lv, st, S) r ↔ XL SK MT d 233 (79, lv, st, S) r := X_jump rfl rfl rfl
theorem rX9_openCons_109 {d : Nat} {lv : xLV} {S : xS} {r : xO} : XL SK MT d 233 (109, lv, [], S) r ↔ (none, S) = r := X_ret rfl rfl rfl rfl rfl rfl

/-! Scope: a program begins. -/
def gcN (S : xS) : xS := xsetI (xsetI (xsetI S 36 12 10) 36 13 0) 36 14 0
def gnS (S : xS) : xS := xsetI (xsetI (flN (wkN (gcN S))) 36 14 2) 4 14 2
set_option maxHeartbeats 4000000 in
set_option maxRecDepth 100000 in
theorem s_give_nil {d : Nat} {S : xS} (h : NT S) (hs : S.1 45 9 = 1) (h1 : S.1 47 9 = 0) (h2 : S.1 47 10 = 0) (h3 : S.1 5 13 = 6) (h4 : S.1 4 14 = 0) : XC SK MT (d + 3) 235 [.ref 4, .int 2, .int 10] S = some (some (.int 1), gnS S) := by
  have p1 := s_walk_nil (d := d) (S := gcN S) h hs h1 h2 h3
  have n2 : NT (wkN (gcN S)) := by
    obtain ⟨a1, a2, a3, a4, a5⟩ := h
    unfold wkN gcN
    exact ⟨by simp (config := { decide := true }) only [xsI, false_and, and_false, if_false]; exact a1, by simp (config := { decide := true }) only [xsI, false_and, and_false, if_false]; exact a2, by simp (config := { decide := true }) only [xsI, false_and, and_false, if_false]; exact a3, by simp (config := { decide := true }) only [xsI, false_and, and_false, if_false]; exact a4, by simp (config := { decide := true }) only [xsI, false_and, and_false, if_false]; exact a5⟩
  have s2 : (wkN (gcN S)).1 45 9 = 1048576 := by unfold wkN; simp (config := { decide := true }) only [xsI, false_and, and_false, and_self, if_true, if_false]
  have p2 := s_flatten_nil (d := d) n2 s2
  have e : xsetI (xsetI (xsetI S 36 12 10) 36 13 0) 36 14 0 = gcN S := rfl
  have t2 : (wkN (gcN S)).1 4 14 = 0 := by unfold wkN gcN; simp (config := { decide := true }) only [xsI, false_and, and_false, if_false]; exact h4
  have t3 : (flN (wkN (gcN S))).1 4 14 = 0 := by unfold flN; simp (config := { decide := true }) only [xsI, false_and, and_false, if_false]; exact t2
  rw [XC_iff]
  refine ⟨Nat.le_of_ble_eq_true rfl, ?_⟩
  show XL SK MT (d + 2) 235 (0, [some (.ref 4), some (.int 2), some (.int 10), none, none], [], S) _
  simp (config := { decide := true }) only [rX9_giveCon_0, rX9_giveCon_1, rX9_giveCon_2, rX9_giveCon_3, rX9_giveCon_4, rX9_giveCon_5, rX9_giveCon_8, rX9_giveCon_9, rX9_giveCon_10, rX9_giveCon_11, rX9_giveCon_12, rX9_giveCon_15, rX9_giveCon_16, rX9_giveCon_19, rX9_giveCon_20, rX9_giveCon_21, rX9_giveCon_22, rX9_giveCon_23, rX9_giveCon_26, rX9_giveCon_29, rX9_giveCon_30, rX9_giveCon_33, rX9_giveCon_34, rX9_giveCon_35, rX9_giveCon_36, rX9_giveCon_37, rX9_giveCon_40, rX9_giveCon_41, rX9_giveCon_44, rX9_giveCon_45, rX9_giveCon_46, rX9_giveCon_47, rX9_giveCon_50, rX9_giveCon_53, r0X9_giveCon_54, r1X9_giveCon_54, rX9_giveCon_54, rX9_giveCon_55, rX9_giveCon_56, rX9_giveCon_59, rX9_giveCon_60, rX9_giveCon_61, rX9_giveCon_64, rX9_giveCon_65, rX9_giveCon_68, rX9_giveCon_71, rX9_giveCon_73, rX9_giveCon_75, rX9_giveCon_78, r0X9_giveCon_79, r1X9_giveCon_79, rX9_giveCon_79, rX9_giveCon_80, rX9_giveCon_81, rX9_giveCon_84, rX9_giveCon_85, rX9_giveCon_86, rX9_giveCon_87, rX9_giveCon_89, rX9_giveCon_92, riX9_giveCon_93, rX9_giveCon_93, rX9_giveCon_94, rX9_giveCon_97, rX9_giveCon_99, rX9_giveCon_100, rX9_giveCon_103, r0X9_giveCon_104, r1X9_giveCon_104, rX9_giveCon_104, ↓reduceIte, m1_le, m1_lt, m1_eq, ofInt_m1, ex_ret, Int32.reduceAdd, Int32.reduceSub, Int32.reduceMul, Int32.reduceLT, Int32.reduceLE, xsI, Nat.reduceEqDiff, and_false, false_and, and_true, true_and, if_true, if_false, ite_true, ite_false, xlook_0, xlook_s, xI_int, xA_ref, xJ_long, xK_some, xRow_row, xTo_some, xst1, xclr, List.set_cons_zero, List.set_cons_succ, xsum_nil, xsum_int, xsum_ref, xsum_long, Option.toList_some, Option.toList_none, List.nil_append, List.cons_append, s_at (show SK[36]? = some (.inl (0, 350)) from rfl) (by decide : 350 < 2 ^ 31), s_put (show SK[36]? = some (.inl (0, 350)) from rfl) (by decide : 350 < 2 ^ 31), xput_l, Int32.reduceToNatClampNeg, h4, e, p1, t2, p2, t3]
  rfl
/-- one constructor more, of exn -/
theorem oc_step {d c x : Nat} {a : Int32} {S : xS} (h : S.1 4 15 = nI c) (hc : c < 60) (hx : x < 2176) (hF : Fi S 6 6) (ha : S.1 50 6 = 0) : ∃ S1, XC SK MT (d + 3) 234 [.ref 4, .int (nI x), .int a] S = some (some (.int (nI c)), acS S c x a) ∧ XC SK MT (d + 3) 235 [.ref 4, .int (nI c), .int 6] (acS S c x a) = some (some (.int 1), S1) ∧ FrW (gcS (acS S c x a) c 6) S1 := by
  obtain ⟨S1, q1, q2, -⟩ := s_give (d := d) (c := c) (ty := 6) (S := acS S c x a) hc hF ha
  exact ⟨S1, s_addCon (d := d + 1) h hc hx, q1, q2⟩
theorem FrW.r {S S1 : xS} (h : FrW S S1) (a : Nat) (ha : ¬ a = 5 ∧ ¬ a = 47 ∧ ¬ a = 48 ∧ ¬ a = 49) : S1.1 a = S.1 a := h.2.1 a ha.1 ha.2.1 ha.2.2.1 ha.2.2.2
theorem FrW.Fi {S S1 : xS} {j c : Nat} (h : FrW S S1) (hf : Fi S j c) : Fi S1 j c := h.E.Fi hf
/-- what the constructors known ahead leave -/
def OC (S S1 : xS) : Prop := S1.1 5 11 = nI 11 ∧ S1.1 5 15 = S.1 5 15 ∧ Fi S1 2 2 ∧ Fi S1 6 6 ∧ S1.1 50 = S.1 50 ∧ S1.1 36 31 = 0 ∧ S1.1 36 32 = 6 ∧ S1.1 36 34 = 0 ∧ S1.1 36 30 = nI 37 ∧ S1.1 37 37 = 6 ∧ (∀ j, 40 ≤ j → S1.1 37 j = S.1 37 j) ∧ (∀ q, ¬ q = 15 → ¬ q = 14 → S1.1 4 q = S.1 4 q) ∧ S1.2 = S.2 ∧ ∀ a, ¬ a = 4 → ¬ a = 5 → ¬ a = 35 → ¬ a = 36 → ¬ a = 37 → ¬ (44 ≤ a ∧ a ≤ 52) → S1.1 a = S.1 a
set_option maxHeartbeats 4000000 in
set_option maxRecDepth 100000 in
theorem s_openCons {d : Nat} {S : xS} (hT : TO S) (hs : S.1 5 13 = 2) (hc : S.1 4 15 = nI 0) (h4 : S.1 4 14 = 0) : ∃ S1, XC SK MT (d + 4) 233 [.ref 4] S = some (none, S1) ∧ OC S S1 := by
  obtain ⟨t1, t2, t3, t4, t5, t6, t7, t8⟩ := hT
  have F : ∀ {c}, c < 9 → Fi S c c := fun {c} h => ⟨by omega, h, t4 c h, Or.inl rfl⟩
  -- true
  have a0 := s_addCon (d := d + 1) (c := 0) (x := 31) (a := 0) hc (by decide) (by decide)
  obtain ⟨S1, g0, f0, st0⟩ := s_give (d := d) (c := 0) (ty := 3) (S := acS S 0 31 0) (by decide) (F (c := 3) (by decide)) t6
  have c1 : S1.1 4 15 = nI 1 := by rw [f0.r 4 (by decide)]; rfl
  have u1 : S1.1 5 13 = 4 := by rw [st0]; show S.1 5 13 + 2 = 4; rw [hs]; rfl
  have F1 : ∀ {c}, c < 9 → Fi S1 c c := fun {c} h => f0.Fi (F h)
  have ar1 : S1.1 50 = S.1 50 := by rw [f0.r 50 (by decide)]; rfl
  -- false
  have a1 := s_addCon (d := d + 1) (c := 1) (x := 32) (a := 0) c1 (by decide) (by decide)
  obtain ⟨S2, g1, f1, st1⟩ := s_give (d := d) (c := 1) (ty := 3) (S := acS S1 1 32 0) (by decide) (F1 (c := 3) (by decide)) (by show S1.1 50 3 = 0; rw [ar1]; exact t6)
  have c2 : S2.1 4 15 = nI 2 := by rw [f1.r 4 (by decide)]; rfl
  have u2 : S2.1 5 13 = 6 := by rw [st1]; show S1.1 5 13 + 2 = 6; rw [u1]; rfl
  have F2 : ∀ {c}, c < 9 → Fi S2 c c := fun {c} h => f1.Fi (F1 h)
  have ar2 : S2.1 50 = S.1 50 := by rw [f1.r 50 (by decide)]; exact ar1
  have n2 : S2.1 5 11 = nI 9 := by rw [f1.2.2 _ (by decide)]; show S1.1 5 11 = _; rw [f0.2.2 _ (by decide)]; exact t1
  have l2 : S2.1 5 15 = S.1 5 15 := by rw [f1.2.2 _ (by decide)]; show S1.1 5 15 = _; rw [f0.2.2 _ (by decide)]; rfl
  have ps2 : S2.1 5 12 = 0 := by rw [f1.2.2 _ (by decide)]; show S1.1 5 12 = _; rw [f0.2.2 _ (by decide)]; exact t3
  have st2 : S2.1 4 14 = 0 := by rw [f1.r 4 (by decide)]; show S1.1 4 14 = 0; rw [f0.r 4 (by decide)]; exact h4
  have q2 : ∀ q, ¬ q = 15 → S2.1 4 q = S.1 4 q := fun q hq => by
    rw [f1.r 4 (by decide)]; show (acS S1 1 32 0).1 4 q = _; unfold acS; rw [xsR (by decide), xsR (by decide), xsR (by decide), xsI, if_neg (fun z => hq z.2), f0.r 4 (by decide)]
    show (acS S 0 31 0).1 4 q = _; unfold acS; rw [xsR (by decide), xsR (by decide), xsR (by decide), xsI, if_neg (fun z => hq z.2)]
  have o2 : ∀ j, 40 ≤ j → S2.1 37 j = S.1 37 j := fun j hj => by
    rw [f1.r 37 (by decide)]; show (acS S1 1 32 0).1 37 j = _; unfold acS; rw [xsI, if_neg (by omega), xsR (by decide), xsR (by decide), xsR (by decide), f0.r 37 (by decide)]
    show (acS S 0 31 0).1 37 j = _; unfold acS; rw [xsI, if_neg (by omega), xsR (by decide), xsR (by decide), xsR (by decide)]
  have w2 : ∀ a, ¬ a = 4 → ¬ a = 5 → ¬ a = 35 → ¬ a = 36 → ¬ a = 37 → ¬ (44 ≤ a ∧ a ≤ 52) → S2.1 a = S.1 a := fun a b1 b2 b3 b4 b5 b6 => by
    rw [f1.r a ⟨b2, by omega, by omega, by omega⟩]; unfold gcS acS; rw [xsR b4, xsR b4, xsR b4, xsR b5, xsR b4, xsR b4, xsR b1, f0.r a ⟨b2, by omega, by omega, by omega⟩]; unfold gcS acS; rw [xsR b4, xsR b4, xsR b4, xsR b5, xsR b4, xsR b4, xsR b1]
  have s2 : S2.2 = S.2 := f1.1.trans f0.1
  clear st0 st1
  -- nil
  have a2 := s_addCon (d := d + 1) (c := 2) (x := 33) (a := 0) c2 (by decide) (by decide)
  have fr := s_fresh (d := d + 1) (h := 1) (S := acS S2 2 33 0) (n := 9) n2 (by decide)
  have mk := s_make_nil (d := d) (S := frS (acS S2 2 33 0) 9 1) rfl ps2 (by show S2.1 50 7 = 1; rw [ar2]; exact t8)
  have nt : NT (mkN (frS (acS S2 2 33 0) 9 1)) := by
    refine ⟨rfl, rfl, rfl, rfl, ?_⟩
    show S2.1 50 7 = 1; rw [ar2]; exact t8
  have gn := s_give_nil (d := d) nt rfl rfl rfl u2 st2
  have e3 : ∀ a, ¬ a = 4 → ¬ a = 5 → ¬ a = 35 → ¬ a = 36 → ¬ a = 37 → ¬ (44 ≤ a ∧ a ≤ 52) → (gnS (mkN (frS (acS S2 2 33 0) 9 1))).1 a = S2.1 a := fun a b1 b2 b3 b4 b5 b6 => by
    unfold gnS flN wkN gcN mkN frS acS
    repeat rw [xsR (by omega)]
  have n3 : (gnS (mkN (frS (acS S2 2 33 0) 9 1))).1 5 11 = nI 11 := rfl
  have l3 : (gnS (mkN (frS (acS S2 2 33 0) 9 1))).1 5 15 = S.1 5 15 := l2
  have ar3 : (gnS (mkN (frS (acS S2 2 33 0) 9 1))).1 50 = S.1 50 := ar2
  have c3 : (gnS (mkN (frS (acS S2 2 33 0) 9 1))).1 4 15 = nI 3 := rfl
  have k3 : ∀ c, c < 9 → (gnS (mkN (frS (acS S2 2 33 0) 9 1))).1 44 c = nI c := fun c hc => by
    unfold gnS flN wkN gcN mkN frS
    simp (config := { decide := true }) only [xsI, show ¬ c = 10 by omega, show ¬ c = 9 by omega, and_false, false_and, if_false]
    exact (F2 hc).2.2.1
  have q3 : ∀ q, ¬ q = 15 → ¬ q = 14 → (gnS (mkN (frS (acS S2 2 33 0) 9 1))).1 4 q = S.1 4 q := fun q h1 h2 => by
    rw [← q2 q h1]
    unfold gnS flN wkN gcN mkN frS acS
    simp (config := { decide := true }) only [xsI, h1, h2, and_false, false_and, if_false]
  have o3 : ∀ j, 40 ≤ j → (gnS (mkN (frS (acS S2 2 33 0) 9 1))).1 37 j = S.1 37 j := fun j hj => by
    rw [← o2 j hj]
    unfold gnS flN wkN gcN mkN frS acS
    simp (config := { decide := true }) only [xsI, show ¬ j = 33 by omega, and_false, false_and, if_false]
  have s3 : (gnS (mkN (frS (acS S2 2 33 0) 9 1))).2 = S.2 := s2
  have w3 : ∀ a, ¬ a = 4 → ¬ a = 5 → ¬ a = 35 → ¬ a = 36 → ¬ a = 37 → ¬ (44 ≤ a ∧ a ≤ 52) → (gnS (mkN (frS (acS S2 2 33 0) 9 1))).1 a = S.1 a := fun a b1 b2 b3 b4 b5 b6 => (e3 a b1 b2 b3 b4 b5 b6).trans (w2 a b1 b2 b3 b4 b5 b6)
  have F3 : Fi (gnS (mkN (frS (acS S2 2 33 0) 9 1))) 6 6 ∧ Fi (gnS (mkN (frS (acS S2 2 33 0) 9 1))) 2 2 := ⟨⟨by decide, by decide, k3 6 (by decide), Or.inl rfl⟩, ⟨by decide, by decide, k3 2 (by decide), Or.inl rfl⟩⟩
  generalize hS3 : gnS (mkN (frS (acS S2 2 33 0) 9 1)) = S3 at *
  clear e3 w2 o2 q2 k3 nt
  -- the others
  have St : ∀ (c x : Nat) (a : Int32) (S3 : xS), c < 60 → 31 ≤ x → x < 40 → S3.1 4 15 = nI c → Fi S3 6 6 → Fi S3 2 2 → S3.1 50 = S.1 50 → ∃ S4, XC SK MT (d + 3) 234 [.ref 4, .int (nI x), .int a] S3 = some (some (.int (nI c)), acS S3 c x a) ∧ XC SK MT (d + 3) 235 [.ref 4, .int (nI c), .int 6] (acS S3 c x a) = some (some (.int 1), S4) ∧ S4.1 4 15 = nI (c + 1) ∧ Fi S4 6 6 ∧ Fi S4 2 2 ∧ S4.1 50 = S.1 50 ∧ S4.1 5 11 = S3.1 5 11 ∧ S4.1 5 15 = S3.1 5 15 ∧ (∀ j, S4.1 36 j = if j = c * 5 + 4 then 0 else if j = c * 5 + 3 then S3.1 4 14 else if j = c * 5 + 2 then 6 else if j = c * 5 + 1 then a else if j = c * 5 then nI x else S3.1 36 j) ∧ (∀ j, S4.1 37 j = if j = x then nI c else S3.1 37 j) ∧ (∀ q, ¬ q = 15 → S4.1 4 q = S3.1 4 q) ∧ S4.2 = S3.2 ∧ ∀ a, ¬ a = 4 → ¬ a = 5 → ¬ a = 35 → ¬ a = 36 → ¬ a = 37 → ¬ (44 ≤ a ∧ a ≤ 52) → S4.1 a = S3.1 a := by
    intro c x a S3 hc hx1 hx2 h1 h2 h2b h3
    obtain ⟨S4, b1, b2, b3⟩ := oc_step (d := d) (x := x) (a := a) h1 hc (by omega) h2 (by rw [h3]; exact t7)
    refine ⟨S4, b1, b2, by rw [b3.r 4 (by decide)]; rfl, b3.Fi h2, b3.Fi h2b, by rw [b3.r 50 (by decide)]; exact h3, by rw [b3.2.2 _ (by decide)]; rfl, by rw [b3.2.2 _ (by decide)]; rfl, fun j => ?_, fun j => ?_, fun q hq => ?_, b3.1, fun a' b1 b2 b4 b5 b6 b7 => ?_⟩
    · rw [b3.r 36 (by decide)]
      unfold gcS acS
      simp (config := { decide := true }) only [xsI, true_and, and_true, and_false, false_and, if_false]
      rfl
    · rw [b3.r 37 (by decide)]
      unfold gcS acS
      simp (config := { decide := true }) only [xsI, true_and, and_true, and_false, false_and, if_false]
    · rw [b3.r 4 (by decide)]
      unfold gcS acS
      simp (config := { decide := true }) only [xsI, hq, true_and, and_true, and_false, false_and, if_false]
    · rw [b3.r a' ⟨b2, by omega, by omega, by omega⟩]
      unfold gcS acS
      rw [xsR b5, xsR b5, xsR b5, xsR b6, xsR b5, xsR b5, xsR b1]
  obtain ⟨S4, p4, r4, d4, e4, E4, i4, j4, k4, m4, n4, o4, s4, w4⟩ := St 3 34 1 S3 (by decide) (by decide) (by decide) c3 F3.1 F3.2 ar3
  obtain ⟨S5, p5, r5, d5, e5, E5, i5, j5, k5, m5, n5, o5, s5, w5⟩ := St 4 35 0 S4 (by decide) (by decide) (by decide) d4 e4 E4 i4
  obtain ⟨S6, p6, r6, d6, e6, E6, i6, j6, k6, m6, n6, o6, s6, w6⟩ := St 5 36 0 S5 (by decide) (by decide) (by decide) d5 e5 E5 i5
  obtain ⟨S7, p7, r7, d7, e7, E7, i7, j7, k7, m7, n7, o7, s7, w7⟩ := St 6 37 0 S6 (by decide) (by decide) (by decide) d6 e6 E6 i6
  obtain ⟨S8, p8, r8, d8, e8, E8, i8, j8, k8, m8, n8, o8, s8, w8⟩ := St 7 38 0 S7 (by decide) (by decide) (by decide) d7 e7 E7 i7
  obtain ⟨S9, p9, r9, d9, e9, E9, i9, j9, k9, m9, n9, o9, s9, w9⟩ := St 8 39 0 S8 (by decide) (by decide) (by decide) d8 e8 E8 i8
  refine ⟨S9, ?_, ?_⟩
  · have a0' : XC SK MT (d + 3) 234 [.ref 4, .int 31, .int 0] S = some (some (.int 0), acS S 0 31 0) := a0
    have g0' : XC SK MT (d + 3) 235 [.ref 4, .int 0, .int 3] (acS S 0 31 0) = some (some (.int 1), S1) := g0
    have a1' : XC SK MT (d + 3) 234 [.ref 4, .int 32, .int 0] S1 = some (some (.int 1), acS S1 1 32 0) := a1
    have g1' : XC SK MT (d + 3) 235 [.ref 4, .int 1, .int 3] (acS S1 1 32 0) = some (some (.int 1), S2) := g1
    have a2' : XC SK MT (d + 3) 234 [.ref 4, .int 33, .int 0] S2 = some (some (.int 2), acS S2 2 33 0) := a2
    have fr' : XC SK MT (d + 3) 266 [.ref 5, .int 1] (acS S2 2 33 0) = some (some (.int 9), frS (acS S2 2 33 0) 9 1) := fr
    have p4' : XC SK MT (d + 3) 234 [.ref 4, .int 34, .int 1] S3 = some (some (.int 3), acS S3 3 34 1) := p4
    have r4' : XC SK MT (d + 3) 235 [.ref 4, .int 3, .int 6] (acS S3 3 34 1) = some (some (.int 1), S4) := r4
    have p5' : XC SK MT (d + 3) 234 [.ref 4, .int 35, .int 0] S4 = some (some (.int 4), acS S4 4 35 0) := p5
    have r5' : XC SK MT (d + 3) 235 [.ref 4, .int 4, .int 6] (acS S4 4 35 0) = some (some (.int 1), S5) := r5
    have p6' : XC SK MT (d + 3) 234 [.ref 4, .int 36, .int 0] S5 = some (some (.int 5), acS S5 5 36 0) := p6
    have r6' : XC SK MT (d + 3) 235 [.ref 4, .int 5, .int 6] (acS S5 5 36 0) = some (some (.int 1), S6) := r6
    have p7' : XC SK MT (d + 3) 234 [.ref 4, .int 37, .int 0] S6 = some (some (.int 6), acS S6 6 37 0) := p7
    have r7' : XC SK MT (d + 3) 235 [.ref 4, .int 6, .int 6] (acS S6 6 37 0) = some (some (.int 1), S7) := r7
    have p8' : XC SK MT (d + 3) 234 [.ref 4, .int 38, .int 0] S7 = some (some (.int 7), acS S7 7 38 0) := p8
    have r8' : XC SK MT (d + 3) 235 [.ref 4, .int 7, .int 6] (acS S7 7 38 0) = some (some (.int 1), S8) := r8
    have p9' : XC SK MT (d + 3) 234 [.ref 4, .int 39, .int 0] S8 = some (some (.int 8), acS S8 8 39 0) := p9
    have r9' : XC SK MT (d + 3) 235 [.ref 4, .int 8, .int 6] (acS S8 8 39 0) = some (some (.int 1), S9) := r9
    rw [XC_iff]
    refine ⟨Nat.le_of_ble_eq_true rfl, ?_⟩
    show XL SK MT (d + 3) 233 (0, [some (.ref 4), none], [], S) _
    simp (config := { decide := true }) only [rX9_openCons_0, rX9_openCons_1, rX9_openCons_3, rX9_openCons_4, rX9_openCons_7, rX9_openCons_8, rX9_openCons_9, rX9_openCons_10, rX9_openCons_11, rX9_openCons_14, rX9_openCons_15, rX9_openCons_16, rX9_openCons_18, rX9_openCons_19, rX9_openCons_22, rX9_openCons_23, rX9_openCons_24, rX9_openCons_25, rX9_openCons_26, rX9_openCons_29, rX9_openCons_30, rX9_openCons_31, rX9_openCons_33, rX9_openCons_34, rX9_openCons_37, rX9_openCons_38, rX9_openCons_39, rX9_openCons_40, rX9_openCons_41, rX9_openCons_44, rX9_openCons_46, rX9_openCons_47, rX9_openCons_50, rX9_openCons_51, rX9_openCons_54, rX9_openCons_57, rX9_openCons_60, rX9_openCons_61, rX9_openCons_62, rX9_openCons_64, rX9_openCons_65, rX9_openCons_68, rX9_openCons_69, rX9_openCons_70, rX9_openCons_71, rX9_openCons_73, rX9_openCons_76, rX9_openCons_77, rX9_openCons_78, rX9_openCons_80, rX9_openCons_82, rX9_openCons_85, rX9_openCons_86, rX9_openCons_88, rX9_openCons_89, rX9_openCons_90, rX9_openCons_91, rX9_openCons_94, rX9_openCons_95, rX9_openCons_96, rX9_openCons_97, rX9_openCons_99, rX9_openCons_102, rX9_openCons_103, rX9_openCons_106, rX9_openCons_109, ↓reduceIte, m1_le, m1_lt, m1_eq, ofInt_m1, ex_ret, Int32.reduceAdd, Int32.reduceSub, Int32.reduceMul, Int32.reduceLT, Int32.reduceLE, xsI, Nat.reduceEqDiff, and_false, false_and, and_true, true_and, if_true, if_false, ite_true, ite_false, xlook_0, xlook_s, xI_int, xA_ref, xJ_long, xK_some, xRow_row, xTo_some, xst1, xclr, List.set_cons_zero, List.set_cons_succ, xsum_nil, xsum_int, xsum_ref, xsum_long, Option.toList_some, Option.toList_none, List.nil_append, List.cons_append, a0', g0', a1', g1', a2', fr', mk, gn, p4', r4']
    rw [rX9_openCons_79]
    simp (config := { decide := true }) only [rX9_openCons_0, rX9_openCons_1, rX9_openCons_3, rX9_openCons_4, rX9_openCons_7, rX9_openCons_8, rX9_openCons_9, rX9_openCons_10, rX9_openCons_11, rX9_openCons_14, rX9_openCons_15, rX9_openCons_16, rX9_openCons_18, rX9_openCons_19, rX9_openCons_22, rX9_openCons_23, rX9_openCons_24, rX9_openCons_25, rX9_openCons_26, rX9_openCons_29, rX9_openCons_30, rX9_openCons_31, rX9_openCons_33, rX9_openCons_34, rX9_openCons_37, rX9_openCons_38, rX9_openCons_39, rX9_openCons_40, rX9_openCons_41, rX9_openCons_44, rX9_openCons_46, rX9_openCons_47, rX9_openCons_50, rX9_openCons_51, rX9_openCons_54, rX9_openCons_57, rX9_openCons_60, rX9_openCons_61, rX9_openCons_62, rX9_openCons_64, rX9_openCons_65, rX9_openCons_68, rX9_openCons_69, rX9_openCons_70, rX9_openCons_71, rX9_openCons_73, rX9_openCons_76, rX9_openCons_77, rX9_openCons_78, rX9_openCons_80, rX9_openCons_82, rX9_openCons_85, rX9_openCons_86, rX9_openCons_88, rX9_openCons_89, rX9_openCons_90, rX9_openCons_91, rX9_openCons_94, rX9_openCons_95, rX9_openCons_96, rX9_openCons_97, rX9_openCons_99, rX9_openCons_102, rX9_openCons_103, rX9_openCons_106, rX9_openCons_109, ↓reduceIte, m1_le, m1_lt, m1_eq, ofInt_m1, ex_ret, Int32.reduceAdd, Int32.reduceSub, Int32.reduceMul, Int32.reduceLT, Int32.reduceLE, xsI, Nat.reduceEqDiff, and_false, false_and, and_true, true_and, if_true, if_false, ite_true, ite_false, xlook_0, xlook_s, xI_int, xA_ref, xJ_long, xK_some, xRow_row, xTo_some, xst1, xclr, List.set_cons_zero, List.set_cons_succ, xsum_nil, xsum_int, xsum_ref, xsum_long, Option.toList_some, Option.toList_none, List.nil_append, List.cons_append, p5', r5']
    rw [rX9_openCons_79]
    simp (config := { decide := true }) only [rX9_openCons_0, rX9_openCons_1, rX9_openCons_3, rX9_openCons_4, rX9_openCons_7, rX9_openCons_8, rX9_openCons_9, rX9_openCons_10, rX9_openCons_11, rX9_openCons_14, rX9_openCons_15, rX9_openCons_16, rX9_openCons_18, rX9_openCons_19, rX9_openCons_22, rX9_openCons_23, rX9_openCons_24, rX9_openCons_25, rX9_openCons_26, rX9_openCons_29, rX9_openCons_30, rX9_openCons_31, rX9_openCons_33, rX9_openCons_34, rX9_openCons_37, rX9_openCons_38, rX9_openCons_39, rX9_openCons_40, rX9_openCons_41, rX9_openCons_44, rX9_openCons_46, rX9_openCons_47, rX9_openCons_50, rX9_openCons_51, rX9_openCons_54, rX9_openCons_57, rX9_openCons_60, rX9_openCons_61, rX9_openCons_62, rX9_openCons_64, rX9_openCons_65, rX9_openCons_68, rX9_openCons_69, rX9_openCons_70, rX9_openCons_71, rX9_openCons_73, rX9_openCons_76, rX9_openCons_77, rX9_openCons_78, rX9_openCons_80, rX9_openCons_82, rX9_openCons_85, rX9_openCons_86, rX9_openCons_88, rX9_openCons_89, rX9_openCons_90, rX9_openCons_91, rX9_openCons_94, rX9_openCons_95, rX9_openCons_96, rX9_openCons_97, rX9_openCons_99, rX9_openCons_102, rX9_openCons_103, rX9_openCons_106, rX9_openCons_109, ↓reduceIte, m1_le, m1_lt, m1_eq, ofInt_m1, ex_ret, Int32.reduceAdd, Int32.reduceSub, Int32.reduceMul, Int32.reduceLT, Int32.reduceLE, xsI, Nat.reduceEqDiff, and_false, false_and, and_true, true_and, if_true, if_false, ite_true, ite_false, xlook_0, xlook_s, xI_int, xA_ref, xJ_long, xK_some, xRow_row, xTo_some, xst1, xclr, List.set_cons_zero, List.set_cons_succ, xsum_nil, xsum_int, xsum_ref, xsum_long, Option.toList_some, Option.toList_none, List.nil_append, List.cons_append, p6', r6']
    rw [rX9_openCons_79]
    simp (config := { decide := true }) only [rX9_openCons_0, rX9_openCons_1, rX9_openCons_3, rX9_openCons_4, rX9_openCons_7, rX9_openCons_8, rX9_openCons_9, rX9_openCons_10, rX9_openCons_11, rX9_openCons_14, rX9_openCons_15, rX9_openCons_16, rX9_openCons_18, rX9_openCons_19, rX9_openCons_22, rX9_openCons_23, rX9_openCons_24, rX9_openCons_25, rX9_openCons_26, rX9_openCons_29, rX9_openCons_30, rX9_openCons_31, rX9_openCons_33, rX9_openCons_34, rX9_openCons_37, rX9_openCons_38, rX9_openCons_39, rX9_openCons_40, rX9_openCons_41, rX9_openCons_44, rX9_openCons_46, rX9_openCons_47, rX9_openCons_50, rX9_openCons_51, rX9_openCons_54, rX9_openCons_57, rX9_openCons_60, rX9_openCons_61, rX9_openCons_62, rX9_openCons_64, rX9_openCons_65, rX9_openCons_68, rX9_openCons_69, rX9_openCons_70, rX9_openCons_71, rX9_openCons_73, rX9_openCons_76, rX9_openCons_77, rX9_openCons_78, rX9_openCons_80, rX9_openCons_82, rX9_openCons_85, rX9_openCons_86, rX9_openCons_88, rX9_openCons_89, rX9_openCons_90, rX9_openCons_91, rX9_openCons_94, rX9_openCons_95, rX9_openCons_96, rX9_openCons_97, rX9_openCons_99, rX9_openCons_102, rX9_openCons_103, rX9_openCons_106, rX9_openCons_109, ↓reduceIte, m1_le, m1_lt, m1_eq, ofInt_m1, ex_ret, Int32.reduceAdd, Int32.reduceSub, Int32.reduceMul, Int32.reduceLT, Int32.reduceLE, xsI, Nat.reduceEqDiff, and_false, false_and, and_true, true_and, if_true, if_false, ite_true, ite_false, xlook_0, xlook_s, xI_int, xA_ref, xJ_long, xK_some, xRow_row, xTo_some, xst1, xclr, List.set_cons_zero, List.set_cons_succ, xsum_nil, xsum_int, xsum_ref, xsum_long, Option.toList_some, Option.toList_none, List.nil_append, List.cons_append, p7', r7']
    rw [rX9_openCons_79]
    simp (config := { decide := true }) only [rX9_openCons_0, rX9_openCons_1, rX9_openCons_3, rX9_openCons_4, rX9_openCons_7, rX9_openCons_8, rX9_openCons_9, rX9_openCons_10, rX9_openCons_11, rX9_openCons_14, rX9_openCons_15, rX9_openCons_16, rX9_openCons_18, rX9_openCons_19, rX9_openCons_22, rX9_openCons_23, rX9_openCons_24, rX9_openCons_25, rX9_openCons_26, rX9_openCons_29, rX9_openCons_30, rX9_openCons_31, rX9_openCons_33, rX9_openCons_34, rX9_openCons_37, rX9_openCons_38, rX9_openCons_39, rX9_openCons_40, rX9_openCons_41, rX9_openCons_44, rX9_openCons_46, rX9_openCons_47, rX9_openCons_50, rX9_openCons_51, rX9_openCons_54, rX9_openCons_57, rX9_openCons_60, rX9_openCons_61, rX9_openCons_62, rX9_openCons_64, rX9_openCons_65, rX9_openCons_68, rX9_openCons_69, rX9_openCons_70, rX9_openCons_71, rX9_openCons_73, rX9_openCons_76, rX9_openCons_77, rX9_openCons_78, rX9_openCons_80, rX9_openCons_82, rX9_openCons_85, rX9_openCons_86, rX9_openCons_88, rX9_openCons_89, rX9_openCons_90, rX9_openCons_91, rX9_openCons_94, rX9_openCons_95, rX9_openCons_96, rX9_openCons_97, rX9_openCons_99, rX9_openCons_102, rX9_openCons_103, rX9_openCons_106, rX9_openCons_109, ↓reduceIte, m1_le, m1_lt, m1_eq, ofInt_m1, ex_ret, Int32.reduceAdd, Int32.reduceSub, Int32.reduceMul, Int32.reduceLT, Int32.reduceLE, xsI, Nat.reduceEqDiff, and_false, false_and, and_true, true_and, if_true, if_false, ite_true, ite_false, xlook_0, xlook_s, xI_int, xA_ref, xJ_long, xK_some, xRow_row, xTo_some, xst1, xclr, List.set_cons_zero, List.set_cons_succ, xsum_nil, xsum_int, xsum_ref, xsum_long, Option.toList_some, Option.toList_none, List.nil_append, List.cons_append, p8', r8']
    rw [rX9_openCons_79]
    simp (config := { decide := true }) only [rX9_openCons_0, rX9_openCons_1, rX9_openCons_3, rX9_openCons_4, rX9_openCons_7, rX9_openCons_8, rX9_openCons_9, rX9_openCons_10, rX9_openCons_11, rX9_openCons_14, rX9_openCons_15, rX9_openCons_16, rX9_openCons_18, rX9_openCons_19, rX9_openCons_22, rX9_openCons_23, rX9_openCons_24, rX9_openCons_25, rX9_openCons_26, rX9_openCons_29, rX9_openCons_30, rX9_openCons_31, rX9_openCons_33, rX9_openCons_34, rX9_openCons_37, rX9_openCons_38, rX9_openCons_39, rX9_openCons_40, rX9_openCons_41, rX9_openCons_44, rX9_openCons_46, rX9_openCons_47, rX9_openCons_50, rX9_openCons_51, rX9_openCons_54, rX9_openCons_57, rX9_openCons_60, rX9_openCons_61, rX9_openCons_62, rX9_openCons_64, rX9_openCons_65, rX9_openCons_68, rX9_openCons_69, rX9_openCons_70, rX9_openCons_71, rX9_openCons_73, rX9_openCons_76, rX9_openCons_77, rX9_openCons_78, rX9_openCons_80, rX9_openCons_82, rX9_openCons_85, rX9_openCons_86, rX9_openCons_88, rX9_openCons_89, rX9_openCons_90, rX9_openCons_91, rX9_openCons_94, rX9_openCons_95, rX9_openCons_96, rX9_openCons_97, rX9_openCons_99, rX9_openCons_102, rX9_openCons_103, rX9_openCons_106, rX9_openCons_109, ↓reduceIte, m1_le, m1_lt, m1_eq, ofInt_m1, ex_ret, Int32.reduceAdd, Int32.reduceSub, Int32.reduceMul, Int32.reduceLT, Int32.reduceLE, xsI, Nat.reduceEqDiff, and_false, false_and, and_true, true_and, if_true, if_false, ite_true, ite_false, xlook_0, xlook_s, xI_int, xA_ref, xJ_long, xK_some, xRow_row, xTo_some, xst1, xclr, List.set_cons_zero, List.set_cons_succ, xsum_nil, xsum_int, xsum_ref, xsum_long, Option.toList_some, Option.toList_none, List.nil_append, List.cons_append, p9', r9']
    rw [rX9_openCons_79]
    simp (config := { decide := true }) only [rX9_openCons_0, rX9_openCons_1, rX9_openCons_3, rX9_openCons_4, rX9_openCons_7, rX9_openCons_8, rX9_openCons_9, rX9_openCons_10, rX9_openCons_11, rX9_openCons_14, rX9_openCons_15, rX9_openCons_16, rX9_openCons_18, rX9_openCons_19, rX9_openCons_22, rX9_openCons_23, rX9_openCons_24, rX9_openCons_25, rX9_openCons_26, rX9_openCons_29, rX9_openCons_30, rX9_openCons_31, rX9_openCons_33, rX9_openCons_34, rX9_openCons_37, rX9_openCons_38, rX9_openCons_39, rX9_openCons_40, rX9_openCons_41, rX9_openCons_44, rX9_openCons_46, rX9_openCons_47, rX9_openCons_50, rX9_openCons_51, rX9_openCons_54, rX9_openCons_57, rX9_openCons_60, rX9_openCons_61, rX9_openCons_62, rX9_openCons_64, rX9_openCons_65, rX9_openCons_68, rX9_openCons_69, rX9_openCons_70, rX9_openCons_71, rX9_openCons_73, rX9_openCons_76, rX9_openCons_77, rX9_openCons_78, rX9_openCons_80, rX9_openCons_82, rX9_openCons_85, rX9_openCons_86, rX9_openCons_88, rX9_openCons_89, rX9_openCons_90, rX9_openCons_91, rX9_openCons_94, rX9_openCons_95, rX9_openCons_96, rX9_openCons_97, rX9_openCons_99, rX9_openCons_102, rX9_openCons_103, rX9_openCons_106, rX9_openCons_109, ↓reduceIte, m1_le, m1_lt, m1_eq, ofInt_m1, ex_ret, Int32.reduceAdd, Int32.reduceSub, Int32.reduceMul, Int32.reduceLT, Int32.reduceLE, xsI, Nat.reduceEqDiff, and_false, false_and, and_true, true_and, if_true, if_false, ite_true, ite_false, xlook_0, xlook_s, xI_int, xA_ref, xJ_long, xK_some, xRow_row, xTo_some, xst1, xclr, List.set_cons_zero, List.set_cons_succ, xsum_nil, xsum_int, xsum_ref, xsum_long, Option.toList_some, Option.toList_none, List.nil_append, List.cons_append]
  · refine ⟨by rw [j9, j8, j7, j6, j5, j4]; exact n3, by rw [k9, k8, k7, k6, k5, k4]; exact l3, E9, e9, i9, ?_, ?_, ?_, ?_, ?_, fun j hj => ?_, fun q h1 h2 => by rw [o9 q h1, o8 q h1, o7 q h1, o6 q h1, o5 q h1, o4 q h1]; exact q3 q h1 h2, by rw [s9, s8, s7, s6, s5, s4]; exact s3, fun a b1 b2 b3 b4 b5 b6 => by rw [w9 a b1 b2 b3 b4 b5 b6, w8 a b1 b2 b3 b4 b5 b6, w7 a b1 b2 b3 b4 b5 b6, w6 a b1 b2 b3 b4 b5 b6, w5 a b1 b2 b3 b4 b5 b6, w4 a b1 b2 b3 b4 b5 b6]; exact w3 a b1 b2 b3 b4 b5 b6⟩
    · rw [m9, m8, m7]; rfl
    · rw [m9, m8, m7]; rfl
    · rw [m9, m8, m7]; rfl
    · rw [m9, m8, m7]; rfl
    · rw [n9, n8, n7]; rfl
    · rw [n9, n8, n7, n6, n5, n4, if_neg (by omega), if_neg (by omega), if_neg (by omega), if_neg (by omega), if_neg (by omega), if_neg (by omega)]; exact o3 j hj
