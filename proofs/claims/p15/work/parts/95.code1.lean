/-! XF: rows, then what is proved of them. -/
theorem rJ9_max_7cf53_0 {d : Nat} {lv : xLV} {st : List Value} {S : xS} {r : xO} : XL SK MT d 318 (0, lv, st, S) r ↔ xI (xlook lv 0) (fun x => XL SK MT d 318 (1, lv, .int x :: st, S) r) := X_ldI rfl rfl (fun _ => rfl) rfl rfl rfl rfl
theorem rJ9_max_7cf53_1 {d : Nat} {lv : xLV} {st : List Value} {S : xS} {r : xO} : XL SK MT d 318 (1, lv, st, S) r ↔ xI (xlook lv 1) (fun x => XL SK MT d 318 (2, lv, .int x :: st, S) r) := X_ldI rfl rfl (fun _ => rfl) rfl rfl rfl rfl
theorem rJ9_max_7cf53_2 {d : Nat} {lv : xLV} {st : List Value} {S : xS} {r : xO} {x z : Int32} : XL SK MT d 318 (2, lv, .int z :: .int x :: st, S) r ↔ if x < z then XL SK MT d 318 (9, lv, st, S) r else XL SK MT d 318 (5, lv, st, S) r := (X_icmp rfl rfl).trans xc_lt
theorem rJ9_max_7cf53_5 {d : Nat} {lv : xLV} {st : List Value} {S : xS} {r : xO} : XL SK MT d 318 (5, lv, st, S) r ↔ xI (xlook lv 0) (fun x => XL SK MT d 318 (6, lv, .int x :: st, S) r) := X_ldI rfl rfl (fun _ => rfl) rfl rfl rfl rfl
theorem rJ9_max_7cf53_6 {d : Nat} {lv : xLV} {st : List Value} {S : xS} {r : xO} : XL SK MT d 318 (6, lv, st, S) r ↔ XL SK MT d 318 (10, lv, st, S) r := X_jump rfl rfl rfl
theorem rJ9_max_7cf53_9 {d : Nat} {lv : xLV} {st : List Value} {S : xS} {r : xO} : XL SK MT d 318 (9, lv, st, S) r ↔ xI (xlook lv 1) (fun x => XL SK MT d 318 (10, lv, .int x :: st, S) r) := X_ldI rfl rfl (fun _ => rfl) rfl rfl rfl rfl
theorem rJ9_max_7cf53_10 {d : Nat} {lv : xLV} {S : xS} {r : xO} {x : Int32} : XL SK MT d 318 (10, lv, [.int x], S) r ↔ (some (.int x), S) = r := X_ret rfl rfl rfl rfl rfl rfl

theorem rX2_add_0 {d : Nat} {lv : xLV} {st : List Value} {S : xS} {r : xO} : XL SK MT d 70 (0, lv, st, S) r ↔ xA (xlook lv 0) (fun x => XL SK MT d 70 (1, lv, .ref x :: st, S) r) := X_ldA rfl rfl (fun _ => rfl) rfl rfl rfl rfl
theorem rX2_add_1 {d : Nat} {lv : xLV} {st : List Value} {S : xS} {r : xO} : XL SK MT d 70 (1, lv, .ref 6 :: st, S) r ↔ XL SK MT d 70 (4, lv, .int (S.1 6 3) :: st, S) r := X_heap rfl rfl rfl rfl rfl
theorem rX2_add_4 {d : Nat} {lv : xLV} {st : List Value} {S : xS} {r : xO} {x : Int32} : XL SK MT d 70 (4, lv, .int x :: st, S) r ↔ XL SK MT d 70 (6, xst1 lv 4 (.int x), st, S) r := X_pure rfl rfl rfl
theorem rX2_add_6 {d : Nat} {lv : xLV} {st : List Value} {S : xS} {r : xO} : XL SK MT d 70 (6, lv, st, S) r ↔ xI (xlook lv 4) (fun x => XL SK MT d 70 (8, lv, .int x :: st, S) r) := X_ldI rfl rfl (fun _ => rfl) rfl rfl rfl rfl
theorem rX2_add_8 {d : Nat} {lv : xLV} {st : List Value} {S : xS} {r : xO} : XL SK MT d 70 (8, lv, st, S) r ↔ XL SK MT d 70 (10, lv, .int 65536 :: st, S) r := X_pure rfl rfl rfl
theorem rX2_add_10 {d : Nat} {lv : xLV} {st : List Value} {S : xS} {r : xO} {x z : Int32} : XL SK MT d 70 (10, lv, .int z :: .int x :: st, S) r ↔ if x < z then XL SK MT d 70 (16, lv, st, S) r else XL SK MT d 70 (13, lv, st, S) r := (X_icmp rfl rfl).trans xc_lt
theorem rX2_add_13 {d : Nat} {lv : xLV} {st : List Value} {S : xS} {r : xO} : XL SK MT d 70 (13, lv, st, S) r ↔ xI (xlook lv 4) (fun x => XL SK MT d 70 (15, lv, .int x :: st, S) r) := X_ldI rfl rfl (fun _ => rfl) rfl rfl rfl rfl
theorem rX2_add_15 {d : Nat} {lv : xLV} {S : xS} {r : xO} {x : Int32} : XL SK MT d 70 (15, lv, [.int x], S) r ↔ (some (.int x), S) = r := X_ret rfl rfl rfl rfl rfl rfl
theorem rX2_add_16 {d : Nat} {lv : xLV} {st : List Value} {S : xS} {r : xO} : XL SK MT d 70 (16, lv, st, S) r ↔ xA (xlook lv 0) (fun x => XL SK MT d 70 (17, lv, .ref x :: st, S) r) := X_ldA rfl rfl (fun _ => rfl) rfl rfl rfl rfl
theorem rX2_add_17 {d : Nat} {lv : xLV} {st : List Value} {S : xS} {r : xO} : XL SK MT d 70 (17, lv, .ref 6 :: st, S) r ↔ XL SK MT d 70 (20, lv, .ref 53 :: st, S) r := X_heap rfl rfl rfl rfl rfl
theorem rX2_add_20 {d : Nat} {lv : xLV} {st : List Value} {S : xS} {r : xO} : XL SK MT d 70 (20, lv, st, S) r ↔ xI (xlook lv 4) (fun x => XL SK MT d 70 (22, lv, .int x :: st, S) r) := X_ldI rfl rfl (fun _ => rfl) rfl rfl rfl rfl
theorem rX2_add_22 {d : Nat} {lv : xLV} {st : List Value} {S : xS} {r : xO} : XL SK MT d 70 (22, lv, st, S) r ↔ xI (xlook lv 1) (fun x => XL SK MT d 70 (23, lv, .int x :: st, S) r) := X_ldI rfl rfl (fun _ => rfl) rfl rfl rfl rfl
theorem rX2_add_23 {d : Nat} {lv : xLV} {S : xS} {r : xO} {x1 : Nat} {x2 : Int32} {x3 : Int32} : XL SK MT d 70 (23, lv, [.int x3, .int x2, .ref x1], S) r ↔ xK (XC SK MT d 304 [.ref x1, .int x2, .int x3] S) (fun v S => XL SK MT d 70 (26, lv, v.toList ++ [], S) r) := X_inv (n := 3) (kd := 1) (st0 := [.int x3, .int x2, .ref x1]) rfl (Or.inl ⟨rfl, rfl⟩) rfl (Nat.le_of_ble_eq_true rfl) (Nat.le_of_ble_eq_true rfl) (by decide) rfl
theorem rX2_add_26 {d : Nat} {lv : xLV} {st : List Value} {S : xS} {r : xO} : XL SK MT d 70 (26, lv, st, S) r ↔ xA (xlook lv 0) (fun x => XL SK MT d 70 (27, lv, .ref x :: st, S) r) := X_ldA rfl rfl (fun _ => rfl) rfl rfl rfl rfl
theorem rX2_add_27 {d : Nat} {lv : xLV} {st : List Value} {S : xS} {r : xO} : XL SK MT d 70 (27, lv, .ref 6 :: st, S) r ↔ XL SK MT d 70 (30, lv, .ref 54 :: st, S) r := X_heap rfl rfl rfl rfl rfl
theorem rX2_add_30 {d : Nat} {lv : xLV} {st : List Value} {S : xS} {r : xO} : XL SK MT d 70 (30, lv, st, S) r ↔ xI (xlook lv 4) (fun x => XL SK MT d 70 (32, lv, .int x :: st, S) r) := X_ldI rfl rfl (fun _ => rfl) rfl rfl rfl rfl
theorem rX2_add_32 {d : Nat} {lv : xLV} {st : List Value} {S : xS} {r : xO} : XL SK MT d 70 (32, lv, st, S) r ↔ xI (xlook lv 2) (fun x => XL SK MT d 70 (33, lv, .int x :: st, S) r) := X_ldI rfl rfl (fun _ => rfl) rfl rfl rfl rfl
theorem rX2_add_33 {d : Nat} {lv : xLV} {S : xS} {r : xO} {x1 : Nat} {x2 : Int32} {x3 : Int32} : XL SK MT d 70 (33, lv, [.int x3, .int x2, .ref x1], S) r ↔ xK (XC SK MT d 304 [.ref x1, .int x2, .int x3] S) (fun v S => XL SK MT d 70 (36, lv, v.toList ++ [], S) r) := X_inv (n := 3) (kd := 1) (st0 := [.int x3, .int x2, .ref x1]) rfl (Or.inl ⟨rfl, rfl⟩) rfl (Nat.le_of_ble_eq_true rfl) (Nat.le_of_ble_eq_true rfl) (by decide) rfl
theorem rX2_add_36 {d : Nat} {lv : xLV} {st : List Value} {S : xS} {r : xO} : XL SK MT d 70 (36, lv, st, S) r ↔ xA (xlook lv 0) (fun x => XL SK MT d 70 (37, lv, .ref x :: st, S) r) := X_ldA rfl rfl (fun _ => rfl) rfl rfl rfl rfl
theorem rX2_add_37 {d : Nat} {lv : xLV} {st : List Value} {S : xS} {r : xO} : XL SK MT d 70 (37, lv, .ref 6 :: st, S) r ↔ XL SK MT d 70 (40, lv, .ref 55 :: st, S) r := X_heap rfl rfl rfl rfl rfl
theorem rX2_add_40 {d : Nat} {lv : xLV} {st : List Value} {S : xS} {r : xO} : XL SK MT d 70 (40, lv, st, S) r ↔ xI (xlook lv 4) (fun x => XL SK MT d 70 (42, lv, .int x :: st, S) r) := X_ldI rfl rfl (fun _ => rfl) rfl rfl rfl rfl
theorem rX2_add_42 {d : Nat} {lv : xLV} {st : List Value} {S : xS} {r : xO} : XL SK MT d 70 (42, lv, st, S) r ↔ xI (xlook lv 3) (fun x => XL SK MT d 70 (43, lv, .int x :: st, S) r) := X_ldI rfl rfl (fun _ => rfl) rfl rfl rfl rfl
theorem rX2_add_43 {d : Nat} {lv : xLV} {S : xS} {r : xO} {x1 : Nat} {x2 : Int32} {x3 : Int32} : XL SK MT d 70 (43, lv, [.int x3, .int x2, .ref x1], S) r ↔ xK (XC SK MT d 304 [.ref x1, .int x2, .int x3] S) (fun v S => XL SK MT d 70 (46, lv, v.toList ++ [], S) r) := X_inv (n := 3) (kd := 1) (st0 := [.int x3, .int x2, .ref x1]) rfl (Or.inl ⟨rfl, rfl⟩) rfl (Nat.le_of_ble_eq_true rfl) (Nat.le_of_ble_eq_true rfl) (by decide) rfl
theorem rX2_add_46 {d : Nat} {lv : xLV} {st : List Value} {S : xS} {r : xO} : XL SK MT d 70 (46, lv, st, S) r ↔ xA (xlook lv 0) (fun x => XL SK MT d 70 (47, lv, .ref x :: st, S) r) := X_ldA rfl rfl (fun _ => rfl) rfl rfl rfl rfl
theorem riX2_add_47 {d : Nat} {lv : xLV} {st : List Value} {S : xS} {r : xO} {x : Int32} : XL SK MT d 70 (47, lv, .int x :: st, S) r ↔ XL SK MT d 70 (48, lv, .int x :: .int x :: st, S) r := X_pure rfl rfl rfl
theorem rX2_add_47 {d : Nat} {lv : xLV} {st : List Value} {S : xS} {r : xO} {x : Nat} : XL SK MT d 70 (47, lv, .ref x :: st, S) r ↔ XL SK MT d 70 (48, lv, .ref x :: .ref x :: st, S) r := X_pure rfl rfl rfl
theorem rX2_add_48 {d : Nat} {lv : xLV} {st : List Value} {S : xS} {r : xO} : XL SK MT d 70 (48, lv, .ref 6 :: st, S) r ↔ XL SK MT d 70 (51, lv, .int (S.1 6 3) :: st, S) r := X_heap rfl rfl rfl rfl rfl
theorem rX2_add_51 {d : Nat} {lv : xLV} {st : List Value} {S : xS} {r : xO} : XL SK MT d 70 (51, lv, st, S) r ↔ XL SK MT d 70 (52, lv, .int 1 :: st, S) r := X_pure rfl rfl rfl
theorem rX2_add_52 {d : Nat} {lv : xLV} {st : List Value} {S : xS} {r : xO} {x z : Int32} : XL SK MT d 70 (52, lv, .int z :: .int x :: st, S) r ↔ XL SK MT d 70 (53, lv, .int (x + z) :: st, S) r := X_pure rfl rfl rfl
theorem rX2_add_53 {d : Nat} {lv : xLV} {st : List Value} {S : xS} {r : xO} {x : Int32} : XL SK MT d 70 (53, lv, .int x :: .ref 6 :: st, S) r ↔ XL SK MT d 70 (56, lv, st, (xsetI S 6 3 x)) r := X_heap rfl rfl rfl rfl rfl
theorem rX2_add_56 {d : Nat} {lv : xLV} {st : List Value} {S : xS} {r : xO} : XL SK MT d 70 (56, lv, st, S) r ↔ xI (xlook lv 4) (fun x => XL SK MT d 70 (58, lv, .int x :: st, S) r) := X_ldI rfl rfl (fun _ => rfl) rfl rfl rfl rfl
theorem rX2_add_58 {d : Nat} {lv : xLV} {S : xS} {r : xO} {x : Int32} : XL SK MT d 70 (58, lv, [.int x], S) r ↔ (some (.int x), S) = r := X_ret rfl rfl rfl rfl rfl rfl

theorem rX2_hold_0 {d : Nat} {lv : xLV} {st : List Value} {S : xS} {r : xO} : XL SK MT d 71 (0, lv, st, S) r ↔ xA (xlook lv 0) (fun x => XL SK MT d 71 (1, lv, .ref x :: st, S) r) := X_ldA rfl rfl (fun _ => rfl) rfl rfl rfl rfl
theorem rX2_hold_1 {d : Nat} {lv : xLV} {st : List Value} {S : xS} {r : xO} : XL SK MT d 71 (1, lv, .ref 6 :: st, S) r ↔ XL SK MT d 71 (4, lv, .ref 57 :: st, S) r := X_heap rfl rfl rfl rfl rfl
theorem rX2_hold_4 {d : Nat} {lv : xLV} {st : List Value} {S : xS} {r : xO} : XL SK MT d 71 (4, lv, st, S) r ↔ xA (xlook lv 0) (fun x => XL SK MT d 71 (5, lv, .ref x :: st, S) r) := X_ldA rfl rfl (fun _ => rfl) rfl rfl rfl rfl
theorem rX2_hold_5 {d : Nat} {lv : xLV} {st : List Value} {S : xS} {r : xO} : XL SK MT d 71 (5, lv, .ref 6 :: st, S) r ↔ XL SK MT d 71 (8, lv, .int (S.1 6 14) :: st, S) r := X_heap rfl rfl rfl rfl rfl
theorem rX2_hold_8 {d : Nat} {lv : xLV} {st : List Value} {S : xS} {r : xO} : XL SK MT d 71 (8, lv, st, S) r ↔ xI (xlook lv 1) (fun x => XL SK MT d 71 (9, lv, .int x :: st, S) r) := X_ldI rfl rfl (fun _ => rfl) rfl rfl rfl rfl
theorem rX2_hold_9 {d : Nat} {lv : xLV} {S : xS} {r : xO} {x1 : Nat} {x2 : Int32} {x3 : Int32} : XL SK MT d 71 (9, lv, [.int x3, .int x2, .ref x1], S) r ↔ xK (XC SK MT d 304 [.ref x1, .int x2, .int x3] S) (fun v S => XL SK MT d 71 (12, lv, v.toList ++ [], S) r) := X_inv (n := 3) (kd := 1) (st0 := [.int x3, .int x2, .ref x1]) rfl (Or.inl ⟨rfl, rfl⟩) rfl (Nat.le_of_ble_eq_true rfl) (Nat.le_of_ble_eq_true rfl) (by decide) rfl
theorem rX2_hold_12 {d : Nat} {lv : xLV} {st : List Value} {S : xS} {r : xO} : XL SK MT d 71 (12, lv, st, S) r ↔ xA (xlook lv 0) (fun x => XL SK MT d 71 (13, lv, .ref x :: st, S) r) := X_ldA rfl rfl (fun _ => rfl) rfl rfl rfl rfl
theorem riX2_hold_13 {d : Nat} {lv : xLV} {st : List Value} {S : xS} {r : xO} {x : Int32} : XL SK MT d 71 (13, lv, .int x :: st, S) r ↔ XL SK MT d 71 (14, lv, .int x :: .int x :: st, S) r := X_pure rfl rfl rfl
theorem rX2_hold_13 {d : Nat} {lv : xLV} {st : List Value} {S : xS} {r : xO} {x : Nat} : XL SK MT d 71 (13, lv, .ref x :: st, S) r ↔ XL SK MT d 71 (14, lv, .ref x :: .ref x :: st, S) r := X_pure rfl rfl rfl
theorem rX2_hold_14 {d : Nat} {lv : xLV} {st : List Value} {S : xS} {r : xO} : XL SK MT d 71 (14, lv, .ref 6 :: st, S) r ↔ XL SK MT d 71 (17, lv, .int (S.1 6 14) :: st, S) r := X_heap rfl rfl rfl rfl rfl
theorem rX2_hold_17 {d : Nat} {lv : xLV} {st : List Value} {S : xS} {r : xO} : XL SK MT d 71 (17, lv, st, S) r ↔ XL SK MT d 71 (18, lv, .int 1 :: st, S) r := X_pure rfl rfl rfl
theorem rX2_hold_18 {d : Nat} {lv : xLV} {st : List Value} {S : xS} {r : xO} {x z : Int32} : XL SK MT d 71 (18, lv, .int z :: .int x :: st, S) r ↔ XL SK MT d 71 (19, lv, .int (x + z) :: st, S) r := X_pure rfl rfl rfl
theorem rX2_hold_19 {d : Nat} {lv : xLV} {st : List Value} {S : xS} {r : xO} {x : Int32} : XL SK MT d 71 (19, lv, .int x :: .ref 6 :: st, S) r ↔ XL SK MT d 71 (22, lv, st, (xsetI S 6 14 x)) r := X_heap rfl rfl rfl rfl rfl
theorem rX2_hold_22 {d : Nat} {lv : xLV} {S : xS} {r : xO} : XL SK MT d 71 (22, lv, [], S) r ↔ (none, S) = r := X_ret rfl rfl rfl rfl rfl rfl

theorem rX2_release_0 {d : Nat} {lv : xLV} {st : List Value} {S : xS} {r : xO} : XL SK MT d 72 (0, lv, st, S) r ↔ xA (xlook lv 0) (fun x => XL SK MT d 72 (1, lv, .ref x :: st, S) r) := X_ldA rfl rfl (fun _ => rfl) rfl rfl rfl rfl
theorem rX2_release_1 {d : Nat} {lv : xLV} {st : List Value} {S : xS} {r : xO} : XL SK MT d 72 (1, lv, .ref 6 :: st, S) r ↔ XL SK MT d 72 (4, lv, .int (S.1 6 14) :: st, S) r := X_heap rfl rfl rfl rfl rfl
theorem rX2_release_4 {d : Nat} {lv : xLV} {st : List Value} {S : xS} {r : xO} {x : Int32} : XL SK MT d 72 (4, lv, .int x :: st, S) r ↔ if x ≤ 0 then XL SK MT d 72 (17, lv, st, S) r else XL SK MT d 72 (7, lv, st, S) r := (X_if rfl rfl).trans xc_le
theorem rX2_release_7 {d : Nat} {lv : xLV} {st : List Value} {S : xS} {r : xO} : XL SK MT d 72 (7, lv, st, S) r ↔ xA (xlook lv 0) (fun x => XL SK MT d 72 (8, lv, .ref x :: st, S) r) := X_ldA rfl rfl (fun _ => rfl) rfl rfl rfl rfl
theorem riX2_release_8 {d : Nat} {lv : xLV} {st : List Value} {S : xS} {r : xO} {x : Int32} : XL SK MT d 72 (8, lv, .int x :: st, S) r ↔ XL SK MT d 72 (9, lv, .int x :: .int x :: st, S) r := X_pure rfl rfl rfl
theorem rX2_release_8 {d : Nat} {lv : xLV} {st : List Value} {S : xS} {r : xO} {x : Nat} : XL SK MT d 72 (8, lv, .ref x :: st, S) r ↔ XL SK MT d 72 (9, lv, .ref x :: .ref x :: st, S) r := X_pure rfl rfl rfl
theorem rX2_release_9 {d : Nat} {lv : xLV} {st : List Value} {S : xS} {r : xO} : XL SK MT d 72 (9, lv, .ref 6 :: st, S) r ↔ XL SK MT d 72 (12, lv, .int (S.1 6 14) :: st, S) r := X_heap rfl rfl rfl rfl rfl
theorem rX2_release_12 {d : Nat} {lv : xLV} {st : List Value} {S : xS} {r : xO} : XL SK MT d 72 (12, lv, st, S) r ↔ XL SK MT d 72 (13, lv, .int 1 :: st, S) r := X_pure rfl rfl rfl
theorem rX2_release_13 {d : Nat} {lv : xLV} {st : List Value} {S : xS} {r : xO} {x z : Int32} : XL SK MT d 72 (13, lv, .int z :: .int x :: st, S) r ↔ XL SK MT d 72 (14, lv, .int (x - z) :: st, S) r := X_pure rfl rfl rfl
theorem rX2_release_14 {d : Nat} {lv : xLV} {st : List Value} {S : xS} {r : xO} {x : Int32} : XL SK MT d 72 (14, lv, .int x :: .ref 6 :: st, S) r ↔ XL SK MT d 72 (17, lv, st, (xsetI S 6 14 x)) r := X_heap rfl rfl rfl rfl rfl
theorem rX2_release_17 {d : Nat} {lv : xLV} {st : List Value} {S : xS} {r : xO} : XL SK MT d 72 (17, lv, st, S) r ↔ xA (xlook lv 0) (fun x => XL SK MT d 72 (18, lv, .ref x :: st, S) r) := X_ldA rfl rfl (fun _ => rfl) rfl rfl rfl rfl
theorem rX2_release_18 {d : Nat} {lv : xLV} {st : List Value} {S : xS} {r : xO} : XL SK MT d 72 (18, lv, .ref 6 :: st, S) r ↔ XL SK MT d 72 (21, lv, .ref 57 :: st, S) r := X_heap rfl rfl rfl rfl rfl
theorem rX2_release_21 {d : Nat} {lv : xLV} {st : List Value} {S : xS} {r : xO} : XL SK MT d 72 (21, lv, st, S) r ↔ xA (xlook lv 0) (fun x => XL SK MT d 72 (22, lv, .ref x :: st, S) r) := X_ldA rfl rfl (fun _ => rfl) rfl rfl rfl rfl
theorem rX2_release_22 {d : Nat} {lv : xLV} {st : List Value} {S : xS} {r : xO} : XL SK MT d 72 (22, lv, .ref 6 :: st, S) r ↔ XL SK MT d 72 (25, lv, .int (S.1 6 14) :: st, S) r := X_heap rfl rfl rfl rfl rfl
theorem rX2_release_25 {d : Nat} {lv : xLV} {S : xS} {r : xO} {x1 : Nat} {x2 : Int32} : XL SK MT d 72 (25, lv, [.int x2, .ref x1], S) r ↔ xK (XC SK MT d 303 [.ref x1, .int x2] S) (fun v S => XL SK MT d 72 (28, lv, v.toList ++ [], S) r) := X_inv (n := 2) (kd := 1) (st0 := [.int x2, .ref x1]) rfl (Or.inl ⟨rfl, rfl⟩) rfl (Nat.le_of_ble_eq_true rfl) (Nat.le_of_ble_eq_true rfl) (by decide) rfl
theorem rX2_release_28 {d : Nat} {lv : xLV} {S : xS} {r : xO} {x : Int32} : XL SK MT d 72 (28, lv, [.int x], S) r ↔ (some (.int x), S) = r := X_ret rfl rfl rfl rfl rfl rfl

theorem rX2_land_0 {d : Nat} {lv : xLV} {st : List Value} {S : xS} {r : xO} : XL SK MT d 73 (0, lv, st, S) r ↔ xA (xlook lv 0) (fun x => XL SK MT d 73 (1, lv, .ref x :: st, S) r) := X_ldA rfl rfl (fun _ => rfl) rfl rfl rfl rfl
theorem rX2_land_1 {d : Nat} {lv : xLV} {st : List Value} {S : xS} {r : xO} : XL SK MT d 73 (1, lv, .ref 6 :: st, S) r ↔ XL SK MT d 73 (4, lv, .ref 54 :: st, S) r := X_heap rfl rfl rfl rfl rfl
theorem rX2_land_4 {d : Nat} {lv : xLV} {st : List Value} {S : xS} {r : xO} : XL SK MT d 73 (4, lv, st, S) r ↔ xI (xlook lv 1) (fun x => XL SK MT d 73 (5, lv, .int x :: st, S) r) := X_ldI rfl rfl (fun _ => rfl) rfl rfl rfl rfl
theorem rX2_land_5 {d : Nat} {lv : xLV} {st : List Value} {S : xS} {r : xO} : XL SK MT d 73 (5, lv, st, S) r ↔ xA (xlook lv 0) (fun x => XL SK MT d 73 (6, lv, .ref x :: st, S) r) := X_ldA rfl rfl (fun _ => rfl) rfl rfl rfl rfl
theorem rX2_land_6 {d : Nat} {lv : xLV} {st : List Value} {S : xS} {r : xO} : XL SK MT d 73 (6, lv, .ref 6 :: st, S) r ↔ XL SK MT d 73 (9, lv, .int (S.1 6 3) :: st, S) r := X_heap rfl rfl rfl rfl rfl
theorem rX2_land_9 {d : Nat} {lv : xLV} {S : xS} {r : xO} {x1 : Nat} {x2 : Int32} {x3 : Int32} : XL SK MT d 73 (9, lv, [.int x3, .int x2, .ref x1], S) r ↔ xK (XC SK MT d 304 [.ref x1, .int x2, .int x3] S) (fun v S => XL SK MT d 73 (12, lv, v.toList ++ [], S) r) := X_inv (n := 3) (kd := 1) (st0 := [.int x3, .int x2, .ref x1]) rfl (Or.inl ⟨rfl, rfl⟩) rfl (Nat.le_of_ble_eq_true rfl) (Nat.le_of_ble_eq_true rfl) (by decide) rfl
theorem rX2_land_12 {d : Nat} {lv : xLV} {S : xS} {r : xO} : XL SK MT d 73 (12, lv, [], S) r ↔ (none, S) = r := X_ret rfl rfl rfl rfl rfl rfl

theorem rX2_constant_0 {d : Nat} {lv : xLV} {st : List Value} {S : xS} {r : xO} : XL SK MT d 74 (0, lv, st, S) r ↔ xA (xlook lv 0) (fun x => XL SK MT d 74 (1, lv, .ref x :: st, S) r) := X_ldA rfl rfl (fun _ => rfl) rfl rfl rfl rfl
theorem rX2_constant_1 {d : Nat} {lv : xLV} {st : List Value} {S : xS} {r : xO} : XL SK MT d 74 (1, lv, st, S) r ↔ XL SK MT d 74 (2, lv, .int 1 :: st, S) r := X_pure rfl rfl rfl
theorem rX2_constant_2 {d : Nat} {lv : xLV} {st : List Value} {S : xS} {r : xO} : XL SK MT d 74 (2, lv, st, S) r ↔ xI (xlook lv 1) (fun x => XL SK MT d 74 (3, lv, .int x :: st, S) r) := X_ldI rfl rfl (fun _ => rfl) rfl rfl rfl rfl
theorem rX2_constant_3 {d : Nat} {lv : xLV} {st : List Value} {S : xS} {r : xO} : XL SK MT d 74 (3, lv, st, S) r ↔ XL SK MT d 74 (4, lv, .int 0 :: st, S) r := X_pure rfl rfl rfl
theorem rX2_constant_4 {d : Nat} {lv : xLV} {S : xS} {r : xO} {x1 : Int32} {x2 : Int32} {x3 : Int32} : XL SK MT d 74 (4, lv, [.int x3, .int x2, .int x1, .ref 6], S) r ↔ xK (XC SK MT d 70 [.ref 6, .int x1, .int x2, .int x3] S) (fun v S => XL SK MT d 74 (7, lv, v.toList ++ [], S) r) := X_inv (n := 4) (kd := 4) (st0 := [.int x3, .int x2, .int x1, .ref 6]) rfl (Or.inr ⟨rfl, rfl⟩) rfl (Nat.le_of_ble_eq_true rfl) (Nat.le_of_ble_eq_true rfl) (by decide) rfl
theorem rX2_constant_7 {d : Nat} {lv : xLV} {st : List Value} {S : xS} {r : xO} {x : Int32} : XL SK MT d 74 (7, lv, .int x :: st, S) r ↔ XL SK MT d 74 (8, lv, st, S) r := X_pure rfl rfl rfl
theorem rX2_constant_8 {d : Nat} {lv : xLV} {st : List Value} {S : xS} {r : xO} : XL SK MT d 74 (8, lv, st, S) r ↔ xA (xlook lv 0) (fun x => XL SK MT d 74 (9, lv, .ref x :: st, S) r) := X_ldA rfl rfl (fun _ => rfl) rfl rfl rfl rfl
theorem riX2_constant_9 {d : Nat} {lv : xLV} {st : List Value} {S : xS} {r : xO} {x : Int32} : XL SK MT d 74 (9, lv, .int x :: st, S) r ↔ XL SK MT d 74 (10, lv, .int x :: .int x :: st, S) r := X_pure rfl rfl rfl
theorem rX2_constant_9 {d : Nat} {lv : xLV} {st : List Value} {S : xS} {r : xO} {x : Nat} : XL SK MT d 74 (9, lv, .ref x :: st, S) r ↔ XL SK MT d 74 (10, lv, .ref x :: .ref x :: st, S) r := X_pure rfl rfl rfl
theorem rX2_constant_10 {d : Nat} {lv : xLV} {st : List Value} {S : xS} {r : xO} : XL SK MT d 74 (10, lv, .ref 6 :: st, S) r ↔ XL SK MT d 74 (13, lv, .int (S.1 6 16) :: st, S) r := X_heap rfl rfl rfl rfl rfl
theorem rX2_constant_13 {d : Nat} {lv : xLV} {st : List Value} {S : xS} {r : xO} : XL SK MT d 74 (13, lv, st, S) r ↔ XL SK MT d 74 (14, lv, .int 1 :: st, S) r := X_pure rfl rfl rfl
theorem rX2_constant_14 {d : Nat} {lv : xLV} {st : List Value} {S : xS} {r : xO} {x z : Int32} : XL SK MT d 74 (14, lv, .int z :: .int x :: st, S) r ↔ XL SK MT d 74 (15, lv, .int (x + z) :: st, S) r := X_pure rfl rfl rfl
theorem rX2_constant_15 {d : Nat} {lv : xLV} {st : List Value} {S : xS} {r : xO} {x : Int32} : XL SK MT d 74 (15, lv, .int x :: .ref 6 :: st, S) r ↔ XL SK MT d 74 (18, lv, st, (xsetI S 6 16 x)) r := X_heap rfl rfl rfl rfl rfl
theorem rX2_constant_18 {d : Nat} {lv : xLV} {S : xS} {r : xO} : XL SK MT d 74 (18, lv, [], S) r ↔ (none, S) = r := X_ret rfl rfl rfl rfl rfl rfl

theorem rX2_source_0 {d : Nat} {lv : xLV} {st : List Value} {S : xS} {r : xO} : XL SK MT d 81 (0, lv, st, S) r ↔ xA (xlook lv 0) (fun x => XL SK MT d 81 (1, lv, .ref x :: st, S) r) := X_ldA rfl rfl (fun _ => rfl) rfl rfl rfl rfl
theorem rX2_source_1 {d : Nat} {lv : xLV} {st : List Value} {S : xS} {r : xO} : XL SK MT d 81 (1, lv, .ref 6 :: st, S) r ↔ XL SK MT d 81 (4, lv, .ref 58 :: st, S) r := X_heap rfl rfl rfl rfl rfl
theorem rX2_source_4 {d : Nat} {lv : xLV} {st : List Value} {S : xS} {r : xO} : XL SK MT d 81 (4, lv, st, S) r ↔ xI (xlook lv 1) (fun x => XL SK MT d 81 (5, lv, .int x :: st, S) r) := X_ldI rfl rfl (fun _ => rfl) rfl rfl rfl rfl
theorem rX2_source_5 {d : Nat} {lv : xLV} {S : xS} {r : xO} {x1 : Nat} {x2 : Int32} : XL SK MT d 81 (5, lv, [.int x2, .ref x1], S) r ↔ xK (XC SK MT d 303 [.ref x1, .int x2] S) (fun v S => XL SK MT d 81 (8, lv, v.toList ++ [], S) r) := X_inv (n := 2) (kd := 1) (st0 := [.int x2, .ref x1]) rfl (Or.inl ⟨rfl, rfl⟩) rfl (Nat.le_of_ble_eq_true rfl) (Nat.le_of_ble_eq_true rfl) (by decide) rfl
theorem rX2_source_8 {d : Nat} {lv : xLV} {st : List Value} {S : xS} {r : xO} : XL SK MT d 81 (8, lv, st, S) r ↔ xA (xlook lv 0) (fun x => XL SK MT d 81 (9, lv, .ref x :: st, S) r) := X_ldA rfl rfl (fun _ => rfl) rfl rfl rfl rfl
theorem rX2_source_9 {d : Nat} {lv : xLV} {st : List Value} {S : xS} {r : xO} : XL SK MT d 81 (9, lv, .ref 6 :: st, S) r ↔ XL SK MT d 81 (12, lv, .int (S.1 6 15) :: st, S) r := X_heap rfl rfl rfl rfl rfl
theorem rX2_source_12 {d : Nat} {lv : xLV} {st : List Value} {S : xS} {r : xO} {x z : Int32} : XL SK MT d 81 (12, lv, .int z :: .int x :: st, S) r ↔ if ¬ x = z then XL SK MT d 81 (24, lv, st, S) r else XL SK MT d 81 (15, lv, st, S) r := (X_icmp rfl rfl).trans xc_ne
theorem rX2_source_15 {d : Nat} {lv : xLV} {st : List Value} {S : xS} {r : xO} : XL SK MT d 81 (15, lv, st, S) r ↔ xA (xlook lv 0) (fun x => XL SK MT d 81 (16, lv, .ref x :: st, S) r) := X_ldA rfl rfl (fun _ => rfl) rfl rfl rfl rfl
theorem rX2_source_16 {d : Nat} {lv : xLV} {st : List Value} {S : xS} {r : xO} : XL SK MT d 81 (16, lv, .ref 6 :: st, S) r ↔ XL SK MT d 81 (19, lv, .ref 59 :: st, S) r := X_heap rfl rfl rfl rfl rfl
theorem rX2_source_19 {d : Nat} {lv : xLV} {st : List Value} {S : xS} {r : xO} : XL SK MT d 81 (19, lv, st, S) r ↔ xI (xlook lv 1) (fun x => XL SK MT d 81 (20, lv, .int x :: st, S) r) := X_ldI rfl rfl (fun _ => rfl) rfl rfl rfl rfl
theorem rX2_source_20 {d : Nat} {lv : xLV} {S : xS} {r : xO} {x1 : Nat} {x2 : Int32} : XL SK MT d 81 (20, lv, [.int x2, .ref x1], S) r ↔ xK (XC SK MT d 303 [.ref x1, .int x2] S) (fun v S => XL SK MT d 81 (23, lv, v.toList ++ [], S) r) := X_inv (n := 2) (kd := 1) (st0 := [.int x2, .ref x1]) rfl (Or.inl ⟨rfl, rfl⟩) rfl (Nat.le_of_ble_eq_true rfl) (Nat.le_of_ble_eq_true rfl) (by decide) rfl
theorem rX2_source_23 {d : Nat} {lv : xLV} {S : xS} {r : xO} {x : Int32} : XL SK MT d 81 (23, lv, [.int x], S) r ↔ (some (.int x), S) = r := X_ret rfl rfl rfl rfl rfl rfl
theorem rX2_source_24 {d : Nat} {lv : xLV} {st : List Value} {S : xS} {r : xO} : XL SK MT d 81 (24, lv, st, S) r ↔ xA (xlook lv 0) (fun x => XL SK MT d 81 (25, lv, .ref x :: st, S) r) := X_ldA rfl rfl (fun _ => rfl) rfl rfl rfl rfl
theorem rX2_source_25 {d : Nat} {lv : xLV} {st : List Value} {S : xS} {r : xO} : XL SK MT d 81 (25, lv, .ref 6 :: st, S) r ↔ XL SK MT d 81 (28, lv, .ref 4 :: st, S) r := X_heap rfl rfl rfl rfl rfl
theorem rX2_source_28 {d : Nat} {lv : xLV} {st : List Value} {S : xS} {r : xO} : XL SK MT d 81 (28, lv, st, S) r ↔ xA (xlook lv 0) (fun x => XL SK MT d 81 (29, lv, .ref x :: st, S) r) := X_ldA rfl rfl (fun _ => rfl) rfl rfl rfl rfl
theorem rX2_source_29 {d : Nat} {lv : xLV} {st : List Value} {S : xS} {r : xO} : XL SK MT d 81 (29, lv, .ref 6 :: st, S) r ↔ XL SK MT d 81 (32, lv, .int (S.1 6 15) :: st, S) r := X_heap rfl rfl rfl rfl rfl
theorem rX2_source_32 {d : Nat} {lv : xLV} {S : xS} {r : xO} {x1 : Int32} : XL SK MT d 81 (32, lv, [.int x1, .ref 4], S) r ↔ xK (XC SK MT d 262 [.ref 4, .int x1] S) (fun v S => XL SK MT d 81 (35, lv, v.toList ++ [], S) r) := X_inv (n := 2) (kd := 11) (st0 := [.int x1, .ref 4]) rfl (Or.inr ⟨rfl, rfl⟩) rfl (Nat.le_of_ble_eq_true rfl) (Nat.le_of_ble_eq_true rfl) (by decide) rfl
theorem rX2_source_35 {d : Nat} {lv : xLV} {st : List Value} {S : xS} {r : xO} : XL SK MT d 81 (35, lv, st, S) r ↔ xI (xlook lv 1) (fun x => XL SK MT d 81 (36, lv, .int x :: st, S) r) := X_ldI rfl rfl (fun _ => rfl) rfl rfl rfl rfl
theorem rX2_source_36 {d : Nat} {lv : xLV} {st : List Value} {S : xS} {r : xO} {x z : Int32} : XL SK MT d 81 (36, lv, .int z :: .int x :: st, S) r ↔ if ¬ x = z then XL SK MT d 81 (66, lv, st, S) r else XL SK MT d 81 (39, lv, st, S) r := (X_icmp rfl rfl).trans xc_ne
theorem rX2_source_39 {d : Nat} {lv : xLV} {st : List Value} {S : xS} {r : xO} : XL SK MT d 81 (39, lv, st, S) r ↔ xA (xlook lv 0) (fun x => XL SK MT d 81 (40, lv, .ref x :: st, S) r) := X_ldA rfl rfl (fun _ => rfl) rfl rfl rfl rfl
theorem rX2_source_40 {d : Nat} {lv : xLV} {st : List Value} {S : xS} {r : xO} : XL SK MT d 81 (40, lv, st, S) r ↔ xI (xlook lv 1) (fun x => XL SK MT d 81 (41, lv, .int x :: st, S) r) := X_ldI rfl rfl (fun _ => rfl) rfl rfl rfl rfl
theorem rX2_source_41 {d : Nat} {lv : xLV} {S : xS} {r : xO} {x1 : Int32} : XL SK MT d 81 (41, lv, [.int x1, .ref 6], S) r ↔ xK (XC SK MT d 82 [.ref 6, .int x1] S) (fun v S => XL SK MT d 81 (44, lv, v.toList ++ [], S) r) := X_inv (n := 2) (kd := 4) (st0 := [.int x1, .ref 6]) rfl (Or.inr ⟨rfl, rfl⟩) rfl (Nat.le_of_ble_eq_true rfl) (Nat.le_of_ble_eq_true rfl) (by decide) rfl
theorem rX2_source_44 {d : Nat} {lv : xLV} {st : List Value} {S : xS} {r : xO} : XL SK MT d 81 (44, lv, st, S) r ↔ XL SK MT d 81 (45, lv, .int 1 :: st, S) r := X_pure rfl rfl rfl
theorem rX2_source_45 {d : Nat} {lv : xLV} {st : List Value} {S : xS} {r : xO} {x z : Int32} : XL SK MT d 81 (45, lv, .int z :: .int x :: st, S) r ↔ if x ≤ z then XL SK MT d 81 (64, lv, st, S) r else XL SK MT d 81 (48, lv, st, S) r := (X_icmp rfl rfl).trans xc_le
theorem rX2_source_48 {d : Nat} {lv : xLV} {st : List Value} {S : xS} {r : xO} : XL SK MT d 81 (48, lv, st, S) r ↔ xA (xlook lv 0) (fun x => XL SK MT d 81 (49, lv, .ref x :: st, S) r) := X_ldA rfl rfl (fun _ => rfl) rfl rfl rfl rfl
theorem rX2_source_49 {d : Nat} {lv : xLV} {st : List Value} {S : xS} {r : xO} : XL SK MT d 81 (49, lv, .ref 6 :: st, S) r ↔ XL SK MT d 81 (52, lv, .ref 4 :: st, S) r := X_heap rfl rfl rfl rfl rfl
theorem rX2_source_52 {d : Nat} {lv : xLV} {st : List Value} {S : xS} {r : xO} : XL SK MT d 81 (52, lv, st, S) r ↔ xA (xlook lv 0) (fun x => XL SK MT d 81 (53, lv, .ref x :: st, S) r) := X_ldA rfl rfl (fun _ => rfl) rfl rfl rfl rfl
theorem rX2_source_53 {d : Nat} {lv : xLV} {st : List Value} {S : xS} {r : xO} : XL SK MT d 81 (53, lv, .ref 6 :: st, S) r ↔ XL SK MT d 81 (56, lv, .int (S.1 6 15) :: st, S) r := X_heap rfl rfl rfl rfl rfl
theorem rX2_source_56 {d : Nat} {lv : xLV} {S : xS} {r : xO} {x1 : Int32} : XL SK MT d 81 (56, lv, [.int x1, .ref 4], S) r ↔ xK (XC SK MT d 260 [.ref 4, .int x1] S) (fun v S => XL SK MT d 81 (59, lv, v.toList ++ [], S) r) := X_inv (n := 2) (kd := 11) (st0 := [.int x1, .ref 4]) rfl (Or.inr ⟨rfl, rfl⟩) rfl (Nat.le_of_ble_eq_true rfl) (Nat.le_of_ble_eq_true rfl) (by decide) rfl
theorem rX2_source_59 {d : Nat} {lv : xLV} {st : List Value} {S : xS} {r : xO} : XL SK MT d 81 (59, lv, st, S) r ↔ XL SK MT d 81 (60, lv, .int (-1) :: st, S) r := X_pure rfl rfl rfl
theorem rX2_source_60 {d : Nat} {lv : xLV} {st : List Value} {S : xS} {r : xO} {x z : Int32} : XL SK MT d 81 (60, lv, .int z :: .int x :: st, S) r ↔ XL SK MT d 81 (61, lv, .int (x ^^^ z) :: st, S) r := X_pure rfl rfl rfl
theorem rX2_source_61 {d : Nat} {lv : xLV} {st : List Value} {S : xS} {r : xO} : XL SK MT d 81 (61, lv, st, S) r ↔ XL SK MT d 81 (65, lv, st, S) r := X_jump rfl rfl rfl
theorem rX2_source_64 {d : Nat} {lv : xLV} {st : List Value} {S : xS} {r : xO} : XL SK MT d 81 (64, lv, st, S) r ↔ XL SK MT d 81 (65, lv, .int 0 :: st, S) r := X_pure rfl rfl rfl
theorem rX2_source_65 {d : Nat} {lv : xLV} {S : xS} {r : xO} {x : Int32} : XL SK MT d 81 (65, lv, [.int x], S) r ↔ (some (.int x), S) = r := X_ret rfl rfl rfl rfl rfl rfl
theorem rX2_source_66 {d : Nat} {lv : xLV} {st : List Value} {S : xS} {r : xO} : XL SK MT d 81 (66, lv, st, S) r ↔ xA (xlook lv 0) (fun x => XL SK MT d 81 (67, lv, .ref x :: st, S) r) := X_ldA rfl rfl (fun _ => rfl) rfl rfl rfl rfl
theorem rX2_source_67 {d : Nat} {lv : xLV} {st : List Value} {S : xS} {r : xO} : XL SK MT d 81 (67, lv, .ref 6 :: st, S) r ↔ XL SK MT d 81 (70, lv, .ref 4 :: st, S) r := X_heap rfl rfl rfl rfl rfl
theorem rX2_source_70 {d : Nat} {lv : xLV} {st : List Value} {S : xS} {r : xO} : XL SK MT d 81 (70, lv, st, S) r ↔ xA (xlook lv 0) (fun x => XL SK MT d 81 (71, lv, .ref x :: st, S) r) := X_ldA rfl rfl (fun _ => rfl) rfl rfl rfl rfl
theorem rX2_source_71 {d : Nat} {lv : xLV} {st : List Value} {S : xS} {r : xO} : XL SK MT d 81 (71, lv, .ref 6 :: st, S) r ↔ XL SK MT d 81 (74, lv, .int (S.1 6 15) :: st, S) r := X_heap rfl rfl rfl rfl rfl
theorem rX2_source_74 {d : Nat} {lv : xLV} {st : List Value} {S : xS} {r : xO} : XL SK MT d 81 (74, lv, st, S) r ↔ xI (xlook lv 1) (fun x => XL SK MT d 81 (75, lv, .int x :: st, S) r) := X_ldI rfl rfl (fun _ => rfl) rfl rfl rfl rfl
theorem rX2_source_75 {d : Nat} {lv : xLV} {S : xS} {r : xO} {x1 : Int32} {x2 : Int32} : XL SK MT d 81 (75, lv, [.int x2, .int x1, .ref 4], S) r ↔ xK (XC SK MT d 256 [.ref 4, .int x1, .int x2] S) (fun v S => XL SK MT d 81 (78, lv, v.toList ++ [], S) r) := X_inv (n := 3) (kd := 11) (st0 := [.int x2, .int x1, .ref 4]) rfl (Or.inr ⟨rfl, rfl⟩) rfl (Nat.le_of_ble_eq_true rfl) (Nat.le_of_ble_eq_true rfl) (by decide) rfl
theorem rX2_source_78 {d : Nat} {lv : xLV} {st : List Value} {S : xS} {r : xO} : XL SK MT d 81 (78, lv, st, S) r ↔ XL SK MT d 81 (79, lv, .int (-1) :: st, S) r := X_pure rfl rfl rfl
theorem rX2_source_79 {d : Nat} {lv : xLV} {st : List Value} {S : xS} {r : xO} {x z : Int32} : XL SK MT d 81 (79, lv, .int z :: .int x :: st, S) r ↔ XL SK MT d 81 (80, lv, .int (x ^^^ z) :: st, S) r := X_pure rfl rfl rfl
theorem rX2_source_80 {d : Nat} {lv : xLV} {S : xS} {r : xO} {x : Int32} : XL SK MT d 81 (80, lv, [.int x], S) r ↔ (some (.int x), S) = r := X_ret rfl rfl rfl rfl rfl rfl

theorem rX2_name_0 {d : Nat} {lv : xLV} {st : List Value} {S : xS} {r : xO} : XL SK MT d 80 (0, lv, st, S) r ↔ xI (xlook lv 1) (fun x => XL SK MT d 80 (1, lv, .int x :: st, S) r) := X_ldI rfl rfl (fun _ => rfl) rfl rfl rfl rfl
theorem rX2_name_1 {d : Nat} {lv : xLV} {st : List Value} {S : xS} {r : xO} : XL SK MT d 80 (1, lv, st, S) r ↔ XL SK MT d 80 (3, lv, .int 131072 :: st, S) r := X_pure rfl rfl rfl
theorem rX2_name_3 {d : Nat} {lv : xLV} {st : List Value} {S : xS} {r : xO} {x z : Int32} : XL SK MT d 80 (3, lv, .int z :: .int x :: st, S) r ↔ if x < z then XL SK MT d 80 (23, lv, st, S) r else XL SK MT d 80 (6, lv, st, S) r := (X_icmp rfl rfl).trans xc_lt
theorem rX2_name_6 {d : Nat} {lv : xLV} {st : List Value} {S : xS} {r : xO} : XL SK MT d 80 (6, lv, st, S) r ↔ xA (xlook lv 0) (fun x => XL SK MT d 80 (7, lv, .ref x :: st, S) r) := X_ldA rfl rfl (fun _ => rfl) rfl rfl rfl rfl
theorem rX2_name_7 {d : Nat} {lv : xLV} {st : List Value} {S : xS} {r : xO} : XL SK MT d 80 (7, lv, st, S) r ↔ xI (xlook lv 1) (fun x => XL SK MT d 80 (8, lv, .int x :: st, S) r) := X_ldI rfl rfl (fun _ => rfl) rfl rfl rfl rfl
theorem rX2_name_8 {d : Nat} {lv : xLV} {st : List Value} {S : xS} {r : xO} : XL SK MT d 80 (8, lv, st, S) r ↔ XL SK MT d 80 (10, lv, .int 131072 :: st, S) r := X_pure rfl rfl rfl
theorem rX2_name_10 {d : Nat} {lv : xLV} {st : List Value} {S : xS} {r : xO} {x z : Int32} : XL SK MT d 80 (10, lv, .int z :: .int x :: st, S) r ↔ XL SK MT d 80 (11, lv, .int (x - z) :: st, S) r := X_pure rfl rfl rfl
theorem rX2_name_11 {d : Nat} {lv : xLV} {st : List Value} {S : xS} {r : xO} : XL SK MT d 80 (11, lv, st, S) r ↔ XL SK MT d 80 (12, lv, .int 4 :: st, S) r := X_pure rfl rfl rfl
theorem rX2_name_12 {d : Nat} {lv : xLV} {st : List Value} {S : xS} {r : xO} {x z : Int32} : XL SK MT d 80 (12, lv, .int z :: .int x :: st, S) r ↔ XL SK MT d 80 (13, lv, .int (x * z) :: st, S) r := X_pure rfl rfl rfl
theorem rX2_name_13 {d : Nat} {lv : xLV} {st : List Value} {S : xS} {r : xO} : XL SK MT d 80 (13, lv, st, S) r ↔ XL SK MT d 80 (16, lv, .int 8194 :: st, S) r := X_pure rfl rfl rfl
theorem rX2_name_16 {d : Nat} {lv : xLV} {st : List Value} {S : xS} {r : xO} {x z : Int32} : XL SK MT d 80 (16, lv, .int z :: .int x :: st, S) r ↔ XL SK MT d 80 (17, lv, .int (x + z) :: st, S) r := X_pure rfl rfl rfl
theorem rX2_name_17 {d : Nat} {lv : xLV} {S : xS} {r : xO} {x1 : Int32} : XL SK MT d 80 (17, lv, [.int x1, .ref 6], S) r ↔ xK (XC SK MT d 74 [.ref 6, .int x1] S) (fun v S => XL SK MT d 80 (20, lv, v.toList ++ [], S) r) := X_inv (n := 2) (kd := 4) (st0 := [.int x1, .ref 6]) rfl (Or.inr ⟨rfl, rfl⟩) rfl (Nat.le_of_ble_eq_true rfl) (Nat.le_of_ble_eq_true rfl) (by decide) rfl
theorem rX2_name_20 {d : Nat} {lv : xLV} {st : List Value} {S : xS} {r : xO} : XL SK MT d 80 (20, lv, st, S) r ↔ XL SK MT d 80 (104, lv, st, S) r := X_jump rfl rfl rfl
theorem rX2_name_23 {d : Nat} {lv : xLV} {st : List Value} {S : xS} {r : xO} : XL SK MT d 80 (23, lv, st, S) r ↔ xI (xlook lv 1) (fun x => XL SK MT d 80 (24, lv, .int x :: st, S) r) := X_ldI rfl rfl (fun _ => rfl) rfl rfl rfl rfl
theorem rX2_name_24 {d : Nat} {lv : xLV} {st : List Value} {S : xS} {r : xO} : XL SK MT d 80 (24, lv, st, S) r ↔ XL SK MT d 80 (26, lv, .int 65536 :: st, S) r := X_pure rfl rfl rfl
theorem rX2_name_26 {d : Nat} {lv : xLV} {st : List Value} {S : xS} {r : xO} {x z : Int32} : XL SK MT d 80 (26, lv, .int z :: .int x :: st, S) r ↔ if x < z then XL SK MT d 80 (63, lv, st, S) r else XL SK MT d 80 (29, lv, st, S) r := (X_icmp rfl rfl).trans xc_lt
theorem rX2_name_29 {d : Nat} {lv : xLV} {st : List Value} {S : xS} {r : xO} : XL SK MT d 80 (29, lv, st, S) r ↔ xI (xlook lv 1) (fun x => XL SK MT d 80 (30, lv, .int x :: st, S) r) := X_ldI rfl rfl (fun _ => rfl) rfl rfl rfl rfl
theorem rX2_name_30 {d : Nat} {lv : xLV} {st : List Value} {S : xS} {r : xO} : XL SK MT d 80 (30, lv, st, S) r ↔ XL SK MT d 80 (32, lv, .int 65536 :: st, S) r := X_pure rfl rfl rfl
theorem rX2_name_32 {d : Nat} {lv : xLV} {st : List Value} {S : xS} {r : xO} {x z : Int32} : XL SK MT d 80 (32, lv, .int z :: .int x :: st, S) r ↔ XL SK MT d 80 (33, lv, .int (x - z) :: st, S) r := X_pure rfl rfl rfl
theorem rX2_name_33 {d : Nat} {lv : xLV} {st : List Value} {S : xS} {r : xO} {x : Int32} : XL SK MT d 80 (33, lv, .int x :: st, S) r ↔ XL SK MT d 80 (34, xst1 lv 2 (.int x), st, S) r := X_pure rfl rfl rfl
theorem rX2_name_34 {d : Nat} {lv : xLV} {st : List Value} {S : xS} {r : xO} : XL SK MT d 80 (34, lv, st, S) r ↔ xA (xlook lv 0) (fun x => XL SK MT d 80 (35, lv, .ref x :: st, S) r) := X_ldA rfl rfl (fun _ => rfl) rfl rfl rfl rfl
theorem rX2_name_35 {d : Nat} {lv : xLV} {st : List Value} {S : xS} {r : xO} : XL SK MT d 80 (35, lv, st, S) r ↔ xI (xlook lv 2) (fun x => XL SK MT d 80 (36, lv, .int x :: st, S) r) := X_ldI rfl rfl (fun _ => rfl) rfl rfl rfl rfl
theorem rX2_name_36 {d : Nat} {lv : xLV} {st : List Value} {S : xS} {r : xO} : XL SK MT d 80 (36, lv, st, S) r ↔ XL SK MT d 80 (37, lv, .int 4 :: st, S) r := X_pure rfl rfl rfl
theorem rX2_name_37 {d : Nat} {lv : xLV} {st : List Value} {S : xS} {r : xO} {x z : Int32} : XL SK MT d 80 (37, lv, .int z :: .int x :: st, S) r ↔ XL SK MT d 80 (38, lv, .int (x * z) :: st, S) r := X_pure rfl rfl rfl
theorem rX2_name_38 {d : Nat} {lv : xLV} {st : List Value} {S : xS} {r : xO} : XL SK MT d 80 (38, lv, st, S) r ↔ xA (xlook lv 0) (fun x => XL SK MT d 80 (39, lv, .ref x :: st, S) r) := X_ldA rfl rfl (fun _ => rfl) rfl rfl rfl rfl
theorem rX2_name_39 {d : Nat} {lv : xLV} {st : List Value} {S : xS} {r : xO} : XL SK MT d 80 (39, lv, .ref 6 :: st, S) r ↔ XL SK MT d 80 (42, lv, .ref 4 :: st, S) r := X_heap rfl rfl rfl rfl rfl
theorem rX2_name_42 {d : Nat} {lv : xLV} {st : List Value} {S : xS} {r : xO} : XL SK MT d 80 (42, lv, st, S) r ↔ xI (xlook lv 2) (fun x => XL SK MT d 80 (43, lv, .int x :: st, S) r) := X_ldI rfl rfl (fun _ => rfl) rfl rfl rfl rfl
theorem rX2_name_43 {d : Nat} {lv : xLV} {S : xS} {r : xO} {x1 : Int32} {u1 : Int32} {u2 : Nat} : XL SK MT d 80 (43, lv, [.int x1, .ref 4, .int u1, .ref u2], S) r ↔ xK (XC SK MT d 238 [.ref 4, .int x1] S) (fun v S => XL SK MT d 80 (46, lv, v.toList ++ [.int u1, .ref u2], S) r) := X_inv (n := 2) (kd := 11) (st0 := [.int x1, .ref 4, .int u1, .ref u2]) rfl (Or.inr ⟨rfl, rfl⟩) rfl (Nat.le_of_ble_eq_true rfl) (Nat.le_of_ble_eq_true rfl) (by decide) rfl
theorem rX2_name_46 {d : Nat} {lv : xLV} {st : List Value} {S : xS} {r : xO} {x : Int32} : XL SK MT d 80 (46, lv, .int x :: st, S) r ↔ if x = 0 then XL SK MT d 80 (55, lv, st, S) r else XL SK MT d 80 (49, lv, st, S) r := (X_if rfl rfl).trans xc_eq
theorem rX2_name_49 {d : Nat} {lv : xLV} {st : List Value} {S : xS} {r : xO} : XL SK MT d 80 (49, lv, st, S) r ↔ XL SK MT d 80 (52, lv, .int 4098 :: st, S) r := X_pure rfl rfl rfl
theorem rX2_name_52 {d : Nat} {lv : xLV} {st : List Value} {S : xS} {r : xO} : XL SK MT d 80 (52, lv, st, S) r ↔ XL SK MT d 80 (56, lv, st, S) r := X_jump rfl rfl rfl
theorem rX2_name_55 {d : Nat} {lv : xLV} {st : List Value} {S : xS} {r : xO} : XL SK MT d 80 (55, lv, st, S) r ↔ XL SK MT d 80 (56, lv, .int 2 :: st, S) r := X_pure rfl rfl rfl
theorem rX2_name_56 {d : Nat} {lv : xLV} {st : List Value} {S : xS} {r : xO} {x z : Int32} : XL SK MT d 80 (56, lv, .int z :: .int x :: st, S) r ↔ XL SK MT d 80 (57, lv, .int (x + z) :: st, S) r := X_pure rfl rfl rfl
theorem rX2_name_57 {d : Nat} {lv : xLV} {S : xS} {r : xO} {x1 : Int32} : XL SK MT d 80 (57, lv, [.int x1, .ref 6], S) r ↔ xK (XC SK MT d 74 [.ref 6, .int x1] S) (fun v S => XL SK MT d 80 (60, lv, v.toList ++ [], S) r) := X_inv (n := 2) (kd := 4) (st0 := [.int x1, .ref 6]) rfl (Or.inr ⟨rfl, rfl⟩) rfl (Nat.le_of_ble_eq_true rfl) (Nat.le_of_ble_eq_true rfl) (by decide) rfl
theorem rX2_name_60 {d : Nat} {lv : xLV} {st : List Value} {S : xS} {r : xO} : XL SK MT d 80 (60, lv, st, S) r ↔ XL SK MT d 80 (104, lv, st, S) r := X_jump rfl rfl rfl
theorem rX2_name_63 {d : Nat} {lv : xLV} {st : List Value} {S : xS} {r : xO} : XL SK MT d 80 (63, lv, st, S) r ↔ xA (xlook lv 0) (fun x => XL SK MT d 80 (64, lv, .ref x :: st, S) r) := X_ldA rfl rfl (fun _ => rfl) rfl rfl rfl rfl
theorem rX2_name_64 {d : Nat} {lv : xLV} {st : List Value} {S : xS} {r : xO} : XL SK MT d 80 (64, lv, st, S) r ↔ xI (xlook lv 1) (fun x => XL SK MT d 80 (65, lv, .int x :: st, S) r) := X_ldI rfl rfl (fun _ => rfl) rfl rfl rfl rfl
theorem rX2_name_65 {d : Nat} {lv : xLV} {S : xS} {r : xO} {x1 : Int32} : XL SK MT d 80 (65, lv, [.int x1, .ref 6], S) r ↔ xK (XC SK MT d 81 [.ref 6, .int x1] S) (fun v S => XL SK MT d 80 (68, lv, v.toList ++ [], S) r) := X_inv (n := 2) (kd := 4) (st0 := [.int x1, .ref 6]) rfl (Or.inr ⟨rfl, rfl⟩) rfl (Nat.le_of_ble_eq_true rfl) (Nat.le_of_ble_eq_true rfl) (by decide) rfl
theorem rX2_name_68 {d : Nat} {lv : xLV} {st : List Value} {S : xS} {r : xO} {x : Int32} : XL SK MT d 80 (68, lv, .int x :: st, S) r ↔ XL SK MT d 80 (69, xst1 lv 2 (.int x), st, S) r := X_pure rfl rfl rfl
theorem rX2_name_69 {d : Nat} {lv : xLV} {st : List Value} {S : xS} {r : xO} : XL SK MT d 80 (69, lv, st, S) r ↔ xI (xlook lv 2) (fun x => XL SK MT d 80 (70, lv, .int x :: st, S) r) := X_ldI rfl rfl (fun _ => rfl) rfl rfl rfl rfl
theorem rX2_name_70 {d : Nat} {lv : xLV} {st : List Value} {S : xS} {r : xO} {x : Int32} : XL SK MT d 80 (70, lv, .int x :: st, S) r ↔ if x < 0 then XL SK MT d 80 (84, lv, st, S) r else XL SK MT d 80 (73, lv, st, S) r := (X_if rfl rfl).trans xc_lt
theorem rX2_name_73 {d : Nat} {lv : xLV} {st : List Value} {S : xS} {r : xO} : XL SK MT d 80 (73, lv, st, S) r ↔ xA (xlook lv 0) (fun x => XL SK MT d 80 (74, lv, .ref x :: st, S) r) := X_ldA rfl rfl (fun _ => rfl) rfl rfl rfl rfl
theorem rX2_name_74 {d : Nat} {lv : xLV} {st : List Value} {S : xS} {r : xO} : XL SK MT d 80 (74, lv, st, S) r ↔ XL SK MT d 80 (75, lv, .int 3 :: st, S) r := X_pure rfl rfl rfl
theorem rX2_name_75 {d : Nat} {lv : xLV} {st : List Value} {S : xS} {r : xO} : XL SK MT d 80 (75, lv, st, S) r ↔ xI (xlook lv 2) (fun x => XL SK MT d 80 (76, lv, .int x :: st, S) r) := X_ldI rfl rfl (fun _ => rfl) rfl rfl rfl rfl
theorem rX2_name_76 {d : Nat} {lv : xLV} {st : List Value} {S : xS} {r : xO} : XL SK MT d 80 (76, lv, st, S) r ↔ XL SK MT d 80 (77, lv, .int 0 :: st, S) r := X_pure rfl rfl rfl
theorem rX2_name_77 {d : Nat} {lv : xLV} {S : xS} {r : xO} {x1 : Int32} {x2 : Int32} {x3 : Int32} : XL SK MT d 80 (77, lv, [.int x3, .int x2, .int x1, .ref 6], S) r ↔ xK (XC SK MT d 70 [.ref 6, .int x1, .int x2, .int x3] S) (fun v S => XL SK MT d 80 (80, lv, v.toList ++ [], S) r) := X_inv (n := 4) (kd := 4) (st0 := [.int x3, .int x2, .int x1, .ref 6]) rfl (Or.inr ⟨rfl, rfl⟩) rfl (Nat.le_of_ble_eq_true rfl) (Nat.le_of_ble_eq_true rfl) (by decide) rfl
theorem rX2_name_80 {d : Nat} {lv : xLV} {st : List Value} {S : xS} {r : xO} {x : Int32} : XL SK MT d 80 (80, lv, .int x :: st, S) r ↔ XL SK MT d 80 (81, lv, st, S) r := X_pure rfl rfl rfl
theorem rX2_name_81 {d : Nat} {lv : xLV} {st : List Value} {S : xS} {r : xO} : XL SK MT d 80 (81, lv, st, S) r ↔ XL SK MT d 80 (94, lv, st, S) r := X_jump rfl rfl rfl
theorem rX2_name_84 {d : Nat} {lv : xLV} {st : List Value} {S : xS} {r : xO} : XL SK MT d 80 (84, lv, st, S) r ↔ xA (xlook lv 0) (fun x => XL SK MT d 80 (85, lv, .ref x :: st, S) r) := X_ldA rfl rfl (fun _ => rfl) rfl rfl rfl rfl
theorem rX2_name_85 {d : Nat} {lv : xLV} {st : List Value} {S : xS} {r : xO} : XL SK MT d 80 (85, lv, st, S) r ↔ XL SK MT d 80 (86, lv, .int 4 :: st, S) r := X_pure rfl rfl rfl
theorem rX2_name_86 {d : Nat} {lv : xLV} {st : List Value} {S : xS} {r : xO} : XL SK MT d 80 (86, lv, st, S) r ↔ xI (xlook lv 2) (fun x => XL SK MT d 80 (87, lv, .int x :: st, S) r) := X_ldI rfl rfl (fun _ => rfl) rfl rfl rfl rfl
theorem rX2_name_87 {d : Nat} {lv : xLV} {st : List Value} {S : xS} {r : xO} : XL SK MT d 80 (87, lv, st, S) r ↔ XL SK MT d 80 (88, lv, .int (-1) :: st, S) r := X_pure rfl rfl rfl
theorem rX2_name_88 {d : Nat} {lv : xLV} {st : List Value} {S : xS} {r : xO} {x z : Int32} : XL SK MT d 80 (88, lv, .int z :: .int x :: st, S) r ↔ XL SK MT d 80 (89, lv, .int (x ^^^ z) :: st, S) r := X_pure rfl rfl rfl
theorem rX2_name_89 {d : Nat} {lv : xLV} {st : List Value} {S : xS} {r : xO} : XL SK MT d 80 (89, lv, st, S) r ↔ XL SK MT d 80 (90, lv, .int 0 :: st, S) r := X_pure rfl rfl rfl
theorem rX2_name_90 {d : Nat} {lv : xLV} {S : xS} {r : xO} {x1 : Int32} {x2 : Int32} {x3 : Int32} : XL SK MT d 80 (90, lv, [.int x3, .int x2, .int x1, .ref 6], S) r ↔ xK (XC SK MT d 70 [.ref 6, .int x1, .int x2, .int x3] S) (fun v S => XL SK MT d 80 (93, lv, v.toList ++ [], S) r) := X_inv (n := 4) (kd := 4) (st0 := [.int x3, .int x2, .int x1, .ref 6]) rfl (Or.inr ⟨rfl, rfl⟩) rfl (Nat.le_of_ble_eq_true rfl) (Nat.le_of_ble_eq_true rfl) (by decide) rfl
theorem rX2_name_93 {d : Nat} {lv : xLV} {st : List Value} {S : xS} {r : xO} {x : Int32} : XL SK MT d 80 (93, lv, .int x :: st, S) r ↔ XL SK MT d 80 (94, lv, st, S) r := X_pure rfl rfl rfl
theorem rX2_name_94 {d : Nat} {lv : xLV} {st : List Value} {S : xS} {r : xO} : XL SK MT d 80 (94, lv, st, S) r ↔ xA (xlook lv 0) (fun x => XL SK MT d 80 (95, lv, .ref x :: st, S) r) := X_ldA rfl rfl (fun _ => rfl) rfl rfl rfl rfl
theorem riX2_name_95 {d : Nat} {lv : xLV} {st : List Value} {S : xS} {r : xO} {x : Int32} : XL SK MT d 80 (95, lv, .int x :: st, S) r ↔ XL SK MT d 80 (96, lv, .int x :: .int x :: st, S) r := X_pure rfl rfl rfl
theorem rX2_name_95 {d : Nat} {lv : xLV} {st : List Value} {S : xS} {r : xO} {x : Nat} : XL SK MT d 80 (95, lv, .ref x :: st, S) r ↔ XL SK MT d 80 (96, lv, .ref x :: .ref x :: st, S) r := X_pure rfl rfl rfl
theorem rX2_name_96 {d : Nat} {lv : xLV} {st : List Value} {S : xS} {r : xO} : XL SK MT d 80 (96, lv, .ref 6 :: st, S) r ↔ XL SK MT d 80 (99, lv, .int (S.1 6 16) :: st, S) r := X_heap rfl rfl rfl rfl rfl
theorem rX2_name_99 {d : Nat} {lv : xLV} {st : List Value} {S : xS} {r : xO} : XL SK MT d 80 (99, lv, st, S) r ↔ XL SK MT d 80 (100, lv, .int 1 :: st, S) r := X_pure rfl rfl rfl
theorem rX2_name_100 {d : Nat} {lv : xLV} {st : List Value} {S : xS} {r : xO} {x z : Int32} : XL SK MT d 80 (100, lv, .int z :: .int x :: st, S) r ↔ XL SK MT d 80 (101, lv, .int (x + z) :: st, S) r := X_pure rfl rfl rfl
theorem rX2_name_101 {d : Nat} {lv : xLV} {st : List Value} {S : xS} {r : xO} {x : Int32} : XL SK MT d 80 (101, lv, .int x :: .ref 6 :: st, S) r ↔ XL SK MT d 80 (104, lv, st, (xsetI S 6 16 x)) r := X_heap rfl rfl rfl rfl rfl
theorem rX2_name_104 {d : Nat} {lv : xLV} {S : xS} {r : xO} : XL SK MT d 80 (104, lv, [], S) r ↔ (none, S) = r := X_ret rfl rfl rfl rfl rfl rfl

/-! Coder: orders, holds. -/
theorem s_max {d : Nat} {a b : Int32} {S : xS} : XC SK MT (d + 1) 318 [.int a, .int b] S = some (some (.int (if a < b then b else a)), S) := by
  rw [XC_iff]
  refine ⟨Nat.le_of_ble_eq_true rfl, ?_⟩
  show XL SK MT d 318 (0, [some (.int a), some (.int b)], [], S) _
  by_cases h : a < b <;> simp (config := { decide := true }) only [rJ9_max_7cf53_0, rJ9_max_7cf53_1, rJ9_max_7cf53_2, rJ9_max_7cf53_5, rJ9_max_7cf53_6, rJ9_max_7cf53_9, rJ9_max_7cf53_10, ↓reduceIte, m1_le, m1_lt, m1_eq, ofInt_m1, ex_ret, Int32.reduceAdd, Int32.reduceSub, Int32.reduceMul, Int32.reduceLT, Int32.reduceLE, xsI, Nat.reduceEqDiff, and_false, false_and, and_true, true_and, if_true, if_false, ite_true, ite_false, xlook_0, xlook_s, xI_int, xA_ref, xJ_long, xK_some, xRow_row, xTo_some, xst1, xclr, List.set_cons_zero, List.set_cons_succ, xsum_nil, xsum_int, xsum_ref, xsum_long, Option.toList_some, Option.toList_none, List.nil_append, List.cons_append, h]
abbrev Or3 := Int32 × Int32 × Int32
/-- the orders: what, say, more -/
def CO (S : xS) (os : List Or3) : Prop := S.1 6 3 = nI os.length ∧ ∀ i (o : Or3), os[i]? = some o → S.1 53 i = o.1 ∧ S.1 54 i = o.2.1 ∧ S.1 55 i = o.2.2
def oaS (S : xS) (n : Nat) (a b c : Int32) : xS := xsetI (xsetI (xsetI (xsetI S 53 n a) 54 n b) 55 n c) 6 3 (nI (n + 1))
set_option maxHeartbeats 4000000 in
set_option maxRecDepth 100000 in
theorem s_oadd {d n : Nat} {S : xS} {a b c : Int32} (hm : S.1 6 3 = nI n) (h : n < 60000) : XC SK MT (d + 2) 70 [.ref 6, .int a, .int b, .int c] S = some (some (.int (nI n)), oaS S n a b c) := by
  have h1 : nI n < (65536 : Int32) := nI_lt (b := 65536) (by omega) (by decide)
  rw [XC_iff]
  refine ⟨Nat.le_of_ble_eq_true rfl, ?_⟩
  show XL SK MT (d + 1) 70 (0, [some (.ref 6), some (.int a), some (.int b), some (.int c), none], [], S) _
  simp (config := { decide := true }) only [rX2_add_0, rX2_add_1, rX2_add_4, rX2_add_6, rX2_add_8, rX2_add_10, rX2_add_13, rX2_add_15, rX2_add_16, rX2_add_17, rX2_add_20, rX2_add_22, rX2_add_23, rX2_add_26, rX2_add_27, rX2_add_30, rX2_add_32, rX2_add_33, rX2_add_36, rX2_add_37, rX2_add_40, rX2_add_42, rX2_add_43, rX2_add_46, riX2_add_47, rX2_add_47, rX2_add_48, rX2_add_51, rX2_add_52, rX2_add_53, rX2_add_56, rX2_add_58, ↓reduceIte, m1_le, m1_lt, m1_eq, ofInt_m1, ex_ret, Int32.reduceAdd, Int32.reduceSub, Int32.reduceMul, Int32.reduceLT, Int32.reduceLE, xsI, Nat.reduceEqDiff, and_false, false_and, and_true, true_and, if_true, if_false, ite_true, ite_false, xlook_0, xlook_s, xI_int, xA_ref, xJ_long, xK_some, xRow_row, xTo_some, xst1, xclr, List.set_cons_zero, List.set_cons_succ, xsum_nil, xsum_int, xsum_ref, xsum_long, Option.toList_some, Option.toList_none, List.nil_append, List.cons_append, hm, h1, s_at (show SK[53]? = some (.inl (0, 65536)) from rfl) (by decide : 65536 < 2 ^ 31), s_put (show SK[53]? = some (.inl (0, 65536)) from rfl) (by decide : 65536 < 2 ^ 31), s_at (show SK[54]? = some (.inl (0, 65536)) from rfl) (by decide : 65536 < 2 ^ 31), s_put (show SK[54]? = some (.inl (0, 65536)) from rfl) (by decide : 65536 < 2 ^ 31), s_at (show SK[55]? = some (.inl (0, 65536)) from rfl) (by decide : 65536 < 2 ^ 31), s_put (show SK[55]? = some (.inl (0, 65536)) from rfl) (by decide : 65536 < 2 ^ 31), xput_in, show n < 65536 by omega, nA1]
  rfl
theorem CO.of {S S1 : xS} {os : List Or3} (h : CO S os) (h1 : S1.1 6 3 = S.1 6 3) (h2 : S1.1 53 = S.1 53) (h3 : S1.1 54 = S.1 54) (h4 : S1.1 55 = S.1 55) : CO S1 os := ⟨by rw [h1]; exact h.1, fun i o q => by rw [h2, h3, h4]; exact h.2 i o q⟩
theorem CO.add {S : xS} {os : List Or3} {a b c : Int32} (h : CO S os) : CO (oaS S os.length a b c) (os ++ [(a, b, c)]) := by
  refine ⟨?_, fun i m q => ?_⟩
  · unfold oaS
    rw [xsI, if_pos ⟨rfl, rfl⟩, List.length_append]
    rfl
  · unfold oaS
    rcases Nat.lt_or_ge i os.length with z | z
    · rw [List.getElem?_append_left z] at q
      obtain ⟨h1, h2, h3⟩ := h.2 i m q
      have hne : ¬ i = os.length := by omega
      simp (config := { decide := true }) only [xsI, hne, and_false, false_and, if_false]
      exact ⟨h1, h2, h3⟩
    · rw [List.getElem?_append_right z] at q
      have hi : i = os.length := by
        have := (List.getElem?_eq_some_iff.mp q).1
        rw [List.length_singleton] at this
        omega
      subst hi
      rw [Nat.sub_self] at q
      obtain rfl : (a, b, c) = m := Option.some.inj q
      simp (config := { decide := true }) only [xsI, and_false, false_and, true_and, and_self, if_true, if_false]
theorem CO.at {S : xS} {a b : List Or3} {o : Or3} (h : CO S (a ++ o :: b)) : S.1 53 a.length = o.1 ∧ S.1 54 a.length = o.2.1 ∧ S.1 55 a.length = o.2.2 := h.2 a.length o (by rw [List.getElem?_append_right (Nat.le_refl _), Nat.sub_self]; rfl)
theorem CO.set {S S1 : xS} {a b : List Or3} {o o' : Or3} (h : CO S (a ++ o :: b)) (h0 : S1.1 6 3 = S.1 6 3) (h1 : ∀ i, ¬ i = a.length → S1.1 53 i = S.1 53 i ∧ S1.1 54 i = S.1 54 i ∧ S1.1 55 i = S.1 55 i) (h2 : S1.1 53 a.length = o'.1 ∧ S1.1 54 a.length = o'.2.1 ∧ S1.1 55 a.length = o'.2.2) : CO S1 (a ++ o' :: b) := by
  refine ⟨by rw [h0, List.length_append, List.length_cons]; have := h.1; rw [List.length_append, List.length_cons] at this; exact this, fun i q hq => ?_⟩
  rcases Nat.lt_trichotomy i a.length with z | z | z
  · rw [List.getElem?_append_left z] at hq
    obtain ⟨g1, g2, g3⟩ := h1 i (by omega)
    rw [g1, g2, g3]
    exact h.2 i q (by rw [List.getElem?_append_left z]; exact hq)
  · subst z
    rw [List.getElem?_append_right (Nat.le_refl _), Nat.sub_self] at hq
    obtain rfl : o' = q := Option.some.inj hq
    exact h2
  · have e : ∀ x : Or3, (a ++ x :: b)[i]? = b[i - a.length - 1]? := fun x => by
      rw [List.getElem?_append_right (by omega)]
      obtain ⟨j, hj⟩ : ∃ j, i - a.length = j + 1 := ⟨i - a.length - 1, by omega⟩
      rw [hj, List.getElem?_cons_succ, Nat.add_sub_cancel]
    rw [e] at hq
    obtain ⟨g1, g2, g3⟩ := h1 i (by omega)
    rw [g1, g2, g3]
    exact h.2 i q (by rw [e]; exact hq)
/-- where the coder is: orders laid, words on the pile, what is held -/
def CT (S : xS) (os : List Or3) (dep : Nat) (hl : List Int32) : Prop := CO S os ∧ S.1 6 16 = nI dep ∧ S.1 6 15 = 0 ∧ S.1 6 14 = nI hl.length ∧ hl.length ≤ 50 ∧ ∀ i x, hl[i]? = some x → S.1 57 i = x
/-- what is left as it is -/
def FrX (S S1 : xS) : Prop := S1.2 = S.2 ∧ ∀ a, ¬ (a = 6 ∨ (53 ≤ a ∧ a ≤ 57) ∨ a = 60) → S1.1 a = S.1 a
theorem FrX.trans {S S1 S2 : xS} (h : FrX S S1) (h2 : FrX S1 S2) : FrX S S2 := ⟨h2.1.trans h.1, fun a ha => (h2.2 a ha).trans (h.2 a ha)⟩
theorem FrX_set {S : xS} {a0 k : Nat} {x : Int32} (h : a0 = 6 ∨ (53 ≤ a0 ∧ a0 ≤ 57) ∨ a0 = 60) : FrX S (xsetI S a0 k x) := ⟨rfl, fun a ha => by rw [xsR (by omega)]⟩
/-- and the patterns' own fields, too -/
def FrY (S S1 : xS) : Prop := FrX S S1 ∧ ∀ q, 17 ≤ q → S1.1 6 q = S.1 6 q
theorem FrY.refl {S : xS} : FrY S S := ⟨⟨rfl, fun _ _ => rfl⟩, fun _ _ => rfl⟩
theorem FrY.trans {S S1 S2 : xS} (h : FrY S S1) (h2 : FrY S1 S2) : FrY S S2 := ⟨h.1.trans h2.1, fun q hq => (h2.2 q hq).trans (h.2 q hq)⟩
theorem FrY_set {S : xS} {a0 k : Nat} {x : Int32} (h : (a0 = 6 ∧ k < 17) ∨ (53 ≤ a0 ∧ a0 ≤ 57) ∨ a0 = 60) : FrY S (xsetI S a0 k x) := ⟨FrX_set (by omega), fun q hq => by rw [xsI, if_neg (by omega)]⟩
theorem FrX.MK {S S1 : xS} {ms : List Mk} (hf : FrX S S1) (h : MK S ms) : MK S1 ms :=
  ⟨by rw [hf.2 2 (by decide)]; exact h.1, fun i m q => by rw [hf.2 22 (by decide), hf.2 23 (by decide), hf.2 25 (by decide), hf.2 26 (by decide)]; exact h.2 i m q⟩
theorem ct_add {d : Nat} {S : xS} {os : List Or3} {dep : Nat} {hl : List Int32} (h : CT S os dep hl) (hn : os.length < 60000) (a b c : Int32) : ∃ S1, XC SK MT (d + 2) 70 [.ref 6, .int a, .int b, .int c] S = some (some (.int (nI os.length)), S1) ∧ CT S1 (os ++ [(a, b, c)]) dep hl ∧ FrY S S1 := by
  obtain ⟨h1, h2, h3, h4, h5, h6⟩ := h
  refine ⟨_, s_oadd h1.1 hn, ⟨h1.add, h2, h3, h4, h5, h6⟩, ?_⟩
  unfold oaS
  exact (FrY_set (by omega)).trans ((FrY_set (by omega)).trans ((FrY_set (by omega)).trans (FrY_set (by omega))))
theorem ct_hold {d : Nat} {S : xS} {os : List Or3} {dep : Nat} {hl : List Int32} (h : CT S os dep hl) (hn : hl.length < 50) (x : Int32) : ∃ S1, XC SK MT (d + 2) 71 [.ref 6, .int x] S = some (none, S1) ∧ CT S1 os dep (hl ++ [x]) ∧ FrY S S1 := by
  obtain ⟨h1, h2, h3, h4, h5, h6⟩ := h
  refine ⟨xsetI (xsetI S 57 hl.length x) 6 14 (nI (hl.length + 1)), ?_, ⟨h1, h2, h3, by rw [List.length_append]; rfl, by rw [List.length_append, List.length_singleton]; omega, fun i y hy => ?_⟩, (FrY_set (by omega)).trans (FrY_set (by omega))⟩
  · rw [XC_iff]
    refine ⟨Nat.le_of_ble_eq_true rfl, ?_⟩
    show XL SK MT (d + 1) 71 (0, [some (.ref 6), some (.int x)], [], S) _
    simp (config := { decide := true }) only [rX2_hold_0, rX2_hold_1, rX2_hold_4, rX2_hold_5, rX2_hold_8, rX2_hold_9, rX2_hold_12, riX2_hold_13, rX2_hold_13, rX2_hold_14, rX2_hold_17, rX2_hold_18, rX2_hold_19, rX2_hold_22, ↓reduceIte, m1_le, m1_lt, m1_eq, ofInt_m1, ex_ret, Int32.reduceAdd, Int32.reduceSub, Int32.reduceMul, Int32.reduceLT, Int32.reduceLE, xsI, Nat.reduceEqDiff, and_false, false_and, and_true, true_and, if_true, if_false, ite_true, ite_false, xlook_0, xlook_s, xI_int, xA_ref, xJ_long, xK_some, xRow_row, xTo_some, xst1, xclr, List.set_cons_zero, List.set_cons_succ, xsum_nil, xsum_int, xsum_ref, xsum_long, Option.toList_some, Option.toList_none, List.nil_append, List.cons_append, h4, s_at (show SK[57]? = some (.inl (0, 16384)) from rfl) (by decide : 16384 < 2 ^ 31), s_put (show SK[57]? = some (.inl (0, 16384)) from rfl) (by decide : 16384 < 2 ^ 31), xput_in, show hl.length < 16384 by omega, nA1]
  · rcases Nat.lt_or_ge i hl.length with z | z
    · rw [List.getElem?_append_left z] at hy
      simp (config := { decide := true }) only [xsI, show ¬ i = hl.length by omega, and_false, false_and, if_false]
      exact h6 i y hy
    · rw [List.getElem?_append_right z] at hy
      have hi : i = hl.length := by have := (List.getElem?_eq_some_iff.mp hy).1; rw [List.length_singleton] at this; omega
      subst hi
      rw [Nat.sub_self] at hy
      obtain rfl : x = y := Option.some.inj hy
      simp (config := { decide := true }) only [xsI, and_self, false_and, if_true, if_false]
theorem ct_release {d : Nat} {S : xS} {os : List Or3} {dep : Nat} {hl : List Int32} {x : Int32} (h : CT S os dep (hl ++ [x])) : ∃ S1, XC SK MT (d + 2) 72 [.ref 6] S = some (some (.int x), S1) ∧ CT S1 os dep hl ∧ FrY S S1 := by
  obtain ⟨h1, h2, h3, h4, h5, h6⟩ := h
  rw [List.length_append, List.length_singleton] at h4 h5
  have hx := h6 hl.length x (by rw [List.getElem?_append_right (Nat.le_refl _), Nat.sub_self]; rfl)
  have h0 := nI_np (t := hl.length) (by omega)
  refine ⟨xsetI S 6 14 (nI hl.length), ?_, ⟨h1, h2, h3, rfl, by omega, fun i y hy => h6 i y (by rw [List.getElem?_append_left (List.getElem?_eq_some_iff.mp hy).1]; exact hy)⟩, FrY_set (by omega)⟩
  rw [XC_iff]
  refine ⟨Nat.le_of_ble_eq_true rfl, ?_⟩
  show XL SK MT (d + 1) 72 (0, [some (.ref 6)], [], S) _
  simp (config := { decide := true }) only [rX2_release_0, rX2_release_1, rX2_release_4, rX2_release_7, riX2_release_8, rX2_release_8, rX2_release_9, rX2_release_12, rX2_release_13, rX2_release_14, rX2_release_17, rX2_release_18, rX2_release_21, rX2_release_22, rX2_release_25, rX2_release_28, ↓reduceIte, m1_le, m1_lt, m1_eq, ofInt_m1, ex_ret, Int32.reduceAdd, Int32.reduceSub, Int32.reduceMul, Int32.reduceLT, Int32.reduceLE, xsI, Nat.reduceEqDiff, and_false, false_and, and_true, true_and, if_true, if_false, ite_true, ite_false, xlook_0, xlook_s, xI_int, xA_ref, xJ_long, xK_some, xRow_row, xTo_some, xst1, xclr, List.set_cons_zero, List.set_cons_succ, xsum_nil, xsum_int, xsum_ref, xsum_long, Option.toList_some, Option.toList_none, List.nil_append, List.cons_append, h4, h0, nS1, s_at (show SK[57]? = some (.inl (0, 16384)) from rfl) (by decide : 16384 < 2 ^ 31), s_put (show SK[57]? = some (.inl (0, 16384)) from rfl) (by decide : 16384 < 2 ^ 31), xat_in, show hl.length < 16384 by omega, hx]
/-- an order jumps to here -/
theorem ct_land {d : Nat} {S : xS} {a b : List Or3} {o : Or3} {dep : Nat} {hl : List Int32} (h : CT S (a ++ o :: b) dep hl) (hn : (a ++ o :: b).length < 60000) : ∃ S1, XC SK MT (d + 2) 73 [.ref 6, .int (nI a.length)] S = some (none, S1) ∧ CT S1 (a ++ (o.1, nI (a ++ o :: b).length, o.2.2) :: b) dep hl ∧ FrY S S1 := by
  obtain ⟨h1, h2, h3, h4, h5, h6⟩ := h
  have hl2 : a.length < 65536 := by rw [List.length_append, List.length_cons] at hn; omega
  refine ⟨xsetI S 54 a.length (nI (a ++ o :: b).length), ?_, ⟨h1.set rfl (fun i hi => ⟨rfl, by rw [xsI, if_neg (fun z => hi z.2)], rfl⟩) ⟨h1.at.1, by rw [xsI, if_pos ⟨rfl, rfl⟩], h1.at.2.2⟩, h2, h3, h4, h5, h6⟩, FrY_set (by omega)⟩
  rw [XC_iff]
  refine ⟨Nat.le_of_ble_eq_true rfl, ?_⟩
  show XL SK MT (d + 1) 73 (0, [some (.ref 6), some (.int (nI a.length))], [], S) _
  simp (config := { decide := true }) only [rX2_land_0, rX2_land_1, rX2_land_4, rX2_land_5, rX2_land_6, rX2_land_9, rX2_land_12, ↓reduceIte, m1_le, m1_lt, m1_eq, ofInt_m1, ex_ret, Int32.reduceAdd, Int32.reduceSub, Int32.reduceMul, Int32.reduceLT, Int32.reduceLE, xsI, Nat.reduceEqDiff, and_false, false_and, and_true, true_and, if_true, if_false, ite_true, ite_false, xlook_0, xlook_s, xI_int, xA_ref, xJ_long, xK_some, xRow_row, xTo_some, xst1, xclr, List.set_cons_zero, List.set_cons_succ, xsum_nil, xsum_int, xsum_ref, xsum_long, Option.toList_some, Option.toList_none, List.nil_append, List.cons_append, h1.1, s_at (show SK[54]? = some (.inl (0, 65536)) from rfl) (by decide : 65536 < 2 ^ 31), s_put (show SK[54]? = some (.inl (0, 65536)) from rfl) (by decide : 65536 < 2 ^ 31), xput_in, hl2]
/-- the pile grows, or falls -/
theorem CT.dep {S : xS} {os : List Or3} {dep dep' : Nat} {hl : List Int32} (h : CT S os dep hl) : CT (xsetI S 6 16 (nI dep')) os dep' hl := ⟨h.1, rfl, h.2.2.1, h.2.2.2.1, h.2.2.2.2.1, h.2.2.2.2.2⟩
theorem ct_constant {d : Nat} {S : xS} {os : List Or3} {dep : Nat} {hl : List Int32} (h : CT S os dep hl) (hn : os.length < 60000) (w : Int32) : ∃ S1, XC SK MT (d + 3) 74 [.ref 6, .int w] S = some (none, S1) ∧ CT S1 (os ++ [(1, w, 0)]) (dep + 1) hl ∧ FrY S S1 := by
  obtain ⟨S1, p1, c1, f1⟩ := ct_add (d := d) h hn 1 w 0
  refine ⟨_, ?_, c1.dep, f1.trans (FrY_set (by omega))⟩
  rw [XC_iff]
  refine ⟨Nat.le_of_ble_eq_true rfl, ?_⟩
  show XL SK MT (d + 2) 74 (0, [some (.ref 6), some (.int w)], [], S) _
  simp (config := { decide := true }) only [rX2_constant_0, rX2_constant_1, rX2_constant_2, rX2_constant_3, rX2_constant_4, rX2_constant_7, rX2_constant_8, riX2_constant_9, rX2_constant_9, rX2_constant_10, rX2_constant_13, rX2_constant_14, rX2_constant_15, rX2_constant_18, ↓reduceIte, m1_le, m1_lt, m1_eq, ofInt_m1, ex_ret, Int32.reduceAdd, Int32.reduceSub, Int32.reduceMul, Int32.reduceLT, Int32.reduceLE, xsI, Nat.reduceEqDiff, and_false, false_and, and_true, true_and, if_true, if_false, ite_true, ite_false, xlook_0, xlook_s, xI_int, xA_ref, xJ_long, xK_some, xRow_row, xTo_some, xst1, xclr, List.set_cons_zero, List.set_cons_succ, xsum_nil, xsum_int, xsum_ref, xsum_long, Option.toList_some, Option.toList_none, List.nil_append, List.cons_append, p1, c1.2.1, nA1]
/-- where a variable is -/
def WH (S : xS) (m p : Nat) : Prop := m < 10240 ∧ S.1 58 m = 0 ∧ S.1 59 m = nI p ∧ p < 10000
theorem WH.X {S S1 : xS} {m p : Nat} (h : WH S m p) (hf : FrX S S1) : WH S1 m p := ⟨h.1, by rw [hf.2 _ (by decide)]; exact h.2.1, by rw [hf.2 _ (by decide)]; exact h.2.2.1, h.2.2.2⟩
theorem s_source {d m p : Nat} {S : xS} (h : WH S m p) (hf : S.1 6 15 = 0) : XC SK MT (d + 2) 81 [.ref 6, .int (nI m)] S = some (some (.int (nI p)), S) := by
  obtain ⟨h1, h2, h3, h4⟩ := h
  rw [XC_iff]
  refine ⟨Nat.le_of_ble_eq_true rfl, ?_⟩
  show XL SK MT (d + 1) 81 (0, [some (.ref 6), some (.int (nI m))], [], S) _
  simp (config := { decide := true }) only [rX2_source_0, rX2_source_1, rX2_source_4, rX2_source_5, rX2_source_8, rX2_source_9, rX2_source_12, rX2_source_15, rX2_source_16, rX2_source_19, rX2_source_20, rX2_source_23, rX2_source_24, rX2_source_25, rX2_source_28, rX2_source_29, rX2_source_32, rX2_source_35, rX2_source_36, rX2_source_39, rX2_source_40, rX2_source_41, rX2_source_44, rX2_source_45, rX2_source_48, rX2_source_49, rX2_source_52, rX2_source_53, rX2_source_56, rX2_source_59, rX2_source_60, rX2_source_61, rX2_source_64, rX2_source_65, rX2_source_66, rX2_source_67, rX2_source_70, rX2_source_71, rX2_source_74, rX2_source_75, rX2_source_78, rX2_source_79, rX2_source_80, ↓reduceIte, m1_le, m1_lt, m1_eq, ofInt_m1, ex_ret, Int32.reduceAdd, Int32.reduceSub, Int32.reduceMul, Int32.reduceLT, Int32.reduceLE, xsI, Nat.reduceEqDiff, and_false, false_and, and_true, true_and, if_true, if_false, ite_true, ite_false, xlook_0, xlook_s, xI_int, xA_ref, xJ_long, xK_some, xRow_row, xTo_some, xst1, xclr, List.set_cons_zero, List.set_cons_succ, xsum_nil, xsum_int, xsum_ref, xsum_long, Option.toList_some, Option.toList_none, List.nil_append, List.cons_append, s_at (show SK[58]? = some (.inl (0, 10240)) from rfl) (by decide : 10240 < 2 ^ 31), s_put (show SK[58]? = some (.inl (0, 10240)) from rfl) (by decide : 10240 < 2 ^ 31), s_at (show SK[59]? = some (.inl (0, 10240)) from rfl) (by decide : 10240 < 2 ^ 31), s_put (show SK[59]? = some (.inl (0, 10240)) from rfl) (by decide : 10240 < 2 ^ 31), xat_in, h1, h2, h3, hf, not_true]
theorem ct_name {d m p : Nat} {S : xS} {os : List Or3} {dep : Nat} {hl : List Int32} (h : CT S os dep hl) (hn : os.length < 60000) (hw : WH S m p) : ∃ S1, XC SK MT (d + 3) 80 [.ref 6, .int (nI m)] S = some (none, S1) ∧ CT S1 (os ++ [(3, nI p, 0)]) (dep + 1) hl ∧ FrY S S1 := by
  obtain ⟨S1, p1, c1, f1⟩ := ct_add (d := d) h hn 3 (nI p) 0
  have hm := hw.1
  have hp := hw.2.2.2
  have n1 : nI m < (131072 : Int32) := nI_lt (b := 131072) (by omega) (by decide)
  have n2 : nI m < (65536 : Int32) := nI_lt (b := 65536) (by omega) (by decide)
  have n3 : ¬ nI p < 0 := nI_pos (by omega)
  refine ⟨_, ?_, c1.dep, f1.trans (FrY_set (by omega))⟩
  rw [XC_iff]
  refine ⟨Nat.le_of_ble_eq_true rfl, ?_⟩
  show XL SK MT (d + 2) 80 (0, [some (.ref 6), some (.int (nI m)), none], [], S) _
  simp (config := { decide := true }) only [rX2_name_0, rX2_name_1, rX2_name_3, rX2_name_6, rX2_name_7, rX2_name_8, rX2_name_10, rX2_name_11, rX2_name_12, rX2_name_13, rX2_name_16, rX2_name_17, rX2_name_20, rX2_name_23, rX2_name_24, rX2_name_26, rX2_name_29, rX2_name_30, rX2_name_32, rX2_name_33, rX2_name_34, rX2_name_35, rX2_name_36, rX2_name_37, rX2_name_38, rX2_name_39, rX2_name_42, rX2_name_43, rX2_name_46, rX2_name_49, rX2_name_52, rX2_name_55, rX2_name_56, rX2_name_57, rX2_name_60, rX2_name_63, rX2_name_64, rX2_name_65, rX2_name_68, rX2_name_69, rX2_name_70, rX2_name_73, rX2_name_74, rX2_name_75, rX2_name_76, rX2_name_77, rX2_name_80, rX2_name_81, rX2_name_84, rX2_name_85, rX2_name_86, rX2_name_87, rX2_name_88, rX2_name_89, rX2_name_90, rX2_name_93, rX2_name_94, riX2_name_95, rX2_name_95, rX2_name_96, rX2_name_99, rX2_name_100, rX2_name_101, rX2_name_104, ↓reduceIte, m1_le, m1_lt, m1_eq, ofInt_m1, ex_ret, Int32.reduceAdd, Int32.reduceSub, Int32.reduceMul, Int32.reduceLT, Int32.reduceLE, xsI, Nat.reduceEqDiff, and_false, false_and, and_true, true_and, if_true, if_false, ite_true, ite_false, xlook_0, xlook_s, xI_int, xA_ref, xJ_long, xK_some, xRow_row, xTo_some, xst1, xclr, List.set_cons_zero, List.set_cons_succ, xsum_nil, xsum_int, xsum_ref, xsum_long, Option.toList_some, Option.toList_none, List.nil_append, List.cons_append, n1, n2, n3, s_source hw h.2.2.1, p1, c1.2.1, nA1]
