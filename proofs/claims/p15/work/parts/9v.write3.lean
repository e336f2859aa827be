/-! XF: rows, then what is proved of them. -/
theorem rX4_sizeOf_0 {d : Nat} {lv : xLV} {st : List Value} {S : xS} {r : xO} : XL SK MT d 116 (0, lv, st, S) r ↔ xA (xlook lv 0) (fun x => XL SK MT d 116 (1, lv, .ref x :: st, S) r) := X_ldA rfl rfl (fun _ => rfl) rfl rfl rfl rfl
theorem rX4_sizeOf_1 {d : Nat} {lv : xLV} {st : List Value} {S : xS} {r : xO} : XL SK MT d 116 (1, lv, .ref 1 :: st, S) r ↔ XL SK MT d 116 (4, lv, .ref 19 :: st, S) r := X_heap rfl rfl rfl rfl rfl
theorem rX4_sizeOf_4 {d : Nat} {lv : xLV} {st : List Value} {S : xS} {r : xO} : XL SK MT d 116 (4, lv, st, S) r ↔ xI (xlook lv 1) (fun x => XL SK MT d 116 (5, lv, .int x :: st, S) r) := X_ldI rfl rfl (fun _ => rfl) rfl rfl rfl rfl
theorem rX4_sizeOf_5 {d : Nat} {lv : xLV} {S : xS} {r : xO} {x1 : Nat} {x2 : Int32} : XL SK MT d 116 (5, lv, [.int x2, .ref x1], S) r ↔ xK (XC SK MT d 303 [.ref x1, .int x2] S) (fun v S => XL SK MT d 116 (8, lv, v.toList ++ [], S) r) := X_inv (n := 2) (kd := 1) (st0 := [.int x2, .ref x1]) rfl (Or.inl ⟨rfl, rfl⟩) rfl (Nat.le_of_ble_eq_true rfl) (Nat.le_of_ble_eq_true rfl) (by decide) rfl
theorem rX4_sizeOf_8 {d : Nat} {lv : xLV} {S : xS} {r : xO} {x : Int32} : XL SK MT d 116 (8, lv, [.int x], S) r ↔ (some (.int x), S) = r := X_ret rfl rfl rfl rfl rfl rfl

theorem rX4_letterOf_0 {d : Nat} {lv : xLV} {st : List Value} {S : xS} {r : xO} : XL SK MT d 117 (0, lv, st, S) r ↔ xA (xlook lv 0) (fun x => XL SK MT d 117 (1, lv, .ref x :: st, S) r) := X_ldA rfl rfl (fun _ => rfl) rfl rfl rfl rfl
theorem rX4_letterOf_1 {d : Nat} {lv : xLV} {st : List Value} {S : xS} {r : xO} : XL SK MT d 117 (1, lv, .ref 1 :: st, S) r ↔ XL SK MT d 117 (4, lv, .ref 16 :: st, S) r := X_heap rfl rfl rfl rfl rfl
theorem rX4_letterOf_4 {d : Nat} {lv : xLV} {st : List Value} {S : xS} {r : xO} : XL SK MT d 117 (4, lv, st, S) r ↔ xA (xlook lv 0) (fun x => XL SK MT d 117 (5, lv, .ref x :: st, S) r) := X_ldA rfl rfl (fun _ => rfl) rfl rfl rfl rfl
theorem rX4_letterOf_5 {d : Nat} {lv : xLV} {st : List Value} {S : xS} {r : xO} : XL SK MT d 117 (5, lv, .ref 1 :: st, S) r ↔ XL SK MT d 117 (8, lv, .ref 18 :: st, S) r := X_heap rfl rfl rfl rfl rfl
theorem rX4_letterOf_8 {d : Nat} {lv : xLV} {st : List Value} {S : xS} {r : xO} : XL SK MT d 117 (8, lv, st, S) r ↔ xI (xlook lv 1) (fun x => XL SK MT d 117 (9, lv, .int x :: st, S) r) := X_ldI rfl rfl (fun _ => rfl) rfl rfl rfl rfl
theorem rX4_letterOf_9 {d : Nat} {lv : xLV} {S : xS} {r : xO} {x1 : Nat} {x2 : Int32} {u1 : Nat} : XL SK MT d 117 (9, lv, [.int x2, .ref x1, .ref u1], S) r ↔ xK (XC SK MT d 303 [.ref x1, .int x2] S) (fun v S => XL SK MT d 117 (12, lv, v.toList ++ [.ref u1], S) r) := X_inv (n := 2) (kd := 1) (st0 := [.int x2, .ref x1, .ref u1]) rfl (Or.inl ⟨rfl, rfl⟩) rfl (Nat.le_of_ble_eq_true rfl) (Nat.le_of_ble_eq_true rfl) (by decide) rfl
theorem rX4_letterOf_12 {d : Nat} {lv : xLV} {st : List Value} {S : xS} {r : xO} : XL SK MT d 117 (12, lv, st, S) r ↔ xI (xlook lv 2) (fun x => XL SK MT d 117 (13, lv, .int x :: st, S) r) := X_ldI rfl rfl (fun _ => rfl) rfl rfl rfl rfl
theorem rX4_letterOf_13 {d : Nat} {lv : xLV} {st : List Value} {S : xS} {r : xO} {x z : Int32} : XL SK MT d 117 (13, lv, .int z :: .int x :: st, S) r ↔ XL SK MT d 117 (14, lv, .int (x + z) :: st, S) r := X_pure rfl rfl rfl
theorem rX4_letterOf_14 {d : Nat} {lv : xLV} {S : xS} {r : xO} {x1 : Nat} {x2 : Int32} : XL SK MT d 117 (14, lv, [.int x2, .ref x1], S) r ↔ xK (XC SK MT d 305 [.ref x1, .int x2] S) (fun v S => XL SK MT d 117 (17, lv, v.toList ++ [], S) r) := X_inv (n := 2) (kd := 1) (st0 := [.int x2, .ref x1]) rfl (Or.inl ⟨rfl, rfl⟩) rfl (Nat.le_of_ble_eq_true rfl) (Nat.le_of_ble_eq_true rfl) (by decide) rfl
theorem rX4_letterOf_17 {d : Nat} {lv : xLV} {S : xS} {r : xO} {x : Int32} : XL SK MT d 117 (17, lv, [.int x], S) r ↔ (some (.int x), S) = r := X_ret rfl rfl rfl rfl rfl rfl

theorem rX11_name_0 {d : Nat} {lv : xLV} {st : List Value} {S : xS} {r : xO} : XL SK MT d 285 (0, lv, st, S) r ↔ XL SK MT d 285 (1, lv, .int 0 :: st, S) r := X_pure rfl rfl rfl
theorem rX11_name_1 {d : Nat} {lv : xLV} {st : List Value} {S : xS} {r : xO} {x : Int32} : XL SK MT d 285 (1, lv, .int x :: st, S) r ↔ XL SK MT d 285 (2, xst1 lv 2 (.int x), st, S) r := X_pure rfl rfl rfl
theorem rX11_name_2 {d : Nat} {lv : xLV} {st : List Value} {S : xS} {r : xO} : XL SK MT d 285 (2, lv, st, S) r ↔ xI (xlook lv 2) (fun x => XL SK MT d 285 (3, lv, .int x :: st, S) r) := X_ldI rfl rfl (fun _ => rfl) rfl rfl rfl rfl
theorem rX11_name_3 {d : Nat} {lv : xLV} {st : List Value} {S : xS} {r : xO} : XL SK MT d 285 (3, lv, st, S) r ↔ xA (xlook lv 0) (fun x => XL SK MT d 285 (4, lv, .ref x :: st, S) r) := X_ldA rfl rfl (fun _ => rfl) rfl rfl rfl rfl
theorem rX11_name_4 {d : Nat} {lv : xLV} {st : List Value} {S : xS} {r : xO} : XL SK MT d 285 (4, lv, .ref 12 :: st, S) r ↔ XL SK MT d 285 (7, lv, .ref 1 :: st, S) r := X_heap rfl rfl rfl rfl rfl
theorem rX11_name_7 {d : Nat} {lv : xLV} {st : List Value} {S : xS} {r : xO} : XL SK MT d 285 (7, lv, st, S) r ↔ xI (xlook lv 1) (fun x => XL SK MT d 285 (8, lv, .int x :: st, S) r) := X_ldI rfl rfl (fun _ => rfl) rfl rfl rfl rfl
theorem rX11_name_8 {d : Nat} {lv : xLV} {S : xS} {r : xO} {x1 : Int32} {u1 : Int32} : XL SK MT d 285 (8, lv, [.int x1, .ref 1, .int u1], S) r ↔ xK (XC SK MT d 116 [.ref 1, .int x1] S) (fun v S => XL SK MT d 285 (11, lv, v.toList ++ [.int u1], S) r) := X_inv (n := 2) (kd := 6) (st0 := [.int x1, .ref 1, .int u1]) rfl (Or.inr ⟨rfl, rfl⟩) rfl (Nat.le_of_ble_eq_true rfl) (Nat.le_of_ble_eq_true rfl) (by decide) rfl
theorem rX11_name_11 {d : Nat} {lv : xLV} {st : List Value} {S : xS} {r : xO} {x z : Int32} : XL SK MT d 285 (11, lv, .int z :: .int x :: st, S) r ↔ if z ≤ x then XL SK MT d 285 (33, lv, st, S) r else XL SK MT d 285 (14, lv, st, S) r := (X_icmp rfl rfl).trans xc_ge
theorem rX11_name_14 {d : Nat} {lv : xLV} {st : List Value} {S : xS} {r : xO} : XL SK MT d 285 (14, lv, st, S) r ↔ xA (xlook lv 0) (fun x => XL SK MT d 285 (15, lv, .ref x :: st, S) r) := X_ldA rfl rfl (fun _ => rfl) rfl rfl rfl rfl
theorem rX11_name_15 {d : Nat} {lv : xLV} {st : List Value} {S : xS} {r : xO} : XL SK MT d 285 (15, lv, st, S) r ↔ xA (xlook lv 0) (fun x => XL SK MT d 285 (16, lv, .ref x :: st, S) r) := X_ldA rfl rfl (fun _ => rfl) rfl rfl rfl rfl
theorem rX11_name_16 {d : Nat} {lv : xLV} {st : List Value} {S : xS} {r : xO} : XL SK MT d 285 (16, lv, .ref 12 :: st, S) r ↔ XL SK MT d 285 (19, lv, .ref 1 :: st, S) r := X_heap rfl rfl rfl rfl rfl
theorem rX11_name_19 {d : Nat} {lv : xLV} {st : List Value} {S : xS} {r : xO} : XL SK MT d 285 (19, lv, st, S) r ↔ xI (xlook lv 1) (fun x => XL SK MT d 285 (20, lv, .int x :: st, S) r) := X_ldI rfl rfl (fun _ => rfl) rfl rfl rfl rfl
theorem rX11_name_20 {d : Nat} {lv : xLV} {st : List Value} {S : xS} {r : xO} : XL SK MT d 285 (20, lv, st, S) r ↔ xI (xlook lv 2) (fun x => XL SK MT d 285 (21, lv, .int x :: st, S) r) := X_ldI rfl rfl (fun _ => rfl) rfl rfl rfl rfl
theorem rX11_name_21 {d : Nat} {lv : xLV} {S : xS} {r : xO} {x1 : Int32} {x2 : Int32} {u1 : Nat} : XL SK MT d 285 (21, lv, [.int x2, .int x1, .ref 1, .ref u1], S) r ↔ xK (XC SK MT d 117 [.ref 1, .int x1, .int x2] S) (fun v S => XL SK MT d 285 (24, lv, v.toList ++ [.ref u1], S) r) := X_inv (n := 3) (kd := 6) (st0 := [.int x2, .int x1, .ref 1, .ref u1]) rfl (Or.inr ⟨rfl, rfl⟩) rfl (Nat.le_of_ble_eq_true rfl) (Nat.le_of_ble_eq_true rfl) (by decide) rfl
theorem rX11_name_24 {d : Nat} {lv : xLV} {S : xS} {r : xO} {x1 : Int32} : XL SK MT d 285 (24, lv, [.int x1, .ref 12], S) r ↔ xK (XC SK MT d 284 [.ref 12, .int x1] S) (fun v S => XL SK MT d 285 (27, lv, v.toList ++ [], S) r) := X_inv (n := 2) (kd := 13) (st0 := [.int x1, .ref 12]) rfl (Or.inr ⟨rfl, rfl⟩) rfl (Nat.le_of_ble_eq_true rfl) (Nat.le_of_ble_eq_true rfl) (by decide) rfl
theorem rX11_name_27 {d : Nat} {lv : xLV} {st : List Value} {S : xS} {r : xO} : XL SK MT d 285 (27, lv, st, S) r ↔ xI (xlook lv 2) (fun x => XL SK MT d 285 (30, xst1 lv 2 (.int (x + 1)), st, S) r) := X_inc (i := 2) (n := 1) rfl (Nat.le_of_ble_eq_true rfl)
theorem rX11_name_30 {d : Nat} {lv : xLV} {st : List Value} {S : xS} {r : xO} : XL SK MT d 285 (30, lv, st, S) r ↔ XL SK MT d 285 (2, lv, st, S) r := X_jump rfl rfl rfl
theorem rX11_name_33 {d : Nat} {lv : xLV} {S : xS} {r : xO} : XL SK MT d 285 (33, lv, [], S) r ↔ (none, S) = r := X_ret rfl rfl rfl rfl rfl rfl

theorem rX11_close_0 {d : Nat} {lv : xLV} {st : List Value} {S : xS} {r : xO} : XL SK MT d 283 (0, lv, st, S) r ↔ xA (xlook lv 0) (fun x => XL SK MT d 283 (1, lv, .ref x :: st, S) r) := X_ldA rfl rfl (fun _ => rfl) rfl rfl rfl rfl
theorem rX11_close_1 {d : Nat} {lv : xLV} {st : List Value} {S : xS} {r : xO} : XL SK MT d 283 (1, lv, st, S) r ↔ xA (xlook lv 0) (fun x => XL SK MT d 283 (2, lv, .ref x :: st, S) r) := X_ldA rfl rfl (fun _ => rfl) rfl rfl rfl rfl
theorem rX11_close_2 {d : Nat} {lv : xLV} {st : List Value} {S : xS} {r : xO} : XL SK MT d 283 (2, lv, .ref 12 :: st, S) r ↔ XL SK MT d 283 (5, lv, .int (S.1 12 8) :: st, S) r := X_heap rfl rfl rfl rfl rfl
theorem rX11_close_5 {d : Nat} {lv : xLV} {st : List Value} {S : xS} {r : xO} {x : Int32} : XL SK MT d 283 (5, lv, .int x :: .ref 12 :: st, S) r ↔ XL SK MT d 283 (8, lv, st, (xsetI S 12 10 x)) r := X_heap rfl rfl rfl rfl rfl
theorem rX11_close_8 {d : Nat} {lv : xLV} {st : List Value} {S : xS} {r : xO} : XL SK MT d 283 (8, lv, st, S) r ↔ xA (xlook lv 0) (fun x => XL SK MT d 283 (9, lv, .ref x :: st, S) r) := X_ldA rfl rfl (fun _ => rfl) rfl rfl rfl rfl
theorem rX11_close_9 {d : Nat} {lv : xLV} {st : List Value} {S : xS} {r : xO} : XL SK MT d 283 (9, lv, .ref 12 :: st, S) r ↔ XL SK MT d 283 (12, lv, .int (S.1 12 9) :: st, S) r := X_heap rfl rfl rfl rfl rfl
theorem rX11_close_12 {d : Nat} {lv : xLV} {st : List Value} {S : xS} {r : xO} {x : Int32} : XL SK MT d 283 (12, lv, .int x :: st, S) r ↔ if x = 0 then XL SK MT d 283 (53, lv, st, S) r else XL SK MT d 283 (15, lv, st, S) r := (X_if rfl rfl).trans xc_eq
theorem rX11_close_15 {d : Nat} {lv : xLV} {st : List Value} {S : xS} {r : xO} : XL SK MT d 283 (15, lv, st, S) r ↔ xA (xlook lv 0) (fun x => XL SK MT d 283 (16, lv, .ref x :: st, S) r) := X_ldA rfl rfl (fun _ => rfl) rfl rfl rfl rfl
theorem rX11_close_16 {d : Nat} {lv : xLV} {st : List Value} {S : xS} {r : xO} : XL SK MT d 283 (16, lv, .ref 12 :: st, S) r ↔ XL SK MT d 283 (19, lv, .ref 67 :: st, S) r := X_heap rfl rfl rfl rfl rfl
theorem rX11_close_19 {d : Nat} {lv : xLV} {st : List Value} {S : xS} {r : xO} : XL SK MT d 283 (19, lv, st, S) r ↔ xA (xlook lv 0) (fun x => XL SK MT d 283 (20, lv, .ref x :: st, S) r) := X_ldA rfl rfl (fun _ => rfl) rfl rfl rfl rfl
theorem rX11_close_20 {d : Nat} {lv : xLV} {st : List Value} {S : xS} {r : xO} : XL SK MT d 283 (20, lv, .ref 12 :: st, S) r ↔ XL SK MT d 283 (23, lv, .int (S.1 12 8) :: st, S) r := X_heap rfl rfl rfl rfl rfl
theorem rX11_close_23 {d : Nat} {lv : xLV} {st : List Value} {S : xS} {r : xO} : XL SK MT d 283 (23, lv, st, S) r ↔ XL SK MT d 283 (25, lv, .int 46 :: st, S) r := X_pure rfl rfl rfl
theorem rX11_close_25 {d : Nat} {lv : xLV} {S : xS} {r : xO} {x1 : Nat} {x2 : Int32} {x3 : Int32} : XL SK MT d 283 (25, lv, [.int x3, .int x2, .ref x1], S) r ↔ xK (XC SK MT d 306 [.ref x1, .int x2, .int x3] S) (fun v S => XL SK MT d 283 (28, lv, v.toList ++ [], S) r) := X_inv (n := 3) (kd := 1) (st0 := [.int x3, .int x2, .ref x1]) rfl (Or.inl ⟨rfl, rfl⟩) rfl (Nat.le_of_ble_eq_true rfl) (Nat.le_of_ble_eq_true rfl) (by decide) rfl
theorem rX11_close_28 {d : Nat} {lv : xLV} {st : List Value} {S : xS} {r : xO} : XL SK MT d 283 (28, lv, st, S) r ↔ xA (xlook lv 0) (fun x => XL SK MT d 283 (29, lv, .ref x :: st, S) r) := X_ldA rfl rfl (fun _ => rfl) rfl rfl rfl rfl
theorem rX11_close_29 {d : Nat} {lv : xLV} {st : List Value} {S : xS} {r : xO} : XL SK MT d 283 (29, lv, .ref 12 :: st, S) r ↔ XL SK MT d 283 (32, lv, .ref 67 :: st, S) r := X_heap rfl rfl rfl rfl rfl
theorem rX11_close_32 {d : Nat} {lv : xLV} {st : List Value} {S : xS} {r : xO} : XL SK MT d 283 (32, lv, st, S) r ↔ xA (xlook lv 0) (fun x => XL SK MT d 283 (33, lv, .ref x :: st, S) r) := X_ldA rfl rfl (fun _ => rfl) rfl rfl rfl rfl
theorem rX11_close_33 {d : Nat} {lv : xLV} {st : List Value} {S : xS} {r : xO} : XL SK MT d 283 (33, lv, .ref 12 :: st, S) r ↔ XL SK MT d 283 (36, lv, .int (S.1 12 8) :: st, S) r := X_heap rfl rfl rfl rfl rfl
theorem rX11_close_36 {d : Nat} {lv : xLV} {st : List Value} {S : xS} {r : xO} : XL SK MT d 283 (36, lv, st, S) r ↔ XL SK MT d 283 (37, lv, .int 1 :: st, S) r := X_pure rfl rfl rfl
theorem rX11_close_37 {d : Nat} {lv : xLV} {st : List Value} {S : xS} {r : xO} {x z : Int32} : XL SK MT d 283 (37, lv, .int z :: .int x :: st, S) r ↔ XL SK MT d 283 (38, lv, .int (x + z) :: st, S) r := X_pure rfl rfl rfl
theorem rX11_close_38 {d : Nat} {lv : xLV} {st : List Value} {S : xS} {r : xO} : XL SK MT d 283 (38, lv, st, S) r ↔ XL SK MT d 283 (40, lv, .int 46 :: st, S) r := X_pure rfl rfl rfl
theorem rX11_close_40 {d : Nat} {lv : xLV} {S : xS} {r : xO} {x1 : Nat} {x2 : Int32} {x3 : Int32} : XL SK MT d 283 (40, lv, [.int x3, .int x2, .ref x1], S) r ↔ xK (XC SK MT d 306 [.ref x1, .int x2, .int x3] S) (fun v S => XL SK MT d 283 (43, lv, v.toList ++ [], S) r) := X_inv (n := 3) (kd := 1) (st0 := [.int x3, .int x2, .ref x1]) rfl (Or.inl ⟨rfl, rfl⟩) rfl (Nat.le_of_ble_eq_true rfl) (Nat.le_of_ble_eq_true rfl) (by decide) rfl
theorem rX11_close_43 {d : Nat} {lv : xLV} {st : List Value} {S : xS} {r : xO} : XL SK MT d 283 (43, lv, st, S) r ↔ xA (xlook lv 0) (fun x => XL SK MT d 283 (44, lv, .ref x :: st, S) r) := X_ldA rfl rfl (fun _ => rfl) rfl rfl rfl rfl
theorem rX11_close_44 {d : Nat} {lv : xLV} {st : List Value} {S : xS} {r : xO} : XL SK MT d 283 (44, lv, st, S) r ↔ xA (xlook lv 0) (fun x => XL SK MT d 283 (45, lv, .ref x :: st, S) r) := X_ldA rfl rfl (fun _ => rfl) rfl rfl rfl rfl
theorem rX11_close_45 {d : Nat} {lv : xLV} {st : List Value} {S : xS} {r : xO} : XL SK MT d 283 (45, lv, .ref 12 :: st, S) r ↔ XL SK MT d 283 (48, lv, .int (S.1 12 8) :: st, S) r := X_heap rfl rfl rfl rfl rfl
theorem rX11_close_48 {d : Nat} {lv : xLV} {st : List Value} {S : xS} {r : xO} : XL SK MT d 283 (48, lv, st, S) r ↔ XL SK MT d 283 (49, lv, .int 2 :: st, S) r := X_pure rfl rfl rfl
theorem rX11_close_49 {d : Nat} {lv : xLV} {st : List Value} {S : xS} {r : xO} {x z : Int32} : XL SK MT d 283 (49, lv, .int z :: .int x :: st, S) r ↔ XL SK MT d 283 (50, lv, .int (x + z) :: st, S) r := X_pure rfl rfl rfl
theorem rX11_close_50 {d : Nat} {lv : xLV} {st : List Value} {S : xS} {r : xO} {x : Int32} : XL SK MT d 283 (50, lv, .int x :: .ref 12 :: st, S) r ↔ XL SK MT d 283 (53, lv, st, (xsetI S 12 10 x)) r := X_heap rfl rfl rfl rfl rfl
theorem rX11_close_53 {d : Nat} {lv : xLV} {st : List Value} {S : xS} {r : xO} : XL SK MT d 283 (53, lv, st, S) r ↔ xA (xlook lv 0) (fun x => XL SK MT d 283 (54, lv, .ref x :: st, S) r) := X_ldA rfl rfl (fun _ => rfl) rfl rfl rfl rfl
theorem rX11_close_54 {d : Nat} {lv : xLV} {st : List Value} {S : xS} {r : xO} : XL SK MT d 283 (54, lv, .ref 12 :: st, S) r ↔ XL SK MT d 283 (57, lv, .int (S.1 12 10) :: st, S) r := X_heap rfl rfl rfl rfl rfl
theorem rX11_close_57 {d : Nat} {lv : xLV} {S : xS} {r : xO} {x : Int32} : XL SK MT d 283 (57, lv, [.int x], S) r ↔ (some (.int x), S) = r := X_ret rfl rfl rfl rfl rfl rfl

theorem rX11_open_0 {d : Nat} {lv : xLV} {st : List Value} {S : xS} {r : xO} : XL SK MT d 282 (0, lv, st, S) r ↔ xA (xlook lv 0) (fun x => XL SK MT d 282 (1, lv, .ref x :: st, S) r) := X_ldA rfl rfl (fun _ => rfl) rfl rfl rfl rfl
theorem rX11_open_1 {d : Nat} {lv : xLV} {st : List Value} {S : xS} {r : xO} : XL SK MT d 282 (1, lv, st, S) r ↔ XL SK MT d 282 (2, lv, .int 0 :: st, S) r := X_pure rfl rfl rfl
theorem rX11_open_2 {d : Nat} {lv : xLV} {st : List Value} {S : xS} {r : xO} {x : Int32} : XL SK MT d 282 (2, lv, .int x :: .ref 12 :: st, S) r ↔ XL SK MT d 282 (5, lv, st, (xsetI S 12 8 x)) r := X_heap rfl rfl rfl rfl rfl
theorem rX11_open_5 {d : Nat} {lv : xLV} {st : List Value} {S : xS} {r : xO} : XL SK MT d 282 (5, lv, st, S) r ↔ xA (xlook lv 0) (fun x => XL SK MT d 282 (6, lv, .ref x :: st, S) r) := X_ldA rfl rfl (fun _ => rfl) rfl rfl rfl rfl
theorem rX11_open_6 {d : Nat} {lv : xLV} {st : List Value} {S : xS} {r : xO} : XL SK MT d 282 (6, lv, st, S) r ↔ XL SK MT d 282 (7, lv, .int 0 :: st, S) r := X_pure rfl rfl rfl
theorem r0X11_open_7 {d : Nat} {lv : xLV} {st : List Value} {S : xS} {r : xO} : XL SK MT d 282 (7, lv, .int 0 :: .ref 12 :: st, S) r ↔ XL SK MT d 282 (10, lv, st, (xsetI S 12 9 0)) r := X_heap rfl rfl rfl rfl rfl
theorem r1X11_open_7 {d : Nat} {lv : xLV} {st : List Value} {S : xS} {r : xO} : XL SK MT d 282 (7, lv, .int 1 :: .ref 12 :: st, S) r ↔ XL SK MT d 282 (10, lv, st, (xsetI S 12 9 1)) r := X_heap rfl rfl rfl rfl rfl
theorem rX11_open_7 {d : Nat} {lv : xLV} {st : List Value} {S : xS} {r : xO} {x : Int32} (hz : x = 0 ∨ x = 1) : XL SK MT d 282 (7, lv, .int x :: .ref 12 :: st, S) r ↔ XL SK MT d 282 (10, lv, st, (xsetI S 12 9 x)) r := X_heap rfl rfl rfl rfl (if_pos ⟨rfl, rfl, Or.inr ⟨rfl, hz⟩⟩)
theorem rX11_open_10 {d : Nat} {lv : xLV} {S : xS} {r : xO} : XL SK MT d 282 (10, lv, [], S) r ↔ (none, S) = r := X_ret rfl rfl rfl rfl rfl rfl

/-! Writer: names, values, types. -/
theorem NWr.of {S S1 : xS} {w : List Nat} {m a : Nat} (h : NWr S w m a) (f : FrWr S S1) : NWr S1 w m a := by
  obtain ⟨h1, h2, h3⟩ := h
  refine ⟨?_, ?_, fun j b hj => ?_⟩
  · rw [f.2.2 _ (by decide) (by decide)]; exact h1
  · rw [f.2.2 _ (by decide) (by decide)]; exact h2
  · rw [f.2.2 _ (by decide) (by decide)]; exact h3 j b hj
theorem w_sizeOf {d m a : Nat} {w : List Nat} {S : xS} (hm : m < 100) (hn : NWr S w m a) : XC SK MT (d + 2) 116 [.ref 1, .int (nI m)] S = some (some (.int (nI w.length)), S) := by
  rw [XC_iff]
  refine ⟨Nat.le_of_ble_eq_true rfl, ?_⟩
  show XL SK MT (d + 1) 116 (0, [some (.ref 1), some (.int (nI m))], [], S) _
  simp (config := { decide := true }) only [rX4_sizeOf_0, rX4_sizeOf_1, rX4_sizeOf_4, rX4_sizeOf_5, rX4_sizeOf_8, ↓reduceIte, m1_le, m1_lt, m1_eq, ofInt_m1, ex_ret, Int32.reduceAdd, Int32.reduceSub, Int32.reduceMul, Int32.reduceLT, Int32.reduceLE, xsI, Nat.reduceEqDiff, and_false, false_and, and_true, true_and, if_true, if_false, ite_true, ite_false, xlook_0, xlook_s, xI_int, xA_ref, xJ_long, xK_some, xRow_row, xTo_some, xst1, xclr, List.set_cons_zero, List.set_cons_succ, xsum_nil, xsum_int, xsum_ref, xsum_long, Option.toList_some, Option.toList_none, List.nil_append, List.cons_append, s_at (show SK[19]? = some (.inl (0, 2176)) from rfl) (by decide : 2176 < 2 ^ 31), s_put (show SK[19]? = some (.inl (0, 2176)) from rfl) (by decide : 2176 < 2 ^ 31), xat_in, show m < 2176 by omega, hn.2.1]
theorem w_letterOf {d m a i b : Nat} {w : List Nat} {S : xS} (hm : m < 100) (ha : a < 2000) (hi : i < 20) (hn : NWr S w m a) (hb : w[i]? = some b) (h8 : b < 128) : XC SK MT (d + 2) 117 [.ref 1, .int (nI m), .int (nI i)] S = some (some (.int (nI b)), S) := by
  have e1 : nI a + nI i = nI (a + i) := nI_add a i
  have e3 : xbyte S 16 12288 (nI (a + i)) = nI b := xbyte_in (by omega) (by decide) (hn.2.2 i b hb) h8
  rw [XC_iff]
  refine ⟨Nat.le_of_ble_eq_true rfl, ?_⟩
  show XL SK MT (d + 1) 117 (0, [some (.ref 1), some (.int (nI m)), some (.int (nI i))], [], S) _
  simp (config := { decide := true }) only [rX4_letterOf_0, rX4_letterOf_1, rX4_letterOf_4, rX4_letterOf_5, rX4_letterOf_8, rX4_letterOf_9, rX4_letterOf_12, rX4_letterOf_13, rX4_letterOf_14, rX4_letterOf_17, ↓reduceIte, m1_le, m1_lt, m1_eq, ofInt_m1, ex_ret, Int32.reduceAdd, Int32.reduceSub, Int32.reduceMul, Int32.reduceLT, Int32.reduceLE, xsI, Nat.reduceEqDiff, and_false, false_and, and_true, true_and, if_true, if_false, ite_true, ite_false, xlook_0, xlook_s, xI_int, xA_ref, xJ_long, xK_some, xRow_row, xTo_some, xst1, xclr, List.set_cons_zero, List.set_cons_succ, xsum_nil, xsum_int, xsum_ref, xsum_long, Option.toList_some, Option.toList_none, List.nil_append, List.cons_append, s_at (show SK[18]? = some (.inl (0, 2176)) from rfl) (by decide : 2176 < 2 ^ 31), s_put (show SK[18]? = some (.inl (0, 2176)) from rfl) (by decide : 2176 < 2 ^ 31), s_byteIn (show SK[16]? = some (.inl (1, 12288)) from rfl) (by decide : 12288 < 2 ^ 31), s_putByte (show SK[16]? = some (.inl (1, 12288)) from rfl) (by decide : 12288 < 2 ^ 31), xat_in, show m < 2176 by omega, hn.1, e1, e3]
set_option maxHeartbeats 4000000 in
set_option maxRecDepth 100000 in
theorem name_loop {d m a : Nat} {w : List Nat} (hw : ∀ b ∈ w, b < 128) (hl : w.length ≤ 20) (hm : m < 100) (ha : a < 2000) : ∀ k i (S : xS) bs, i + k = w.length → WSt S bs → NWr S w m a → bs.length + k ≤ 1000 → ∃ S1, XL SK MT (d + 2) 285 (2, [some (.ref 12), some (.int (nI m)), some (.int (nI i))], [], S) (none, S1) ∧ WSt S1 (bs ++ w.drop i) ∧ FrWr S S1 := by
  intro k
  induction k with
  | zero =>
    intro i S bs hi hs hn hb
    obtain rfl : i = w.length := by omega
    refine ⟨S, ?_, by rw [List.drop_length, List.append_nil]; exact hs, ⟨rfl, rfl, fun _ _ _ => rfl⟩⟩
    rw [rX11_name_2]
    simp (config := { decide := true }) only [rX11_name_0, rX11_name_1, rX11_name_3, rX11_name_4, rX11_name_7, rX11_name_8, rX11_name_11, rX11_name_14, rX11_name_15, rX11_name_16, rX11_name_19, rX11_name_20, rX11_name_21, rX11_name_24, rX11_name_27, rX11_name_30, rX11_name_33, ↓reduceIte, m1_le, m1_lt, m1_eq, ofInt_m1, ex_ret, Int32.reduceAdd, Int32.reduceSub, Int32.reduceMul, Int32.reduceLT, Int32.reduceLE, xsI, Nat.reduceEqDiff, and_false, false_and, and_true, true_and, if_true, if_false, ite_true, ite_false, xlook_0, xlook_s, xI_int, xA_ref, xJ_long, xK_some, xRow_row, xTo_some, xst1, xclr, List.set_cons_zero, List.set_cons_succ, xsum_nil, xsum_int, xsum_ref, xsum_long, Option.toList_some, Option.toList_none, List.nil_append, List.cons_append, w_sizeOf (d := d) hm hn, show nI w.length ≤ nI w.length from nI_le (Nat.le_refl _) (by omega)]
  | succ k ih =>
    intro i S bs hi hs hn hb
    have hlt : i < w.length := by omega
    have hx8 := hw w[i] (List.getElem_mem hlt)
    have c1 : ¬ nI w.length ≤ nI i := nI_ge hlt (by omega)
    have e2 : nI i + 1 = nI (i + 1) := nA1
    obtain ⟨S1, r1, w1, f1⟩ := s_sign (d := d) hs (b := w[i]) (by omega) hx8
    obtain ⟨S2, r2, w2, f2⟩ := ih (i + 1) S1 _ (by omega) w1 (hn.of f1) (by rw [List.length_append, List.length_singleton]; omega)
    refine ⟨S2, ?_, ?_, f1.trans f2⟩
    · rw [rX11_name_2]
      simp (config := { decide := true }) only [rX11_name_0, rX11_name_1, rX11_name_3, rX11_name_4, rX11_name_7, rX11_name_8, rX11_name_11, rX11_name_14, rX11_name_15, rX11_name_16, rX11_name_19, rX11_name_20, rX11_name_21, rX11_name_24, rX11_name_27, rX11_name_30, rX11_name_33, ↓reduceIte, m1_le, m1_lt, m1_eq, ofInt_m1, ex_ret, Int32.reduceAdd, Int32.reduceSub, Int32.reduceMul, Int32.reduceLT, Int32.reduceLE, xsI, Nat.reduceEqDiff, and_false, false_and, and_true, true_and, if_true, if_false, ite_true, ite_false, xlook_0, xlook_s, xI_int, xA_ref, xJ_long, xK_some, xRow_row, xTo_some, xst1, xclr, List.set_cons_zero, List.set_cons_succ, xsum_nil, xsum_int, xsum_ref, xsum_long, Option.toList_some, Option.toList_none, List.nil_append, List.cons_append, w_sizeOf (d := d) hm hn, w_letterOf (d := d) hm ha (by omega) hn (List.getElem?_eq_getElem hlt) hx8, c1, r1, e2]
      exact r2
    · rw [List.append_assoc] at w2
      rw [List.drop_eq_getElem_cons hlt]
      exact w2
theorem w_name {d m a : Nat} {w bs : List Nat} {S : xS} (hw : ∀ b ∈ w, b < 128) (hl : w.length ≤ 20) (hm : m < 100) (ha : a < 2000) (hs : WSt S bs) (hn : NWr S w m a) (hb : bs.length ≤ 900) : ∃ S1, XC SK MT (d + 3) 285 [.ref 12, .int (nI m)] S = some (none, S1) ∧ WSt S1 (bs ++ w) ∧ FrWr S S1 := by
  obtain ⟨S1, r1, w1, f1⟩ := name_loop (d := d) hw hl hm ha w.length 0 S bs (by omega) hs hn (by omega)
  refine ⟨S1, ?_, w1, f1⟩
  rw [XC_iff]
  refine ⟨Nat.le_of_ble_eq_true rfl, ?_⟩
  show XL SK MT (d + 2) 285 (0, [some (.ref 12), some (.int (nI m)), none], [], S) _
  simp (config := { decide := true }) only [rX11_name_0, rX11_name_1, rX11_name_3, rX11_name_4, rX11_name_7, rX11_name_8, rX11_name_11, rX11_name_14, rX11_name_15, rX11_name_16, rX11_name_19, rX11_name_20, rX11_name_21, rX11_name_24, rX11_name_27, rX11_name_30, rX11_name_33, ↓reduceIte, m1_le, m1_lt, m1_eq, ofInt_m1, ex_ret, Int32.reduceAdd, Int32.reduceSub, Int32.reduceMul, Int32.reduceLT, Int32.reduceLE, xsI, Nat.reduceEqDiff, and_false, false_and, and_true, true_and, if_true, if_false, ite_true, ite_false, xlook_0, xlook_s, xI_int, xA_ref, xJ_long, xK_some, xRow_row, xTo_some, xst1, xclr, List.set_cons_zero, List.set_cons_succ, xsum_nil, xsum_int, xsum_ref, xsum_long, Option.toList_some, Option.toList_none, List.nil_append, List.cons_append]
  exact r1
/-- a result that is written -/
def RSt (S : xS) (bs : List Nat) : Prop := S.1 12 10 = nI bs.length ∧ bs.length ≤ 1000 ∧ ∀ j b, bs[j]? = some b → S.1 67 j = nI b ∧ b < 128
theorem w_close {d : Nat} {S : xS} {bs : List Nat} (h : WSt S bs) : ∃ S1, XC SK MT (d + 2) 283 [.ref 12] S = some (some (.int (nI bs.length)), S1) ∧ RSt S1 bs ∧ FrWr S S1 := by
  obtain ⟨h1, h2, h3, h4⟩ := h
  refine ⟨xsetI S 12 10 (nI bs.length), ?_, ⟨rfl, h3, h4⟩, ⟨rfl, rfl, fun a q _ => xsR q⟩⟩
  rw [XC_iff]
  refine ⟨Nat.le_of_ble_eq_true rfl, ?_⟩
  show XL SK MT (d + 1) 283 (0, [some (.ref 12)], [], S) _
  simp (config := { decide := true }) only [rX11_close_0, rX11_close_1, rX11_close_2, rX11_close_5, rX11_close_8, rX11_close_9, rX11_close_12, rX11_close_15, rX11_close_16, rX11_close_19, rX11_close_20, rX11_close_23, rX11_close_25, rX11_close_28, rX11_close_29, rX11_close_32, rX11_close_33, rX11_close_36, rX11_close_37, rX11_close_38, rX11_close_40, rX11_close_43, rX11_close_44, rX11_close_45, rX11_close_48, rX11_close_49, rX11_close_50, rX11_close_53, rX11_close_54, rX11_close_57, ↓reduceIte, m1_le, m1_lt, m1_eq, ofInt_m1, ex_ret, Int32.reduceAdd, Int32.reduceSub, Int32.reduceMul, Int32.reduceLT, Int32.reduceLE, xsI, Nat.reduceEqDiff, and_false, false_and, and_true, true_and, if_true, if_false, ite_true, ite_false, xlook_0, xlook_s, xI_int, xA_ref, xJ_long, xK_some, xRow_row, xTo_some, xst1, xclr, List.set_cons_zero, List.set_cons_succ, xsum_nil, xsum_int, xsum_ref, xsum_long, Option.toList_some, Option.toList_none, List.nil_append, List.cons_append, h1, h2]
def wopS (S : xS) : xS := xsetI (xsetI S 12 8 0) 12 9 0
theorem w_open {d : Nat} {S : xS} : XC SK MT (d + 1) 282 [.ref 12] S = some (none, wopS S) := by
  rw [XC_iff]
  refine ⟨Nat.le_of_ble_eq_true rfl, ?_⟩
  show XL SK MT d 282 (0, [some (.ref 12)], [], S) _
  simp (config := { decide := true }) only [rX11_open_0, rX11_open_1, rX11_open_2, rX11_open_5, rX11_open_6, r0X11_open_7, r1X11_open_7, rX11_open_7, rX11_open_10, ↓reduceIte, m1_le, m1_lt, m1_eq, ofInt_m1, ex_ret, Int32.reduceAdd, Int32.reduceSub, Int32.reduceMul, Int32.reduceLT, Int32.reduceLE, xsI, Nat.reduceEqDiff, and_false, false_and, and_true, true_and, if_true, if_false, ite_true, ite_false, xlook_0, xlook_s, xI_int, xA_ref, xJ_long, xK_some, xRow_row, xTo_some, xst1, xclr, List.set_cons_zero, List.set_cons_succ, xsum_nil, xsum_int, xsum_ref, xsum_long, Option.toList_some, Option.toList_none, List.nil_append, List.cons_append]
  rfl
theorem wo_st {S : xS} : WSt (wopS S) [] ∧ FrWr S (wopS S) := ⟨⟨rfl, rfl, Nat.zero_le _, fun j b h => by cases h⟩, rfl, rfl, fun a q _ => by unfold wopS; rw [xsR q, xsR q]⟩
