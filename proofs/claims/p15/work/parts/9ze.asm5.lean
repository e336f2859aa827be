/-! XF: rows, then what is proved of them. -/
theorem rX0_three_0 {d : Nat} {lv : xLV} {st : List Value} {S : xS} {r : xO} : XL SK MT d 15 (0, lv, st, S) r ↔ xA (xlook lv 0) (fun x => XL SK MT d 15 (1, lv, .ref x :: st, S) r) := X_ldA rfl rfl (fun _ => rfl) rfl rfl rfl rfl
theorem rX0_three_1 {d : Nat} {lv : xLV} {st : List Value} {S : xS} {r : xO} : XL SK MT d 15 (1, lv, st, S) r ↔ xI (xlook lv 3) (fun x => XL SK MT d 15 (2, lv, .int x :: st, S) r) := X_ldI rfl rfl (fun _ => rfl) rfl rfl rfl rfl
theorem rX0_three_2 {d : Nat} {lv : xLV} {st : List Value} {S : xS} {r : xO} : XL SK MT d 15 (2, lv, st, S) r ↔ XL SK MT d 15 (4, lv, .int 21 :: st, S) r := X_pure rfl rfl rfl
theorem rX0_three_4 {d : Nat} {lv : xLV} {st : List Value} {S : xS} {r : xO} {x z : Int32} : XL SK MT d 15 (4, lv, .int z :: .int x :: st, S) r ↔ XL SK MT d 15 (5, lv, .int (x <<< (z &&& 31)) :: st, S) r := X_pure rfl rfl rfl
theorem rX0_three_5 {d : Nat} {lv : xLV} {st : List Value} {S : xS} {r : xO} : XL SK MT d 15 (5, lv, st, S) r ↔ xI (xlook lv 4) (fun x => XL SK MT d 15 (7, lv, .int x :: st, S) r) := X_ldI rfl rfl (fun _ => rfl) rfl rfl rfl rfl
theorem rX0_three_7 {d : Nat} {lv : xLV} {st : List Value} {S : xS} {r : xO} : XL SK MT d 15 (7, lv, st, S) r ↔ XL SK MT d 15 (9, lv, .int 16 :: st, S) r := X_pure rfl rfl rfl
theorem rX0_three_9 {d : Nat} {lv : xLV} {st : List Value} {S : xS} {r : xO} {x z : Int32} : XL SK MT d 15 (9, lv, .int z :: .int x :: st, S) r ↔ XL SK MT d 15 (10, lv, .int (x <<< (z &&& 31)) :: st, S) r := X_pure rfl rfl rfl
theorem rX0_three_10 {d : Nat} {lv : xLV} {st : List Value} {S : xS} {r : xO} {x z : Int32} : XL SK MT d 15 (10, lv, .int z :: .int x :: st, S) r ↔ XL SK MT d 15 (11, lv, .int (x ||| z) :: st, S) r := X_pure rfl rfl rfl
theorem rX0_three_11 {d : Nat} {lv : xLV} {st : List Value} {S : xS} {r : xO} : XL SK MT d 15 (11, lv, st, S) r ↔ xI (xlook lv 2) (fun x => XL SK MT d 15 (12, lv, .int x :: st, S) r) := X_ldI rfl rfl (fun _ => rfl) rfl rfl rfl rfl
theorem rX0_three_12 {d : Nat} {lv : xLV} {st : List Value} {S : xS} {r : xO} : XL SK MT d 15 (12, lv, st, S) r ↔ XL SK MT d 15 (14, lv, .int 11 :: st, S) r := X_pure rfl rfl rfl
theorem rX0_three_14 {d : Nat} {lv : xLV} {st : List Value} {S : xS} {r : xO} {x z : Int32} : XL SK MT d 15 (14, lv, .int z :: .int x :: st, S) r ↔ XL SK MT d 15 (15, lv, .int (x <<< (z &&& 31)) :: st, S) r := X_pure rfl rfl rfl
theorem rX0_three_15 {d : Nat} {lv : xLV} {st : List Value} {S : xS} {r : xO} {x z : Int32} : XL SK MT d 15 (15, lv, .int z :: .int x :: st, S) r ↔ XL SK MT d 15 (16, lv, .int (x ||| z) :: st, S) r := X_pure rfl rfl rfl
theorem rX0_three_16 {d : Nat} {lv : xLV} {st : List Value} {S : xS} {r : xO} : XL SK MT d 15 (16, lv, st, S) r ↔ xI (xlook lv 1) (fun x => XL SK MT d 15 (17, lv, .int x :: st, S) r) := X_ldI rfl rfl (fun _ => rfl) rfl rfl rfl rfl
theorem rX0_three_17 {d : Nat} {lv : xLV} {st : List Value} {S : xS} {r : xO} {x z : Int32} : XL SK MT d 15 (17, lv, .int z :: .int x :: st, S) r ↔ XL SK MT d 15 (18, lv, .int (x ||| z) :: st, S) r := X_pure rfl rfl rfl
theorem rX0_three_18 {d : Nat} {lv : xLV} {S : xS} {r : xO} {x1 : Int32} : XL SK MT d 15 (18, lv, [.int x1, .ref 9], S) r ↔ xK (XC SK MT d 11 [.ref 9, .int x1] S) (fun v S => XL SK MT d 15 (21, lv, v.toList ++ [], S) r) := X_inv (n := 2) (kd := 2) (st0 := [.int x1, .ref 9]) rfl (Or.inr ⟨rfl, rfl⟩) rfl (Nat.le_of_ble_eq_true rfl) (Nat.le_of_ble_eq_true rfl) (by decide) rfl
theorem rX0_three_21 {d : Nat} {lv : xLV} {S : xS} {r : xO} : XL SK MT d 15 (21, lv, [], S) r ↔ (none, S) = r := X_ret rfl rfl rfl rfl rfl rfl

theorem rX0_shift_0 {d : Nat} {lv : xLV} {st : List Value} {S : xS} {r : xO} : XL SK MT d 16 (0, lv, st, S) r ↔ xA (xlook lv 0) (fun x => XL SK MT d 16 (1, lv, .ref x :: st, S) r) := X_ldA rfl rfl (fun _ => rfl) rfl rfl rfl rfl
theorem rX0_shift_1 {d : Nat} {lv : xLV} {st : List Value} {S : xS} {r : xO} : XL SK MT d 16 (1, lv, st, S) r ↔ xI (xlook lv 3) (fun x => XL SK MT d 16 (2, lv, .int x :: st, S) r) := X_ldI rfl rfl (fun _ => rfl) rfl rfl rfl rfl
theorem rX0_shift_2 {d : Nat} {lv : xLV} {st : List Value} {S : xS} {r : xO} : XL SK MT d 16 (2, lv, st, S) r ↔ XL SK MT d 16 (4, lv, .int 16 :: st, S) r := X_pure rfl rfl rfl
theorem rX0_shift_4 {d : Nat} {lv : xLV} {st : List Value} {S : xS} {r : xO} {x z : Int32} : XL SK MT d 16 (4, lv, .int z :: .int x :: st, S) r ↔ XL SK MT d 16 (5, lv, .int (x <<< (z &&& 31)) :: st, S) r := X_pure rfl rfl rfl
theorem rX0_shift_5 {d : Nat} {lv : xLV} {st : List Value} {S : xS} {r : xO} : XL SK MT d 16 (5, lv, st, S) r ↔ xI (xlook lv 2) (fun x => XL SK MT d 16 (6, lv, .int x :: st, S) r) := X_ldI rfl rfl (fun _ => rfl) rfl rfl rfl rfl
theorem rX0_shift_6 {d : Nat} {lv : xLV} {st : List Value} {S : xS} {r : xO} : XL SK MT d 16 (6, lv, st, S) r ↔ XL SK MT d 16 (8, lv, .int 11 :: st, S) r := X_pure rfl rfl rfl
theorem rX0_shift_8 {d : Nat} {lv : xLV} {st : List Value} {S : xS} {r : xO} {x z : Int32} : XL SK MT d 16 (8, lv, .int z :: .int x :: st, S) r ↔ XL SK MT d 16 (9, lv, .int (x <<< (z &&& 31)) :: st, S) r := X_pure rfl rfl rfl
theorem rX0_shift_9 {d : Nat} {lv : xLV} {st : List Value} {S : xS} {r : xO} {x z : Int32} : XL SK MT d 16 (9, lv, .int z :: .int x :: st, S) r ↔ XL SK MT d 16 (10, lv, .int (x ||| z) :: st, S) r := X_pure rfl rfl rfl
theorem rX0_shift_10 {d : Nat} {lv : xLV} {st : List Value} {S : xS} {r : xO} : XL SK MT d 16 (10, lv, st, S) r ↔ xI (xlook lv 4) (fun x => XL SK MT d 16 (12, lv, .int x :: st, S) r) := X_ldI rfl rfl (fun _ => rfl) rfl rfl rfl rfl
theorem rX0_shift_12 {d : Nat} {lv : xLV} {st : List Value} {S : xS} {r : xO} : XL SK MT d 16 (12, lv, st, S) r ↔ XL SK MT d 16 (14, lv, .int 6 :: st, S) r := X_pure rfl rfl rfl
theorem rX0_shift_14 {d : Nat} {lv : xLV} {st : List Value} {S : xS} {r : xO} {x z : Int32} : XL SK MT d 16 (14, lv, .int z :: .int x :: st, S) r ↔ XL SK MT d 16 (15, lv, .int (x <<< (z &&& 31)) :: st, S) r := X_pure rfl rfl rfl
theorem rX0_shift_15 {d : Nat} {lv : xLV} {st : List Value} {S : xS} {r : xO} {x z : Int32} : XL SK MT d 16 (15, lv, .int z :: .int x :: st, S) r ↔ XL SK MT d 16 (16, lv, .int (x ||| z) :: st, S) r := X_pure rfl rfl rfl
theorem rX0_shift_16 {d : Nat} {lv : xLV} {st : List Value} {S : xS} {r : xO} : XL SK MT d 16 (16, lv, st, S) r ↔ xI (xlook lv 1) (fun x => XL SK MT d 16 (17, lv, .int x :: st, S) r) := X_ldI rfl rfl (fun _ => rfl) rfl rfl rfl rfl
theorem rX0_shift_17 {d : Nat} {lv : xLV} {st : List Value} {S : xS} {r : xO} {x z : Int32} : XL SK MT d 16 (17, lv, .int z :: .int x :: st, S) r ↔ XL SK MT d 16 (18, lv, .int (x ||| z) :: st, S) r := X_pure rfl rfl rfl
theorem rX0_shift_18 {d : Nat} {lv : xLV} {S : xS} {r : xO} {x1 : Int32} : XL SK MT d 16 (18, lv, [.int x1, .ref 9], S) r ↔ xK (XC SK MT d 11 [.ref 9, .int x1] S) (fun v S => XL SK MT d 16 (21, lv, v.toList ++ [], S) r) := X_inv (n := 2) (kd := 2) (st0 := [.int x1, .ref 9]) rfl (Or.inr ⟨rfl, rfl⟩) rfl (Nat.le_of_ble_eq_true rfl) (Nat.le_of_ble_eq_true rfl) (by decide) rfl
theorem rX0_shift_21 {d : Nat} {lv : xLV} {S : xS} {r : xO} : XL SK MT d 16 (21, lv, [], S) r ↔ (none, S) = r := X_ret rfl rfl rfl rfl rfl rfl

theorem rX0_immediate_0 {d : Nat} {lv : xLV} {st : List Value} {S : xS} {r : xO} : XL SK MT d 17 (0, lv, st, S) r ↔ xA (xlook lv 0) (fun x => XL SK MT d 17 (1, lv, .ref x :: st, S) r) := X_ldA rfl rfl (fun _ => rfl) rfl rfl rfl rfl
theorem rX0_immediate_1 {d : Nat} {lv : xLV} {st : List Value} {S : xS} {r : xO} : XL SK MT d 17 (1, lv, st, S) r ↔ xI (xlook lv 1) (fun x => XL SK MT d 17 (2, lv, .int x :: st, S) r) := X_ldI rfl rfl (fun _ => rfl) rfl rfl rfl rfl
theorem rX0_immediate_2 {d : Nat} {lv : xLV} {st : List Value} {S : xS} {r : xO} : XL SK MT d 17 (2, lv, st, S) r ↔ XL SK MT d 17 (4, lv, .int 26 :: st, S) r := X_pure rfl rfl rfl
theorem rX0_immediate_4 {d : Nat} {lv : xLV} {st : List Value} {S : xS} {r : xO} {x z : Int32} : XL SK MT d 17 (4, lv, .int z :: .int x :: st, S) r ↔ XL SK MT d 17 (5, lv, .int (x <<< (z &&& 31)) :: st, S) r := X_pure rfl rfl rfl
theorem rX0_immediate_5 {d : Nat} {lv : xLV} {st : List Value} {S : xS} {r : xO} : XL SK MT d 17 (5, lv, st, S) r ↔ xI (xlook lv 3) (fun x => XL SK MT d 17 (6, lv, .int x :: st, S) r) := X_ldI rfl rfl (fun _ => rfl) rfl rfl rfl rfl
theorem rX0_immediate_6 {d : Nat} {lv : xLV} {st : List Value} {S : xS} {r : xO} : XL SK MT d 17 (6, lv, st, S) r ↔ XL SK MT d 17 (8, lv, .int 21 :: st, S) r := X_pure rfl rfl rfl
theorem rX0_immediate_8 {d : Nat} {lv : xLV} {st : List Value} {S : xS} {r : xO} {x z : Int32} : XL SK MT d 17 (8, lv, .int z :: .int x :: st, S) r ↔ XL SK MT d 17 (9, lv, .int (x <<< (z &&& 31)) :: st, S) r := X_pure rfl rfl rfl
theorem rX0_immediate_9 {d : Nat} {lv : xLV} {st : List Value} {S : xS} {r : xO} {x z : Int32} : XL SK MT d 17 (9, lv, .int z :: .int x :: st, S) r ↔ XL SK MT d 17 (10, lv, .int (x ||| z) :: st, S) r := X_pure rfl rfl rfl
theorem rX0_immediate_10 {d : Nat} {lv : xLV} {st : List Value} {S : xS} {r : xO} : XL SK MT d 17 (10, lv, st, S) r ↔ xI (xlook lv 2) (fun x => XL SK MT d 17 (11, lv, .int x :: st, S) r) := X_ldI rfl rfl (fun _ => rfl) rfl rfl rfl rfl
theorem rX0_immediate_11 {d : Nat} {lv : xLV} {st : List Value} {S : xS} {r : xO} : XL SK MT d 17 (11, lv, st, S) r ↔ XL SK MT d 17 (13, lv, .int 16 :: st, S) r := X_pure rfl rfl rfl
theorem rX0_immediate_13 {d : Nat} {lv : xLV} {st : List Value} {S : xS} {r : xO} {x z : Int32} : XL SK MT d 17 (13, lv, .int z :: .int x :: st, S) r ↔ XL SK MT d 17 (14, lv, .int (x <<< (z &&& 31)) :: st, S) r := X_pure rfl rfl rfl
theorem rX0_immediate_14 {d : Nat} {lv : xLV} {st : List Value} {S : xS} {r : xO} {x z : Int32} : XL SK MT d 17 (14, lv, .int z :: .int x :: st, S) r ↔ XL SK MT d 17 (15, lv, .int (x ||| z) :: st, S) r := X_pure rfl rfl rfl
theorem rX0_immediate_15 {d : Nat} {lv : xLV} {st : List Value} {S : xS} {r : xO} : XL SK MT d 17 (15, lv, st, S) r ↔ xI (xlook lv 4) (fun x => XL SK MT d 17 (17, lv, .int x :: st, S) r) := X_ldI rfl rfl (fun _ => rfl) rfl rfl rfl rfl
theorem rX0_immediate_17 {d : Nat} {lv : xLV} {st : List Value} {S : xS} {r : xO} : XL SK MT d 17 (17, lv, st, S) r ↔ XL SK MT d 17 (19, lv, .int 65535 :: st, S) r := X_pure rfl rfl rfl
theorem rX0_immediate_19 {d : Nat} {lv : xLV} {st : List Value} {S : xS} {r : xO} {x z : Int32} : XL SK MT d 17 (19, lv, .int z :: .int x :: st, S) r ↔ XL SK MT d 17 (20, lv, .int (x &&& z) :: st, S) r := X_pure rfl rfl rfl
theorem rX0_immediate_20 {d : Nat} {lv : xLV} {st : List Value} {S : xS} {r : xO} {x z : Int32} : XL SK MT d 17 (20, lv, .int z :: .int x :: st, S) r ↔ XL SK MT d 17 (21, lv, .int (x ||| z) :: st, S) r := X_pure rfl rfl rfl
theorem rX0_immediate_21 {d : Nat} {lv : xLV} {S : xS} {r : xO} {x1 : Int32} : XL SK MT d 17 (21, lv, [.int x1, .ref 9], S) r ↔ xK (XC SK MT d 11 [.ref 9, .int x1] S) (fun v S => XL SK MT d 17 (24, lv, v.toList ++ [], S) r) := X_inv (n := 2) (kd := 2) (st0 := [.int x1, .ref 9]) rfl (Or.inr ⟨rfl, rfl⟩) rfl (Nat.le_of_ble_eq_true rfl) (Nat.le_of_ble_eq_true rfl) (by decide) rfl
theorem rX0_immediate_24 {d : Nat} {lv : xLV} {S : xS} {r : xO} : XL SK MT d 17 (24, lv, [], S) r ↔ (none, S) = r := X_ret rfl rfl rfl rfl rfl rfl

theorem rX0_lw_0 {d : Nat} {lv : xLV} {st : List Value} {S : xS} {r : xO} : XL SK MT d 18 (0, lv, st, S) r ↔ xA (xlook lv 0) (fun x => XL SK MT d 18 (1, lv, .ref x :: st, S) r) := X_ldA rfl rfl (fun _ => rfl) rfl rfl rfl rfl
theorem rX0_lw_1 {d : Nat} {lv : xLV} {st : List Value} {S : xS} {r : xO} : XL SK MT d 18 (1, lv, st, S) r ↔ XL SK MT d 18 (3, lv, .int (-1946157056) :: st, S) r := X_pure rfl rfl rfl
theorem rX0_lw_3 {d : Nat} {lv : xLV} {st : List Value} {S : xS} {r : xO} : XL SK MT d 18 (3, lv, st, S) r ↔ xI (xlook lv 3) (fun x => XL SK MT d 18 (4, lv, .int x :: st, S) r) := X_ldI rfl rfl (fun _ => rfl) rfl rfl rfl rfl
theorem rX0_lw_4 {d : Nat} {lv : xLV} {st : List Value} {S : xS} {r : xO} : XL SK MT d 18 (4, lv, st, S) r ↔ XL SK MT d 18 (6, lv, .int 21 :: st, S) r := X_pure rfl rfl rfl
theorem rX0_lw_6 {d : Nat} {lv : xLV} {st : List Value} {S : xS} {r : xO} {x z : Int32} : XL SK MT d 18 (6, lv, .int z :: .int x :: st, S) r ↔ XL SK MT d 18 (7, lv, .int (x <<< (z &&& 31)) :: st, S) r := X_pure rfl rfl rfl
theorem rX0_lw_7 {d : Nat} {lv : xLV} {st : List Value} {S : xS} {r : xO} {x z : Int32} : XL SK MT d 18 (7, lv, .int z :: .int x :: st, S) r ↔ XL SK MT d 18 (8, lv, .int (x ||| z) :: st, S) r := X_pure rfl rfl rfl
theorem rX0_lw_8 {d : Nat} {lv : xLV} {st : List Value} {S : xS} {r : xO} : XL SK MT d 18 (8, lv, st, S) r ↔ xI (xlook lv 1) (fun x => XL SK MT d 18 (9, lv, .int x :: st, S) r) := X_ldI rfl rfl (fun _ => rfl) rfl rfl rfl rfl
theorem rX0_lw_9 {d : Nat} {lv : xLV} {st : List Value} {S : xS} {r : xO} : XL SK MT d 18 (9, lv, st, S) r ↔ XL SK MT d 18 (11, lv, .int 16 :: st, S) r := X_pure rfl rfl rfl
theorem rX0_lw_11 {d : Nat} {lv : xLV} {st : List Value} {S : xS} {r : xO} {x z : Int32} : XL SK MT d 18 (11, lv, .int z :: .int x :: st, S) r ↔ XL SK MT d 18 (12, lv, .int (x <<< (z &&& 31)) :: st, S) r := X_pure rfl rfl rfl
theorem rX0_lw_12 {d : Nat} {lv : xLV} {st : List Value} {S : xS} {r : xO} {x z : Int32} : XL SK MT d 18 (12, lv, .int z :: .int x :: st, S) r ↔ XL SK MT d 18 (13, lv, .int (x ||| z) :: st, S) r := X_pure rfl rfl rfl
theorem rX0_lw_13 {d : Nat} {lv : xLV} {st : List Value} {S : xS} {r : xO} : XL SK MT d 18 (13, lv, st, S) r ↔ xI (xlook lv 2) (fun x => XL SK MT d 18 (14, lv, .int x :: st, S) r) := X_ldI rfl rfl (fun _ => rfl) rfl rfl rfl rfl
theorem rX0_lw_14 {d : Nat} {lv : xLV} {st : List Value} {S : xS} {r : xO} : XL SK MT d 18 (14, lv, st, S) r ↔ XL SK MT d 18 (16, lv, .int 65535 :: st, S) r := X_pure rfl rfl rfl
theorem rX0_lw_16 {d : Nat} {lv : xLV} {st : List Value} {S : xS} {r : xO} {x z : Int32} : XL SK MT d 18 (16, lv, .int z :: .int x :: st, S) r ↔ XL SK MT d 18 (17, lv, .int (x &&& z) :: st, S) r := X_pure rfl rfl rfl
theorem rX0_lw_17 {d : Nat} {lv : xLV} {st : List Value} {S : xS} {r : xO} {x z : Int32} : XL SK MT d 18 (17, lv, .int z :: .int x :: st, S) r ↔ XL SK MT d 18 (18, lv, .int (x ||| z) :: st, S) r := X_pure rfl rfl rfl
theorem rX0_lw_18 {d : Nat} {lv : xLV} {S : xS} {r : xO} {x1 : Int32} : XL SK MT d 18 (18, lv, [.int x1, .ref 9], S) r ↔ xK (XC SK MT d 11 [.ref 9, .int x1] S) (fun v S => XL SK MT d 18 (21, lv, v.toList ++ [], S) r) := X_inv (n := 2) (kd := 2) (st0 := [.int x1, .ref 9]) rfl (Or.inr ⟨rfl, rfl⟩) rfl (Nat.le_of_ble_eq_true rfl) (Nat.le_of_ble_eq_true rfl) (by decide) rfl
theorem rX0_lw_21 {d : Nat} {lv : xLV} {S : xS} {r : xO} : XL SK MT d 18 (21, lv, [], S) r ↔ (none, S) = r := X_ret rfl rfl rfl rfl rfl rfl

theorem rX0_sw_0 {d : Nat} {lv : xLV} {st : List Value} {S : xS} {r : xO} : XL SK MT d 19 (0, lv, st, S) r ↔ xA (xlook lv 0) (fun x => XL SK MT d 19 (1, lv, .ref x :: st, S) r) := X_ldA rfl rfl (fun _ => rfl) rfl rfl rfl rfl
theorem rX0_sw_1 {d : Nat} {lv : xLV} {st : List Value} {S : xS} {r : xO} : XL SK MT d 19 (1, lv, st, S) r ↔ XL SK MT d 19 (3, lv, .int (-1409286144) :: st, S) r := X_pure rfl rfl rfl
theorem rX0_sw_3 {d : Nat} {lv : xLV} {st : List Value} {S : xS} {r : xO} : XL SK MT d 19 (3, lv, st, S) r ↔ xI (xlook lv 3) (fun x => XL SK MT d 19 (4, lv, .int x :: st, S) r) := X_ldI rfl rfl (fun _ => rfl) rfl rfl rfl rfl
theorem rX0_sw_4 {d : Nat} {lv : xLV} {st : List Value} {S : xS} {r : xO} : XL SK MT d 19 (4, lv, st, S) r ↔ XL SK MT d 19 (6, lv, .int 21 :: st, S) r := X_pure rfl rfl rfl
theorem rX0_sw_6 {d : Nat} {lv : xLV} {st : List Value} {S : xS} {r : xO} {x z : Int32} : XL SK MT d 19 (6, lv, .int z :: .int x :: st, S) r ↔ XL SK MT d 19 (7, lv, .int (x <<< (z &&& 31)) :: st, S) r := X_pure rfl rfl rfl
theorem rX0_sw_7 {d : Nat} {lv : xLV} {st : List Value} {S : xS} {r : xO} {x z : Int32} : XL SK MT d 19 (7, lv, .int z :: .int x :: st, S) r ↔ XL SK MT d 19 (8, lv, .int (x ||| z) :: st, S) r := X_pure rfl rfl rfl
theorem rX0_sw_8 {d : Nat} {lv : xLV} {st : List Value} {S : xS} {r : xO} : XL SK MT d 19 (8, lv, st, S) r ↔ xI (xlook lv 1) (fun x => XL SK MT d 19 (9, lv, .int x :: st, S) r) := X_ldI rfl rfl (fun _ => rfl) rfl rfl rfl rfl
theorem rX0_sw_9 {d : Nat} {lv : xLV} {st : List Value} {S : xS} {r : xO} : XL SK MT d 19 (9, lv, st, S) r ↔ XL SK MT d 19 (11, lv, .int 16 :: st, S) r := X_pure rfl rfl rfl
theorem rX0_sw_11 {d : Nat} {lv : xLV} {st : List Value} {S : xS} {r : xO} {x z : Int32} : XL SK MT d 19 (11, lv, .int z :: .int x :: st, S) r ↔ XL SK MT d 19 (12, lv, .int (x <<< (z &&& 31)) :: st, S) r := X_pure rfl rfl rfl
theorem rX0_sw_12 {d : Nat} {lv : xLV} {st : List Value} {S : xS} {r : xO} {x z : Int32} : XL SK MT d 19 (12, lv, .int z :: .int x :: st, S) r ↔ XL SK MT d 19 (13, lv, .int (x ||| z) :: st, S) r := X_pure rfl rfl rfl
theorem rX0_sw_13 {d : Nat} {lv : xLV} {st : List Value} {S : xS} {r : xO} : XL SK MT d 19 (13, lv, st, S) r ↔ xI (xlook lv 2) (fun x => XL SK MT d 19 (14, lv, .int x :: st, S) r) := X_ldI rfl rfl (fun _ => rfl) rfl rfl rfl rfl
theorem rX0_sw_14 {d : Nat} {lv : xLV} {st : List Value} {S : xS} {r : xO} : XL SK MT d 19 (14, lv, st, S) r ↔ XL SK MT d 19 (16, lv, .int 65535 :: st, S) r := X_pure rfl rfl rfl
theorem rX0_sw_16 {d : Nat} {lv : xLV} {st : List Value} {S : xS} {r : xO} {x z : Int32} : XL SK MT d 19 (16, lv, .int z :: .int x :: st, S) r ↔ XL SK MT d 19 (17, lv, .int (x &&& z) :: st, S) r := X_pure rfl rfl rfl
theorem rX0_sw_17 {d : Nat} {lv : xLV} {st : List Value} {S : xS} {r : xO} {x z : Int32} : XL SK MT d 19 (17, lv, .int z :: .int x :: st, S) r ↔ XL SK MT d 19 (18, lv, .int (x ||| z) :: st, S) r := X_pure rfl rfl rfl
theorem rX0_sw_18 {d : Nat} {lv : xLV} {S : xS} {r : xO} {x1 : Int32} : XL SK MT d 19 (18, lv, [.int x1, .ref 9], S) r ↔ xK (XC SK MT d 11 [.ref 9, .int x1] S) (fun v S => XL SK MT d 19 (21, lv, v.toList ++ [], S) r) := X_inv (n := 2) (kd := 2) (st0 := [.int x1, .ref 9]) rfl (Or.inr ⟨rfl, rfl⟩) rfl (Nat.le_of_ble_eq_true rfl) (Nat.le_of_ble_eq_true rfl) (by decide) rfl
theorem rX0_sw_21 {d : Nat} {lv : xLV} {S : xS} {r : xO} : XL SK MT d 19 (21, lv, [], S) r ↔ (none, S) = r := X_ret rfl rfl rfl rfl rfl rfl

theorem rX0_add_0 {d : Nat} {lv : xLV} {st : List Value} {S : xS} {r : xO} : XL SK MT d 20 (0, lv, st, S) r ↔ xA (xlook lv 0) (fun x => XL SK MT d 20 (1, lv, .ref x :: st, S) r) := X_ldA rfl rfl (fun _ => rfl) rfl rfl rfl rfl
theorem rX0_add_1 {d : Nat} {lv : xLV} {st : List Value} {S : xS} {r : xO} : XL SK MT d 20 (1, lv, st, S) r ↔ XL SK MT d 20 (3, lv, .int 603979776 :: st, S) r := X_pure rfl rfl rfl
theorem rX0_add_3 {d : Nat} {lv : xLV} {st : List Value} {S : xS} {r : xO} : XL SK MT d 20 (3, lv, st, S) r ↔ xI (xlook lv 2) (fun x => XL SK MT d 20 (4, lv, .int x :: st, S) r) := X_ldI rfl rfl (fun _ => rfl) rfl rfl rfl rfl
theorem rX0_add_4 {d : Nat} {lv : xLV} {st : List Value} {S : xS} {r : xO} : XL SK MT d 20 (4, lv, st, S) r ↔ XL SK MT d 20 (6, lv, .int 21 :: st, S) r := X_pure rfl rfl rfl
theorem rX0_add_6 {d : Nat} {lv : xLV} {st : List Value} {S : xS} {r : xO} {x z : Int32} : XL SK MT d 20 (6, lv, .int z :: .int x :: st, S) r ↔ XL SK MT d 20 (7, lv, .int (x <<< (z &&& 31)) :: st, S) r := X_pure rfl rfl rfl
theorem rX0_add_7 {d : Nat} {lv : xLV} {st : List Value} {S : xS} {r : xO} {x z : Int32} : XL SK MT d 20 (7, lv, .int z :: .int x :: st, S) r ↔ XL SK MT d 20 (8, lv, .int (x ||| z) :: st, S) r := X_pure rfl rfl rfl
theorem rX0_add_8 {d : Nat} {lv : xLV} {st : List Value} {S : xS} {r : xO} : XL SK MT d 20 (8, lv, st, S) r ↔ xI (xlook lv 1) (fun x => XL SK MT d 20 (9, lv, .int x :: st, S) r) := X_ldI rfl rfl (fun _ => rfl) rfl rfl rfl rfl
theorem rX0_add_9 {d : Nat} {lv : xLV} {st : List Value} {S : xS} {r : xO} : XL SK MT d 20 (9, lv, st, S) r ↔ XL SK MT d 20 (11, lv, .int 16 :: st, S) r := X_pure rfl rfl rfl
theorem rX0_add_11 {d : Nat} {lv : xLV} {st : List Value} {S : xS} {r : xO} {x z : Int32} : XL SK MT d 20 (11, lv, .int z :: .int x :: st, S) r ↔ XL SK MT d 20 (12, lv, .int (x <<< (z &&& 31)) :: st, S) r := X_pure rfl rfl rfl
theorem rX0_add_12 {d : Nat} {lv : xLV} {st : List Value} {S : xS} {r : xO} {x z : Int32} : XL SK MT d 20 (12, lv, .int z :: .int x :: st, S) r ↔ XL SK MT d 20 (13, lv, .int (x ||| z) :: st, S) r := X_pure rfl rfl rfl
theorem rX0_add_13 {d : Nat} {lv : xLV} {st : List Value} {S : xS} {r : xO} : XL SK MT d 20 (13, lv, st, S) r ↔ xI (xlook lv 3) (fun x => XL SK MT d 20 (14, lv, .int x :: st, S) r) := X_ldI rfl rfl (fun _ => rfl) rfl rfl rfl rfl
theorem rX0_add_14 {d : Nat} {lv : xLV} {st : List Value} {S : xS} {r : xO} : XL SK MT d 20 (14, lv, st, S) r ↔ XL SK MT d 20 (16, lv, .int 65535 :: st, S) r := X_pure rfl rfl rfl
theorem rX0_add_16 {d : Nat} {lv : xLV} {st : List Value} {S : xS} {r : xO} {x z : Int32} : XL SK MT d 20 (16, lv, .int z :: .int x :: st, S) r ↔ XL SK MT d 20 (17, lv, .int (x &&& z) :: st, S) r := X_pure rfl rfl rfl
theorem rX0_add_17 {d : Nat} {lv : xLV} {st : List Value} {S : xS} {r : xO} {x z : Int32} : XL SK MT d 20 (17, lv, .int z :: .int x :: st, S) r ↔ XL SK MT d 20 (18, lv, .int (x ||| z) :: st, S) r := X_pure rfl rfl rfl
theorem rX0_add_18 {d : Nat} {lv : xLV} {S : xS} {r : xO} {x1 : Int32} : XL SK MT d 20 (18, lv, [.int x1, .ref 9], S) r ↔ xK (XC SK MT d 11 [.ref 9, .int x1] S) (fun v S => XL SK MT d 20 (21, lv, v.toList ++ [], S) r) := X_inv (n := 2) (kd := 2) (st0 := [.int x1, .ref 9]) rfl (Or.inr ⟨rfl, rfl⟩) rfl (Nat.le_of_ble_eq_true rfl) (Nat.le_of_ble_eq_true rfl) (by decide) rfl
theorem rX0_add_21 {d : Nat} {lv : xLV} {S : xS} {r : xO} : XL SK MT d 20 (21, lv, [], S) r ↔ (none, S) = r := X_ret rfl rfl rfl rfl rfl rfl

theorem rX0_move_0 {d : Nat} {lv : xLV} {st : List Value} {S : xS} {r : xO} : XL SK MT d 21 (0, lv, st, S) r ↔ xA (xlook lv 0) (fun x => XL SK MT d 21 (1, lv, .ref x :: st, S) r) := X_ldA rfl rfl (fun _ => rfl) rfl rfl rfl rfl
theorem rX0_move_1 {d : Nat} {lv : xLV} {st : List Value} {S : xS} {r : xO} : XL SK MT d 21 (1, lv, st, S) r ↔ xI (xlook lv 2) (fun x => XL SK MT d 21 (2, lv, .int x :: st, S) r) := X_ldI rfl rfl (fun _ => rfl) rfl rfl rfl rfl
theorem rX0_move_2 {d : Nat} {lv : xLV} {st : List Value} {S : xS} {r : xO} : XL SK MT d 21 (2, lv, st, S) r ↔ XL SK MT d 21 (4, lv, .int 21 :: st, S) r := X_pure rfl rfl rfl
theorem rX0_move_4 {d : Nat} {lv : xLV} {st : List Value} {S : xS} {r : xO} {x z : Int32} : XL SK MT d 21 (4, lv, .int z :: .int x :: st, S) r ↔ XL SK MT d 21 (5, lv, .int (x <<< (z &&& 31)) :: st, S) r := X_pure rfl rfl rfl
theorem rX0_move_5 {d : Nat} {lv : xLV} {st : List Value} {S : xS} {r : xO} : XL SK MT d 21 (5, lv, st, S) r ↔ xI (xlook lv 1) (fun x => XL SK MT d 21 (6, lv, .int x :: st, S) r) := X_ldI rfl rfl (fun _ => rfl) rfl rfl rfl rfl
theorem rX0_move_6 {d : Nat} {lv : xLV} {st : List Value} {S : xS} {r : xO} : XL SK MT d 21 (6, lv, st, S) r ↔ XL SK MT d 21 (8, lv, .int 11 :: st, S) r := X_pure rfl rfl rfl
theorem rX0_move_8 {d : Nat} {lv : xLV} {st : List Value} {S : xS} {r : xO} {x z : Int32} : XL SK MT d 21 (8, lv, .int z :: .int x :: st, S) r ↔ XL SK MT d 21 (9, lv, .int (x <<< (z &&& 31)) :: st, S) r := X_pure rfl rfl rfl
theorem rX0_move_9 {d : Nat} {lv : xLV} {st : List Value} {S : xS} {r : xO} {x z : Int32} : XL SK MT d 21 (9, lv, .int z :: .int x :: st, S) r ↔ XL SK MT d 21 (10, lv, .int (x ||| z) :: st, S) r := X_pure rfl rfl rfl
theorem rX0_move_10 {d : Nat} {lv : xLV} {st : List Value} {S : xS} {r : xO} : XL SK MT d 21 (10, lv, st, S) r ↔ XL SK MT d 21 (12, lv, .int 33 :: st, S) r := X_pure rfl rfl rfl
theorem rX0_move_12 {d : Nat} {lv : xLV} {st : List Value} {S : xS} {r : xO} {x z : Int32} : XL SK MT d 21 (12, lv, .int z :: .int x :: st, S) r ↔ XL SK MT d 21 (13, lv, .int (x ||| z) :: st, S) r := X_pure rfl rfl rfl
theorem rX0_move_13 {d : Nat} {lv : xLV} {S : xS} {r : xO} {x1 : Int32} : XL SK MT d 21 (13, lv, [.int x1, .ref 9], S) r ↔ xK (XC SK MT d 11 [.ref 9, .int x1] S) (fun v S => XL SK MT d 21 (16, lv, v.toList ++ [], S) r) := X_inv (n := 2) (kd := 2) (st0 := [.int x1, .ref 9]) rfl (Or.inr ⟨rfl, rfl⟩) rfl (Nat.le_of_ble_eq_true rfl) (Nat.le_of_ble_eq_true rfl) (by decide) rfl
theorem rX0_move_16 {d : Nat} {lv : xLV} {S : xS} {r : xO} : XL SK MT d 21 (16, lv, [], S) r ↔ (none, S) = r := X_ret rfl rfl rfl rfl rfl rfl

theorem rX0_branch_0 {d : Nat} {lv : xLV} {st : List Value} {S : xS} {r : xO} : XL SK MT d 24 (0, lv, st, S) r ↔ xA (xlook lv 0) (fun x => XL SK MT d 24 (1, lv, .ref x :: st, S) r) := X_ldA rfl rfl (fun _ => rfl) rfl rfl rfl rfl
theorem rX0_branch_1 {d : Nat} {lv : xLV} {st : List Value} {S : xS} {r : xO} : XL SK MT d 24 (1, lv, st, S) r ↔ xI (xlook lv 1) (fun x => XL SK MT d 24 (2, lv, .int x :: st, S) r) := X_ldI rfl rfl (fun _ => rfl) rfl rfl rfl rfl
theorem rX0_branch_2 {d : Nat} {lv : xLV} {st : List Value} {S : xS} {r : xO} : XL SK MT d 24 (2, lv, st, S) r ↔ XL SK MT d 24 (4, lv, .int 26 :: st, S) r := X_pure rfl rfl rfl
theorem rX0_branch_4 {d : Nat} {lv : xLV} {st : List Value} {S : xS} {r : xO} {x z : Int32} : XL SK MT d 24 (4, lv, .int z :: .int x :: st, S) r ↔ XL SK MT d 24 (5, lv, .int (x <<< (z &&& 31)) :: st, S) r := X_pure rfl rfl rfl
theorem rX0_branch_5 {d : Nat} {lv : xLV} {st : List Value} {S : xS} {r : xO} : XL SK MT d 24 (5, lv, st, S) r ↔ xI (xlook lv 2) (fun x => XL SK MT d 24 (6, lv, .int x :: st, S) r) := X_ldI rfl rfl (fun _ => rfl) rfl rfl rfl rfl
theorem rX0_branch_6 {d : Nat} {lv : xLV} {st : List Value} {S : xS} {r : xO} : XL SK MT d 24 (6, lv, st, S) r ↔ XL SK MT d 24 (8, lv, .int 21 :: st, S) r := X_pure rfl rfl rfl
theorem rX0_branch_8 {d : Nat} {lv : xLV} {st : List Value} {S : xS} {r : xO} {x z : Int32} : XL SK MT d 24 (8, lv, .int z :: .int x :: st, S) r ↔ XL SK MT d 24 (9, lv, .int (x <<< (z &&& 31)) :: st, S) r := X_pure rfl rfl rfl
theorem rX0_branch_9 {d : Nat} {lv : xLV} {st : List Value} {S : xS} {r : xO} {x z : Int32} : XL SK MT d 24 (9, lv, .int z :: .int x :: st, S) r ↔ XL SK MT d 24 (10, lv, .int (x ||| z) :: st, S) r := X_pure rfl rfl rfl
theorem rX0_branch_10 {d : Nat} {lv : xLV} {st : List Value} {S : xS} {r : xO} : XL SK MT d 24 (10, lv, st, S) r ↔ xI (xlook lv 3) (fun x => XL SK MT d 24 (11, lv, .int x :: st, S) r) := X_ldI rfl rfl (fun _ => rfl) rfl rfl rfl rfl
theorem rX0_branch_11 {d : Nat} {lv : xLV} {st : List Value} {S : xS} {r : xO} : XL SK MT d 24 (11, lv, st, S) r ↔ XL SK MT d 24 (13, lv, .int 16 :: st, S) r := X_pure rfl rfl rfl
theorem rX0_branch_13 {d : Nat} {lv : xLV} {st : List Value} {S : xS} {r : xO} {x z : Int32} : XL SK MT d 24 (13, lv, .int z :: .int x :: st, S) r ↔ XL SK MT d 24 (14, lv, .int (x <<< (z &&& 31)) :: st, S) r := X_pure rfl rfl rfl
theorem rX0_branch_14 {d : Nat} {lv : xLV} {st : List Value} {S : xS} {r : xO} {x z : Int32} : XL SK MT d 24 (14, lv, .int z :: .int x :: st, S) r ↔ XL SK MT d 24 (15, lv, .int (x ||| z) :: st, S) r := X_pure rfl rfl rfl
theorem rX0_branch_15 {d : Nat} {lv : xLV} {st : List Value} {S : xS} {r : xO} : XL SK MT d 24 (15, lv, st, S) r ↔ xI (xlook lv 4) (fun x => XL SK MT d 24 (17, lv, .int x :: st, S) r) := X_ldI rfl rfl (fun _ => rfl) rfl rfl rfl rfl
theorem rX0_branch_17 {d : Nat} {lv : xLV} {S : xS} {r : xO} {x1 : Int32} {x2 : Int32} : XL SK MT d 24 (17, lv, [.int x2, .int x1, .ref 9], S) r ↔ xK (XC SK MT d 13 [.ref 9, .int x1, .int x2] S) (fun v S => XL SK MT d 24 (20, lv, v.toList ++ [], S) r) := X_inv (n := 3) (kd := 2) (st0 := [.int x2, .int x1, .ref 9]) rfl (Or.inr ⟨rfl, rfl⟩) rfl (Nat.le_of_ble_eq_true rfl) (Nat.le_of_ble_eq_true rfl) (by decide) rfl
theorem rX0_branch_20 {d : Nat} {lv : xLV} {S : xS} {r : xO} : XL SK MT d 24 (20, lv, [], S) r ↔ (none, S) = r := X_ret rfl rfl rfl rfl rfl rfl

theorem rX0_branchNotBelow_0 {d : Nat} {lv : xLV} {st : List Value} {S : xS} {r : xO} : XL SK MT d 25 (0, lv, st, S) r ↔ xA (xlook lv 0) (fun x => XL SK MT d 25 (1, lv, .ref x :: st, S) r) := X_ldA rfl rfl (fun _ => rfl) rfl rfl rfl rfl
theorem rX0_branchNotBelow_1 {d : Nat} {lv : xLV} {st : List Value} {S : xS} {r : xO} : XL SK MT d 25 (1, lv, st, S) r ↔ XL SK MT d 25 (3, lv, .int 67108864 :: st, S) r := X_pure rfl rfl rfl
theorem rX0_branchNotBelow_3 {d : Nat} {lv : xLV} {st : List Value} {S : xS} {r : xO} : XL SK MT d 25 (3, lv, st, S) r ↔ xI (xlook lv 1) (fun x => XL SK MT d 25 (4, lv, .int x :: st, S) r) := X_ldI rfl rfl (fun _ => rfl) rfl rfl rfl rfl
theorem rX0_branchNotBelow_4 {d : Nat} {lv : xLV} {st : List Value} {S : xS} {r : xO} : XL SK MT d 25 (4, lv, st, S) r ↔ XL SK MT d 25 (6, lv, .int 21 :: st, S) r := X_pure rfl rfl rfl
theorem rX0_branchNotBelow_6 {d : Nat} {lv : xLV} {st : List Value} {S : xS} {r : xO} {x z : Int32} : XL SK MT d 25 (6, lv, .int z :: .int x :: st, S) r ↔ XL SK MT d 25 (7, lv, .int (x <<< (z &&& 31)) :: st, S) r := X_pure rfl rfl rfl
theorem rX0_branchNotBelow_7 {d : Nat} {lv : xLV} {st : List Value} {S : xS} {r : xO} {x z : Int32} : XL SK MT d 25 (7, lv, .int z :: .int x :: st, S) r ↔ XL SK MT d 25 (8, lv, .int (x ||| z) :: st, S) r := X_pure rfl rfl rfl
theorem rX0_branchNotBelow_8 {d : Nat} {lv : xLV} {st : List Value} {S : xS} {r : xO} : XL SK MT d 25 (8, lv, st, S) r ↔ XL SK MT d 25 (10, lv, .int 65536 :: st, S) r := X_pure rfl rfl rfl
theorem rX0_branchNotBelow_10 {d : Nat} {lv : xLV} {st : List Value} {S : xS} {r : xO} {x z : Int32} : XL SK MT d 25 (10, lv, .int z :: .int x :: st, S) r ↔ XL SK MT d 25 (11, lv, .int (x ||| z) :: st, S) r := X_pure rfl rfl rfl
theorem rX0_branchNotBelow_11 {d : Nat} {lv : xLV} {st : List Value} {S : xS} {r : xO} : XL SK MT d 25 (11, lv, st, S) r ↔ xI (xlook lv 2) (fun x => XL SK MT d 25 (12, lv, .int x :: st, S) r) := X_ldI rfl rfl (fun _ => rfl) rfl rfl rfl rfl
theorem rX0_branchNotBelow_12 {d : Nat} {lv : xLV} {S : xS} {r : xO} {x1 : Int32} {x2 : Int32} : XL SK MT d 25 (12, lv, [.int x2, .int x1, .ref 9], S) r ↔ xK (XC SK MT d 13 [.ref 9, .int x1, .int x2] S) (fun v S => XL SK MT d 25 (15, lv, v.toList ++ [], S) r) := X_inv (n := 3) (kd := 2) (st0 := [.int x2, .int x1, .ref 9]) rfl (Or.inr ⟨rfl, rfl⟩) rfl (Nat.le_of_ble_eq_true rfl) (Nat.le_of_ble_eq_true rfl) (by decide) rfl
theorem rX0_branchNotBelow_15 {d : Nat} {lv : xLV} {S : xS} {r : xO} : XL SK MT d 25 (15, lv, [], S) r ↔ (none, S) = r := X_ret rfl rfl rfl rfl rfl rfl

theorem rX0_over_0 {d : Nat} {lv : xLV} {st : List Value} {S : xS} {r : xO} : XL SK MT d 26 (0, lv, st, S) r ↔ xA (xlook lv 0) (fun x => XL SK MT d 26 (1, lv, .ref x :: st, S) r) := X_ldA rfl rfl (fun _ => rfl) rfl rfl rfl rfl
theorem rX0_over_1 {d : Nat} {lv : xLV} {st : List Value} {S : xS} {r : xO} : XL SK MT d 26 (1, lv, st, S) r ↔ xI (xlook lv 1) (fun x => XL SK MT d 26 (2, lv, .int x :: st, S) r) := X_ldI rfl rfl (fun _ => rfl) rfl rfl rfl rfl
theorem rX0_over_2 {d : Nat} {lv : xLV} {st : List Value} {S : xS} {r : xO} : XL SK MT d 26 (2, lv, st, S) r ↔ XL SK MT d 26 (4, lv, .int 26 :: st, S) r := X_pure rfl rfl rfl
theorem rX0_over_4 {d : Nat} {lv : xLV} {st : List Value} {S : xS} {r : xO} {x z : Int32} : XL SK MT d 26 (4, lv, .int z :: .int x :: st, S) r ↔ XL SK MT d 26 (5, lv, .int (x <<< (z &&& 31)) :: st, S) r := X_pure rfl rfl rfl
theorem rX0_over_5 {d : Nat} {lv : xLV} {st : List Value} {S : xS} {r : xO} : XL SK MT d 26 (5, lv, st, S) r ↔ xI (xlook lv 2) (fun x => XL SK MT d 26 (6, lv, .int x :: st, S) r) := X_ldI rfl rfl (fun _ => rfl) rfl rfl rfl rfl
theorem rX0_over_6 {d : Nat} {lv : xLV} {st : List Value} {S : xS} {r : xO} : XL SK MT d 26 (6, lv, st, S) r ↔ XL SK MT d 26 (8, lv, .int 21 :: st, S) r := X_pure rfl rfl rfl
theorem rX0_over_8 {d : Nat} {lv : xLV} {st : List Value} {S : xS} {r : xO} {x z : Int32} : XL SK MT d 26 (8, lv, .int z :: .int x :: st, S) r ↔ XL SK MT d 26 (9, lv, .int (x <<< (z &&& 31)) :: st, S) r := X_pure rfl rfl rfl
theorem rX0_over_9 {d : Nat} {lv : xLV} {st : List Value} {S : xS} {r : xO} {x z : Int32} : XL SK MT d 26 (9, lv, .int z :: .int x :: st, S) r ↔ XL SK MT d 26 (10, lv, .int (x ||| z) :: st, S) r := X_pure rfl rfl rfl
theorem rX0_over_10 {d : Nat} {lv : xLV} {st : List Value} {S : xS} {r : xO} : XL SK MT d 26 (10, lv, st, S) r ↔ xI (xlook lv 3) (fun x => XL SK MT d 26 (11, lv, .int x :: st, S) r) := X_ldI rfl rfl (fun _ => rfl) rfl rfl rfl rfl
theorem rX0_over_11 {d : Nat} {lv : xLV} {st : List Value} {S : xS} {r : xO} : XL SK MT d 26 (11, lv, st, S) r ↔ XL SK MT d 26 (13, lv, .int 16 :: st, S) r := X_pure rfl rfl rfl
theorem rX0_over_13 {d : Nat} {lv : xLV} {st : List Value} {S : xS} {r : xO} {x z : Int32} : XL SK MT d 26 (13, lv, .int z :: .int x :: st, S) r ↔ XL SK MT d 26 (14, lv, .int (x <<< (z &&& 31)) :: st, S) r := X_pure rfl rfl rfl
theorem rX0_over_14 {d : Nat} {lv : xLV} {st : List Value} {S : xS} {r : xO} {x z : Int32} : XL SK MT d 26 (14, lv, .int z :: .int x :: st, S) r ↔ XL SK MT d 26 (15, lv, .int (x ||| z) :: st, S) r := X_pure rfl rfl rfl
theorem rX0_over_15 {d : Nat} {lv : xLV} {st : List Value} {S : xS} {r : xO} : XL SK MT d 26 (15, lv, st, S) r ↔ XL SK MT d 26 (16, lv, .int 3 :: st, S) r := X_pure rfl rfl rfl
theorem rX0_over_16 {d : Nat} {lv : xLV} {st : List Value} {S : xS} {r : xO} {x z : Int32} : XL SK MT d 26 (16, lv, .int z :: .int x :: st, S) r ↔ XL SK MT d 26 (17, lv, .int (x ||| z) :: st, S) r := X_pure rfl rfl rfl
theorem rX0_over_17 {d : Nat} {lv : xLV} {st : List Value} {S : xS} {r : xO} : XL SK MT d 26 (17, lv, st, S) r ↔ XL SK MT d 26 (18, lv, .int (-1) :: st, S) r := X_pure rfl rfl rfl
theorem rX0_over_18 {d : Nat} {lv : xLV} {S : xS} {r : xO} {x1 : Int32} {x2 : Int32} : XL SK MT d 26 (18, lv, [.int x2, .int x1, .ref 9], S) r ↔ xK (XC SK MT d 13 [.ref 9, .int x1, .int x2] S) (fun v S => XL SK MT d 26 (21, lv, v.toList ++ [], S) r) := X_inv (n := 3) (kd := 2) (st0 := [.int x2, .int x1, .ref 9]) rfl (Or.inr ⟨rfl, rfl⟩) rfl (Nat.le_of_ble_eq_true rfl) (Nat.le_of_ble_eq_true rfl) (by decide) rfl
theorem rX0_over_21 {d : Nat} {lv : xLV} {S : xS} {r : xO} : XL SK MT d 26 (21, lv, [], S) r ↔ (none, S) = r := X_ret rfl rfl rfl rfl rfl rfl

theorem rX0_jump_0 {d : Nat} {lv : xLV} {st : List Value} {S : xS} {r : xO} : XL SK MT d 27 (0, lv, st, S) r ↔ xA (xlook lv 0) (fun x => XL SK MT d 27 (1, lv, .ref x :: st, S) r) := X_ldA rfl rfl (fun _ => rfl) rfl rfl rfl rfl
theorem rX0_jump_1 {d : Nat} {lv : xLV} {st : List Value} {S : xS} {r : xO} : XL SK MT d 27 (1, lv, st, S) r ↔ XL SK MT d 27 (3, lv, .int 134217728 :: st, S) r := X_pure rfl rfl rfl
theorem rX0_jump_3 {d : Nat} {lv : xLV} {st : List Value} {S : xS} {r : xO} : XL SK MT d 27 (3, lv, st, S) r ↔ xI (xlook lv 1) (fun x => XL SK MT d 27 (4, lv, .int x :: st, S) r) := X_ldI rfl rfl (fun _ => rfl) rfl rfl rfl rfl
theorem rX0_jump_4 {d : Nat} {lv : xLV} {S : xS} {r : xO} {x1 : Int32} {x2 : Int32} : XL SK MT d 27 (4, lv, [.int x2, .int x1, .ref 9], S) r ↔ xK (XC SK MT d 13 [.ref 9, .int x1, .int x2] S) (fun v S => XL SK MT d 27 (7, lv, v.toList ++ [], S) r) := X_inv (n := 3) (kd := 2) (st0 := [.int x2, .int x1, .ref 9]) rfl (Or.inr ⟨rfl, rfl⟩) rfl (Nat.le_of_ble_eq_true rfl) (Nat.le_of_ble_eq_true rfl) (by decide) rfl
theorem rX0_jump_7 {d : Nat} {lv : xLV} {S : xS} {r : xO} : XL SK MT d 27 (7, lv, [], S) r ↔ (none, S) = r := X_ret rfl rfl rfl rfl rfl rfl

theorem rX0_jumpAndLink_0 {d : Nat} {lv : xLV} {st : List Value} {S : xS} {r : xO} : XL SK MT d 28 (0, lv, st, S) r ↔ xA (xlook lv 0) (fun x => XL SK MT d 28 (1, lv, .ref x :: st, S) r) := X_ldA rfl rfl (fun _ => rfl) rfl rfl rfl rfl
theorem rX0_jumpAndLink_1 {d : Nat} {lv : xLV} {st : List Value} {S : xS} {r : xO} : XL SK MT d 28 (1, lv, st, S) r ↔ XL SK MT d 28 (3, lv, .int 201326592 :: st, S) r := X_pure rfl rfl rfl
theorem rX0_jumpAndLink_3 {d : Nat} {lv : xLV} {st : List Value} {S : xS} {r : xO} : XL SK MT d 28 (3, lv, st, S) r ↔ xI (xlook lv 1) (fun x => XL SK MT d 28 (4, lv, .int x :: st, S) r) := X_ldI rfl rfl (fun _ => rfl) rfl rfl rfl rfl
theorem rX0_jumpAndLink_4 {d : Nat} {lv : xLV} {S : xS} {r : xO} {x1 : Int32} {x2 : Int32} : XL SK MT d 28 (4, lv, [.int x2, .int x1, .ref 9], S) r ↔ xK (XC SK MT d 13 [.ref 9, .int x1, .int x2] S) (fun v S => XL SK MT d 28 (7, lv, v.toList ++ [], S) r) := X_inv (n := 3) (kd := 2) (st0 := [.int x2, .int x1, .ref 9]) rfl (Or.inr ⟨rfl, rfl⟩) rfl (Nat.le_of_ble_eq_true rfl) (Nat.le_of_ble_eq_true rfl) (by decide) rfl
theorem rX0_jumpAndLink_7 {d : Nat} {lv : xLV} {S : xS} {r : xO} : XL SK MT d 28 (7, lv, [], S) r ↔ (none, S) = r := X_ret rfl rfl rfl rfl rfl rfl

theorem rX0_back_0 {d : Nat} {lv : xLV} {st : List Value} {S : xS} {r : xO} : XL SK MT d 29 (0, lv, st, S) r ↔ xA (xlook lv 0) (fun x => XL SK MT d 29 (1, lv, .ref x :: st, S) r) := X_ldA rfl rfl (fun _ => rfl) rfl rfl rfl rfl
theorem rX0_back_1 {d : Nat} {lv : xLV} {st : List Value} {S : xS} {r : xO} : XL SK MT d 29 (1, lv, st, S) r ↔ xI (xlook lv 1) (fun x => XL SK MT d 29 (2, lv, .int x :: st, S) r) := X_ldI rfl rfl (fun _ => rfl) rfl rfl rfl rfl
theorem rX0_back_2 {d : Nat} {lv : xLV} {st : List Value} {S : xS} {r : xO} : XL SK MT d 29 (2, lv, st, S) r ↔ XL SK MT d 29 (4, lv, .int 21 :: st, S) r := X_pure rfl rfl rfl
theorem rX0_back_4 {d : Nat} {lv : xLV} {st : List Value} {S : xS} {r : xO} {x z : Int32} : XL SK MT d 29 (4, lv, .int z :: .int x :: st, S) r ↔ XL SK MT d 29 (5, lv, .int (x <<< (z &&& 31)) :: st, S) r := X_pure rfl rfl rfl
theorem rX0_back_5 {d : Nat} {lv : xLV} {st : List Value} {S : xS} {r : xO} : XL SK MT d 29 (5, lv, st, S) r ↔ XL SK MT d 29 (7, lv, .int 8 :: st, S) r := X_pure rfl rfl rfl
theorem rX0_back_7 {d : Nat} {lv : xLV} {st : List Value} {S : xS} {r : xO} {x z : Int32} : XL SK MT d 29 (7, lv, .int z :: .int x :: st, S) r ↔ XL SK MT d 29 (8, lv, .int (x ||| z) :: st, S) r := X_pure rfl rfl rfl
theorem rX0_back_8 {d : Nat} {lv : xLV} {st : List Value} {S : xS} {r : xO} : XL SK MT d 29 (8, lv, st, S) r ↔ XL SK MT d 29 (9, lv, .int (-1) :: st, S) r := X_pure rfl rfl rfl
theorem rX0_back_9 {d : Nat} {lv : xLV} {S : xS} {r : xO} {x1 : Int32} {x2 : Int32} : XL SK MT d 29 (9, lv, [.int x2, .int x1, .ref 9], S) r ↔ xK (XC SK MT d 13 [.ref 9, .int x1, .int x2] S) (fun v S => XL SK MT d 29 (12, lv, v.toList ++ [], S) r) := X_inv (n := 3) (kd := 2) (st0 := [.int x2, .int x1, .ref 9]) rfl (Or.inr ⟨rfl, rfl⟩) rfl (Nat.le_of_ble_eq_true rfl) (Nat.le_of_ble_eq_true rfl) (by decide) rfl
theorem rX0_back_12 {d : Nat} {lv : xLV} {S : xS} {r : xO} : XL SK MT d 29 (12, lv, [], S) r ↔ (none, S) = r := X_ret rfl rfl rfl rfl rfl rfl

theorem rX0_set_0 {d : Nat} {lv : xLV} {st : List Value} {S : xS} {r : xO} : XL SK MT d 22 (0, lv, st, S) r ↔ xI (xlook lv 2) (fun x => XL SK MT d 22 (1, lv, .int x :: st, S) r) := X_ldI rfl rfl (fun _ => rfl) rfl rfl rfl rfl
theorem rX0_set_1 {d : Nat} {lv : xLV} {st : List Value} {S : xS} {r : xO} : XL SK MT d 22 (1, lv, st, S) r ↔ XL SK MT d 22 (4, lv, .int (-32768) :: st, S) r := X_pure rfl rfl rfl
theorem rX0_set_4 {d : Nat} {lv : xLV} {st : List Value} {S : xS} {r : xO} {x z : Int32} : XL SK MT d 22 (4, lv, .int z :: .int x :: st, S) r ↔ if x < z then XL SK MT d 22 (31, lv, st, S) r else XL SK MT d 22 (7, lv, st, S) r := (X_icmp rfl rfl).trans xc_lt
theorem rX0_set_7 {d : Nat} {lv : xLV} {st : List Value} {S : xS} {r : xO} : XL SK MT d 22 (7, lv, st, S) r ↔ xI (xlook lv 2) (fun x => XL SK MT d 22 (8, lv, .int x :: st, S) r) := X_ldI rfl rfl (fun _ => rfl) rfl rfl rfl rfl
theorem rX0_set_8 {d : Nat} {lv : xLV} {st : List Value} {S : xS} {r : xO} : XL SK MT d 22 (8, lv, st, S) r ↔ XL SK MT d 22 (11, lv, .int 32767 :: st, S) r := X_pure rfl rfl rfl
theorem rX0_set_11 {d : Nat} {lv : xLV} {st : List Value} {S : xS} {r : xO} {x z : Int32} : XL SK MT d 22 (11, lv, .int z :: .int x :: st, S) r ↔ if z < x then XL SK MT d 22 (31, lv, st, S) r else XL SK MT d 22 (14, lv, st, S) r := (X_icmp rfl rfl).trans xc_gt
theorem rX0_set_14 {d : Nat} {lv : xLV} {st : List Value} {S : xS} {r : xO} : XL SK MT d 22 (14, lv, st, S) r ↔ xA (xlook lv 0) (fun x => XL SK MT d 22 (15, lv, .ref x :: st, S) r) := X_ldA rfl rfl (fun _ => rfl) rfl rfl rfl rfl
theorem rX0_set_15 {d : Nat} {lv : xLV} {st : List Value} {S : xS} {r : xO} : XL SK MT d 22 (15, lv, st, S) r ↔ XL SK MT d 22 (17, lv, .int 603979776 :: st, S) r := X_pure rfl rfl rfl
theorem rX0_set_17 {d : Nat} {lv : xLV} {st : List Value} {S : xS} {r : xO} : XL SK MT d 22 (17, lv, st, S) r ↔ xI (xlook lv 1) (fun x => XL SK MT d 22 (18, lv, .int x :: st, S) r) := X_ldI rfl rfl (fun _ => rfl) rfl rfl rfl rfl
theorem rX0_set_18 {d : Nat} {lv : xLV} {st : List Value} {S : xS} {r : xO} : XL SK MT d 22 (18, lv, st, S) r ↔ XL SK MT d 22 (20, lv, .int 16 :: st, S) r := X_pure rfl rfl rfl
theorem rX0_set_20 {d : Nat} {lv : xLV} {st : List Value} {S : xS} {r : xO} {x z : Int32} : XL SK MT d 22 (20, lv, .int z :: .int x :: st, S) r ↔ XL SK MT d 22 (21, lv, .int (x <<< (z &&& 31)) :: st, S) r := X_pure rfl rfl rfl
theorem rX0_set_21 {d : Nat} {lv : xLV} {st : List Value} {S : xS} {r : xO} {x z : Int32} : XL SK MT d 22 (21, lv, .int z :: .int x :: st, S) r ↔ XL SK MT d 22 (22, lv, .int (x ||| z) :: st, S) r := X_pure rfl rfl rfl
theorem rX0_set_22 {d : Nat} {lv : xLV} {st : List Value} {S : xS} {r : xO} : XL SK MT d 22 (22, lv, st, S) r ↔ xI (xlook lv 2) (fun x => XL SK MT d 22 (23, lv, .int x :: st, S) r) := X_ldI rfl rfl (fun _ => rfl) rfl rfl rfl rfl
theorem rX0_set_23 {d : Nat} {lv : xLV} {st : List Value} {S : xS} {r : xO} : XL SK MT d 22 (23, lv, st, S) r ↔ XL SK MT d 22 (25, lv, .int 65535 :: st, S) r := X_pure rfl rfl rfl
theorem rX0_set_25 {d : Nat} {lv : xLV} {st : List Value} {S : xS} {r : xO} {x z : Int32} : XL SK MT d 22 (25, lv, .int z :: .int x :: st, S) r ↔ XL SK MT d 22 (26, lv, .int (x &&& z) :: st, S) r := X_pure rfl rfl rfl
theorem rX0_set_26 {d : Nat} {lv : xLV} {st : List Value} {S : xS} {r : xO} {x z : Int32} : XL SK MT d 22 (26, lv, .int z :: .int x :: st, S) r ↔ XL SK MT d 22 (27, lv, .int (x ||| z) :: st, S) r := X_pure rfl rfl rfl
theorem rX0_set_27 {d : Nat} {lv : xLV} {S : xS} {r : xO} {x1 : Int32} : XL SK MT d 22 (27, lv, [.int x1, .ref 9], S) r ↔ xK (XC SK MT d 11 [.ref 9, .int x1] S) (fun v S => XL SK MT d 22 (30, lv, v.toList ++ [], S) r) := X_inv (n := 2) (kd := 2) (st0 := [.int x1, .ref 9]) rfl (Or.inr ⟨rfl, rfl⟩) rfl (Nat.le_of_ble_eq_true rfl) (Nat.le_of_ble_eq_true rfl) (by decide) rfl
theorem rX0_set_30 {d : Nat} {lv : xLV} {S : xS} {r : xO} : XL SK MT d 22 (30, lv, [], S) r ↔ (none, S) = r := X_ret rfl rfl rfl rfl rfl rfl
theorem rX0_set_31 {d : Nat} {lv : xLV} {st : List Value} {S : xS} {r : xO} : XL SK MT d 22 (31, lv, st, S) r ↔ xA (xlook lv 0) (fun x => XL SK MT d 22 (32, lv, .ref x :: st, S) r) := X_ldA rfl rfl (fun _ => rfl) rfl rfl rfl rfl
theorem rX0_set_32 {d : Nat} {lv : xLV} {st : List Value} {S : xS} {r : xO} : XL SK MT d 22 (32, lv, st, S) r ↔ XL SK MT d 22 (34, lv, .int 1006632960 :: st, S) r := X_pure rfl rfl rfl
theorem rX0_set_34 {d : Nat} {lv : xLV} {st : List Value} {S : xS} {r : xO} : XL SK MT d 22 (34, lv, st, S) r ↔ xI (xlook lv 1) (fun x => XL SK MT d 22 (35, lv, .int x :: st, S) r) := X_ldI rfl rfl (fun _ => rfl) rfl rfl rfl rfl
theorem rX0_set_35 {d : Nat} {lv : xLV} {st : List Value} {S : xS} {r : xO} : XL SK MT d 22 (35, lv, st, S) r ↔ XL SK MT d 22 (37, lv, .int 16 :: st, S) r := X_pure rfl rfl rfl
theorem rX0_set_37 {d : Nat} {lv : xLV} {st : List Value} {S : xS} {r : xO} {x z : Int32} : XL SK MT d 22 (37, lv, .int z :: .int x :: st, S) r ↔ XL SK MT d 22 (38, lv, .int (x <<< (z &&& 31)) :: st, S) r := X_pure rfl rfl rfl
theorem rX0_set_38 {d : Nat} {lv : xLV} {st : List Value} {S : xS} {r : xO} {x z : Int32} : XL SK MT d 22 (38, lv, .int z :: .int x :: st, S) r ↔ XL SK MT d 22 (39, lv, .int (x ||| z) :: st, S) r := X_pure rfl rfl rfl
theorem rX0_set_39 {d : Nat} {lv : xLV} {st : List Value} {S : xS} {r : xO} : XL SK MT d 22 (39, lv, st, S) r ↔ xI (xlook lv 2) (fun x => XL SK MT d 22 (40, lv, .int x :: st, S) r) := X_ldI rfl rfl (fun _ => rfl) rfl rfl rfl rfl
theorem rX0_set_40 {d : Nat} {lv : xLV} {st : List Value} {S : xS} {r : xO} : XL SK MT d 22 (40, lv, st, S) r ↔ XL SK MT d 22 (42, lv, .int 16 :: st, S) r := X_pure rfl rfl rfl
theorem rX0_set_42 {d : Nat} {lv : xLV} {st : List Value} {S : xS} {r : xO} {x z : Int32} : XL SK MT d 22 (42, lv, .int z :: .int x :: st, S) r ↔ XL SK MT d 22 (43, lv, .int ((x.toUInt32 >>> (z.toUInt32 &&& Int32.toUInt32 31)).toInt32) :: st, S) r := X_pure rfl rfl rfl
theorem rX0_set_43 {d : Nat} {lv : xLV} {st : List Value} {S : xS} {r : xO} {x z : Int32} : XL SK MT d 22 (43, lv, .int z :: .int x :: st, S) r ↔ XL SK MT d 22 (44, lv, .int (x ||| z) :: st, S) r := X_pure rfl rfl rfl
theorem rX0_set_44 {d : Nat} {lv : xLV} {S : xS} {r : xO} {x1 : Int32} : XL SK MT d 22 (44, lv, [.int x1, .ref 9], S) r ↔ xK (XC SK MT d 11 [.ref 9, .int x1] S) (fun v S => XL SK MT d 22 (47, lv, v.toList ++ [], S) r) := X_inv (n := 2) (kd := 2) (st0 := [.int x1, .ref 9]) rfl (Or.inr ⟨rfl, rfl⟩) rfl (Nat.le_of_ble_eq_true rfl) (Nat.le_of_ble_eq_true rfl) (by decide) rfl
theorem rX0_set_47 {d : Nat} {lv : xLV} {st : List Value} {S : xS} {r : xO} : XL SK MT d 22 (47, lv, st, S) r ↔ xI (xlook lv 2) (fun x => XL SK MT d 22 (48, lv, .int x :: st, S) r) := X_ldI rfl rfl (fun _ => rfl) rfl rfl rfl rfl
theorem rX0_set_48 {d : Nat} {lv : xLV} {st : List Value} {S : xS} {r : xO} : XL SK MT d 22 (48, lv, st, S) r ↔ XL SK MT d 22 (50, lv, .int 65535 :: st, S) r := X_pure rfl rfl rfl
theorem rX0_set_50 {d : Nat} {lv : xLV} {st : List Value} {S : xS} {r : xO} {x z : Int32} : XL SK MT d 22 (50, lv, .int z :: .int x :: st, S) r ↔ XL SK MT d 22 (51, lv, .int (x &&& z) :: st, S) r := X_pure rfl rfl rfl
theorem rX0_set_51 {d : Nat} {lv : xLV} {st : List Value} {S : xS} {r : xO} {x : Int32} : XL SK MT d 22 (51, lv, .int x :: st, S) r ↔ if x = 0 then XL SK MT d 22 (75, lv, st, S) r else XL SK MT d 22 (54, lv, st, S) r := (X_if rfl rfl).trans xc_eq
theorem rX0_set_54 {d : Nat} {lv : xLV} {st : List Value} {S : xS} {r : xO} : XL SK MT d 22 (54, lv, st, S) r ↔ xA (xlook lv 0) (fun x => XL SK MT d 22 (55, lv, .ref x :: st, S) r) := X_ldA rfl rfl (fun _ => rfl) rfl rfl rfl rfl
theorem rX0_set_55 {d : Nat} {lv : xLV} {st : List Value} {S : xS} {r : xO} : XL SK MT d 22 (55, lv, st, S) r ↔ XL SK MT d 22 (57, lv, .int 872415232 :: st, S) r := X_pure rfl rfl rfl
theorem rX0_set_57 {d : Nat} {lv : xLV} {st : List Value} {S : xS} {r : xO} : XL SK MT d 22 (57, lv, st, S) r ↔ xI (xlook lv 1) (fun x => XL SK MT d 22 (58, lv, .int x :: st, S) r) := X_ldI rfl rfl (fun _ => rfl) rfl rfl rfl rfl
theorem rX0_set_58 {d : Nat} {lv : xLV} {st : List Value} {S : xS} {r : xO} : XL SK MT d 22 (58, lv, st, S) r ↔ XL SK MT d 22 (60, lv, .int 21 :: st, S) r := X_pure rfl rfl rfl
theorem rX0_set_60 {d : Nat} {lv : xLV} {st : List Value} {S : xS} {r : xO} {x z : Int32} : XL SK MT d 22 (60, lv, .int z :: .int x :: st, S) r ↔ XL SK MT d 22 (61, lv, .int (x <<< (z &&& 31)) :: st, S) r := X_pure rfl rfl rfl
theorem rX0_set_61 {d : Nat} {lv : xLV} {st : List Value} {S : xS} {r : xO} {x z : Int32} : XL SK MT d 22 (61, lv, .int z :: .int x :: st, S) r ↔ XL SK MT d 22 (62, lv, .int (x ||| z) :: st, S) r := X_pure rfl rfl rfl
theorem rX0_set_62 {d : Nat} {lv : xLV} {st : List Value} {S : xS} {r : xO} : XL SK MT d 22 (62, lv, st, S) r ↔ xI (xlook lv 1) (fun x => XL SK MT d 22 (63, lv, .int x :: st, S) r) := X_ldI rfl rfl (fun _ => rfl) rfl rfl rfl rfl
theorem rX0_set_63 {d : Nat} {lv : xLV} {st : List Value} {S : xS} {r : xO} : XL SK MT d 22 (63, lv, st, S) r ↔ XL SK MT d 22 (65, lv, .int 16 :: st, S) r := X_pure rfl rfl rfl
theorem rX0_set_65 {d : Nat} {lv : xLV} {st : List Value} {S : xS} {r : xO} {x z : Int32} : XL SK MT d 22 (65, lv, .int z :: .int x :: st, S) r ↔ XL SK MT d 22 (66, lv, .int (x <<< (z &&& 31)) :: st, S) r := X_pure rfl rfl rfl
theorem rX0_set_66 {d : Nat} {lv : xLV} {st : List Value} {S : xS} {r : xO} {x z : Int32} : XL SK MT d 22 (66, lv, .int z :: .int x :: st, S) r ↔ XL SK MT d 22 (67, lv, .int (x ||| z) :: st, S) r := X_pure rfl rfl rfl
theorem rX0_set_67 {d : Nat} {lv : xLV} {st : List Value} {S : xS} {r : xO} : XL SK MT d 22 (67, lv, st, S) r ↔ xI (xlook lv 2) (fun x => XL SK MT d 22 (68, lv, .int x :: st, S) r) := X_ldI rfl rfl (fun _ => rfl) rfl rfl rfl rfl
theorem rX0_set_68 {d : Nat} {lv : xLV} {st : List Value} {S : xS} {r : xO} : XL SK MT d 22 (68, lv, st, S) r ↔ XL SK MT d 22 (70, lv, .int 65535 :: st, S) r := X_pure rfl rfl rfl
theorem rX0_set_70 {d : Nat} {lv : xLV} {st : List Value} {S : xS} {r : xO} {x z : Int32} : XL SK MT d 22 (70, lv, .int z :: .int x :: st, S) r ↔ XL SK MT d 22 (71, lv, .int (x &&& z) :: st, S) r := X_pure rfl rfl rfl
theorem rX0_set_71 {d : Nat} {lv : xLV} {st : List Value} {S : xS} {r : xO} {x z : Int32} : XL SK MT d 22 (71, lv, .int z :: .int x :: st, S) r ↔ XL SK MT d 22 (72, lv, .int (x ||| z) :: st, S) r := X_pure rfl rfl rfl
theorem rX0_set_72 {d : Nat} {lv : xLV} {S : xS} {r : xO} {x1 : Int32} : XL SK MT d 22 (72, lv, [.int x1, .ref 9], S) r ↔ xK (XC SK MT d 11 [.ref 9, .int x1] S) (fun v S => XL SK MT d 22 (75, lv, v.toList ++ [], S) r) := X_inv (n := 2) (kd := 2) (st0 := [.int x1, .ref 9]) rfl (Or.inr ⟨rfl, rfl⟩) rfl (Nat.le_of_ble_eq_true rfl) (Nat.le_of_ble_eq_true rfl) (by decide) rfl
theorem rX0_set_75 {d : Nat} {lv : xLV} {S : xS} {r : xO} : XL SK MT d 22 (75, lv, [], S) r ↔ (none, S) = r := X_ret rfl rfl rfl rfl rfl rfl

/-! Assembler: its words. -/
def wThree (f t a b : Int32) : Int32 := a <<< ((21 : Int32) &&& 31) ||| b <<< ((16 : Int32) &&& 31) ||| t <<< ((11 : Int32) &&& 31) ||| f
def wShift (f t s n : Int32) : Int32 := s <<< ((16 : Int32) &&& 31) ||| t <<< ((11 : Int32) &&& 31) ||| n <<< ((6 : Int32) &&& 31) ||| f
def wImm (c t s n : Int32) : Int32 := c <<< ((26 : Int32) &&& 31) ||| s <<< ((21 : Int32) &&& 31) ||| t <<< ((16 : Int32) &&& 31) ||| n &&& 65535
def wLw (t o b : Int32) : Int32 := (-1946157056) ||| b <<< ((21 : Int32) &&& 31) ||| t <<< ((16 : Int32) &&& 31) ||| o &&& 65535
def wSw (t o b : Int32) : Int32 := (-1409286144) ||| b <<< ((21 : Int32) &&& 31) ||| t <<< ((16 : Int32) &&& 31) ||| o &&& 65535
def wAdd (t s n : Int32) : Int32 := 603979776 ||| s <<< ((21 : Int32) &&& 31) ||| t <<< ((16 : Int32) &&& 31) ||| n &&& 65535
def wMove (t s : Int32) : Int32 := s <<< ((21 : Int32) &&& 31) ||| t <<< ((11 : Int32) &&& 31) ||| 33
def wBr (c a b : Int32) : Int32 := c <<< ((26 : Int32) &&& 31) ||| a <<< ((21 : Int32) &&& 31) ||| b <<< ((16 : Int32) &&& 31)
def wBnb (a : Int32) : Int32 := 67108864 ||| a <<< ((21 : Int32) &&& 31) ||| 65536
def wOv (c a b : Int32) : Int32 := c <<< ((26 : Int32) &&& 31) ||| a <<< ((21 : Int32) &&& 31) ||| b <<< ((16 : Int32) &&& 31) ||| 3
def wJ : Int32 := 134217728
def wJal : Int32 := 201326592
def wJr (a : Int32) : Int32 := a <<< ((21 : Int32) &&& 31) ||| 8
def wSet (t n : Int32) : Int32 := 603979776 ||| t <<< ((16 : Int32) &&& 31) ||| n &&& 65535
def wLui (t n : Int32) : Int32 := 1006632960 ||| t <<< ((16 : Int32) &&& 31) ||| (n.toUInt32 >>> ((16 : Int32).toUInt32 &&& Int32.toUInt32 31)).toInt32
def wOri (t n : Int32) : Int32 := 872415232 ||| t <<< ((21 : Int32) &&& 31) ||| t <<< ((16 : Int32) &&& 31) ||| n &&& 65535
def setB (S : xS) (t n : Int32) : xS := if n &&& 65535 = 0 then emF S (wLui t n) else emF (emF S (wLui t n)) (wOri t n)
def setF (S : xS) (t n : Int32) : xS := if n < (-32768) then setB S t n else if 32767 < n then setB S t n else emF S (wSet t n)
section
variable {d : Nat} {S : xS}
theorem a_three {f t a b : Int32} : XC SK MT (d + 4) 15 [.ref 9, .int f, .int t, .int a, .int b] S = some (none, emF S (wThree f t a b)) := by
  rw [XC_iff]
  refine ⟨Nat.le_of_ble_eq_true rfl, ?_⟩
  show XL SK MT (d + 3) 15 (0, [some (.ref 9), some (.int f), some (.int t), some (.int a), some (.int b)], [], S) _
  unfold wThree
  simp (config := { decide := true }) only [rX0_three_0, rX0_three_1, rX0_three_2, rX0_three_4, rX0_three_5, rX0_three_7, rX0_three_9, rX0_three_10, rX0_three_11, rX0_three_12, rX0_three_14, rX0_three_15, rX0_three_16, rX0_three_17, rX0_three_18, rX0_three_21, ↓reduceIte, m1_le, m1_lt, m1_eq, ofInt_m1, ex_ret, Int32.reduceAdd, Int32.reduceSub, Int32.reduceMul, Int32.reduceLT, Int32.reduceLE, xsI, Nat.reduceEqDiff, and_false, false_and, and_true, true_and, if_true, if_false, ite_true, ite_false, xlook_0, xlook_s, xI_int, xA_ref, xJ_long, xK_some, xRow_row, xTo_some, xst1, xclr, List.set_cons_zero, List.set_cons_succ, xsum_nil, xsum_int, xsum_ref, xsum_long, Option.toList_some, Option.toList_none, List.nil_append, List.cons_append, a_emit]
theorem a_shift {f t s n : Int32} : XC SK MT (d + 4) 16 [.ref 9, .int f, .int t, .int s, .int n] S = some (none, emF S (wShift f t s n)) := by
  rw [XC_iff]
  refine ⟨Nat.le_of_ble_eq_true rfl, ?_⟩
  show XL SK MT (d + 3) 16 (0, [some (.ref 9), some (.int f), some (.int t), some (.int s), some (.int n)], [], S) _
  unfold wShift
  simp (config := { decide := true }) only [rX0_shift_0, rX0_shift_1, rX0_shift_2, rX0_shift_4, rX0_shift_5, rX0_shift_6, rX0_shift_8, rX0_shift_9, rX0_shift_10, rX0_shift_12, rX0_shift_14, rX0_shift_15, rX0_shift_16, rX0_shift_17, rX0_shift_18, rX0_shift_21, ↓reduceIte, m1_le, m1_lt, m1_eq, ofInt_m1, ex_ret, Int32.reduceAdd, Int32.reduceSub, Int32.reduceMul, Int32.reduceLT, Int32.reduceLE, xsI, Nat.reduceEqDiff, and_false, false_and, and_true, true_and, if_true, if_false, ite_true, ite_false, xlook_0, xlook_s, xI_int, xA_ref, xJ_long, xK_some, xRow_row, xTo_some, xst1, xclr, List.set_cons_zero, List.set_cons_succ, xsum_nil, xsum_int, xsum_ref, xsum_long, Option.toList_some, Option.toList_none, List.nil_append, List.cons_append, a_emit]
theorem a_immediate {c t s n : Int32} : XC SK MT (d + 4) 17 [.ref 9, .int c, .int t, .int s, .int n] S = some (none, emF S (wImm c t s n)) := by
  rw [XC_iff]
  refine ⟨Nat.le_of_ble_eq_true rfl, ?_⟩
  show XL SK MT (d + 3) 17 (0, [some (.ref 9), some (.int c), some (.int t), some (.int s), some (.int n)], [], S) _
  unfold wImm
  simp (config := { decide := true }) only [rX0_immediate_0, rX0_immediate_1, rX0_immediate_2, rX0_immediate_4, rX0_immediate_5, rX0_immediate_6, rX0_immediate_8, rX0_immediate_9, rX0_immediate_10, rX0_immediate_11, rX0_immediate_13, rX0_immediate_14, rX0_immediate_15, rX0_immediate_17, rX0_immediate_19, rX0_immediate_20, rX0_immediate_21, rX0_immediate_24, ↓reduceIte, m1_le, m1_lt, m1_eq, ofInt_m1, ex_ret, Int32.reduceAdd, Int32.reduceSub, Int32.reduceMul, Int32.reduceLT, Int32.reduceLE, xsI, Nat.reduceEqDiff, and_false, false_and, and_true, true_and, if_true, if_false, ite_true, ite_false, xlook_0, xlook_s, xI_int, xA_ref, xJ_long, xK_some, xRow_row, xTo_some, xst1, xclr, List.set_cons_zero, List.set_cons_succ, xsum_nil, xsum_int, xsum_ref, xsum_long, Option.toList_some, Option.toList_none, List.nil_append, List.cons_append, a_emit]
theorem a_lw {t o b : Int32} : XC SK MT (d + 4) 18 [.ref 9, .int t, .int o, .int b] S = some (none, emF S (wLw t o b)) := by
  rw [XC_iff]
  refine ⟨Nat.le_of_ble_eq_true rfl, ?_⟩
  show XL SK MT (d + 3) 18 (0, [some (.ref 9), some (.int t), some (.int o), some (.int b)], [], S) _
  unfold wLw
  simp (config := { decide := true }) only [rX0_lw_0, rX0_lw_1, rX0_lw_3, rX0_lw_4, rX0_lw_6, rX0_lw_7, rX0_lw_8, rX0_lw_9, rX0_lw_11, rX0_lw_12, rX0_lw_13, rX0_lw_14, rX0_lw_16, rX0_lw_17, rX0_lw_18, rX0_lw_21, ↓reduceIte, m1_le, m1_lt, m1_eq, ofInt_m1, ex_ret, Int32.reduceAdd, Int32.reduceSub, Int32.reduceMul, Int32.reduceLT, Int32.reduceLE, xsI, Nat.reduceEqDiff, and_false, false_and, and_true, true_and, if_true, if_false, ite_true, ite_false, xlook_0, xlook_s, xI_int, xA_ref, xJ_long, xK_some, xRow_row, xTo_some, xst1, xclr, List.set_cons_zero, List.set_cons_succ, xsum_nil, xsum_int, xsum_ref, xsum_long, Option.toList_some, Option.toList_none, List.nil_append, List.cons_append, a_emit]
theorem a_sw {t o b : Int32} : XC SK MT (d + 4) 19 [.ref 9, .int t, .int o, .int b] S = some (none, emF S (wSw t o b)) := by
  rw [XC_iff]
  refine ⟨Nat.le_of_ble_eq_true rfl, ?_⟩
  show XL SK MT (d + 3) 19 (0, [some (.ref 9), some (.int t), some (.int o), some (.int b)], [], S) _
  unfold wSw
  simp (config := { decide := true }) only [rX0_sw_0, rX0_sw_1, rX0_sw_3, rX0_sw_4, rX0_sw_6, rX0_sw_7, rX0_sw_8, rX0_sw_9, rX0_sw_11, rX0_sw_12, rX0_sw_13, rX0_sw_14, rX0_sw_16, rX0_sw_17, rX0_sw_18, rX0_sw_21, ↓reduceIte, m1_le, m1_lt, m1_eq, ofInt_m1, ex_ret, Int32.reduceAdd, Int32.reduceSub, Int32.reduceMul, Int32.reduceLT, Int32.reduceLE, xsI, Nat.reduceEqDiff, and_false, false_and, and_true, true_and, if_true, if_false, ite_true, ite_false, xlook_0, xlook_s, xI_int, xA_ref, xJ_long, xK_some, xRow_row, xTo_some, xst1, xclr, List.set_cons_zero, List.set_cons_succ, xsum_nil, xsum_int, xsum_ref, xsum_long, Option.toList_some, Option.toList_none, List.nil_append, List.cons_append, a_emit]
theorem a_add {t s n : Int32} : XC SK MT (d + 4) 20 [.ref 9, .int t, .int s, .int n] S = some (none, emF S (wAdd t s n)) := by
  rw [XC_iff]
  refine ⟨Nat.le_of_ble_eq_true rfl, ?_⟩
  show XL SK MT (d + 3) 20 (0, [some (.ref 9), some (.int t), some (.int s), some (.int n)], [], S) _
  unfold wAdd
  simp (config := { decide := true }) only [rX0_add_0, rX0_add_1, rX0_add_3, rX0_add_4, rX0_add_6, rX0_add_7, rX0_add_8, rX0_add_9, rX0_add_11, rX0_add_12, rX0_add_13, rX0_add_14, rX0_add_16, rX0_add_17, rX0_add_18, rX0_add_21, ↓reduceIte, m1_le, m1_lt, m1_eq, ofInt_m1, ex_ret, Int32.reduceAdd, Int32.reduceSub, Int32.reduceMul, Int32.reduceLT, Int32.reduceLE, xsI, Nat.reduceEqDiff, and_false, false_and, and_true, true_and, if_true, if_false, ite_true, ite_false, xlook_0, xlook_s, xI_int, xA_ref, xJ_long, xK_some, xRow_row, xTo_some, xst1, xclr, List.set_cons_zero, List.set_cons_succ, xsum_nil, xsum_int, xsum_ref, xsum_long, Option.toList_some, Option.toList_none, List.nil_append, List.cons_append, a_emit]
theorem a_move {t s : Int32} : XC SK MT (d + 4) 21 [.ref 9, .int t, .int s] S = some (none, emF S (wMove t s)) := by
  rw [XC_iff]
  refine ⟨Nat.le_of_ble_eq_true rfl, ?_⟩
  show XL SK MT (d + 3) 21 (0, [some (.ref 9), some (.int t), some (.int s)], [], S) _
  unfold wMove
  simp (config := { decide := true }) only [rX0_move_0, rX0_move_1, rX0_move_2, rX0_move_4, rX0_move_5, rX0_move_6, rX0_move_8, rX0_move_9, rX0_move_10, rX0_move_12, rX0_move_13, rX0_move_16, ↓reduceIte, m1_le, m1_lt, m1_eq, ofInt_m1, ex_ret, Int32.reduceAdd, Int32.reduceSub, Int32.reduceMul, Int32.reduceLT, Int32.reduceLE, xsI, Nat.reduceEqDiff, and_false, false_and, and_true, true_and, if_true, if_false, ite_true, ite_false, xlook_0, xlook_s, xI_int, xA_ref, xJ_long, xK_some, xRow_row, xTo_some, xst1, xclr, List.set_cons_zero, List.set_cons_succ, xsum_nil, xsum_int, xsum_ref, xsum_long, Option.toList_some, Option.toList_none, List.nil_append, List.cons_append, a_emit]
theorem a_branch {c a b l : Int32} : XC SK MT (d + 4) 24 [.ref 9, .int c, .int a, .int b, .int l] S = some (none, lpF S (wBr c a b) l) := by
  rw [XC_iff]
  refine ⟨Nat.le_of_ble_eq_true rfl, ?_⟩
  show XL SK MT (d + 3) 24 (0, [some (.ref 9), some (.int c), some (.int a), some (.int b), some (.int l)], [], S) _
  unfold wBr
  simp (config := { decide := true }) only [rX0_branch_0, rX0_branch_1, rX0_branch_2, rX0_branch_4, rX0_branch_5, rX0_branch_6, rX0_branch_8, rX0_branch_9, rX0_branch_10, rX0_branch_11, rX0_branch_13, rX0_branch_14, rX0_branch_15, rX0_branch_17, rX0_branch_20, ↓reduceIte, m1_le, m1_lt, m1_eq, ofInt_m1, ex_ret, Int32.reduceAdd, Int32.reduceSub, Int32.reduceMul, Int32.reduceLT, Int32.reduceLE, xsI, Nat.reduceEqDiff, and_false, false_and, and_true, true_and, if_true, if_false, ite_true, ite_false, xlook_0, xlook_s, xI_int, xA_ref, xJ_long, xK_some, xRow_row, xTo_some, xst1, xclr, List.set_cons_zero, List.set_cons_succ, xsum_nil, xsum_int, xsum_ref, xsum_long, Option.toList_some, Option.toList_none, List.nil_append, List.cons_append, a_leap]
theorem a_branchNotBelow {a l : Int32} : XC SK MT (d + 4) 25 [.ref 9, .int a, .int l] S = some (none, lpF S (wBnb a) l) := by
  rw [XC_iff]
  refine ⟨Nat.le_of_ble_eq_true rfl, ?_⟩
  show XL SK MT (d + 3) 25 (0, [some (.ref 9), some (.int a), some (.int l)], [], S) _
  unfold wBnb
  simp (config := { decide := true }) only [rX0_branchNotBelow_0, rX0_branchNotBelow_1, rX0_branchNotBelow_3, rX0_branchNotBelow_4, rX0_branchNotBelow_6, rX0_branchNotBelow_7, rX0_branchNotBelow_8, rX0_branchNotBelow_10, rX0_branchNotBelow_11, rX0_branchNotBelow_12, rX0_branchNotBelow_15, ↓reduceIte, m1_le, m1_lt, m1_eq, ofInt_m1, ex_ret, Int32.reduceAdd, Int32.reduceSub, Int32.reduceMul, Int32.reduceLT, Int32.reduceLE, xsI, Nat.reduceEqDiff, and_false, false_and, and_true, true_and, if_true, if_false, ite_true, ite_false, xlook_0, xlook_s, xI_int, xA_ref, xJ_long, xK_some, xRow_row, xTo_some, xst1, xclr, List.set_cons_zero, List.set_cons_succ, xsum_nil, xsum_int, xsum_ref, xsum_long, Option.toList_some, Option.toList_none, List.nil_append, List.cons_append, a_leap]
theorem a_over {c a b : Int32} : XC SK MT (d + 4) 26 [.ref 9, .int c, .int a, .int b] S = some (none, lpF S (wOv c a b) (-1)) := by
  rw [XC_iff]
  refine ⟨Nat.le_of_ble_eq_true rfl, ?_⟩
  show XL SK MT (d + 3) 26 (0, [some (.ref 9), some (.int c), some (.int a), some (.int b)], [], S) _
  unfold wOv
  simp (config := { decide := true }) only [rX0_over_0, rX0_over_1, rX0_over_2, rX0_over_4, rX0_over_5, rX0_over_6, rX0_over_8, rX0_over_9, rX0_over_10, rX0_over_11, rX0_over_13, rX0_over_14, rX0_over_15, rX0_over_16, rX0_over_17, rX0_over_18, rX0_over_21, ↓reduceIte, m1_le, m1_lt, m1_eq, ofInt_m1, ex_ret, Int32.reduceAdd, Int32.reduceSub, Int32.reduceMul, Int32.reduceLT, Int32.reduceLE, xsI, Nat.reduceEqDiff, and_false, false_and, and_true, true_and, if_true, if_false, ite_true, ite_false, xlook_0, xlook_s, xI_int, xA_ref, xJ_long, xK_some, xRow_row, xTo_some, xst1, xclr, List.set_cons_zero, List.set_cons_succ, xsum_nil, xsum_int, xsum_ref, xsum_long, Option.toList_some, Option.toList_none, List.nil_append, List.cons_append, a_leap]
theorem a_jump {l : Int32} : XC SK MT (d + 4) 27 [.ref 9, .int l] S = some (none, lpF S wJ l) := by
  rw [XC_iff]
  refine ⟨Nat.le_of_ble_eq_true rfl, ?_⟩
  show XL SK MT (d + 3) 27 (0, [some (.ref 9), some (.int l)], [], S) _
  unfold wJ
  simp (config := { decide := true }) only [rX0_jump_0, rX0_jump_1, rX0_jump_3, rX0_jump_4, rX0_jump_7, ↓reduceIte, m1_le, m1_lt, m1_eq, ofInt_m1, ex_ret, Int32.reduceAdd, Int32.reduceSub, Int32.reduceMul, Int32.reduceLT, Int32.reduceLE, xsI, Nat.reduceEqDiff, and_false, false_and, and_true, true_and, if_true, if_false, ite_true, ite_false, xlook_0, xlook_s, xI_int, xA_ref, xJ_long, xK_some, xRow_row, xTo_some, xst1, xclr, List.set_cons_zero, List.set_cons_succ, xsum_nil, xsum_int, xsum_ref, xsum_long, Option.toList_some, Option.toList_none, List.nil_append, List.cons_append, a_leap]
theorem a_jumpAndLink {l : Int32} : XC SK MT (d + 4) 28 [.ref 9, .int l] S = some (none, lpF S wJal l) := by
  rw [XC_iff]
  refine ⟨Nat.le_of_ble_eq_true rfl, ?_⟩
  show XL SK MT (d + 3) 28 (0, [some (.ref 9), some (.int l)], [], S) _
  unfold wJal
  simp (config := { decide := true }) only [rX0_jumpAndLink_0, rX0_jumpAndLink_1, rX0_jumpAndLink_3, rX0_jumpAndLink_4, rX0_jumpAndLink_7, ↓reduceIte, m1_le, m1_lt, m1_eq, ofInt_m1, ex_ret, Int32.reduceAdd, Int32.reduceSub, Int32.reduceMul, Int32.reduceLT, Int32.reduceLE, xsI, Nat.reduceEqDiff, and_false, false_and, and_true, true_and, if_true, if_false, ite_true, ite_false, xlook_0, xlook_s, xI_int, xA_ref, xJ_long, xK_some, xRow_row, xTo_some, xst1, xclr, List.set_cons_zero, List.set_cons_succ, xsum_nil, xsum_int, xsum_ref, xsum_long, Option.toList_some, Option.toList_none, List.nil_append, List.cons_append, a_leap]
theorem a_back {a : Int32} : XC SK MT (d + 4) 29 [.ref 9, .int a] S = some (none, lpF S (wJr a) (-1)) := by
  rw [XC_iff]
  refine ⟨Nat.le_of_ble_eq_true rfl, ?_⟩
  show XL SK MT (d + 3) 29 (0, [some (.ref 9), some (.int a)], [], S) _
  unfold wJr
  simp (config := { decide := true }) only [rX0_back_0, rX0_back_1, rX0_back_2, rX0_back_4, rX0_back_5, rX0_back_7, rX0_back_8, rX0_back_9, rX0_back_12, ↓reduceIte, m1_le, m1_lt, m1_eq, ofInt_m1, ex_ret, Int32.reduceAdd, Int32.reduceSub, Int32.reduceMul, Int32.reduceLT, Int32.reduceLE, xsI, Nat.reduceEqDiff, and_false, false_and, and_true, true_and, if_true, if_false, ite_true, ite_false, xlook_0, xlook_s, xI_int, xA_ref, xJ_long, xK_some, xRow_row, xTo_some, xst1, xclr, List.set_cons_zero, List.set_cons_succ, xsum_nil, xsum_int, xsum_ref, xsum_long, Option.toList_some, Option.toList_none, List.nil_append, List.cons_append, a_leap]
theorem a_set {t n : Int32} : XC SK MT (d + 4) 22 [.ref 9, .int t, .int n] S = some (none, setF S t n) := by
  rw [XC_iff]
  refine ⟨Nat.le_of_ble_eq_true rfl, ?_⟩
  show XL SK MT (d + 3) 22 (0, [some (.ref 9), some (.int t), some (.int n)], [], S) _
  unfold setF setB wSet wLui wOri
  by_cases h1 : n < (-32768)
  · by_cases h3 : n &&& 65535 = 0 <;> simp (config := { decide := true }) only [rX0_set_0, rX0_set_1, rX0_set_4, rX0_set_7, rX0_set_8, rX0_set_11, rX0_set_14, rX0_set_15, rX0_set_17, rX0_set_18, rX0_set_20, rX0_set_21, rX0_set_22, rX0_set_23, rX0_set_25, rX0_set_26, rX0_set_27, rX0_set_30, rX0_set_31, rX0_set_32, rX0_set_34, rX0_set_35, rX0_set_37, rX0_set_38, rX0_set_39, rX0_set_40, rX0_set_42, rX0_set_43, rX0_set_44, rX0_set_47, rX0_set_48, rX0_set_50, rX0_set_51, rX0_set_54, rX0_set_55, rX0_set_57, rX0_set_58, rX0_set_60, rX0_set_61, rX0_set_62, rX0_set_63, rX0_set_65, rX0_set_66, rX0_set_67, rX0_set_68, rX0_set_70, rX0_set_71, rX0_set_72, rX0_set_75, ↓reduceIte, m1_le, m1_lt, m1_eq, ofInt_m1, ex_ret, Int32.reduceAdd, Int32.reduceSub, Int32.reduceMul, Int32.reduceLT, Int32.reduceLE, xsI, Nat.reduceEqDiff, and_false, false_and, and_true, true_and, if_true, if_false, ite_true, ite_false, xlook_0, xlook_s, xI_int, xA_ref, xJ_long, xK_some, xRow_row, xTo_some, xst1, xclr, List.set_cons_zero, List.set_cons_succ, xsum_nil, xsum_int, xsum_ref, xsum_long, Option.toList_some, Option.toList_none, List.nil_append, List.cons_append, a_emit, h1, h3]
  by_cases h2 : 32767 < n
  · by_cases h3 : n &&& 65535 = 0 <;> simp (config := { decide := true }) only [rX0_set_0, rX0_set_1, rX0_set_4, rX0_set_7, rX0_set_8, rX0_set_11, rX0_set_14, rX0_set_15, rX0_set_17, rX0_set_18, rX0_set_20, rX0_set_21, rX0_set_22, rX0_set_23, rX0_set_25, rX0_set_26, rX0_set_27, rX0_set_30, rX0_set_31, rX0_set_32, rX0_set_34, rX0_set_35, rX0_set_37, rX0_set_38, rX0_set_39, rX0_set_40, rX0_set_42, rX0_set_43, rX0_set_44, rX0_set_47, rX0_set_48, rX0_set_50, rX0_set_51, rX0_set_54, rX0_set_55, rX0_set_57, rX0_set_58, rX0_set_60, rX0_set_61, rX0_set_62, rX0_set_63, rX0_set_65, rX0_set_66, rX0_set_67, rX0_set_68, rX0_set_70, rX0_set_71, rX0_set_72, rX0_set_75, ↓reduceIte, m1_le, m1_lt, m1_eq, ofInt_m1, ex_ret, Int32.reduceAdd, Int32.reduceSub, Int32.reduceMul, Int32.reduceLT, Int32.reduceLE, xsI, Nat.reduceEqDiff, and_false, false_and, and_true, true_and, if_true, if_false, ite_true, ite_false, xlook_0, xlook_s, xI_int, xA_ref, xJ_long, xK_some, xRow_row, xTo_some, xst1, xclr, List.set_cons_zero, List.set_cons_succ, xsum_nil, xsum_int, xsum_ref, xsum_long, Option.toList_some, Option.toList_none, List.nil_append, List.cons_append, a_emit, h1, h2, h3]
  simp (config := { decide := true }) only [rX0_set_0, rX0_set_1, rX0_set_4, rX0_set_7, rX0_set_8, rX0_set_11, rX0_set_14, rX0_set_15, rX0_set_17, rX0_set_18, rX0_set_20, rX0_set_21, rX0_set_22, rX0_set_23, rX0_set_25, rX0_set_26, rX0_set_27, rX0_set_30, rX0_set_32, rX0_set_34, rX0_set_35, rX0_set_37, rX0_set_38, rX0_set_39, rX0_set_40, rX0_set_42, rX0_set_43, rX0_set_44, rX0_set_47, rX0_set_48, rX0_set_50, rX0_set_51, rX0_set_54, rX0_set_55, rX0_set_57, rX0_set_58, rX0_set_60, rX0_set_61, rX0_set_62, rX0_set_63, rX0_set_65, rX0_set_66, rX0_set_67, rX0_set_68, rX0_set_70, rX0_set_71, rX0_set_72, rX0_set_75, ↓reduceIte, m1_le, m1_lt, m1_eq, ofInt_m1, ex_ret, Int32.reduceAdd, Int32.reduceSub, Int32.reduceMul, Int32.reduceLT, Int32.reduceLE, xsI, Nat.reduceEqDiff, and_false, false_and, and_true, true_and, if_true, if_false, ite_true, ite_false, xlook_0, xlook_s, xI_int, xA_ref, xJ_long, xK_some, xRow_row, xTo_some, xst1, xclr, List.set_cons_zero, List.set_cons_succ, xsum_nil, xsum_int, xsum_ref, xsum_long, Option.toList_some, Option.toList_none, List.nil_append, List.cons_append, a_emit, h1, h2]
end
