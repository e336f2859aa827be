/-! XF: rows, then what is proved of them. -/
def soL_isNumber (pc : Nat) : Bool := pc == 90
theorem hL_isNumber_0 {d : Nat} {lv : xLV} {st : List Value} {S : xS} {r : xF} : XH SK MT d 330 soL_isNumber (0, lv, st, S) r ↔ xA (xlook lv 0) (fun x => XH SK MT d 330 soL_isNumber (1, lv, .ref x :: st, S) r) := H_ldA rfl rfl rfl (fun _ => rfl) rfl rfl rfl rfl
theorem hL_isNumber_1 {d : Nat} {lv : xLV} {st : List Value} {S : xS} {r : xF} : XH SK MT d 330 soL_isNumber (1, lv, st, S) r ↔ XH SK MT d 330 soL_isNumber (2, lv, .int 1 :: st, S) r := H_pure rfl rfl rfl rfl
theorem hL_isNumber_2 {d : Nat} {lv : xLV} {S : xS} {r : xF} {x1 : Nat} {x2 : Int32} : XH SK MT d 330 soL_isNumber (2, lv, [.int x2, .ref x1], S) r ↔ xK (XC SK MT d 328 [.ref x1, .int x2] S) (fun v S => XH SK MT d 330 soL_isNumber (5, lv, v.toList ++ [], S) r) := H_inv rfl (n := 2) (kd := 0) (st0 := [.int x2, .ref x1]) rfl (Or.inl ⟨rfl, rfl⟩) rfl (Nat.le_of_ble_eq_true rfl) (Nat.le_of_ble_eq_true rfl) (by decide) rfl
theorem hL_isNumber_5 {d : Nat} {lv : xLV} {st : List Value} {S : xS} {r : xF} {x : Int32} : XH SK MT d 330 soL_isNumber (5, lv, .int x :: st, S) r ↔ XH SK MT d 330 soL_isNumber (6, xst1 lv 2 (.int x), st, S) r := H_pure rfl rfl rfl rfl
theorem hL_isNumber_6 {d : Nat} {lv : xLV} {st : List Value} {S : xS} {r : xF} : XH SK MT d 330 soL_isNumber (6, lv, st, S) r ↔ xI (xlook lv 1) (fun x => XH SK MT d 330 soL_isNumber (7, lv, .int x :: st, S) r) := H_ldI rfl rfl rfl (fun _ => rfl) rfl rfl rfl rfl
theorem hL_isNumber_7 {d : Nat} {lv : xLV} {st : List Value} {S : xS} {r : xF} {x : Int32} : XH SK MT d 330 soL_isNumber (7, lv, .int x :: st, S) r ↔ if 0 ≤ x then XH SK MT d 330 soL_isNumber (16, lv, st, S) r else XH SK MT d 330 soL_isNumber (10, lv, st, S) r := (H_if rfl rfl rfl).trans xc_ge
theorem hL_isNumber_10 {d : Nat} {lv : xLV} {st : List Value} {S : xS} {r : xF} : XH SK MT d 330 soL_isNumber (10, lv, st, S) r ↔ xI (xlook lv 1) (fun x => XH SK MT d 330 soL_isNumber (11, lv, .int x :: st, S) r) := H_ldI rfl rfl rfl (fun _ => rfl) rfl rfl rfl rfl
theorem hL_isNumber_11 {d : Nat} {lv : xLV} {st : List Value} {S : xS} {r : xF} {x : Int32} : XH SK MT d 330 soL_isNumber (11, lv, .int x :: st, S) r ↔ XH SK MT d 330 soL_isNumber (12, lv, .long x.toInt64 :: st, S) r := H_pure rfl rfl rfl rfl
theorem hL_isNumber_12 {d : Nat} {lv : xLV} {st : List Value} {S : xS} {r : xF} {x : Int64} : XH SK MT d 330 soL_isNumber (12, lv, .long x :: st, S) r ↔ XH SK MT d 330 soL_isNumber (13, lv, .long (-x) :: st, S) r := H_pure rfl rfl rfl rfl
theorem hL_isNumber_13 {d : Nat} {lv : xLV} {st : List Value} {S : xS} {r : xF} : XH SK MT d 330 soL_isNumber (13, lv, st, S) r ↔ XH SK MT d 330 soL_isNumber (18, lv, st, S) r := H_jump rfl rfl rfl rfl
theorem hL_isNumber_16 {d : Nat} {lv : xLV} {st : List Value} {S : xS} {r : xF} : XH SK MT d 330 soL_isNumber (16, lv, st, S) r ↔ xI (xlook lv 1) (fun x => XH SK MT d 330 soL_isNumber (17, lv, .int x :: st, S) r) := H_ldI rfl rfl rfl (fun _ => rfl) rfl rfl rfl rfl
theorem hL_isNumber_17 {d : Nat} {lv : xLV} {st : List Value} {S : xS} {r : xF} {x : Int32} : XH SK MT d 330 soL_isNumber (17, lv, .int x :: st, S) r ↔ XH SK MT d 330 soL_isNumber (18, lv, .long x.toInt64 :: st, S) r := H_pure rfl rfl rfl rfl
theorem hL_isNumber_18 {d : Nat} {lv : xLV} {st : List Value} {S : xS} {r : xF} {x : Int64} : XH SK MT d 330 soL_isNumber (18, lv, .long x :: st, S) r ↔ XH SK MT d 330 soL_isNumber (19, xst2 lv 3 (.long x), st, S) r := H_pure rfl rfl rfl rfl
theorem hL_isNumber_19 {d : Nat} {lv : xLV} {st : List Value} {S : xS} {r : xF} : XH SK MT d 330 soL_isNumber (19, lv, st, S) r ↔ xI (xlook lv 2) (fun x => XH SK MT d 330 soL_isNumber (20, lv, .int x :: st, S) r) := H_ldI rfl rfl rfl (fun _ => rfl) rfl rfl rfl rfl
theorem hL_isNumber_20 {d : Nat} {lv : xLV} {st : List Value} {S : xS} {r : xF} : XH SK MT d 330 soL_isNumber (20, lv, st, S) r ↔ XH SK MT d 330 soL_isNumber (21, lv, .int 1 :: st, S) r := H_pure rfl rfl rfl rfl
theorem hL_isNumber_21 {d : Nat} {lv : xLV} {st : List Value} {S : xS} {r : xF} {x z : Int32} : XH SK MT d 330 soL_isNumber (21, lv, .int z :: .int x :: st, S) r ↔ XH SK MT d 330 soL_isNumber (22, lv, .int (x - z) :: st, S) r := H_pure rfl rfl rfl rfl
theorem hL_isNumber_22 {d : Nat} {lv : xLV} {st : List Value} {S : xS} {r : xF} {x : Int32} : XH SK MT d 330 soL_isNumber (22, lv, .int x :: st, S) r ↔ XH SK MT d 330 soL_isNumber (24, xst1 lv 5 (.int x), st, S) r := H_pure rfl rfl rfl rfl
theorem hL_isNumber_24 {d : Nat} {lv : xLV} {st : List Value} {S : xS} {r : xF} : XH SK MT d 330 soL_isNumber (24, lv, st, S) r ↔ xA (xlook lv 0) (fun x => XH SK MT d 330 soL_isNumber (25, lv, .ref x :: st, S) r) := H_ldA rfl rfl rfl (fun _ => rfl) rfl rfl rfl rfl
theorem hL_isNumber_25 {d : Nat} {lv : xLV} {st : List Value} {S : xS} {r : xF} : XH SK MT d 330 soL_isNumber (25, lv, st, S) r ↔ xI (xlook lv 5) (fun x => XH SK MT d 330 soL_isNumber (27, lv, .int x :: st, S) r) := H_ldI rfl rfl rfl (fun _ => rfl) rfl rfl rfl rfl
theorem hL_isNumber_27 {d : Nat} {lv : xLV} {S : xS} {r : xF} {x1 : Nat} {x2 : Int32} : XH SK MT d 330 soL_isNumber (27, lv, [.int x2, .ref x1], S) r ↔ xK (XC SK MT d 329 [.ref x1, .int x2] S) (fun v S => XH SK MT d 330 soL_isNumber (30, lv, v.toList ++ [], S) r) := H_inv rfl (n := 2) (kd := 0) (st0 := [.int x2, .ref x1]) rfl (Or.inl ⟨rfl, rfl⟩) rfl (Nat.le_of_ble_eq_true rfl) (Nat.le_of_ble_eq_true rfl) (by decide) rfl
theorem hL_isNumber_30 {d : Nat} {lv : xLV} {st : List Value} {S : xS} {r : xF} : XH SK MT d 330 soL_isNumber (30, lv, st, S) r ↔ XH SK MT d 330 soL_isNumber (32, lv, .int 48 :: st, S) r := H_pure rfl rfl rfl rfl
theorem hL_isNumber_32 {d : Nat} {lv : xLV} {st : List Value} {S : xS} {r : xF} : XH SK MT d 330 soL_isNumber (32, lv, st, S) r ↔ xJ (xlook lv 3) (fun x => XH SK MT d 330 soL_isNumber (33, lv, .long x :: st, S) r) := H_ldL rfl rfl rfl (fun _ => rfl) rfl rfl rfl rfl
theorem hL_isNumber_33 {d : Nat} {lv : xLV} {st : List Value} {S : xS} {r : xF} : XH SK MT d 330 soL_isNumber (33, lv, st, S) r ↔ XH SK MT d 330 soL_isNumber (36, lv, .long 10 :: st, S) r := H_pure rfl rfl rfl rfl
theorem hL_isNumber_36 {d : Nat} {lv : xLV} {st : List Value} {S : xS} {r : xF} {x z : Int64} (hz : ¬ z = 0) : XH SK MT d 330 soL_isNumber (36, lv, .long z :: .long x :: st, S) r ↔ XH SK MT d 330 soL_isNumber (37, lv, .long (x - x / z * z) :: st, S) r := H_pure rfl rfl rfl (if_neg hz)
theorem hL_isNumber_37 {d : Nat} {lv : xLV} {st : List Value} {S : xS} {r : xF} {x : Int64} : XH SK MT d 330 soL_isNumber (37, lv, .long x :: st, S) r ↔ XH SK MT d 330 soL_isNumber (38, lv, .int x.toInt32 :: st, S) r := H_pure rfl rfl rfl rfl
theorem hL_isNumber_38 {d : Nat} {lv : xLV} {st : List Value} {S : xS} {r : xF} {x z : Int32} : XH SK MT d 330 soL_isNumber (38, lv, .int z :: .int x :: st, S) r ↔ XH SK MT d 330 soL_isNumber (39, lv, .int (x + z) :: st, S) r := H_pure rfl rfl rfl rfl
theorem hL_isNumber_39 {d : Nat} {lv : xLV} {st : List Value} {S : xS} {r : xF} {x z : Int32} : XH SK MT d 330 soL_isNumber (39, lv, .int z :: .int x :: st, S) r ↔ if x = z then XH SK MT d 330 soL_isNumber (44, lv, st, S) r else XH SK MT d 330 soL_isNumber (42, lv, st, S) r := (H_icmp rfl rfl rfl).trans xc_eq
theorem hL_isNumber_42 {d : Nat} {lv : xLV} {st : List Value} {S : xS} {r : xF} : XH SK MT d 330 soL_isNumber (42, lv, st, S) r ↔ XH SK MT d 330 soL_isNumber (43, lv, .int 0 :: st, S) r := H_pure rfl rfl rfl rfl
theorem hL_isNumber_44 {d : Nat} {lv : xLV} {st : List Value} {S : xS} {r : xF} : XH SK MT d 330 soL_isNumber (44, lv, st, S) r ↔ xJ (xlook lv 3) (fun x => XH SK MT d 330 soL_isNumber (45, lv, .long x :: st, S) r) := H_ldL rfl rfl rfl (fun _ => rfl) rfl rfl rfl rfl
theorem hL_isNumber_45 {d : Nat} {lv : xLV} {st : List Value} {S : xS} {r : xF} : XH SK MT d 330 soL_isNumber (45, lv, st, S) r ↔ XH SK MT d 330 soL_isNumber (48, lv, .long 10 :: st, S) r := H_pure rfl rfl rfl rfl
theorem hL_isNumber_48 {d : Nat} {lv : xLV} {st : List Value} {S : xS} {r : xF} {x z : Int64} (hz : ¬ z = 0) : XH SK MT d 330 soL_isNumber (48, lv, .long z :: .long x :: st, S) r ↔ XH SK MT d 330 soL_isNumber (49, lv, .long (x / z) :: st, S) r := H_pure rfl rfl rfl (if_neg hz)
theorem hL_isNumber_49 {d : Nat} {lv : xLV} {st : List Value} {S : xS} {r : xF} {x : Int64} : XH SK MT d 330 soL_isNumber (49, lv, .long x :: st, S) r ↔ XH SK MT d 330 soL_isNumber (50, xst2 lv 3 (.long x), st, S) r := H_pure rfl rfl rfl rfl
theorem hL_isNumber_50 {d : Nat} {lv : xLV} {st : List Value} {S : xS} {r : xF} : XH SK MT d 330 soL_isNumber (50, lv, st, S) r ↔ xI (xlook lv 5) (fun x => XH SK MT d 330 soL_isNumber (53, xst1 lv 5 (.int (x + Int32.ofInt (-1))), st, S) r) := H_inc rfl (i := 5) (n := (-1)) rfl (Nat.le_of_ble_eq_true rfl)
theorem hL_isNumber_53 {d : Nat} {lv : xLV} {st : List Value} {S : xS} {r : xF} : XH SK MT d 330 soL_isNumber (53, lv, st, S) r ↔ xJ (xlook lv 3) (fun x => XH SK MT d 330 soL_isNumber (54, lv, .long x :: st, S) r) := H_ldL rfl rfl rfl (fun _ => rfl) rfl rfl rfl rfl
theorem hL_isNumber_54 {d : Nat} {lv : xLV} {st : List Value} {S : xS} {r : xF} : XH SK MT d 330 soL_isNumber (54, lv, st, S) r ↔ XH SK MT d 330 soL_isNumber (55, lv, .long 0 :: st, S) r := H_pure rfl rfl rfl rfl
theorem hL_isNumber_55 {d : Nat} {lv : xLV} {st : List Value} {S : xS} {r : xF} {x z : Int64} : XH SK MT d 330 soL_isNumber (55, lv, .long z :: .long x :: st, S) r ↔ XH SK MT d 330 soL_isNumber (56, lv, .int (lg_cmp x z) :: st, S) r := H_pure rfl rfl rfl rfl
theorem hL_isNumber_56 {d : Nat} {lv : xLV} {st : List Value} {S : xS} {r : xF} {x : Int32} : XH SK MT d 330 soL_isNumber (56, lv, .int x :: st, S) r ↔ if 0 < x then XH SK MT d 330 soL_isNumber (24, lv, st, S) r else XH SK MT d 330 soL_isNumber (59, lv, st, S) r := (H_if rfl rfl rfl).trans xc_gt
theorem hL_isNumber_59 {d : Nat} {lv : xLV} {st : List Value} {S : xS} {r : xF} : XH SK MT d 330 soL_isNumber (59, lv, st, S) r ↔ xI (xlook lv 1) (fun x => XH SK MT d 330 soL_isNumber (60, lv, .int x :: st, S) r) := H_ldI rfl rfl rfl (fun _ => rfl) rfl rfl rfl rfl
theorem hL_isNumber_60 {d : Nat} {lv : xLV} {st : List Value} {S : xS} {r : xF} {x : Int32} : XH SK MT d 330 soL_isNumber (60, lv, .int x :: st, S) r ↔ if 0 ≤ x then XH SK MT d 330 soL_isNumber (76, lv, st, S) r else XH SK MT d 330 soL_isNumber (63, lv, st, S) r := (H_if rfl rfl rfl).trans xc_ge
theorem hL_isNumber_63 {d : Nat} {lv : xLV} {st : List Value} {S : xS} {r : xF} : XH SK MT d 330 soL_isNumber (63, lv, st, S) r ↔ xA (xlook lv 0) (fun x => XH SK MT d 330 soL_isNumber (64, lv, .ref x :: st, S) r) := H_ldA rfl rfl rfl (fun _ => rfl) rfl rfl rfl rfl
theorem hL_isNumber_64 {d : Nat} {lv : xLV} {st : List Value} {S : xS} {r : xF} : XH SK MT d 330 soL_isNumber (64, lv, st, S) r ↔ xI (xlook lv 5) (fun x => XH SK MT d 330 soL_isNumber (66, lv, .int x :: st, S) r) := H_ldI rfl rfl rfl (fun _ => rfl) rfl rfl rfl rfl
theorem hL_isNumber_66 {d : Nat} {lv : xLV} {S : xS} {r : xF} {x1 : Nat} {x2 : Int32} : XH SK MT d 330 soL_isNumber (66, lv, [.int x2, .ref x1], S) r ↔ xK (XC SK MT d 329 [.ref x1, .int x2] S) (fun v S => XH SK MT d 330 soL_isNumber (69, lv, v.toList ++ [], S) r) := H_inv rfl (n := 2) (kd := 0) (st0 := [.int x2, .ref x1]) rfl (Or.inl ⟨rfl, rfl⟩) rfl (Nat.le_of_ble_eq_true rfl) (Nat.le_of_ble_eq_true rfl) (by decide) rfl
theorem hL_isNumber_69 {d : Nat} {lv : xLV} {st : List Value} {S : xS} {r : xF} : XH SK MT d 330 soL_isNumber (69, lv, st, S) r ↔ XH SK MT d 330 soL_isNumber (71, lv, .int 126 :: st, S) r := H_pure rfl rfl rfl rfl
theorem hL_isNumber_71 {d : Nat} {lv : xLV} {st : List Value} {S : xS} {r : xF} {x z : Int32} : XH SK MT d 330 soL_isNumber (71, lv, .int z :: .int x :: st, S) r ↔ if x = z then XH SK MT d 330 soL_isNumber (76, lv, st, S) r else XH SK MT d 330 soL_isNumber (74, lv, st, S) r := (H_icmp rfl rfl rfl).trans xc_eq
theorem hL_isNumber_74 {d : Nat} {lv : xLV} {st : List Value} {S : xS} {r : xF} : XH SK MT d 330 soL_isNumber (74, lv, st, S) r ↔ XH SK MT d 330 soL_isNumber (75, lv, .int 0 :: st, S) r := H_pure rfl rfl rfl rfl
theorem hL_isNumber_76 {d : Nat} {lv : xLV} {st : List Value} {S : xS} {r : xF} : XH SK MT d 330 soL_isNumber (76, lv, st, S) r ↔ xI (xlook lv 5) (fun x => XH SK MT d 330 soL_isNumber (78, lv, .int x :: st, S) r) := H_ldI rfl rfl rfl (fun _ => rfl) rfl rfl rfl rfl
theorem hL_isNumber_78 {d : Nat} {lv : xLV} {st : List Value} {S : xS} {r : xF} : XH SK MT d 330 soL_isNumber (78, lv, st, S) r ↔ xI (xlook lv 1) (fun x => XH SK MT d 330 soL_isNumber (79, lv, .int x :: st, S) r) := H_ldI rfl rfl rfl (fun _ => rfl) rfl rfl rfl rfl
theorem hL_isNumber_79 {d : Nat} {lv : xLV} {st : List Value} {S : xS} {r : xF} {x : Int32} : XH SK MT d 330 soL_isNumber (79, lv, .int x :: st, S) r ↔ if 0 ≤ x then XH SK MT d 330 soL_isNumber (86, lv, st, S) r else XH SK MT d 330 soL_isNumber (82, lv, st, S) r := (H_if rfl rfl rfl).trans xc_ge
theorem hL_isNumber_82 {d : Nat} {lv : xLV} {st : List Value} {S : xS} {r : xF} : XH SK MT d 330 soL_isNumber (82, lv, st, S) r ↔ XH SK MT d 330 soL_isNumber (83, lv, .int 0 :: st, S) r := H_pure rfl rfl rfl rfl
theorem hL_isNumber_83 {d : Nat} {lv : xLV} {st : List Value} {S : xS} {r : xF} : XH SK MT d 330 soL_isNumber (83, lv, st, S) r ↔ XH SK MT d 330 soL_isNumber (87, lv, st, S) r := H_jump rfl rfl rfl rfl
theorem hL_isNumber_86 {d : Nat} {lv : xLV} {st : List Value} {S : xS} {r : xF} : XH SK MT d 330 soL_isNumber (86, lv, st, S) r ↔ XH SK MT d 330 soL_isNumber (87, lv, .int (-1) :: st, S) r := H_pure rfl rfl rfl rfl
theorem hL_isNumber_87 {d : Nat} {lv : xLV} {st : List Value} {S : xS} {r : xF} {x z : Int32} : XH SK MT d 330 soL_isNumber (87, lv, .int z :: .int x :: st, S) r ↔ if ¬ x = z then XH SK MT d 330 soL_isNumber (104, lv, st, S) r else XH SK MT d 330 soL_isNumber (90, lv, st, S) r := (H_icmp rfl rfl rfl).trans xc_ne
theorem hL_isNumber_91 {d : Nat} {lv : xLV} {st : List Value} {S : xS} {r : xF} : XH SK MT d 330 soL_isNumber (91, lv, st, S) r ↔ xI (xlook lv 2) (fun x => XH SK MT d 330 soL_isNumber (92, lv, .int x :: st, S) r) := H_ldI rfl rfl rfl (fun _ => rfl) rfl rfl rfl rfl
theorem hL_isNumber_92 {d : Nat} {lv : xLV} {S : xS} {r : xF} {x1 : Nat} {x2 : Int32} : XH SK MT d 330 soL_isNumber (92, lv, [.int x2, .ref x1], S) r ↔ xK (XC SK MT d 329 [.ref x1, .int x2] S) (fun v S => XH SK MT d 330 soL_isNumber (95, lv, v.toList ++ [], S) r) := H_inv rfl (n := 2) (kd := 0) (st0 := [.int x2, .ref x1]) rfl (Or.inl ⟨rfl, rfl⟩) rfl (Nat.le_of_ble_eq_true rfl) (Nat.le_of_ble_eq_true rfl) (by decide) rfl
theorem hL_isNumber_95 {d : Nat} {lv : xLV} {st : List Value} {S : xS} {r : xF} : XH SK MT d 330 soL_isNumber (95, lv, st, S) r ↔ XH SK MT d 330 soL_isNumber (97, lv, .int (-9) :: st, S) r := H_pure rfl rfl rfl rfl
theorem hL_isNumber_97 {d : Nat} {lv : xLV} {st : List Value} {S : xS} {r : xF} {x z : Int32} : XH SK MT d 330 soL_isNumber (97, lv, .int z :: .int x :: st, S) r ↔ if ¬ x = z then XH SK MT d 330 soL_isNumber (104, lv, st, S) r else XH SK MT d 330 soL_isNumber (100, lv, st, S) r := (H_icmp rfl rfl rfl).trans xc_ne
theorem hL_isNumber_100 {d : Nat} {lv : xLV} {st : List Value} {S : xS} {r : xF} : XH SK MT d 330 soL_isNumber (100, lv, st, S) r ↔ XH SK MT d 330 soL_isNumber (101, lv, .int 1 :: st, S) r := H_pure rfl rfl rfl rfl
theorem hL_isNumber_101 {d : Nat} {lv : xLV} {st : List Value} {S : xS} {r : xF} : XH SK MT d 330 soL_isNumber (101, lv, st, S) r ↔ XH SK MT d 330 soL_isNumber (105, lv, st, S) r := H_jump rfl rfl rfl rfl
theorem hL_isNumber_104 {d : Nat} {lv : xLV} {st : List Value} {S : xS} {r : xF} : XH SK MT d 330 soL_isNumber (104, lv, st, S) r ↔ XH SK MT d 330 soL_isNumber (105, lv, .int 0 :: st, S) r := H_pure rfl rfl rfl rfl
theorem hL_isNumber_90 {d : Nat} {lv : xLV} {st : List Value} {S : xS} {r : xF} : XH SK MT d 330 soL_isNumber (90, lv, st, S) r ↔ (90, lv, st, S) = r := H_at rfl

/-! The law: whether the RESULT is a number, up to its last question. -/
theorem ndg_ge : ∀ k m, 1 < ndg k m → 10 ^ (ndg k m - 1) ≤ m
  | 0, m, h => absurd h (by show ¬ 1 < 1; omega)
  | k + 1, m, h => by
    by_cases h1 : m < 10
    · have e : ndg (k + 1) m = 1 := by unfold ndg; rw [if_pos h1]
      rw [e] at h; omega
    · have e : ndg (k + 1) m = ndg k (m / 10) + 1 := by
        rw [show ndg (k + 1) m = if m < 10 then 1 else ndg k (m / 10) + 1 from by cases k <;> rfl, if_neg h1]
      have hp := (ndg_pos k (m / 10)).1
      rw [e, Nat.add_sub_cancel]
      by_cases h2 : 1 < ndg k (m / 10)
      · have := ndg_ge k (m / 10) h2
        have e2 : 10 ^ ndg k (m / 10) = 10 ^ (ndg k (m / 10) - 1) * 10 := by
          conv => lhs; rw [show ndg k (m / 10) = ndg k (m / 10) - 1 + 1 by omega, Nat.pow_succ]
        rw [e2]; omega
      · rw [show ndg k (m / 10) = 1 by omega, Nat.pow_one]; omega
theorem dgs_get : ∀ k m j, j < k → (dgs k m)[j]? = some (48 + m / 10 ^ (k - 1 - j) % 10)
  | 0, _, _, h => absurd h (Nat.not_lt_zero _)
  | k + 1, m, 0, _ => rfl
  | k + 1, m, j + 1, h => by
    show (dgs k m)[j]? = _
    rw [dgs_get k m j (by omega), show k + 1 - 1 - (j + 1) = k - 1 - j by omega]
theorem lgc_gt {a b : Nat} (ha : a < 2 ^ 63) (hb : b < 2 ^ 63) : (0 < lg_cmp (lN a) (lN b)) ↔ b < a := by
  rcases Nat.lt_trichotomy a b with h | h | h
  · rw [lgc_lt ha hb h]
    exact ⟨fun z => absurd z (by decide), fun z => absurd z (by omega)⟩
  · subst h
    rw [lgc_eq]
    exact ⟨fun z => absurd z (by decide), fun z => absurd z (by omega)⟩
  · have e : lg_cmp (lN a) (lN b) = 1 := by
      unfold lg_cmp
      rw [if_pos ((pk_lLT hb ha).mpr h)]
    rw [e]
    exact ⟨fun _ => h, fun _ => by decide⟩
set_option maxHeartbeats 4000000 in
set_option maxRecDepth 100000 in
theorem num_loop {d mm of D nL : Nat} {v : Int32} {S : xS} {bs : List Nat} {r : xF} (hr : RSt S bs) (hm : mm < 10 ^ 11) (hD : D = ndg 10 mm) (hg : ∀ j, j < D → bs[of + j]? = some (48 + mm / 10 ^ (D - 1 - j) % 10)) (hof : of ≤ 1) :
    ∀ k i, i + k + 1 = D → (XH SK MT (d + 4) 330 soL_isNumber (24, [some (.ref 0), some (.int v), some (.int (nI nL)), some (.long (lN (mm / 10 ^ i))), none, some (.int (nI (of + k)))], [], S) r ↔ XH SK MT (d + 4) 330 soL_isNumber (59, [some (.ref 0), some (.int v), some (.int (nI nL)), some (.long (lN 0)), none, some (.int (nI of + -1))], [], S) r) := by
  have hp := ndg_pos 10 mm
  intro k
  have one : ∀ k i, i + k + 1 = D → XC SK MT (d + 4) 329 [.ref 0, .int (nI (of + k))] S = some (some (.int (nI (48 + mm / 10 ^ i % 10))), S) := by
    intro k i h
    have h1 := hg k (by omega)
    rw [show D - 1 - k = i by omega] at h1
    exact s_lres (s_resultAt (d := d) hr h1)
  have lt : ∀ i, mm / 10 ^ i < 2 ^ 63 := fun i => Nat.lt_of_le_of_lt (Nat.div_le_self _ _) (by omega)
  have rem : ∀ i, lN (mm / 10 ^ i) - lN (mm / 10 ^ i) / lN 10 * lN 10 = lN (mm / 10 ^ i % 10) := fun i => pk_lRem (lt i) (by decide) (by decide)
  have quo : ∀ i, lN (mm / 10 ^ i) / lN 10 = lN (mm / 10 ^ (i + 1)) := fun i => by rw [pk_lDiv (lt i) (by decide) (by decide), Nat.div_div_eq_div_mul, Nat.pow_succ]
  have e48 : ∀ x, (48 : Int32) + nI x = nI (48 + x) := fun x => by show nI 48 + nI x = _; rw [nI_add]
  have t10 := neN (show 0 < 10 by decide) (by decide)
  induction k with
  | zero =>
    intro i h
    have z : mm / 10 ^ (i + 1) = 0 := Nat.div_eq_of_lt (by rw [show i + 1 = ndg 10 mm by omega]; exact ndg_lt 10 mm hm)
    have q := quo i
    rw [z] at q
    have o : XC SK MT (d + 4) 329 [.ref 0, .int (nI of)] S = some (some (.int (nI (48 + mm / 10 ^ i % 10))), S) := one 0 i h
    have rm := rem i
    rw [q] at rm
    rw [Nat.add_zero]
    have g0 : ¬ 0 < lg_cmp (lN 0) (lN 0) := by rw [lgc_eq]; decide
    rw [hL_isNumber_24]
    simp (config := { decide := true }) only [hL_isNumber_0, hL_isNumber_1, hL_isNumber_2, hL_isNumber_5, hL_isNumber_6, hL_isNumber_7, hL_isNumber_10, hL_isNumber_11, hL_isNumber_12, hL_isNumber_13, hL_isNumber_16, hL_isNumber_17, hL_isNumber_18, hL_isNumber_19, hL_isNumber_20, hL_isNumber_21, hL_isNumber_22, hL_isNumber_25, hL_isNumber_27, hL_isNumber_30, hL_isNumber_32, hL_isNumber_33, hL_isNumber_37, hL_isNumber_38, hL_isNumber_39, hL_isNumber_42, hL_isNumber_44, hL_isNumber_45, hL_isNumber_49, hL_isNumber_50, hL_isNumber_53, hL_isNumber_54, hL_isNumber_55, hL_isNumber_56, hL_isNumber_60, hL_isNumber_63, hL_isNumber_64, hL_isNumber_66, hL_isNumber_69, hL_isNumber_71, hL_isNumber_74, hL_isNumber_76, hL_isNumber_78, hL_isNumber_79, hL_isNumber_82, hL_isNumber_83, hL_isNumber_86, hL_isNumber_87, hL_isNumber_91, hL_isNumber_92, hL_isNumber_95, hL_isNumber_97, hL_isNumber_100, hL_isNumber_101, hL_isNumber_104, hL_isNumber_90, hL_isNumber_36 t10, hL_isNumber_48 t10, ↓reduceIte, m1_le, m1_lt, m1_eq, ofInt_m1, ex_ret, Int32.reduceAdd, Int32.reduceSub, Int32.reduceMul, Int32.reduceLT, Int32.reduceLE, xsI, Nat.reduceEqDiff, and_false, false_and, and_true, true_and, if_true, if_false, ite_true, ite_false, xlook_0, xlook_s, xI_int, xA_ref, xJ_long, xK_some, xRow_row, xTo_some, xst1, xclr, List.set_cons_zero, List.set_cons_succ, xsum_nil, xsum_int, xsum_ref, xsum_long, Option.toList_some, Option.toList_none, List.nil_append, List.cons_append, xst2, o, l10N, rm, q, lN_i, e48, l0N, g0, Nat.add_zero]
  | succ k ih =>
    intro i h
    have q := quo i
    have o := one (k + 1) i h
    have hge := ndg_ge 10 mm (by omega)
    have pos : 0 < mm / 10 ^ (i + 1) := Nat.div_pos (Nat.le_trans (Nat.pow_le_pow_right (by decide) (show i + 1 ≤ ndg 10 mm - 1 by omega)) hge) (t10_pos _)
    have g1 : 0 < lg_cmp (lN (mm / 10 ^ (i + 1))) (lN 0) := (lgc_gt (lt _) (by decide)).mpr pos
    have rm := rem i
    rw [q] at rm
    rw [← ih (i + 1) (by omega), hL_isNumber_24]
    simp (config := { decide := true }) only [hL_isNumber_0, hL_isNumber_1, hL_isNumber_2, hL_isNumber_5, hL_isNumber_6, hL_isNumber_7, hL_isNumber_10, hL_isNumber_11, hL_isNumber_12, hL_isNumber_13, hL_isNumber_16, hL_isNumber_17, hL_isNumber_18, hL_isNumber_19, hL_isNumber_20, hL_isNumber_21, hL_isNumber_22, hL_isNumber_25, hL_isNumber_27, hL_isNumber_30, hL_isNumber_32, hL_isNumber_33, hL_isNumber_37, hL_isNumber_38, hL_isNumber_39, hL_isNumber_42, hL_isNumber_44, hL_isNumber_45, hL_isNumber_49, hL_isNumber_50, hL_isNumber_53, hL_isNumber_54, hL_isNumber_55, hL_isNumber_56, hL_isNumber_60, hL_isNumber_63, hL_isNumber_64, hL_isNumber_66, hL_isNumber_69, hL_isNumber_71, hL_isNumber_74, hL_isNumber_76, hL_isNumber_78, hL_isNumber_79, hL_isNumber_82, hL_isNumber_83, hL_isNumber_86, hL_isNumber_87, hL_isNumber_91, hL_isNumber_92, hL_isNumber_95, hL_isNumber_97, hL_isNumber_100, hL_isNumber_101, hL_isNumber_104, hL_isNumber_90, hL_isNumber_36 t10, hL_isNumber_48 t10, ↓reduceIte, m1_le, m1_lt, m1_eq, ofInt_m1, ex_ret, Int32.reduceAdd, Int32.reduceSub, Int32.reduceMul, Int32.reduceLT, Int32.reduceLE, xsI, Nat.reduceEqDiff, and_false, false_and, and_true, true_and, if_true, if_false, ite_true, ite_false, xlook_0, xlook_s, xI_int, xA_ref, xJ_long, xK_some, xRow_row, xTo_some, xst1, xclr, List.set_cons_zero, List.set_cons_succ, xsum_nil, xsum_int, xsum_ref, xsum_long, Option.toList_some, Option.toList_none, List.nil_append, List.cons_append, xst2, o, l10N, rm, q, lN_i, e48, l0N, g1]
    rw [show of + (k + 1) = of + k + 1 by omega, nD1]
set_option maxHeartbeats 4000000 in
set_option maxRecDepth 100000 in
theorem s_isNum {d : Nat} {v : Int32} {S S1 : xS} (ht : XC SK MT (d + 3) 314 [.ref 0, .int 1] S = some (some (.int (nI (nmB v.toInt).length)), S1)) (hr : RSt S1 (nmB v.toInt)) :
    ∃ lv, XH SK MT (d + 4) 330 soL_isNumber (0, [some (.ref 0), some (.int v), none, none, none, none], [], S) (90, some (.ref 0) :: some (.int v) :: some (.int (nI (nmB v.toInt).length)) :: lv, [], S1) := by
  have e1 := s_ltell ht
  have hd11 : v.toInt.natAbs < 10 ^ 11 := by have := Int32.toInt_lt v; have := Int32.le_toInt v; omega
  have hp := ndg_pos 10 v.toInt.natAbs
  have hl := dgs_len (ndg 10 v.toInt.natAbs) v.toInt.natAbs
  by_cases hn : v < 0
  · have hv : v.toInt < 0 := Int32.lt_iff_toInt_lt.mp hn
    have e : nmB v.toInt = 126 :: dgs (ndg 10 v.toInt.natAbs) v.toInt.natAbs := if_pos hv
    have nn : ¬ 0 ≤ v := fun z => absurd (Int32.le_iff_toInt_le.mp z) (by show ¬ (0 : Int) ≤ _; omega)
    have lp : (nmB v.toInt).length = ndg 10 v.toInt.natAbs + 1 := by rw [e, List.length_cons, hl]
    have lo := fun r => num_loop (d := d) (v := v) (r := r) (nL := (nmB v.toInt).length) (of := 1) (D := ndg 10 v.toInt.natAbs) hr hd11 rfl (fun j hj => by rw [e, Nat.add_comm 1 j, List.getElem?_cons_succ]; exact dgs_get _ _ j hj) (by decide) (ndg 10 v.toInt.natAbs - 1) 0 (by omega)
    have a1 : nI (nmB v.toInt).length - 1 = nI (1 + (ndg 10 v.toInt.natAbs - 1)) := by rw [lp, show ndg 10 v.toInt.natAbs + 1 = 1 + (ndg 10 v.toInt.natAbs - 1) + 1 by omega, nS1]
    have a0 : nI 1 + -1 = (0 : Int32) := by decide
    have o := s_lres (s_resultAt (d := d) (k := 0) hr (by rw [e]; rfl))
    rw [show nI 0 = (0 : Int32) from rfl, show nI 126 = (126 : Int32) from rfl] at o
    rw [Nat.pow_zero, Nat.div_one] at lo
    refine ⟨[some (.long (lN 0)), none, some (.int (nI 1 + -1))], ?_⟩
    rw [a0] at lo ⊢
    simp (config := { decide := true }) only [hL_isNumber_0, hL_isNumber_1, hL_isNumber_2, hL_isNumber_5, hL_isNumber_6, hL_isNumber_7, hL_isNumber_10, hL_isNumber_11, hL_isNumber_12, hL_isNumber_13, hL_isNumber_16, hL_isNumber_17, hL_isNumber_18, hL_isNumber_19, hL_isNumber_20, hL_isNumber_21, hL_isNumber_22, hL_isNumber_25, hL_isNumber_27, hL_isNumber_30, hL_isNumber_32, hL_isNumber_33, hL_isNumber_37, hL_isNumber_38, hL_isNumber_39, hL_isNumber_42, hL_isNumber_44, hL_isNumber_45, hL_isNumber_49, hL_isNumber_50, hL_isNumber_53, hL_isNumber_54, hL_isNumber_55, hL_isNumber_56, hL_isNumber_60, hL_isNumber_63, hL_isNumber_64, hL_isNumber_66, hL_isNumber_69, hL_isNumber_71, hL_isNumber_74, hL_isNumber_76, hL_isNumber_78, hL_isNumber_79, hL_isNumber_82, hL_isNumber_83, hL_isNumber_86, hL_isNumber_87, hL_isNumber_91, hL_isNumber_92, hL_isNumber_95, hL_isNumber_97, hL_isNumber_100, hL_isNumber_101, hL_isNumber_104, hL_isNumber_90, ↓reduceIte, m1_le, m1_lt, m1_eq, ofInt_m1, ex_ret, Int32.reduceAdd, Int32.reduceSub, Int32.reduceMul, Int32.reduceLT, Int32.reduceLE, xsI, Nat.reduceEqDiff, and_false, false_and, and_true, true_and, if_true, if_false, ite_true, ite_false, xlook_0, xlook_s, xI_int, xA_ref, xJ_long, xK_some, xRow_row, xTo_some, xst1, xclr, List.set_cons_zero, List.set_cons_succ, xsum_nil, xsum_int, xsum_ref, xsum_long, Option.toList_some, Option.toList_none, List.nil_append, List.cons_append, xst2, e1, nn, abs_n hn, a1]
    rw [lo, hL_isNumber_59]
    simp (config := { decide := true }) only [hL_isNumber_0, hL_isNumber_1, hL_isNumber_2, hL_isNumber_5, hL_isNumber_6, hL_isNumber_7, hL_isNumber_10, hL_isNumber_11, hL_isNumber_12, hL_isNumber_13, hL_isNumber_16, hL_isNumber_17, hL_isNumber_18, hL_isNumber_19, hL_isNumber_20, hL_isNumber_21, hL_isNumber_22, hL_isNumber_25, hL_isNumber_27, hL_isNumber_30, hL_isNumber_32, hL_isNumber_33, hL_isNumber_37, hL_isNumber_38, hL_isNumber_39, hL_isNumber_42, hL_isNumber_44, hL_isNumber_45, hL_isNumber_49, hL_isNumber_50, hL_isNumber_53, hL_isNumber_54, hL_isNumber_55, hL_isNumber_56, hL_isNumber_60, hL_isNumber_63, hL_isNumber_64, hL_isNumber_66, hL_isNumber_69, hL_isNumber_71, hL_isNumber_74, hL_isNumber_76, hL_isNumber_78, hL_isNumber_79, hL_isNumber_82, hL_isNumber_83, hL_isNumber_86, hL_isNumber_87, hL_isNumber_91, hL_isNumber_92, hL_isNumber_95, hL_isNumber_97, hL_isNumber_100, hL_isNumber_101, hL_isNumber_104, hL_isNumber_90, ↓reduceIte, m1_le, m1_lt, m1_eq, ofInt_m1, ex_ret, Int32.reduceAdd, Int32.reduceSub, Int32.reduceMul, Int32.reduceLT, Int32.reduceLE, xsI, Nat.reduceEqDiff, and_false, false_and, and_true, true_and, if_true, if_false, ite_true, ite_false, xlook_0, xlook_s, xI_int, xA_ref, xJ_long, xK_some, xRow_row, xTo_some, xst1, xclr, List.set_cons_zero, List.set_cons_succ, xsum_nil, xsum_int, xsum_ref, xsum_long, Option.toList_some, Option.toList_none, List.nil_append, List.cons_append, xst2, nn, o]
  · have hv : ¬ v.toInt < 0 := fun z => hn (Int32.lt_iff_toInt_lt.mpr z)
    have e : nmB v.toInt = dgs (ndg 10 v.toInt.natAbs) v.toInt.natAbs := if_neg hv
    have nn : 0 ≤ v := Int32.not_lt.mp hn
    have lp : (nmB v.toInt).length = ndg 10 v.toInt.natAbs := by rw [e, hl]
    have lo := fun r => num_loop (d := d) (v := v) (r := r) (nL := (nmB v.toInt).length) (of := 0) (D := ndg 10 v.toInt.natAbs) hr hd11 rfl (fun j hj => by rw [e, Nat.zero_add]; exact dgs_get _ _ j hj) (by decide) (ndg 10 v.toInt.natAbs - 1) 0 (by omega)
    have a1 : nI (nmB v.toInt).length - 1 = nI (0 + (ndg 10 v.toInt.natAbs - 1)) := by
      obtain ⟨q, hq⟩ : ∃ q, ndg 10 v.toInt.natAbs = q + 1 := ⟨ndg 10 v.toInt.natAbs - 1, by omega⟩
      rw [lp, hq, nS1, Nat.add_sub_cancel, Nat.zero_add]
    have a0 : nI 0 + -1 = (-1 : Int32) := by decide
    rw [Nat.pow_zero, Nat.div_one] at lo
    refine ⟨[some (.long (lN 0)), none, some (.int (nI 0 + -1))], ?_⟩
    rw [a0] at lo ⊢
    simp (config := { decide := true }) only [hL_isNumber_0, hL_isNumber_1, hL_isNumber_2, hL_isNumber_5, hL_isNumber_6, hL_isNumber_7, hL_isNumber_10, hL_isNumber_11, hL_isNumber_12, hL_isNumber_13, hL_isNumber_16, hL_isNumber_17, hL_isNumber_18, hL_isNumber_19, hL_isNumber_20, hL_isNumber_21, hL_isNumber_22, hL_isNumber_25, hL_isNumber_27, hL_isNumber_30, hL_isNumber_32, hL_isNumber_33, hL_isNumber_37, hL_isNumber_38, hL_isNumber_39, hL_isNumber_42, hL_isNumber_44, hL_isNumber_45, hL_isNumber_49, hL_isNumber_50, hL_isNumber_53, hL_isNumber_54, hL_isNumber_55, hL_isNumber_56, hL_isNumber_60, hL_isNumber_63, hL_isNumber_64, hL_isNumber_66, hL_isNumber_69, hL_isNumber_71, hL_isNumber_74, hL_isNumber_76, hL_isNumber_78, hL_isNumber_79, hL_isNumber_82, hL_isNumber_83, hL_isNumber_86, hL_isNumber_87, hL_isNumber_91, hL_isNumber_92, hL_isNumber_95, hL_isNumber_97, hL_isNumber_100, hL_isNumber_101, hL_isNumber_104, hL_isNumber_90, ↓reduceIte, m1_le, m1_lt, m1_eq, ofInt_m1, ex_ret, Int32.reduceAdd, Int32.reduceSub, Int32.reduceMul, Int32.reduceLT, Int32.reduceLE, xsI, Nat.reduceEqDiff, and_false, false_and, and_true, true_and, if_true, if_false, ite_true, ite_false, xlook_0, xlook_s, xI_int, xA_ref, xJ_long, xK_some, xRow_row, xTo_some, xst1, xclr, List.set_cons_zero, List.set_cons_succ, xsum_nil, xsum_int, xsum_ref, xsum_long, Option.toList_some, Option.toList_none, List.nil_append, List.cons_append, xst2, e1, nn, abs_p hn, a1]
    rw [lo, hL_isNumber_59]
    simp (config := { decide := true }) only [hL_isNumber_0, hL_isNumber_1, hL_isNumber_2, hL_isNumber_5, hL_isNumber_6, hL_isNumber_7, hL_isNumber_10, hL_isNumber_11, hL_isNumber_12, hL_isNumber_13, hL_isNumber_16, hL_isNumber_17, hL_isNumber_18, hL_isNumber_19, hL_isNumber_20, hL_isNumber_21, hL_isNumber_22, hL_isNumber_25, hL_isNumber_27, hL_isNumber_30, hL_isNumber_32, hL_isNumber_33, hL_isNumber_37, hL_isNumber_38, hL_isNumber_39, hL_isNumber_42, hL_isNumber_44, hL_isNumber_45, hL_isNumber_49, hL_isNumber_50, hL_isNumber_53, hL_isNumber_54, hL_isNumber_55, hL_isNumber_56, hL_isNumber_60, hL_isNumber_63, hL_isNumber_64, hL_isNumber_66, hL_isNumber_69, hL_isNumber_71, hL_isNumber_74, hL_isNumber_76, hL_isNumber_78, hL_isNumber_79, hL_isNumber_82, hL_isNumber_83, hL_isNumber_86, hL_isNumber_87, hL_isNumber_91, hL_isNumber_92, hL_isNumber_95, hL_isNumber_97, hL_isNumber_100, hL_isNumber_101, hL_isNumber_104, hL_isNumber_90, ↓reduceIte, m1_le, m1_lt, m1_eq, ofInt_m1, ex_ret, Int32.reduceAdd, Int32.reduceSub, Int32.reduceMul, Int32.reduceLT, Int32.reduceLE, xsI, Nat.reduceEqDiff, and_false, false_and, and_true, true_and, if_true, if_false, ite_true, ite_false, xlook_0, xlook_s, xI_int, xA_ref, xJ_long, xK_some, xRow_row, xTo_some, xst1, xclr, List.set_cons_zero, List.set_cons_succ, xsum_nil, xsum_int, xsum_ref, xsum_long, Option.toList_some, Option.toList_none, List.nil_append, List.cons_append, xst2, nn]
