/-! XF: rows, then what is proved of them. -/
theorem rL_tell_0 {d : Nat} {lv : xLV} {st : List Value} {S : xS} {r : xO} : XL SK MT d 328 (0, lv, st, S) r ↔ XL SK MT d 328 (1, lv, .int 0 :: st, S) r := X_pure rfl rfl rfl
theorem rL_tell_1 {d : Nat} {lv : xLV} {st : List Value} {S : xS} {r : xO} {x : Int32} : XL SK MT d 328 (1, lv, .int x :: st, S) r ↔ XL SK MT d 328 (2, xst1 lv 2 (.int x), st, S) r := X_pure rfl rfl rfl
theorem rL_tell_2 {d : Nat} {lv : xLV} {st : List Value} {S : xS} {r : xO} : XL SK MT d 328 (2, lv, st, S) r ↔ xA (xlook lv 0) (fun x => XL SK MT d 328 (3, lv, .ref x :: st, S) r) := X_ldA rfl rfl (fun _ => rfl) rfl rfl rfl rfl
theorem rL_tell_3 {d : Nat} {lv : xLV} {st : List Value} {S : xS} {r : xO} : XL SK MT d 328 (3, lv, st, S) r ↔ xI (xlook lv 1) (fun x => XL SK MT d 328 (4, lv, .int x :: st, S) r) := X_ldI rfl rfl (fun _ => rfl) rfl rfl rfl rfl
theorem rL_tell_4 {d : Nat} {lv : xLV} {S : xS} {r : xO} {x1 : Int32} : XL SK MT d 328 (4, lv, [.int x1, .ref 0], S) r ↔ xK (XC SK MT d 314 [.ref 0, .int x1] S) (fun v S => XL SK MT d 328 (7, lv, v.toList ++ [], S) r) := X_inv (n := 2) (kd := 14) (st0 := [.int x1, .ref 0]) rfl (Or.inr ⟨rfl, rfl⟩) rfl (Nat.le_of_ble_eq_true rfl) (Nat.le_of_ble_eq_true rfl) (by decide) rfl
theorem rL_tell_7 {d : Nat} {lv : xLV} {st : List Value} {S : xS} {r : xO} {x : Int32} : XL SK MT d 328 (7, lv, .int x :: st, S) r ↔ XL SK MT d 328 (8, xst1 lv 2 (.int x), st, S) r := X_pure rfl rfl rfl
theorem rL_tell_8 {d : Nat} {lv : xLV} {st : List Value} {S : xS} {r : xO} : XL SK MT d 328 (8, lv, st, S) r ↔ XL SK MT d 328 (19, lv, st, S) r := X_jump rfl rfl rfl
theorem rL_tell_11 {d : Nat} {lv : xLV} {st : List Value} {S : xS} {r : xO} {x : Nat} : XL SK MT d 328 (11, lv, .ref x :: st, S) r ↔ XL SK MT d 328 (12, xst1 lv 3 (.ref x), st, S) r := X_pure rfl rfl rfl
theorem rL_tell_12 {d : Nat} {lv : xLV} {st : List Value} {S : xS} {r : xO} : XL SK MT d 328 (12, lv, st, S) r ↔ XL SK MT d 328 (14, lv, .int (-9) :: st, S) r := X_pure rfl rfl rfl
theorem rL_tell_14 {d : Nat} {lv : xLV} {S : xS} {r : xO} {x : Int32} : XL SK MT d 328 (14, lv, [.int x], S) r ↔ (some (.int x), S) = r := X_ret rfl rfl rfl rfl rfl rfl
theorem rL_tell_15 {d : Nat} {lv : xLV} {st : List Value} {S : xS} {r : xO} {x : Nat} : XL SK MT d 328 (15, lv, .ref x :: st, S) r ↔ XL SK MT d 328 (16, xst1 lv 3 (.ref x), st, S) r := X_pure rfl rfl rfl
theorem rL_tell_16 {d : Nat} {lv : xLV} {st : List Value} {S : xS} {r : xO} : XL SK MT d 328 (16, lv, st, S) r ↔ XL SK MT d 328 (18, lv, .int (-8) :: st, S) r := X_pure rfl rfl rfl
theorem rL_tell_18 {d : Nat} {lv : xLV} {S : xS} {r : xO} {x : Int32} : XL SK MT d 328 (18, lv, [.int x], S) r ↔ (some (.int x), S) = r := X_ret rfl rfl rfl rfl rfl rfl
theorem rL_tell_19 {d : Nat} {lv : xLV} {st : List Value} {S : xS} {r : xO} : XL SK MT d 328 (19, lv, st, S) r ↔ xI (xlook lv 2) (fun x => XL SK MT d 328 (20, lv, .int x :: st, S) r) := X_ldI rfl rfl (fun _ => rfl) rfl rfl rfl rfl
theorem rL_tell_20 {d : Nat} {lv : xLV} {S : xS} {r : xO} {x : Int32} : XL SK MT d 328 (20, lv, [.int x], S) r ↔ (some (.int x), S) = r := X_ret rfl rfl rfl rfl rfl rfl

theorem rL_resultAt_0 {d : Nat} {lv : xLV} {st : List Value} {S : xS} {r : xO} : XL SK MT d 329 (0, lv, st, S) r ↔ XL SK MT d 329 (1, lv, .int 0 :: st, S) r := X_pure rfl rfl rfl
theorem rL_resultAt_1 {d : Nat} {lv : xLV} {st : List Value} {S : xS} {r : xO} {x : Int32} : XL SK MT d 329 (1, lv, .int x :: st, S) r ↔ XL SK MT d 329 (2, xst1 lv 2 (.int x), st, S) r := X_pure rfl rfl rfl
theorem rL_resultAt_2 {d : Nat} {lv : xLV} {st : List Value} {S : xS} {r : xO} : XL SK MT d 329 (2, lv, st, S) r ↔ xA (xlook lv 0) (fun x => XL SK MT d 329 (3, lv, .ref x :: st, S) r) := X_ldA rfl rfl (fun _ => rfl) rfl rfl rfl rfl
theorem rL_resultAt_3 {d : Nat} {lv : xLV} {st : List Value} {S : xS} {r : xO} : XL SK MT d 329 (3, lv, st, S) r ↔ xI (xlook lv 1) (fun x => XL SK MT d 329 (4, lv, .int x :: st, S) r) := X_ldI rfl rfl (fun _ => rfl) rfl rfl rfl rfl
theorem rL_resultAt_4 {d : Nat} {lv : xLV} {S : xS} {r : xO} {x1 : Int32} : XL SK MT d 329 (4, lv, [.int x1, .ref 0], S) r ↔ xK (XC SK MT d 315 [.ref 0, .int x1] S) (fun v S => XL SK MT d 329 (7, lv, v.toList ++ [], S) r) := X_inv (n := 2) (kd := 14) (st0 := [.int x1, .ref 0]) rfl (Or.inr ⟨rfl, rfl⟩) rfl (Nat.le_of_ble_eq_true rfl) (Nat.le_of_ble_eq_true rfl) (by decide) rfl
theorem rL_resultAt_7 {d : Nat} {lv : xLV} {st : List Value} {S : xS} {r : xO} {x : Int32} : XL SK MT d 329 (7, lv, .int x :: st, S) r ↔ XL SK MT d 329 (8, xst1 lv 2 (.int x), st, S) r := X_pure rfl rfl rfl
theorem rL_resultAt_8 {d : Nat} {lv : xLV} {st : List Value} {S : xS} {r : xO} : XL SK MT d 329 (8, lv, st, S) r ↔ XL SK MT d 329 (15, lv, st, S) r := X_jump rfl rfl rfl
theorem rL_resultAt_11 {d : Nat} {lv : xLV} {st : List Value} {S : xS} {r : xO} {x : Nat} : XL SK MT d 329 (11, lv, .ref x :: st, S) r ↔ XL SK MT d 329 (12, xst1 lv 3 (.ref x), st, S) r := X_pure rfl rfl rfl
theorem rL_resultAt_12 {d : Nat} {lv : xLV} {st : List Value} {S : xS} {r : xO} : XL SK MT d 329 (12, lv, st, S) r ↔ XL SK MT d 329 (14, lv, .int (-9) :: st, S) r := X_pure rfl rfl rfl
theorem rL_resultAt_14 {d : Nat} {lv : xLV} {S : xS} {r : xO} {x : Int32} : XL SK MT d 329 (14, lv, [.int x], S) r ↔ (some (.int x), S) = r := X_ret rfl rfl rfl rfl rfl rfl
theorem rL_resultAt_15 {d : Nat} {lv : xLV} {st : List Value} {S : xS} {r : xO} : XL SK MT d 329 (15, lv, st, S) r ↔ xI (xlook lv 2) (fun x => XL SK MT d 329 (16, lv, .int x :: st, S) r) := X_ldI rfl rfl (fun _ => rfl) rfl rfl rfl rfl
theorem rL_resultAt_16 {d : Nat} {lv : xLV} {S : xS} {r : xO} {x : Int32} : XL SK MT d 329 (16, lv, [.int x], S) r ↔ (some (.int x), S) = r := X_ret rfl rfl rfl rfl rfl rfl

theorem rL_seen_0 {d : Nat} {lv : xLV} {st : List Value} {S : xS} {r : xO} : XL SK MT d 326 (0, lv, st, S) r ↔ XL SK MT d 326 (1, lv, .int 0 :: st, S) r := X_pure rfl rfl rfl
theorem rL_seen_1 {d : Nat} {lv : xLV} {st : List Value} {S : xS} {r : xO} {x : Int32} : XL SK MT d 326 (1, lv, .int x :: st, S) r ↔ XL SK MT d 326 (2, xst1 lv 2 (.int x), st, S) r := X_pure rfl rfl rfl
theorem rL_seen_2 {d : Nat} {lv : xLV} {st : List Value} {S : xS} {r : xO} : XL SK MT d 326 (2, lv, st, S) r ↔ xA (xlook lv 0) (fun x => XL SK MT d 326 (3, lv, .ref x :: st, S) r) := X_ldA rfl rfl (fun _ => rfl) rfl rfl rfl rfl
theorem rL_seen_3 {d : Nat} {lv : xLV} {st : List Value} {S : xS} {r : xO} : XL SK MT d 326 (3, lv, st, S) r ↔ xI (xlook lv 1) (fun x => XL SK MT d 326 (4, lv, .int x :: st, S) r) := X_ldI rfl rfl (fun _ => rfl) rfl rfl rfl rfl
theorem rL_seen_4 {d : Nat} {lv : xLV} {S : xS} {r : xO} {x1 : Int32} : XL SK MT d 326 (4, lv, [.int x1, .ref 0], S) r ↔ xK (XC SK MT d 313 [.ref 0, .int x1] S) (fun v S => XL SK MT d 326 (7, lv, v.toList ++ [], S) r) := X_inv (n := 2) (kd := 14) (st0 := [.int x1, .ref 0]) rfl (Or.inr ⟨rfl, rfl⟩) rfl (Nat.le_of_ble_eq_true rfl) (Nat.le_of_ble_eq_true rfl) (by decide) rfl
theorem rL_seen_7 {d : Nat} {lv : xLV} {st : List Value} {S : xS} {r : xO} {x : Int32} : XL SK MT d 326 (7, lv, .int x :: st, S) r ↔ XL SK MT d 326 (8, xst1 lv 2 (.int x), st, S) r := X_pure rfl rfl rfl
theorem rL_seen_8 {d : Nat} {lv : xLV} {st : List Value} {S : xS} {r : xO} : XL SK MT d 326 (8, lv, st, S) r ↔ XL SK MT d 326 (19, lv, st, S) r := X_jump rfl rfl rfl
theorem rL_seen_11 {d : Nat} {lv : xLV} {st : List Value} {S : xS} {r : xO} {x : Nat} : XL SK MT d 326 (11, lv, .ref x :: st, S) r ↔ XL SK MT d 326 (12, xst1 lv 3 (.ref x), st, S) r := X_pure rfl rfl rfl
theorem rL_seen_12 {d : Nat} {lv : xLV} {st : List Value} {S : xS} {r : xO} : XL SK MT d 326 (12, lv, st, S) r ↔ XL SK MT d 326 (14, lv, .int (-9) :: st, S) r := X_pure rfl rfl rfl
theorem rL_seen_14 {d : Nat} {lv : xLV} {S : xS} {r : xO} {x : Int32} : XL SK MT d 326 (14, lv, [.int x], S) r ↔ (some (.int x), S) = r := X_ret rfl rfl rfl rfl rfl rfl
theorem rL_seen_15 {d : Nat} {lv : xLV} {st : List Value} {S : xS} {r : xO} {x : Nat} : XL SK MT d 326 (15, lv, .ref x :: st, S) r ↔ XL SK MT d 326 (16, xst1 lv 3 (.ref x), st, S) r := X_pure rfl rfl rfl
theorem rL_seen_16 {d : Nat} {lv : xLV} {st : List Value} {S : xS} {r : xO} : XL SK MT d 326 (16, lv, st, S) r ↔ XL SK MT d 326 (18, lv, .int (-8) :: st, S) r := X_pure rfl rfl rfl
theorem rL_seen_18 {d : Nat} {lv : xLV} {S : xS} {r : xO} {x : Int32} : XL SK MT d 326 (18, lv, [.int x], S) r ↔ (some (.int x), S) = r := X_ret rfl rfl rfl rfl rfl rfl
theorem rL_seen_19 {d : Nat} {lv : xLV} {st : List Value} {S : xS} {r : xO} : XL SK MT d 326 (19, lv, st, S) r ↔ xI (xlook lv 2) (fun x => XL SK MT d 326 (20, lv, .int x :: st, S) r) := X_ldI rfl rfl (fun _ => rfl) rfl rfl rfl rfl
theorem rL_seen_20 {d : Nat} {lv : xLV} {S : xS} {r : xO} {x : Int32} : XL SK MT d 326 (20, lv, [.int x], S) r ↔ (some (.int x), S) = r := X_ret rfl rfl rfl rfl rfl rfl

theorem rL_run_0 {d : Nat} {lv : xLV} {st : List Value} {S : xS} {r : xO} : XL SK MT d 325 (0, lv, st, S) r ↔ XL SK MT d 325 (1, lv, .int 0 :: st, S) r := X_pure rfl rfl rfl
theorem rL_run_1 {d : Nat} {lv : xLV} {st : List Value} {S : xS} {r : xO} {x : Int32} : XL SK MT d 325 (1, lv, .int x :: st, S) r ↔ XL SK MT d 325 (3, xst1 lv 4 (.int x), st, S) r := X_pure rfl rfl rfl
theorem rL_run_3 {d : Nat} {lv : xLV} {st : List Value} {S : xS} {r : xO} : XL SK MT d 325 (3, lv, st, S) r ↔ xA (xlook lv 0) (fun x => XL SK MT d 325 (4, lv, .ref x :: st, S) r) := X_ldA rfl rfl (fun _ => rfl) rfl rfl rfl rfl
theorem rL_run_4 {d : Nat} {lv : xLV} {st : List Value} {S : xS} {r : xO} : XL SK MT d 325 (4, lv, st, S) r ↔ xI (xlook lv 1) (fun x => XL SK MT d 325 (5, lv, .int x :: st, S) r) := X_ldI rfl rfl (fun _ => rfl) rfl rfl rfl rfl
theorem rL_run_5 {d : Nat} {lv : xLV} {st : List Value} {S : xS} {r : xO} : XL SK MT d 325 (5, lv, st, S) r ↔ xI (xlook lv 2) (fun x => XL SK MT d 325 (6, lv, .int x :: st, S) r) := X_ldI rfl rfl (fun _ => rfl) rfl rfl rfl rfl
theorem rL_run_6 {d : Nat} {lv : xLV} {st : List Value} {S : xS} {r : xO} : XL SK MT d 325 (6, lv, st, S) r ↔ xI (xlook lv 3) (fun x => XL SK MT d 325 (7, lv, .int x :: st, S) r) := X_ldI rfl rfl (fun _ => rfl) rfl rfl rfl rfl
theorem rL_run_7 {d : Nat} {lv : xLV} {S : xS} {r : xO} {x1 : Int32} {x2 : Int32} {x3 : Int32} : XL SK MT d 325 (7, lv, [.int x3, .int x2, .int x1, .ref 0], S) r ↔ xK (XC SK MT d 312 [.ref 0, .int x1, .int x2, .int x3] S) (fun v S => XL SK MT d 325 (10, lv, v.toList ++ [], S) r) := X_inv (n := 4) (kd := 14) (st0 := [.int x3, .int x2, .int x1, .ref 0]) rfl (Or.inr ⟨rfl, rfl⟩) rfl (Nat.le_of_ble_eq_true rfl) (Nat.le_of_ble_eq_true rfl) (by decide) rfl
theorem rL_run_10 {d : Nat} {lv : xLV} {st : List Value} {S : xS} {r : xO} {x : Int32} : XL SK MT d 325 (10, lv, .int x :: st, S) r ↔ XL SK MT d 325 (12, xst1 lv 4 (.int x), st, S) r := X_pure rfl rfl rfl
theorem rL_run_12 {d : Nat} {lv : xLV} {st : List Value} {S : xS} {r : xO} : XL SK MT d 325 (12, lv, st, S) r ↔ XL SK MT d 325 (24, lv, st, S) r := X_jump rfl rfl rfl
theorem rL_run_15 {d : Nat} {lv : xLV} {st : List Value} {S : xS} {r : xO} {x : Nat} : XL SK MT d 325 (15, lv, .ref x :: st, S) r ↔ XL SK MT d 325 (17, xst1 lv 5 (.ref x), st, S) r := X_pure rfl rfl rfl
theorem rL_run_17 {d : Nat} {lv : xLV} {st : List Value} {S : xS} {r : xO} : XL SK MT d 325 (17, lv, st, S) r ↔ XL SK MT d 325 (18, lv, .int (-1) :: st, S) r := X_pure rfl rfl rfl
theorem rL_run_18 {d : Nat} {lv : xLV} {S : xS} {r : xO} {x : Int32} : XL SK MT d 325 (18, lv, [.int x], S) r ↔ (some (.int x), S) = r := X_ret rfl rfl rfl rfl rfl rfl
theorem rL_run_19 {d : Nat} {lv : xLV} {st : List Value} {S : xS} {r : xO} {x : Nat} : XL SK MT d 325 (19, lv, .ref x :: st, S) r ↔ XL SK MT d 325 (21, xst1 lv 5 (.ref x), st, S) r := X_pure rfl rfl rfl
theorem rL_run_21 {d : Nat} {lv : xLV} {st : List Value} {S : xS} {r : xO} : XL SK MT d 325 (21, lv, st, S) r ↔ XL SK MT d 325 (23, lv, .int (-2) :: st, S) r := X_pure rfl rfl rfl
theorem rL_run_23 {d : Nat} {lv : xLV} {S : xS} {r : xO} {x : Int32} : XL SK MT d 325 (23, lv, [.int x], S) r ↔ (some (.int x), S) = r := X_ret rfl rfl rfl rfl rfl rfl
theorem rL_run_24 {d : Nat} {lv : xLV} {st : List Value} {S : xS} {r : xO} : XL SK MT d 325 (24, lv, st, S) r ↔ xI (xlook lv 4) (fun x => XL SK MT d 325 (26, lv, .int x :: st, S) r) := X_ldI rfl rfl (fun _ => rfl) rfl rfl rfl rfl
theorem rL_run_26 {d : Nat} {lv : xLV} {S : xS} {r : xO} {x : Int32} : XL SK MT d 325 (26, lv, [.int x], S) r ↔ (some (.int x), S) = r := X_ret rfl rfl rfl rfl rfl rfl

theorem rX12_fault_0 {d : Nat} {lv : xLV} {st : List Value} {S : xS} {r : xO} : XL SK MT d 311 (0, lv, st, S) r ↔ xI (xlook lv 1) (fun x => XL SK MT d 311 (1, lv, .int x :: st, S) r) := X_ldI rfl rfl (fun _ => rfl) rfl rfl rfl rfl
theorem rX12_fault_1 {d : Nat} {lv : xLV} {st : List Value} {S : xS} {r : xO} {x : Int32} : XL SK MT d 311 (1, lv, .int x :: st, S) r ↔ if x = 0 then XL SK MT d 311 (19, lv, st, S) r else XL SK MT d 311 (4, lv, st, S) r := (X_if rfl rfl).trans xc_eq
theorem rX12_fault_4 {d : Nat} {lv : xLV} {st : List Value} {S : xS} {r : xO} : XL SK MT d 311 (4, lv, st, S) r ↔ xI (xlook lv 1) (fun x => XL SK MT d 311 (5, lv, .int x :: st, S) r) := X_ldI rfl rfl (fun _ => rfl) rfl rfl rfl rfl
theorem rX12_fault_5 {d : Nat} {lv : xLV} {st : List Value} {S : xS} {r : xO} : XL SK MT d 311 (5, lv, st, S) r ↔ XL SK MT d 311 (6, lv, .int 1 :: st, S) r := X_pure rfl rfl rfl
theorem rX12_fault_6 {d : Nat} {lv : xLV} {st : List Value} {S : xS} {r : xO} {x z : Int32} : XL SK MT d 311 (6, lv, .int z :: .int x :: st, S) r ↔ if x = z then XL SK MT d 311 (19, lv, st, S) r else XL SK MT d 311 (9, lv, st, S) r := (X_icmp rfl rfl).trans xc_eq
theorem riX12_fault_12 {d : Nat} {lv : xLV} {st : List Value} {S : xS} {r : xO} {x : Int32} : XL SK MT d 311 (12, lv, .int x :: st, S) r ↔ XL SK MT d 311 (13, lv, .int x :: .int x :: st, S) r := X_pure rfl rfl rfl
theorem rX12_fault_12 {d : Nat} {lv : xLV} {st : List Value} {S : xS} {r : xO} {x : Nat} : XL SK MT d 311 (12, lv, .ref x :: st, S) r ↔ XL SK MT d 311 (13, lv, .ref x :: .ref x :: st, S) r := X_pure rfl rfl rfl
theorem rX12_fault_19 {d : Nat} {lv : xLV} {st : List Value} {S : xS} {r : xO} : XL SK MT d 311 (19, lv, st, S) r ↔ xI (xlook lv 1) (fun x => XL SK MT d 311 (20, lv, .int x :: st, S) r) := X_ldI rfl rfl (fun _ => rfl) rfl rfl rfl rfl
theorem rX12_fault_20 {d : Nat} {lv : xLV} {st : List Value} {S : xS} {r : xO} {x : Int32} : XL SK MT d 311 (20, lv, .int x :: st, S) r ↔ if ¬ x = 0 then XL SK MT d 311 (30, lv, st, S) r else XL SK MT d 311 (23, lv, st, S) r := (X_if rfl rfl).trans xc_ne
theorem rX12_fault_23 {d : Nat} {lv : xLV} {st : List Value} {S : xS} {r : xO} : XL SK MT d 311 (23, lv, st, S) r ↔ xA (xlook lv 0) (fun x => XL SK MT d 311 (24, lv, .ref x :: st, S) r) := X_ldA rfl rfl (fun _ => rfl) rfl rfl rfl rfl
theorem rX12_fault_24 {d : Nat} {lv : xLV} {st : List Value} {S : xS} {r : xO} : XL SK MT d 311 (24, lv, .ref 0 :: st, S) r ↔ XL SK MT d 311 (27, lv, .int (S.1 0 14) :: st, S) r := X_heap rfl rfl rfl rfl rfl
theorem rX12_fault_27 {d : Nat} {lv : xLV} {st : List Value} {S : xS} {r : xO} : XL SK MT d 311 (27, lv, st, S) r ↔ XL SK MT d 311 (34, lv, st, S) r := X_jump rfl rfl rfl
theorem rX12_fault_30 {d : Nat} {lv : xLV} {st : List Value} {S : xS} {r : xO} : XL SK MT d 311 (30, lv, st, S) r ↔ xA (xlook lv 0) (fun x => XL SK MT d 311 (31, lv, .ref x :: st, S) r) := X_ldA rfl rfl (fun _ => rfl) rfl rfl rfl rfl
theorem rX12_fault_31 {d : Nat} {lv : xLV} {st : List Value} {S : xS} {r : xO} : XL SK MT d 311 (31, lv, .ref 0 :: st, S) r ↔ XL SK MT d 311 (34, lv, .int (S.1 0 15) :: st, S) r := X_heap rfl rfl rfl rfl rfl
theorem rX12_fault_34 {d : Nat} {lv : xLV} {S : xS} {r : xO} {x : Int32} : XL SK MT d 311 (34, lv, [.int x], S) r ↔ (some (.int x), S) = r := X_ret rfl rfl rfl rfl rfl rfl

theorem rL_fault_0 {d : Nat} {lv : xLV} {st : List Value} {S : xS} {r : xO} : XL SK MT d 327 (0, lv, st, S) r ↔ XL SK MT d 327 (1, lv, .int 0 :: st, S) r := X_pure rfl rfl rfl
theorem rL_fault_1 {d : Nat} {lv : xLV} {st : List Value} {S : xS} {r : xO} {x : Int32} : XL SK MT d 327 (1, lv, .int x :: st, S) r ↔ XL SK MT d 327 (2, xst1 lv 2 (.int x), st, S) r := X_pure rfl rfl rfl
theorem rL_fault_2 {d : Nat} {lv : xLV} {st : List Value} {S : xS} {r : xO} : XL SK MT d 327 (2, lv, st, S) r ↔ xA (xlook lv 0) (fun x => XL SK MT d 327 (3, lv, .ref x :: st, S) r) := X_ldA rfl rfl (fun _ => rfl) rfl rfl rfl rfl
theorem rL_fault_3 {d : Nat} {lv : xLV} {st : List Value} {S : xS} {r : xO} : XL SK MT d 327 (3, lv, st, S) r ↔ xI (xlook lv 1) (fun x => XL SK MT d 327 (4, lv, .int x :: st, S) r) := X_ldI rfl rfl (fun _ => rfl) rfl rfl rfl rfl
theorem rL_fault_4 {d : Nat} {lv : xLV} {S : xS} {r : xO} {x1 : Int32} : XL SK MT d 327 (4, lv, [.int x1, .ref 0], S) r ↔ xK (XC SK MT d 311 [.ref 0, .int x1] S) (fun v S => XL SK MT d 327 (7, lv, v.toList ++ [], S) r) := X_inv (n := 2) (kd := 14) (st0 := [.int x1, .ref 0]) rfl (Or.inr ⟨rfl, rfl⟩) rfl (Nat.le_of_ble_eq_true rfl) (Nat.le_of_ble_eq_true rfl) (by decide) rfl
theorem rL_fault_7 {d : Nat} {lv : xLV} {st : List Value} {S : xS} {r : xO} {x : Int32} : XL SK MT d 327 (7, lv, .int x :: st, S) r ↔ XL SK MT d 327 (8, xst1 lv 2 (.int x), st, S) r := X_pure rfl rfl rfl
theorem rL_fault_8 {d : Nat} {lv : xLV} {st : List Value} {S : xS} {r : xO} : XL SK MT d 327 (8, lv, st, S) r ↔ XL SK MT d 327 (15, lv, st, S) r := X_jump rfl rfl rfl
theorem rL_fault_11 {d : Nat} {lv : xLV} {st : List Value} {S : xS} {r : xO} {x : Nat} : XL SK MT d 327 (11, lv, .ref x :: st, S) r ↔ XL SK MT d 327 (12, xst1 lv 3 (.ref x), st, S) r := X_pure rfl rfl rfl
theorem rL_fault_12 {d : Nat} {lv : xLV} {st : List Value} {S : xS} {r : xO} : XL SK MT d 327 (12, lv, st, S) r ↔ XL SK MT d 327 (14, lv, .int (-9) :: st, S) r := X_pure rfl rfl rfl
theorem rL_fault_14 {d : Nat} {lv : xLV} {S : xS} {r : xO} {x : Int32} : XL SK MT d 327 (14, lv, [.int x], S) r ↔ (some (.int x), S) = r := X_ret rfl rfl rfl rfl rfl rfl
theorem rL_fault_15 {d : Nat} {lv : xLV} {st : List Value} {S : xS} {r : xO} : XL SK MT d 327 (15, lv, st, S) r ↔ xI (xlook lv 2) (fun x => XL SK MT d 327 (16, lv, .int x :: st, S) r) := X_ldI rfl rfl (fun _ => rfl) rfl rfl rfl rfl
theorem rL_fault_16 {d : Nat} {lv : xLV} {S : xS} {r : xO} {x : Int32} : XL SK MT d 327 (16, lv, [.int x], S) r ↔ (some (.int x), S) = r := X_ret rfl rfl rfl rfl rfl rfl

theorem rL_isSaid_0 {d : Nat} {lv : xLV} {st : List Value} {S : xS} {r : xO} : XL SK MT d 331 (0, lv, st, S) r ↔ xA (xlook lv 0) (fun x => XL SK MT d 331 (1, lv, .ref x :: st, S) r) := X_ldA rfl rfl (fun _ => rfl) rfl rfl rfl rfl
theorem rL_isSaid_1 {d : Nat} {lv : xLV} {st : List Value} {S : xS} {r : xO} : XL SK MT d 331 (1, lv, st, S) r ↔ xI (xlook lv 1) (fun x => XL SK MT d 331 (2, lv, .int x :: st, S) r) := X_ldI rfl rfl (fun _ => rfl) rfl rfl rfl rfl
theorem rL_isSaid_2 {d : Nat} {lv : xLV} {S : xS} {r : xO} {x1 : Nat} {x2 : Int32} : XL SK MT d 331 (2, lv, [.int x2, .ref x1], S) r ↔ xK (XC SK MT d 328 [.ref x1, .int x2] S) (fun v S => XL SK MT d 331 (5, lv, v.toList ++ [], S) r) := X_inv (n := 2) (kd := 0) (st0 := [.int x2, .ref x1]) rfl (Or.inl ⟨rfl, rfl⟩) rfl (Nat.le_of_ble_eq_true rfl) (Nat.le_of_ble_eq_true rfl) (by decide) rfl
theorem rL_isSaid_5 {d : Nat} {lv : xLV} {st : List Value} {S : xS} {r : xO} : XL SK MT d 331 (5, lv, st, S) r ↔ xI (xlook lv 4) (fun x => XL SK MT d 331 (7, lv, .int x :: st, S) r) := X_ldI rfl rfl (fun _ => rfl) rfl rfl rfl rfl
theorem rL_isSaid_7 {d : Nat} {lv : xLV} {st : List Value} {S : xS} {r : xO} {x z : Int32} : XL SK MT d 331 (7, lv, .int z :: .int x :: st, S) r ↔ if x = z then XL SK MT d 331 (12, lv, st, S) r else XL SK MT d 331 (10, lv, st, S) r := (X_icmp rfl rfl).trans xc_eq
theorem rL_isSaid_10 {d : Nat} {lv : xLV} {st : List Value} {S : xS} {r : xO} : XL SK MT d 331 (10, lv, st, S) r ↔ XL SK MT d 331 (11, lv, .int 0 :: st, S) r := X_pure rfl rfl rfl
theorem r0L_isSaid_11 {d : Nat} {lv : xLV} {S : xS} {r : xO} : XL SK MT d 331 (11, lv, [.int 0], S) r ↔ (some (.int 0), S) = r := X_ret rfl rfl rfl rfl rfl rfl
theorem r1L_isSaid_11 {d : Nat} {lv : xLV} {S : xS} {r : xO} : XL SK MT d 331 (11, lv, [.int 1], S) r ↔ (some (.int 1), S) = r := X_ret rfl rfl rfl rfl rfl rfl
theorem rL_isSaid_11 {d : Nat} {lv : xLV} {S : xS} {r : xO} {x : Int32} (hz : x = 0 ∨ x = 1) : XL SK MT d 331 (11, lv, [.int x], S) r ↔ (some (.int x), S) = r := X_ret rfl rfl rfl rfl rfl (if_pos (Or.inr ⟨rfl, hz⟩))
theorem rL_isSaid_12 {d : Nat} {lv : xLV} {st : List Value} {S : xS} {r : xO} : XL SK MT d 331 (12, lv, st, S) r ↔ XL SK MT d 331 (13, lv, .int 0 :: st, S) r := X_pure rfl rfl rfl
theorem rL_isSaid_13 {d : Nat} {lv : xLV} {st : List Value} {S : xS} {r : xO} {x : Int32} : XL SK MT d 331 (13, lv, .int x :: st, S) r ↔ XL SK MT d 331 (15, xst1 lv 5 (.int x), st, S) r := X_pure rfl rfl rfl
theorem rL_isSaid_15 {d : Nat} {lv : xLV} {st : List Value} {S : xS} {r : xO} : XL SK MT d 331 (15, lv, st, S) r ↔ xI (xlook lv 5) (fun x => XL SK MT d 331 (17, lv, .int x :: st, S) r) := X_ldI rfl rfl (fun _ => rfl) rfl rfl rfl rfl
theorem rL_isSaid_17 {d : Nat} {lv : xLV} {st : List Value} {S : xS} {r : xO} : XL SK MT d 331 (17, lv, st, S) r ↔ xI (xlook lv 4) (fun x => XL SK MT d 331 (19, lv, .int x :: st, S) r) := X_ldI rfl rfl (fun _ => rfl) rfl rfl rfl rfl
theorem rL_isSaid_19 {d : Nat} {lv : xLV} {st : List Value} {S : xS} {r : xO} {x z : Int32} : XL SK MT d 331 (19, lv, .int z :: .int x :: st, S) r ↔ if z ≤ x then XL SK MT d 331 (51, lv, st, S) r else XL SK MT d 331 (22, lv, st, S) r := (X_icmp rfl rfl).trans xc_ge
theorem rL_isSaid_22 {d : Nat} {lv : xLV} {st : List Value} {S : xS} {r : xO} : XL SK MT d 331 (22, lv, st, S) r ↔ xA (xlook lv 0) (fun x => XL SK MT d 331 (23, lv, .ref x :: st, S) r) := X_ldA rfl rfl (fun _ => rfl) rfl rfl rfl rfl
theorem rL_isSaid_23 {d : Nat} {lv : xLV} {st : List Value} {S : xS} {r : xO} : XL SK MT d 331 (23, lv, st, S) r ↔ xI (xlook lv 5) (fun x => XL SK MT d 331 (25, lv, .int x :: st, S) r) := X_ldI rfl rfl (fun _ => rfl) rfl rfl rfl rfl
theorem rL_isSaid_25 {d : Nat} {lv : xLV} {S : xS} {r : xO} {x1 : Nat} {x2 : Int32} : XL SK MT d 331 (25, lv, [.int x2, .ref x1], S) r ↔ xK (XC SK MT d 329 [.ref x1, .int x2] S) (fun v S => XL SK MT d 331 (28, lv, v.toList ++ [], S) r) := X_inv (n := 2) (kd := 0) (st0 := [.int x2, .ref x1]) rfl (Or.inl ⟨rfl, rfl⟩) rfl (Nat.le_of_ble_eq_true rfl) (Nat.le_of_ble_eq_true rfl) (by decide) rfl
theorem rL_isSaid_28 {d : Nat} {lv : xLV} {st : List Value} {S : xS} {r : xO} : XL SK MT d 331 (28, lv, st, S) r ↔ xJ (xlook lv 2) (fun x => XL SK MT d 331 (29, lv, .long x :: st, S) r) := X_ldL rfl rfl (fun _ => rfl) rfl rfl rfl rfl
theorem rL_isSaid_29 {d : Nat} {lv : xLV} {st : List Value} {S : xS} {r : xO} : XL SK MT d 331 (29, lv, st, S) r ↔ XL SK MT d 331 (31, lv, .int 8 :: st, S) r := X_pure rfl rfl rfl
theorem rL_isSaid_31 {d : Nat} {lv : xLV} {st : List Value} {S : xS} {r : xO} : XL SK MT d 331 (31, lv, st, S) r ↔ xI (xlook lv 5) (fun x => XL SK MT d 331 (33, lv, .int x :: st, S) r) := X_ldI rfl rfl (fun _ => rfl) rfl rfl rfl rfl
theorem rL_isSaid_33 {d : Nat} {lv : xLV} {st : List Value} {S : xS} {r : xO} {x z : Int32} : XL SK MT d 331 (33, lv, .int z :: .int x :: st, S) r ↔ XL SK MT d 331 (34, lv, .int (x * z) :: st, S) r := X_pure rfl rfl rfl
theorem rL_isSaid_34 {d : Nat} {lv : xLV} {st : List Value} {S : xS} {r : xO} {x : Int64} {z : Int32} : XL SK MT d 331 (34, lv, .int z :: .long x :: st, S) r ↔ XL SK MT d 331 (35, lv, .long (x >>> (z.toInt64 &&& 63)) :: st, S) r := X_pure rfl rfl rfl
theorem rL_isSaid_35 {d : Nat} {lv : xLV} {st : List Value} {S : xS} {r : xO} : XL SK MT d 331 (35, lv, st, S) r ↔ XL SK MT d 331 (38, lv, .long 255 :: st, S) r := X_pure rfl rfl rfl
theorem rL_isSaid_38 {d : Nat} {lv : xLV} {st : List Value} {S : xS} {r : xO} {x z : Int64} : XL SK MT d 331 (38, lv, .long z :: .long x :: st, S) r ↔ XL SK MT d 331 (39, lv, .long (x &&& z) :: st, S) r := X_pure rfl rfl rfl
theorem rL_isSaid_39 {d : Nat} {lv : xLV} {st : List Value} {S : xS} {r : xO} {x : Int64} : XL SK MT d 331 (39, lv, .long x :: st, S) r ↔ XL SK MT d 331 (40, lv, .int x.toInt32 :: st, S) r := X_pure rfl rfl rfl
theorem rL_isSaid_40 {d : Nat} {lv : xLV} {st : List Value} {S : xS} {r : xO} {x z : Int32} : XL SK MT d 331 (40, lv, .int z :: .int x :: st, S) r ↔ if x = z then XL SK MT d 331 (45, lv, st, S) r else XL SK MT d 331 (43, lv, st, S) r := (X_icmp rfl rfl).trans xc_eq
theorem rL_isSaid_43 {d : Nat} {lv : xLV} {st : List Value} {S : xS} {r : xO} : XL SK MT d 331 (43, lv, st, S) r ↔ XL SK MT d 331 (44, lv, .int 0 :: st, S) r := X_pure rfl rfl rfl
theorem r0L_isSaid_44 {d : Nat} {lv : xLV} {S : xS} {r : xO} : XL SK MT d 331 (44, lv, [.int 0], S) r ↔ (some (.int 0), S) = r := X_ret rfl rfl rfl rfl rfl rfl
theorem r1L_isSaid_44 {d : Nat} {lv : xLV} {S : xS} {r : xO} : XL SK MT d 331 (44, lv, [.int 1], S) r ↔ (some (.int 1), S) = r := X_ret rfl rfl rfl rfl rfl rfl
theorem rL_isSaid_44 {d : Nat} {lv : xLV} {S : xS} {r : xO} {x : Int32} (hz : x = 0 ∨ x = 1) : XL SK MT d 331 (44, lv, [.int x], S) r ↔ (some (.int x), S) = r := X_ret rfl rfl rfl rfl rfl (if_pos (Or.inr ⟨rfl, hz⟩))
theorem rL_isSaid_45 {d : Nat} {lv : xLV} {st : List Value} {S : xS} {r : xO} : XL SK MT d 331 (45, lv, st, S) r ↔ xI (xlook lv 5) (fun x => XL SK MT d 331 (48, xst1 lv 5 (.int (x + 1)), st, S) r) := X_inc (i := 5) (n := 1) rfl (Nat.le_of_ble_eq_true rfl)
theorem rL_isSaid_48 {d : Nat} {lv : xLV} {st : List Value} {S : xS} {r : xO} : XL SK MT d 331 (48, lv, st, S) r ↔ XL SK MT d 331 (15, lv, st, S) r := X_jump rfl rfl rfl
theorem rL_isSaid_51 {d : Nat} {lv : xLV} {st : List Value} {S : xS} {r : xO} : XL SK MT d 331 (51, lv, st, S) r ↔ XL SK MT d 331 (52, lv, .int 1 :: st, S) r := X_pure rfl rfl rfl
theorem r0L_isSaid_52 {d : Nat} {lv : xLV} {S : xS} {r : xO} : XL SK MT d 331 (52, lv, [.int 0], S) r ↔ (some (.int 0), S) = r := X_ret rfl rfl rfl rfl rfl rfl
theorem r1L_isSaid_52 {d : Nat} {lv : xLV} {S : xS} {r : xO} : XL SK MT d 331 (52, lv, [.int 1], S) r ↔ (some (.int 1), S) = r := X_ret rfl rfl rfl rfl rfl rfl
theorem rL_isSaid_52 {d : Nat} {lv : xLV} {S : xS} {r : xO} {x : Int32} (hz : x = 0 ∨ x = 1) : XL SK MT d 331 (52, lv, [.int x], S) r ↔ (some (.int x), S) = r := X_ret rfl rfl rfl rfl rfl (if_pos (Or.inr ⟨rfl, hz⟩))

/-! The law: what is told. -/
theorem s_ltell {d : Nat} {S S1 : xS} {k x : Int32} (h : XC SK MT (d + 1) 314 [.ref 0, .int k] S = some (some (.int x), S1)) : XC SK MT (d + 2) 328 [.ref 0, .int k] S = some (some (.int x), S1) := by
  rw [XC_iff]
  refine ⟨Nat.le_of_ble_eq_true rfl, ?_⟩
  show XL SK MT (d + 1) 328 (0, [some (.ref 0), some (.int k), none, none], [], S) _
  simp (config := { decide := true }) only [rL_tell_0, rL_tell_1, rL_tell_2, rL_tell_3, rL_tell_4, rL_tell_7, rL_tell_8, rL_tell_11, rL_tell_12, rL_tell_14, rL_tell_15, rL_tell_16, rL_tell_18, rL_tell_19, rL_tell_20, ↓reduceIte, m1_le, m1_lt, m1_eq, ofInt_m1, ex_ret, Int32.reduceAdd, Int32.reduceSub, Int32.reduceMul, Int32.reduceLT, Int32.reduceLE, xsI, Nat.reduceEqDiff, and_false, false_and, and_true, true_and, if_true, if_false, ite_true, ite_false, xlook_0, xlook_s, xI_int, xA_ref, xJ_long, xK_some, xRow_row, xTo_some, xst1, xclr, List.set_cons_zero, List.set_cons_succ, xsum_nil, xsum_int, xsum_ref, xsum_long, Option.toList_some, Option.toList_none, List.nil_append, List.cons_append, h]
theorem s_lres {d : Nat} {S S1 : xS} {k x : Int32} (h : XC SK MT (d + 1) 315 [.ref 0, .int k] S = some (some (.int x), S1)) : XC SK MT (d + 2) 329 [.ref 0, .int k] S = some (some (.int x), S1) := by
  rw [XC_iff]
  refine ⟨Nat.le_of_ble_eq_true rfl, ?_⟩
  show XL SK MT (d + 1) 329 (0, [some (.ref 0), some (.int k), none, none], [], S) _
  simp (config := { decide := true }) only [rL_resultAt_0, rL_resultAt_1, rL_resultAt_2, rL_resultAt_3, rL_resultAt_4, rL_resultAt_7, rL_resultAt_8, rL_resultAt_11, rL_resultAt_12, rL_resultAt_14, rL_resultAt_15, rL_resultAt_16, ↓reduceIte, m1_le, m1_lt, m1_eq, ofInt_m1, ex_ret, Int32.reduceAdd, Int32.reduceSub, Int32.reduceMul, Int32.reduceLT, Int32.reduceLE, xsI, Nat.reduceEqDiff, and_false, false_and, and_true, true_and, if_true, if_false, ite_true, ite_false, xlook_0, xlook_s, xI_int, xA_ref, xJ_long, xK_some, xRow_row, xTo_some, xst1, xclr, List.set_cons_zero, List.set_cons_succ, xsum_nil, xsum_int, xsum_ref, xsum_long, Option.toList_some, Option.toList_none, List.nil_append, List.cons_append, h]
theorem s_lseen {d : Nat} {S S1 : xS} {k x : Int32} (h : XC SK MT (d + 1) 313 [.ref 0, .int k] S = some (some (.int x), S1)) : XC SK MT (d + 2) 326 [.ref 0, .int k] S = some (some (.int x), S1) := by
  rw [XC_iff]
  refine ⟨Nat.le_of_ble_eq_true rfl, ?_⟩
  show XL SK MT (d + 1) 326 (0, [some (.ref 0), some (.int k), none, none], [], S) _
  simp (config := { decide := true }) only [rL_seen_0, rL_seen_1, rL_seen_2, rL_seen_3, rL_seen_4, rL_seen_7, rL_seen_8, rL_seen_11, rL_seen_12, rL_seen_14, rL_seen_15, rL_seen_16, rL_seen_18, rL_seen_19, rL_seen_20, ↓reduceIte, m1_le, m1_lt, m1_eq, ofInt_m1, ex_ret, Int32.reduceAdd, Int32.reduceSub, Int32.reduceMul, Int32.reduceLT, Int32.reduceLE, xsI, Nat.reduceEqDiff, and_false, false_and, and_true, true_and, if_true, if_false, ite_true, ite_false, xlook_0, xlook_s, xI_int, xA_ref, xJ_long, xK_some, xRow_row, xTo_some, xst1, xclr, List.set_cons_zero, List.set_cons_succ, xsum_nil, xsum_int, xsum_ref, xsum_long, Option.toList_some, Option.toList_none, List.nil_append, List.cons_append, h]
theorem s_lrun {d : Nat} {S S1 : xS} {a b c x : Int32} (h : XC SK MT (d + 1) 312 [.ref 0, .int a, .int b, .int c] S = some (some (.int x), S1)) : XC SK MT (d + 2) 325 [.ref 0, .int a, .int b, .int c] S = some (some (.int x), S1) := by
  rw [XC_iff]
  refine ⟨Nat.le_of_ble_eq_true rfl, ?_⟩
  show XL SK MT (d + 1) 325 (0, [some (.ref 0), some (.int a), some (.int b), some (.int c), none, none], [], S) _
  simp (config := { decide := true }) only [rL_run_0, rL_run_1, rL_run_3, rL_run_4, rL_run_5, rL_run_6, rL_run_7, rL_run_10, rL_run_12, rL_run_15, rL_run_17, rL_run_18, rL_run_19, rL_run_21, rL_run_23, rL_run_24, rL_run_26, ↓reduceIte, m1_le, m1_lt, m1_eq, ofInt_m1, ex_ret, Int32.reduceAdd, Int32.reduceSub, Int32.reduceMul, Int32.reduceLT, Int32.reduceLE, xsI, Nat.reduceEqDiff, and_false, false_and, and_true, true_and, if_true, if_false, ite_true, ite_false, xlook_0, xlook_s, xI_int, xA_ref, xJ_long, xK_some, xRow_row, xTo_some, xst1, xclr, List.set_cons_zero, List.set_cons_succ, xsum_nil, xsum_int, xsum_ref, xsum_long, Option.toList_some, Option.toList_none, List.nil_append, List.cons_append, h]
theorem s_lfault {d : Nat} {S : xS} (h : S.1 0 14 = 0) : XC SK MT (d + 2) 327 [.ref 0, .int 0] S = some (some (.int 0), S) := by
  have e : XC SK MT (d + 1) 311 [.ref 0, .int 0] S = some (some (.int 0), S) := by
    rw [XC_iff]
    refine ⟨Nat.le_of_ble_eq_true rfl, ?_⟩
    show XL SK MT d 311 (0, [some (.ref 0), some (.int 0)], [], S) _
    simp (config := { decide := true }) only [rX12_fault_0, rX12_fault_1, rX12_fault_4, rX12_fault_5, rX12_fault_6, riX12_fault_12, rX12_fault_12, rX12_fault_19, rX12_fault_20, rX12_fault_23, rX12_fault_24, rX12_fault_27, rX12_fault_30, rX12_fault_31, rX12_fault_34, ↓reduceIte, m1_le, m1_lt, m1_eq, ofInt_m1, ex_ret, Int32.reduceAdd, Int32.reduceSub, Int32.reduceMul, Int32.reduceLT, Int32.reduceLE, xsI, Nat.reduceEqDiff, and_false, false_and, and_true, true_and, if_true, if_false, ite_true, ite_false, xlook_0, xlook_s, xI_int, xA_ref, xJ_long, xK_some, xRow_row, xTo_some, xst1, xclr, List.set_cons_zero, List.set_cons_succ, xsum_nil, xsum_int, xsum_ref, xsum_long, Option.toList_some, Option.toList_none, List.nil_append, List.cons_append, h]
  rw [XC_iff]
  refine ⟨Nat.le_of_ble_eq_true rfl, ?_⟩
  show XL SK MT (d + 1) 327 (0, [some (.ref 0), some (.int 0), none, none], [], S) _
  simp (config := { decide := true }) only [rL_fault_0, rL_fault_1, rL_fault_2, rL_fault_3, rL_fault_4, rL_fault_7, rL_fault_8, rL_fault_11, rL_fault_12, rL_fault_14, rL_fault_15, rL_fault_16, ↓reduceIte, m1_le, m1_lt, m1_eq, ofInt_m1, ex_ret, Int32.reduceAdd, Int32.reduceSub, Int32.reduceMul, Int32.reduceLT, Int32.reduceLE, xsI, Nat.reduceEqDiff, and_false, false_and, and_true, true_and, if_true, if_false, ite_true, ite_false, xlook_0, xlook_s, xI_int, xA_ref, xJ_long, xK_some, xRow_row, xTo_some, xst1, xclr, List.set_cons_zero, List.set_cons_succ, xsum_nil, xsum_int, xsum_ref, xsum_long, Option.toList_some, Option.toList_none, List.nil_append, List.cons_append, e]
theorem byL_get (sg : Nat) : ∀ m k j, j < m → (byL sg k m)[j]? = some (byK sg (k + j))
  | 0, _, _, h => absurd h (Nat.not_lt_zero _)
  | m + 1, k, 0, _ => rfl
  | m + 1, k, j + 1, h => by
    show (byL sg (k + 1) m)[j]? = _
    rw [byL_get sg m (k + 1) j (by omega), show k + (j + 1) = k + 1 + j by omega]
set_option maxHeartbeats 4000000 in
set_option maxRecDepth 100000 in
/-- the RESULT is so many signs -/
theorem s_said {d sg n : Nat} {S S1 : xS} {what : Int32} (hs : sg < 2 ^ 63) (h8 : n ≤ 8) (ht : XC SK MT (d + 3) 314 [.ref 0, .int what] S = some (some (.int (nI n)), S1)) (hr : RSt S1 (byL sg 0 n)) :
    XC SK MT (d + 5) 331 [.ref 0, .int what, .long (lN sg), .int (nI n)] S = some (some (.int 1), S1) := by
  have e1 := s_ltell ht
  have loop : ∀ m k, k + m = n → ∀ r, (XL SK MT (d + 4) 331 (15, [some (.ref 0), some (.int what), some (.long (lN sg)), none, some (.int (nI n)), some (.int (nI k))], [], S1) r ↔ (some (.int 1), S1) = r) := by
    intro m
    induction m with
    | zero =>
      intro k hk r
      obtain rfl : k = n := hk
      rw [rL_isSaid_15]
      simp (config := { decide := true }) only [rL_isSaid_0, rL_isSaid_1, rL_isSaid_2, rL_isSaid_5, rL_isSaid_7, rL_isSaid_10, r0L_isSaid_11, r1L_isSaid_11, rL_isSaid_11, rL_isSaid_12, rL_isSaid_13, rL_isSaid_17, rL_isSaid_19, rL_isSaid_22, rL_isSaid_23, rL_isSaid_25, rL_isSaid_28, rL_isSaid_29, rL_isSaid_31, rL_isSaid_33, rL_isSaid_34, rL_isSaid_35, rL_isSaid_38, rL_isSaid_39, rL_isSaid_40, rL_isSaid_43, r0L_isSaid_44, r1L_isSaid_44, rL_isSaid_44, rL_isSaid_45, rL_isSaid_48, rL_isSaid_51, r0L_isSaid_52, r1L_isSaid_52, rL_isSaid_52, ↓reduceIte, m1_le, m1_lt, m1_eq, ofInt_m1, ex_ret, Int32.reduceAdd, Int32.reduceSub, Int32.reduceMul, Int32.reduceLT, Int32.reduceLE, xsI, Nat.reduceEqDiff, and_false, false_and, and_true, true_and, if_true, if_false, ite_true, ite_false, xlook_0, xlook_s, xI_int, xA_ref, xJ_long, xK_some, xRow_row, xTo_some, xst1, xclr, List.set_cons_zero, List.set_cons_succ, xsum_nil, xsum_int, xsum_ref, xsum_long, Option.toList_some, Option.toList_none, List.nil_append, List.cons_append, Int32.le_refl]
    | succ m ih =>
      intro k hk r
      have hn : ¬ nI n ≤ nI k := nI_ge (by omega) (by omega)
      have hb := sayb (k := k) hs (by omega)
      have hg := byL_get sg n 0 k (by omega)
      rw [Nat.zero_add] at hg
      have e2 := s_lres (s_resultAt (d := d) hr hg)
      rw [← ih (k + 1) (by omega) r, rL_isSaid_15]
      simp (config := { decide := true }) only [rL_isSaid_0, rL_isSaid_1, rL_isSaid_2, rL_isSaid_5, rL_isSaid_7, rL_isSaid_10, r0L_isSaid_11, r1L_isSaid_11, rL_isSaid_11, rL_isSaid_12, rL_isSaid_13, rL_isSaid_17, rL_isSaid_19, rL_isSaid_22, rL_isSaid_23, rL_isSaid_25, rL_isSaid_28, rL_isSaid_29, rL_isSaid_31, rL_isSaid_33, rL_isSaid_34, rL_isSaid_35, rL_isSaid_38, rL_isSaid_39, rL_isSaid_40, rL_isSaid_43, r0L_isSaid_44, r1L_isSaid_44, rL_isSaid_44, rL_isSaid_45, rL_isSaid_48, rL_isSaid_51, r0L_isSaid_52, r1L_isSaid_52, rL_isSaid_52, ↓reduceIte, m1_le, m1_lt, m1_eq, ofInt_m1, ex_ret, Int32.reduceAdd, Int32.reduceSub, Int32.reduceMul, Int32.reduceLT, Int32.reduceLE, xsI, Nat.reduceEqDiff, and_false, false_and, and_true, true_and, if_true, if_false, ite_true, ite_false, xlook_0, xlook_s, xI_int, xA_ref, xJ_long, xK_some, xRow_row, xTo_some, xst1, xclr, List.set_cons_zero, List.set_cons_succ, xsum_nil, xsum_int, xsum_ref, xsum_long, Option.toList_some, Option.toList_none, List.nil_append, List.cons_append, hn, e2, hb, lN_i, nI_1]
  rw [XC_iff]
  refine ⟨Nat.le_of_ble_eq_true rfl, ?_⟩
  show XL SK MT (d + 4) 331 (0, [some (.ref 0), some (.int what), some (.long (lN sg)), none, some (.int (nI n)), none], [], S) _
  simp (config := { decide := true }) only [rL_isSaid_0, rL_isSaid_1, rL_isSaid_2, rL_isSaid_5, rL_isSaid_7, rL_isSaid_10, r0L_isSaid_11, r1L_isSaid_11, rL_isSaid_11, rL_isSaid_12, rL_isSaid_13, rL_isSaid_17, rL_isSaid_19, rL_isSaid_22, rL_isSaid_23, rL_isSaid_25, rL_isSaid_28, rL_isSaid_29, rL_isSaid_31, rL_isSaid_33, rL_isSaid_34, rL_isSaid_35, rL_isSaid_38, rL_isSaid_39, rL_isSaid_40, rL_isSaid_43, r0L_isSaid_44, r1L_isSaid_44, rL_isSaid_44, rL_isSaid_45, rL_isSaid_48, rL_isSaid_51, r0L_isSaid_52, r1L_isSaid_52, rL_isSaid_52, ↓reduceIte, m1_le, m1_lt, m1_eq, ofInt_m1, ex_ret, Int32.reduceAdd, Int32.reduceSub, Int32.reduceMul, Int32.reduceLT, Int32.reduceLE, xsI, Nat.reduceEqDiff, and_false, false_and, and_true, true_and, if_true, if_false, ite_true, ite_false, xlook_0, xlook_s, xI_int, xA_ref, xJ_long, xK_some, xRow_row, xTo_some, xst1, xclr, List.set_cons_zero, List.set_cons_succ, xsum_nil, xsum_int, xsum_ref, xsum_long, Option.toList_some, Option.toList_none, List.nil_append, List.cons_append, e1]
  exact (loop n 0 (by omega) _).mpr rfl
