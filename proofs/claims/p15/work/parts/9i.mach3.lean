/-! XF: rows, then what is proved of them. -/
theorem rX6_raise_0 {d : Nat} {lv : xLV} {st : List Value} {S : xS} {r : xO} : XL SK MT d 169 (0, lv, st, S) r ↔ xA (xlook lv 0) (fun x => XL SK MT d 169 (1, lv, .ref x :: st, S) r) := X_ldA rfl rfl (fun _ => rfl) rfl rfl rfl rfl
theorem rX6_raise_1 {d : Nat} {lv : xLV} {st : List Value} {S : xS} {r : xO} : XL SK MT d 169 (1, lv, .ref 7 :: st, S) r ↔ XL SK MT d 169 (4, lv, .int (S.1 7 10) :: st, S) r := X_heap rfl rfl rfl rfl rfl
theorem rX6_raise_4 {d : Nat} {lv : xLV} {st : List Value} {S : xS} {r : xO} {x : Int32} : XL SK MT d 169 (4, lv, .int x :: st, S) r ↔ if ¬ x = 0 then XL SK MT d 169 (18, lv, st, S) r else XL SK MT d 169 (7, lv, st, S) r := (X_if rfl rfl).trans xc_ne
theorem rX6_raise_7 {d : Nat} {lv : xLV} {st : List Value} {S : xS} {r : xO} : XL SK MT d 169 (7, lv, st, S) r ↔ xA (xlook lv 0) (fun x => XL SK MT d 169 (8, lv, .ref x :: st, S) r) := X_ldA rfl rfl (fun _ => rfl) rfl rfl rfl rfl
theorem rX6_raise_8 {d : Nat} {lv : xLV} {st : List Value} {S : xS} {r : xO} : XL SK MT d 169 (8, lv, st, S) r ↔ xI (xlook lv 1) (fun x => XL SK MT d 169 (9, lv, .int x :: st, S) r) := X_ldI rfl rfl (fun _ => rfl) rfl rfl rfl rfl
theorem rX6_raise_9 {d : Nat} {lv : xLV} {st : List Value} {S : xS} {r : xO} {x : Int32} : XL SK MT d 169 (9, lv, .int x :: .ref 7 :: st, S) r ↔ XL SK MT d 169 (12, lv, st, (xsetI S 7 15 x)) r := X_heap rfl rfl rfl rfl rfl
theorem rX6_raise_12 {d : Nat} {lv : xLV} {st : List Value} {S : xS} {r : xO} : XL SK MT d 169 (12, lv, st, S) r ↔ xA (xlook lv 0) (fun x => XL SK MT d 169 (13, lv, .ref x :: st, S) r) := X_ldA rfl rfl (fun _ => rfl) rfl rfl rfl rfl
theorem rX6_raise_13 {d : Nat} {lv : xLV} {st : List Value} {S : xS} {r : xO} : XL SK MT d 169 (13, lv, st, S) r ↔ XL SK MT d 169 (14, lv, .int 1 :: st, S) r := X_pure rfl rfl rfl
theorem rX6_raise_14 {d : Nat} {lv : xLV} {st : List Value} {S : xS} {r : xO} {x : Int32} : XL SK MT d 169 (14, lv, .int x :: .ref 7 :: st, S) r ↔ XL SK MT d 169 (17, lv, st, (xsetI S 7 14 x)) r := X_heap rfl rfl rfl rfl rfl
theorem rX6_raise_17 {d : Nat} {lv : xLV} {S : xS} {r : xO} : XL SK MT d 169 (17, lv, [], S) r ↔ (none, S) = r := X_ret rfl rfl rfl rfl rfl rfl
theorem rX6_raise_18 {d : Nat} {lv : xLV} {st : List Value} {S : xS} {r : xO} : XL SK MT d 169 (18, lv, st, S) r ↔ xA (xlook lv 0) (fun x => XL SK MT d 169 (19, lv, .ref x :: st, S) r) := X_ldA rfl rfl (fun _ => rfl) rfl rfl rfl rfl
theorem rX6_raise_19 {d : Nat} {lv : xLV} {st : List Value} {S : xS} {r : xO} : XL SK MT d 169 (19, lv, st, S) r ↔ xA (xlook lv 0) (fun x => XL SK MT d 169 (20, lv, .ref x :: st, S) r) := X_ldA rfl rfl (fun _ => rfl) rfl rfl rfl rfl
theorem rX6_raise_20 {d : Nat} {lv : xLV} {st : List Value} {S : xS} {r : xO} : XL SK MT d 169 (20, lv, .ref 7 :: st, S) r ↔ XL SK MT d 169 (23, lv, .int (S.1 7 10) :: st, S) r := X_heap rfl rfl rfl rfl rfl
theorem rX6_raise_23 {d : Nat} {lv : xLV} {st : List Value} {S : xS} {r : xO} {x : Int32} : XL SK MT d 169 (23, lv, .int x :: .ref 7 :: st, S) r ↔ XL SK MT d 169 (26, lv, st, (xsetI S 7 4 x)) r := X_heap rfl rfl rfl rfl rfl
theorem rX6_raise_26 {d : Nat} {lv : xLV} {st : List Value} {S : xS} {r : xO} : XL SK MT d 169 (26, lv, st, S) r ↔ xA (xlook lv 0) (fun x => XL SK MT d 169 (27, lv, .ref x :: st, S) r) := X_ldA rfl rfl (fun _ => rfl) rfl rfl rfl rfl
theorem rX6_raise_27 {d : Nat} {lv : xLV} {st : List Value} {S : xS} {r : xO} : XL SK MT d 169 (27, lv, st, S) r ↔ xA (xlook lv 0) (fun x => XL SK MT d 169 (28, lv, .ref x :: st, S) r) := X_ldA rfl rfl (fun _ => rfl) rfl rfl rfl rfl
theorem rX6_raise_28 {d : Nat} {lv : xLV} {st : List Value} {S : xS} {r : xO} : XL SK MT d 169 (28, lv, .ref 7 :: st, S) r ↔ XL SK MT d 169 (31, lv, .ref 14 :: st, S) r := X_heap rfl rfl rfl rfl rfl
theorem rX6_raise_31 {d : Nat} {lv : xLV} {st : List Value} {S : xS} {r : xO} : XL SK MT d 169 (31, lv, st, S) r ↔ xA (xlook lv 0) (fun x => XL SK MT d 169 (32, lv, .ref x :: st, S) r) := X_ldA rfl rfl (fun _ => rfl) rfl rfl rfl rfl
theorem rX6_raise_32 {d : Nat} {lv : xLV} {st : List Value} {S : xS} {r : xO} : XL SK MT d 169 (32, lv, .ref 7 :: st, S) r ↔ XL SK MT d 169 (35, lv, .int (S.1 7 4) :: st, S) r := X_heap rfl rfl rfl rfl rfl
theorem rX6_raise_35 {d : Nat} {lv : xLV} {S : xS} {r : xO} {x1 : Nat} {x2 : Int32} {u1 : Nat} : XL SK MT d 169 (35, lv, [.int x2, .ref x1, .ref u1], S) r ↔ xK (XC SK MT d 303 [.ref x1, .int x2] S) (fun v S => XL SK MT d 169 (38, lv, v.toList ++ [.ref u1], S) r) := X_inv (n := 2) (kd := 1) (st0 := [.int x2, .ref x1, .ref u1]) rfl (Or.inl ⟨rfl, rfl⟩) rfl (Nat.le_of_ble_eq_true rfl) (Nat.le_of_ble_eq_true rfl) (by decide) rfl
theorem rX6_raise_38 {d : Nat} {lv : xLV} {st : List Value} {S : xS} {r : xO} : XL SK MT d 169 (38, lv, st, S) r ↔ XL SK MT d 169 (39, lv, .int 1 :: st, S) r := X_pure rfl rfl rfl
theorem rX6_raise_39 {d : Nat} {lv : xLV} {st : List Value} {S : xS} {r : xO} {x z : Int32} : XL SK MT d 169 (39, lv, .int z :: .int x :: st, S) r ↔ XL SK MT d 169 (40, lv, .int (x >>> (z &&& 31)) :: st, S) r := X_pure rfl rfl rfl
theorem rX6_raise_40 {d : Nat} {lv : xLV} {st : List Value} {S : xS} {r : xO} {x : Int32} : XL SK MT d 169 (40, lv, .int x :: .ref 7 :: st, S) r ↔ XL SK MT d 169 (43, lv, st, (xsetI S 7 10 x)) r := X_heap rfl rfl rfl rfl rfl
theorem rX6_raise_43 {d : Nat} {lv : xLV} {st : List Value} {S : xS} {r : xO} : XL SK MT d 169 (43, lv, st, S) r ↔ xA (xlook lv 0) (fun x => XL SK MT d 169 (44, lv, .ref x :: st, S) r) := X_ldA rfl rfl (fun _ => rfl) rfl rfl rfl rfl
theorem rX6_raise_44 {d : Nat} {lv : xLV} {st : List Value} {S : xS} {r : xO} : XL SK MT d 169 (44, lv, st, S) r ↔ xA (xlook lv 0) (fun x => XL SK MT d 169 (45, lv, .ref x :: st, S) r) := X_ldA rfl rfl (fun _ => rfl) rfl rfl rfl rfl
theorem rX6_raise_45 {d : Nat} {lv : xLV} {st : List Value} {S : xS} {r : xO} : XL SK MT d 169 (45, lv, .ref 7 :: st, S) r ↔ XL SK MT d 169 (48, lv, .ref 14 :: st, S) r := X_heap rfl rfl rfl rfl rfl
theorem rX6_raise_48 {d : Nat} {lv : xLV} {st : List Value} {S : xS} {r : xO} : XL SK MT d 169 (48, lv, st, S) r ↔ xA (xlook lv 0) (fun x => XL SK MT d 169 (49, lv, .ref x :: st, S) r) := X_ldA rfl rfl (fun _ => rfl) rfl rfl rfl rfl
theorem rX6_raise_49 {d : Nat} {lv : xLV} {st : List Value} {S : xS} {r : xO} : XL SK MT d 169 (49, lv, .ref 7 :: st, S) r ↔ XL SK MT d 169 (52, lv, .int (S.1 7 4) :: st, S) r := X_heap rfl rfl rfl rfl rfl
theorem rX6_raise_52 {d : Nat} {lv : xLV} {st : List Value} {S : xS} {r : xO} : XL SK MT d 169 (52, lv, st, S) r ↔ XL SK MT d 169 (53, lv, .int 1 :: st, S) r := X_pure rfl rfl rfl
theorem rX6_raise_53 {d : Nat} {lv : xLV} {st : List Value} {S : xS} {r : xO} {x z : Int32} : XL SK MT d 169 (53, lv, .int z :: .int x :: st, S) r ↔ XL SK MT d 169 (54, lv, .int (x + z) :: st, S) r := X_pure rfl rfl rfl
theorem rX6_raise_54 {d : Nat} {lv : xLV} {S : xS} {r : xO} {x1 : Nat} {x2 : Int32} {u1 : Nat} : XL SK MT d 169 (54, lv, [.int x2, .ref x1, .ref u1], S) r ↔ xK (XC SK MT d 303 [.ref x1, .int x2] S) (fun v S => XL SK MT d 169 (57, lv, v.toList ++ [.ref u1], S) r) := X_inv (n := 2) (kd := 1) (st0 := [.int x2, .ref x1, .ref u1]) rfl (Or.inl ⟨rfl, rfl⟩) rfl (Nat.le_of_ble_eq_true rfl) (Nat.le_of_ble_eq_true rfl) (by decide) rfl
theorem rX6_raise_57 {d : Nat} {lv : xLV} {st : List Value} {S : xS} {r : xO} : XL SK MT d 169 (57, lv, st, S) r ↔ XL SK MT d 169 (58, lv, .int 1 :: st, S) r := X_pure rfl rfl rfl
theorem rX6_raise_58 {d : Nat} {lv : xLV} {st : List Value} {S : xS} {r : xO} {x z : Int32} : XL SK MT d 169 (58, lv, .int z :: .int x :: st, S) r ↔ XL SK MT d 169 (59, lv, .int (x >>> (z &&& 31)) :: st, S) r := X_pure rfl rfl rfl
theorem rX6_raise_59 {d : Nat} {lv : xLV} {st : List Value} {S : xS} {r : xO} {x : Int32} : XL SK MT d 169 (59, lv, .int x :: .ref 7 :: st, S) r ↔ XL SK MT d 169 (62, lv, st, (xsetI S 7 3 x)) r := X_heap rfl rfl rfl rfl rfl
theorem rX6_raise_62 {d : Nat} {lv : xLV} {st : List Value} {S : xS} {r : xO} : XL SK MT d 169 (62, lv, st, S) r ↔ xA (xlook lv 0) (fun x => XL SK MT d 169 (63, lv, .ref x :: st, S) r) := X_ldA rfl rfl (fun _ => rfl) rfl rfl rfl rfl
theorem rX6_raise_63 {d : Nat} {lv : xLV} {st : List Value} {S : xS} {r : xO} : XL SK MT d 169 (63, lv, st, S) r ↔ xA (xlook lv 0) (fun x => XL SK MT d 169 (64, lv, .ref x :: st, S) r) := X_ldA rfl rfl (fun _ => rfl) rfl rfl rfl rfl
theorem rX6_raise_64 {d : Nat} {lv : xLV} {st : List Value} {S : xS} {r : xO} : XL SK MT d 169 (64, lv, .ref 7 :: st, S) r ↔ XL SK MT d 169 (67, lv, .ref 14 :: st, S) r := X_heap rfl rfl rfl rfl rfl
theorem rX6_raise_67 {d : Nat} {lv : xLV} {st : List Value} {S : xS} {r : xO} : XL SK MT d 169 (67, lv, st, S) r ↔ xA (xlook lv 0) (fun x => XL SK MT d 169 (68, lv, .ref x :: st, S) r) := X_ldA rfl rfl (fun _ => rfl) rfl rfl rfl rfl
theorem rX6_raise_68 {d : Nat} {lv : xLV} {st : List Value} {S : xS} {r : xO} : XL SK MT d 169 (68, lv, .ref 7 :: st, S) r ↔ XL SK MT d 169 (71, lv, .int (S.1 7 4) :: st, S) r := X_heap rfl rfl rfl rfl rfl
theorem rX6_raise_71 {d : Nat} {lv : xLV} {st : List Value} {S : xS} {r : xO} : XL SK MT d 169 (71, lv, st, S) r ↔ XL SK MT d 169 (72, lv, .int 2 :: st, S) r := X_pure rfl rfl rfl
theorem rX6_raise_72 {d : Nat} {lv : xLV} {st : List Value} {S : xS} {r : xO} {x z : Int32} : XL SK MT d 169 (72, lv, .int z :: .int x :: st, S) r ↔ XL SK MT d 169 (73, lv, .int (x + z) :: st, S) r := X_pure rfl rfl rfl
theorem rX6_raise_73 {d : Nat} {lv : xLV} {S : xS} {r : xO} {x1 : Nat} {x2 : Int32} {u1 : Nat} : XL SK MT d 169 (73, lv, [.int x2, .ref x1, .ref u1], S) r ↔ xK (XC SK MT d 303 [.ref x1, .int x2] S) (fun v S => XL SK MT d 169 (76, lv, v.toList ++ [.ref u1], S) r) := X_inv (n := 2) (kd := 1) (st0 := [.int x2, .ref x1, .ref u1]) rfl (Or.inl ⟨rfl, rfl⟩) rfl (Nat.le_of_ble_eq_true rfl) (Nat.le_of_ble_eq_true rfl) (by decide) rfl
theorem rX6_raise_76 {d : Nat} {lv : xLV} {st : List Value} {S : xS} {r : xO} : XL SK MT d 169 (76, lv, st, S) r ↔ XL SK MT d 169 (77, lv, .int 1 :: st, S) r := X_pure rfl rfl rfl
theorem rX6_raise_77 {d : Nat} {lv : xLV} {st : List Value} {S : xS} {r : xO} {x z : Int32} : XL SK MT d 169 (77, lv, .int z :: .int x :: st, S) r ↔ XL SK MT d 169 (78, lv, .int (x >>> (z &&& 31)) :: st, S) r := X_pure rfl rfl rfl
theorem rX6_raise_78 {d : Nat} {lv : xLV} {st : List Value} {S : xS} {r : xO} {x : Int32} : XL SK MT d 169 (78, lv, .int x :: .ref 7 :: st, S) r ↔ XL SK MT d 169 (81, lv, st, (xsetI S 7 5 x)) r := X_heap rfl rfl rfl rfl rfl
theorem rX6_raise_81 {d : Nat} {lv : xLV} {st : List Value} {S : xS} {r : xO} : XL SK MT d 169 (81, lv, st, S) r ↔ xA (xlook lv 0) (fun x => XL SK MT d 169 (82, lv, .ref x :: st, S) r) := X_ldA rfl rfl (fun _ => rfl) rfl rfl rfl rfl
theorem rX6_raise_82 {d : Nat} {lv : xLV} {st : List Value} {S : xS} {r : xO} : XL SK MT d 169 (82, lv, .ref 7 :: st, S) r ↔ XL SK MT d 169 (85, lv, .ref 14 :: st, S) r := X_heap rfl rfl rfl rfl rfl
theorem rX6_raise_85 {d : Nat} {lv : xLV} {st : List Value} {S : xS} {r : xO} : XL SK MT d 169 (85, lv, st, S) r ↔ xA (xlook lv 0) (fun x => XL SK MT d 169 (86, lv, .ref x :: st, S) r) := X_ldA rfl rfl (fun _ => rfl) rfl rfl rfl rfl
theorem rX6_raise_86 {d : Nat} {lv : xLV} {st : List Value} {S : xS} {r : xO} : XL SK MT d 169 (86, lv, .ref 7 :: st, S) r ↔ XL SK MT d 169 (89, lv, .int (S.1 7 4) :: st, S) r := X_heap rfl rfl rfl rfl rfl
theorem rX6_raise_89 {d : Nat} {lv : xLV} {st : List Value} {S : xS} {r : xO} : XL SK MT d 169 (89, lv, st, S) r ↔ xI (xlook lv 1) (fun x => XL SK MT d 169 (90, lv, .int x :: st, S) r) := X_ldI rfl rfl (fun _ => rfl) rfl rfl rfl rfl
theorem rX6_raise_90 {d : Nat} {lv : xLV} {S : xS} {r : xO} {x1 : Nat} {x2 : Int32} {x3 : Int32} : XL SK MT d 169 (90, lv, [.int x3, .int x2, .ref x1], S) r ↔ xK (XC SK MT d 304 [.ref x1, .int x2, .int x3] S) (fun v S => XL SK MT d 169 (93, lv, v.toList ++ [], S) r) := X_inv (n := 3) (kd := 1) (st0 := [.int x3, .int x2, .ref x1]) rfl (Or.inl ⟨rfl, rfl⟩) rfl (Nat.le_of_ble_eq_true rfl) (Nat.le_of_ble_eq_true rfl) (by decide) rfl
theorem rX6_raise_93 {d : Nat} {lv : xLV} {st : List Value} {S : xS} {r : xO} : XL SK MT d 169 (93, lv, st, S) r ↔ xA (xlook lv 0) (fun x => XL SK MT d 169 (94, lv, .ref x :: st, S) r) := X_ldA rfl rfl (fun _ => rfl) rfl rfl rfl rfl
theorem riX6_raise_94 {d : Nat} {lv : xLV} {st : List Value} {S : xS} {r : xO} {x : Int32} : XL SK MT d 169 (94, lv, .int x :: st, S) r ↔ XL SK MT d 169 (95, lv, .int x :: .int x :: st, S) r := X_pure rfl rfl rfl
theorem rX6_raise_94 {d : Nat} {lv : xLV} {st : List Value} {S : xS} {r : xO} {x : Nat} : XL SK MT d 169 (94, lv, .ref x :: st, S) r ↔ XL SK MT d 169 (95, lv, .ref x :: .ref x :: st, S) r := X_pure rfl rfl rfl
theorem rX6_raise_95 {d : Nat} {lv : xLV} {st : List Value} {S : xS} {r : xO} : XL SK MT d 169 (95, lv, .ref 7 :: st, S) r ↔ XL SK MT d 169 (98, lv, .int (S.1 7 4) :: st, S) r := X_heap rfl rfl rfl rfl rfl
theorem rX6_raise_98 {d : Nat} {lv : xLV} {st : List Value} {S : xS} {r : xO} : XL SK MT d 169 (98, lv, st, S) r ↔ XL SK MT d 169 (99, lv, .int 1 :: st, S) r := X_pure rfl rfl rfl
theorem rX6_raise_99 {d : Nat} {lv : xLV} {st : List Value} {S : xS} {r : xO} {x z : Int32} : XL SK MT d 169 (99, lv, .int z :: .int x :: st, S) r ↔ XL SK MT d 169 (100, lv, .int (x + z) :: st, S) r := X_pure rfl rfl rfl
theorem rX6_raise_100 {d : Nat} {lv : xLV} {st : List Value} {S : xS} {r : xO} {x : Int32} : XL SK MT d 169 (100, lv, .int x :: .ref 7 :: st, S) r ↔ XL SK MT d 169 (103, lv, st, (xsetI S 7 4 x)) r := X_heap rfl rfl rfl rfl rfl
theorem rX6_raise_103 {d : Nat} {lv : xLV} {S : xS} {r : xO} : XL SK MT d 169 (103, lv, [], S) r ↔ (none, S) = r := X_ret rfl rfl rfl rfl rfl rfl

/-! Machine: words, exceptions. -/
theorem sh_1 {n : Nat} (h : n < 2 ^ 31) : nI n >>> ((1 : Int32) &&& 31) = nI (n / 2) := pk_shrN h _ 1 (by decide)
theorem sh_8 {n : Nat} (h : n < 2 ^ 31) : nI n >>> ((8 : Int32) &&& 31) = nI (n / 256) := pk_shrN h _ 8 (by decide)
theorem od_eq {n : Nat} : nI n * 2 + 1 = nI (n * 2 + 1) := by
  show Int32.ofNat n * Int32.ofNat 2 + Int32.ofNat 1 = _
  rw [← Int32.ofNat_mul, ← Int32.ofNat_add]
  rfl
theorem od_sh {n : Nat} (h : n < 2 ^ 29) : (nI n * 2 + 1) >>> ((1 : Int32) &&& 31) = nI n := by
  rw [od_eq, sh_1 (by omega)]
  congr 1
  omega
theorem fx_eq {n : Nat} (h : n < 2 ^ 20) : fxX n = nI (n * 256) := by
  unfold fxX
  rw [Int32.or_zero]
  apply Int32.toBitVec_inj.mp
  rw [Int32.toBitVec_shiftLeft, show (((8 : Int32) &&& 31).toBitVec.smod 32) = 8#32 by decide]
  apply BitVec.eq_of_toNat_eq
  show ((BitVec.ofNat 32 n) <<< (8#32)).toNat = (BitVec.ofNat 32 (n * 256)).toNat
  rw [BitVec.shiftLeft_eq', BitVec.toNat_shiftLeft, BitVec.toNat_ofNat, BitVec.toNat_ofNat, BitVec.toNat_ofNat, Nat.shiftLeft_eq, Nat.mod_eq_of_lt (show n < 2 ^ 32 by omega), show 2 ^ (8 % 2 ^ 32) = 256 by decide]
section
variable {d nx tr : Nat} {S : xS} {ws : List Int32}
/-- nobody handles it -/
def rzS (S : xS) (x : Int32) : xS := xsetI (xsetI S 7 15 x) 7 14 1
theorem m_raise0 {x : Int32} (h : MC S nx ws 0) : XC SK MT (d + 1) 169 [.ref 7, .int x] S = some (none, rzS S x) := by
  have h4 : S.1 7 10 = 0 := h.2.2.2.1
  rw [XC_iff]
  refine ⟨Nat.le_of_ble_eq_true rfl, ?_⟩
  show XL SK MT d 169 (0, [some (.ref 7), some (.int x)], [], S) _
  simp (config := { decide := true }) only [rX6_raise_0, rX6_raise_1, rX6_raise_4, rX6_raise_7, rX6_raise_8, rX6_raise_9, rX6_raise_12, rX6_raise_13, rX6_raise_14, rX6_raise_17, rX6_raise_18, rX6_raise_19, rX6_raise_20, rX6_raise_23, rX6_raise_26, rX6_raise_27, rX6_raise_28, rX6_raise_31, rX6_raise_32, rX6_raise_35, rX6_raise_38, rX6_raise_39, rX6_raise_40, rX6_raise_43, rX6_raise_44, rX6_raise_45, rX6_raise_48, rX6_raise_49, rX6_raise_52, rX6_raise_53, rX6_raise_54, rX6_raise_57, rX6_raise_58, rX6_raise_59, rX6_raise_62, rX6_raise_63, rX6_raise_64, rX6_raise_67, rX6_raise_68, rX6_raise_71, rX6_raise_72, rX6_raise_73, rX6_raise_76, rX6_raise_77, rX6_raise_78, rX6_raise_81, rX6_raise_82, rX6_raise_85, rX6_raise_86, rX6_raise_89, rX6_raise_90, rX6_raise_93, riX6_raise_94, rX6_raise_94, rX6_raise_95, rX6_raise_98, rX6_raise_99, rX6_raise_100, rX6_raise_103, ↓reduceIte, m1_le, m1_lt, m1_eq, ofInt_m1, ex_ret, Int32.reduceAdd, Int32.reduceSub, Int32.reduceMul, Int32.reduceLT, Int32.reduceLE, xsI, Nat.reduceEqDiff, and_false, false_and, and_true, true_and, if_true, if_false, ite_true, ite_false, xlook_0, xlook_s, xI_int, xA_ref, xJ_long, xK_some, xRow_row, xTo_some, xst1, xclr, List.set_cons_zero, List.set_cons_succ, xsum_nil, xsum_int, xsum_ref, xsum_long, Option.toList_some, Option.toList_none, List.nil_append, List.cons_append, h4]
  rfl
set_option maxHeartbeats 4000000 in
set_option maxRecDepth 100000 in
theorem m_raise {x : Int32} {h0 ts : List Int32} {tr0 lab : Nat} (h : MC S nx (h0 ++ ([nI tr0 * 2 + 1, nI lab * 2 + 1, nI 5632 * 2 + 1] ++ ts)) (5632 + h0.length)) (ht : tr0 < 10000) (hl : lab < 60000) : ∃ S1, XC SK MT (d + 2) 169 [.ref 7, .int x] S = some (none, S1) ∧ MC S1 lab (h0 ++ [x]) tr0 ∧ FrM S S1 := by
  obtain ⟨g1, g2, g3, g4, g5, g6, g7⟩ := id h
  have hlen : h0.length + 3 ≤ 1000 := by rw [List.length_append, List.length_append] at g6; have : ([nI tr0 * 2 + 1, nI lab * 2 + 1, nI 5632 * 2 + 1] : List Int32).length = 3 := rfl; omega
  have w0 : S.1 14 (5632 + h0.length) = nI tr0 * 2 + 1 := g7 h0.length _ (by rw [List.getElem?_append_right (Nat.le_refl _), Nat.sub_self]; rfl)
  have w1 : S.1 14 (5632 + h0.length + 1) = nI lab * 2 + 1 := g7 (h0.length + 1) _ (by rw [List.getElem?_append_right (Nat.le_add_right _ _), Nat.add_sub_cancel_left]; rfl)
  have w2 : S.1 14 (5632 + h0.length + 2) = nI 5632 * 2 + 1 := g7 (h0.length + 2) _ (by rw [List.getElem?_append_right (Nat.le_add_right _ _), Nat.add_sub_cancel_left]; rfl)
  have n0 : ¬ nI (5632 + h0.length) = 0 := by
    intro z
    have := congrArg Int32.toNatClampNeg z
    rw [nI_clamp (by omega)] at this
    have z2 : (0 : Int32).toNatClampNeg = 0 := by decide
    omega
  generalize hSf : xsetI (xsetI (xsetI (xsetI S 7 4 (nI (5632 + h0.length))) 7 10 (nI tr0)) 7 3 (nI lab)) 7 5 (nI 5632) = Sf
  have c1 : MC Sf lab h0 tr0 := by
    rw [← hSf]
    exact ⟨rfl, rfl, rfl, rfl, g5, by omega, fun i y hy => g7 i y (by rw [List.getElem?_append_left (List.getElem?_eq_some_iff.mp hy).1]; exact hy)⟩
  have c2 := c1.word (w := x) (by omega)
  refine ⟨_, ?_, c2, (by rw [← hSf]; exact FrM_7.trans (FrM_7.trans (FrM_7.trans FrM_7)) : FrM S Sf).trans ((FrM_m (by omega)).trans FrM_7)⟩
  have e1 : nI (5632 + h0.length) + 1 = nI (5632 + h0.length + 1) := nA1
  have e2 : nI (5632 + h0.length) + 2 = nI (5632 + h0.length + 2) := nA2
  have pf : Sf.1 7 4 = nI (5632 + h0.length) := by rw [← hSf]; rfl
  rw [XC_iff]
  refine ⟨Nat.le_of_ble_eq_true rfl, ?_⟩
  show XL SK MT (d + 1) 169 (0, [some (.ref 7), some (.int x)], [], S) _
  simp (config := { decide := true }) only [rX6_raise_0, rX6_raise_1, rX6_raise_4, rX6_raise_7, rX6_raise_8, rX6_raise_9, rX6_raise_12, rX6_raise_13, rX6_raise_14, rX6_raise_17, rX6_raise_18, rX6_raise_19, rX6_raise_20, rX6_raise_23, rX6_raise_26, rX6_raise_27, rX6_raise_28, rX6_raise_31, rX6_raise_32, rX6_raise_35, rX6_raise_38, rX6_raise_39, rX6_raise_40, rX6_raise_43, rX6_raise_44, rX6_raise_45, rX6_raise_48, rX6_raise_49, rX6_raise_52, rX6_raise_53, rX6_raise_54, rX6_raise_57, rX6_raise_58, rX6_raise_59, rX6_raise_62, rX6_raise_63, rX6_raise_64, rX6_raise_67, rX6_raise_68, rX6_raise_71, rX6_raise_72, rX6_raise_73, rX6_raise_76, rX6_raise_77, rX6_raise_78, rX6_raise_81, rX6_raise_82, rX6_raise_85, rX6_raise_86, rX6_raise_89, rX6_raise_90, rX6_raise_93, riX6_raise_94, rX6_raise_94, rX6_raise_95, rX6_raise_98, rX6_raise_99, rX6_raise_100, rX6_raise_103, ↓reduceIte, m1_le, m1_lt, m1_eq, ofInt_m1, ex_ret, Int32.reduceAdd, Int32.reduceSub, Int32.reduceMul, Int32.reduceLT, Int32.reduceLE, xsI, Nat.reduceEqDiff, and_false, false_and, and_true, true_and, if_true, if_false, ite_true, ite_false, xlook_0, xlook_s, xI_int, xA_ref, xJ_long, xK_some, xRow_row, xTo_some, xst1, xclr, List.set_cons_zero, List.set_cons_succ, xsum_nil, xsum_int, xsum_ref, xsum_long, Option.toList_some, Option.toList_none, List.nil_append, List.cons_append, g4, n0, not_false_iff, s_at (show SK[14]? = some (.inl (0, 281984)) from rfl) (by decide : 281984 < 2 ^ 31), s_put (show SK[14]? = some (.inl (0, 281984)) from rfl) (by decide : 281984 < 2 ^ 31), xat_in, xput_in, show 5632 + h0.length < 281984 by omega, show 5632 + h0.length + 1 < 281984 by omega, show 5632 + h0.length + 2 < 281984 by omega, w0, w1, w2, od_sh (show tr0 < 2 ^ 29 by omega), od_sh (show lab < 2 ^ 29 by omega), od_sh (show 5632 < 2 ^ 29 by decide), e1, e2, hSf, pf]
end
