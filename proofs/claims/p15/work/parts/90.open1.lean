/-! XF: rows, then what is proved of them. -/
theorem rX10_open_0 {d : Nat} {lv : xLV} {st : List Value} {S : xS} {r : xO} : XL SK MT d 263 (0, lv, st, S) r ↔ xA (xlook lv 0) (fun x => XL SK MT d 263 (1, lv, .ref x :: st, S) r) := X_ldA rfl rfl (fun _ => rfl) rfl rfl rfl rfl
theorem rX10_open_1 {d : Nat} {lv : xLV} {st : List Value} {S : xS} {r : xO} : XL SK MT d 263 (1, lv, st, S) r ↔ XL SK MT d 263 (2, lv, .int 0 :: st, S) r := X_pure rfl rfl rfl
theorem rX10_open_2 {d : Nat} {lv : xLV} {st : List Value} {S : xS} {r : xO} {x : Int32} : XL SK MT d 263 (2, lv, .int x :: .ref 5 :: st, S) r ↔ XL SK MT d 263 (5, lv, st, (xsetI S 5 11 x)) r := X_heap rfl rfl rfl rfl rfl
theorem rX10_open_5 {d : Nat} {lv : xLV} {st : List Value} {S : xS} {r : xO} : XL SK MT d 263 (5, lv, st, S) r ↔ xA (xlook lv 0) (fun x => XL SK MT d 263 (6, lv, .ref x :: st, S) r) := X_ldA rfl rfl (fun _ => rfl) rfl rfl rfl rfl
theorem rX10_open_6 {d : Nat} {lv : xLV} {st : List Value} {S : xS} {r : xO} : XL SK MT d 263 (6, lv, st, S) r ↔ XL SK MT d 263 (7, lv, .int 0 :: st, S) r := X_pure rfl rfl rfl
theorem rX10_open_7 {d : Nat} {lv : xLV} {st : List Value} {S : xS} {r : xO} {x : Int32} : XL SK MT d 263 (7, lv, .int x :: .ref 5 :: st, S) r ↔ XL SK MT d 263 (10, lv, st, (xsetI S 5 12 x)) r := X_heap rfl rfl rfl rfl rfl
theorem rX10_open_10 {d : Nat} {lv : xLV} {st : List Value} {S : xS} {r : xO} : XL SK MT d 263 (10, lv, st, S) r ↔ xA (xlook lv 0) (fun x => XL SK MT d 263 (11, lv, .ref x :: st, S) r) := X_ldA rfl rfl (fun _ => rfl) rfl rfl rfl rfl
theorem rX10_open_11 {d : Nat} {lv : xLV} {st : List Value} {S : xS} {r : xO} : XL SK MT d 263 (11, lv, st, S) r ↔ XL SK MT d 263 (12, lv, .int 0 :: st, S) r := X_pure rfl rfl rfl
theorem rX10_open_12 {d : Nat} {lv : xLV} {st : List Value} {S : xS} {r : xO} {x : Int32} : XL SK MT d 263 (12, lv, .int x :: .ref 5 :: st, S) r ↔ XL SK MT d 263 (15, lv, st, (xsetI S 5 15 x)) r := X_heap rfl rfl rfl rfl rfl
theorem rX10_open_15 {d : Nat} {lv : xLV} {st : List Value} {S : xS} {r : xO} : XL SK MT d 263 (15, lv, st, S) r ↔ XL SK MT d 263 (16, lv, .int 0 :: st, S) r := X_pure rfl rfl rfl
theorem rX10_open_16 {d : Nat} {lv : xLV} {st : List Value} {S : xS} {r : xO} {x : Int32} : XL SK MT d 263 (16, lv, .int x :: st, S) r ↔ XL SK MT d 263 (17, xst1 lv 1 (.int x), st, S) r := X_pure rfl rfl rfl
theorem rX10_open_17 {d : Nat} {lv : xLV} {st : List Value} {S : xS} {r : xO} : XL SK MT d 263 (17, lv, st, S) r ↔ xI (xlook lv 1) (fun x => XL SK MT d 263 (18, lv, .int x :: st, S) r) := X_ldI rfl rfl (fun _ => rfl) rfl rfl rfl rfl
theorem rX10_open_18 {d : Nat} {lv : xLV} {st : List Value} {S : xS} {r : xO} : XL SK MT d 263 (18, lv, st, S) r ↔ XL SK MT d 263 (20, lv, .int 95 :: st, S) r := X_pure rfl rfl rfl
theorem rX10_open_20 {d : Nat} {lv : xLV} {st : List Value} {S : xS} {r : xO} {x z : Int32} : XL SK MT d 263 (20, lv, .int z :: .int x :: st, S) r ↔ if z ≤ x then XL SK MT d 263 (51, lv, st, S) r else XL SK MT d 263 (23, lv, st, S) r := (X_icmp rfl rfl).trans xc_ge
theorem rX10_open_23 {d : Nat} {lv : xLV} {st : List Value} {S : xS} {r : xO} : XL SK MT d 263 (23, lv, st, S) r ↔ xA (xlook lv 0) (fun x => XL SK MT d 263 (24, lv, .ref x :: st, S) r) := X_ldA rfl rfl (fun _ => rfl) rfl rfl rfl rfl
theorem rX10_open_24 {d : Nat} {lv : xLV} {st : List Value} {S : xS} {r : xO} : XL SK MT d 263 (24, lv, .ref 5 :: st, S) r ↔ XL SK MT d 263 (27, lv, .ref 50 :: st, S) r := X_heap rfl rfl rfl rfl rfl
theorem rX10_open_27 {d : Nat} {lv : xLV} {st : List Value} {S : xS} {r : xO} : XL SK MT d 263 (27, lv, st, S) r ↔ xI (xlook lv 1) (fun x => XL SK MT d 263 (28, lv, .int x :: st, S) r) := X_ldI rfl rfl (fun _ => rfl) rfl rfl rfl rfl
theorem rX10_open_28 {d : Nat} {lv : xLV} {st : List Value} {S : xS} {r : xO} : XL SK MT d 263 (28, lv, st, S) r ↔ xI (xlook lv 1) (fun x => XL SK MT d 263 (29, lv, .int x :: st, S) r) := X_ldI rfl rfl (fun _ => rfl) rfl rfl rfl rfl
theorem rX10_open_29 {d : Nat} {lv : xLV} {st : List Value} {S : xS} {r : xO} : XL SK MT d 263 (29, lv, st, S) r ↔ XL SK MT d 263 (31, lv, .int 64 :: st, S) r := X_pure rfl rfl rfl
theorem rX10_open_31 {d : Nat} {lv : xLV} {st : List Value} {S : xS} {r : xO} {x z : Int32} : XL SK MT d 263 (31, lv, .int z :: .int x :: st, S) r ↔ if z ≤ x then XL SK MT d 263 (38, lv, st, S) r else XL SK MT d 263 (34, lv, st, S) r := (X_icmp rfl rfl).trans xc_ge
theorem rX10_open_34 {d : Nat} {lv : xLV} {st : List Value} {S : xS} {r : xO} : XL SK MT d 263 (34, lv, st, S) r ↔ XL SK MT d 263 (35, lv, .int 0 :: st, S) r := X_pure rfl rfl rfl
theorem rX10_open_35 {d : Nat} {lv : xLV} {st : List Value} {S : xS} {r : xO} : XL SK MT d 263 (35, lv, st, S) r ↔ XL SK MT d 263 (42, lv, st, S) r := X_jump rfl rfl rfl
theorem rX10_open_38 {d : Nat} {lv : xLV} {st : List Value} {S : xS} {r : xO} : XL SK MT d 263 (38, lv, st, S) r ↔ xI (xlook lv 1) (fun x => XL SK MT d 263 (39, lv, .int x :: st, S) r) := X_ldI rfl rfl (fun _ => rfl) rfl rfl rfl rfl
theorem rX10_open_39 {d : Nat} {lv : xLV} {st : List Value} {S : xS} {r : xO} : XL SK MT d 263 (39, lv, st, S) r ↔ XL SK MT d 263 (41, lv, .int 64 :: st, S) r := X_pure rfl rfl rfl
theorem rX10_open_41 {d : Nat} {lv : xLV} {st : List Value} {S : xS} {r : xO} {x z : Int32} : XL SK MT d 263 (41, lv, .int z :: .int x :: st, S) r ↔ XL SK MT d 263 (42, lv, .int (x - z) :: st, S) r := X_pure rfl rfl rfl
theorem rX10_open_42 {d : Nat} {lv : xLV} {S : xS} {r : xO} {x1 : Nat} {x2 : Int32} {x3 : Int32} : XL SK MT d 263 (42, lv, [.int x3, .int x2, .ref x1], S) r ↔ xK (XC SK MT d 304 [.ref x1, .int x2, .int x3] S) (fun v S => XL SK MT d 263 (45, lv, v.toList ++ [], S) r) := X_inv (n := 3) (kd := 1) (st0 := [.int x3, .int x2, .ref x1]) rfl (Or.inl ⟨rfl, rfl⟩) rfl (Nat.le_of_ble_eq_true rfl) (Nat.le_of_ble_eq_true rfl) (by decide) rfl
theorem rX10_open_45 {d : Nat} {lv : xLV} {st : List Value} {S : xS} {r : xO} : XL SK MT d 263 (45, lv, st, S) r ↔ xI (xlook lv 1) (fun x => XL SK MT d 263 (48, xst1 lv 1 (.int (x + 1)), st, S) r) := X_inc (i := 1) (n := 1) rfl (Nat.le_of_ble_eq_true rfl)
theorem rX10_open_48 {d : Nat} {lv : xLV} {st : List Value} {S : xS} {r : xO} : XL SK MT d 263 (48, lv, st, S) r ↔ XL SK MT d 263 (17, lv, st, S) r := X_jump rfl rfl rfl
theorem rX10_open_51 {d : Nat} {lv : xLV} {st : List Value} {S : xS} {r : xO} : XL SK MT d 263 (51, lv, st, S) r ↔ xA (xlook lv 0) (fun x => XL SK MT d 263 (52, lv, .ref x :: st, S) r) := X_ldA rfl rfl (fun _ => rfl) rfl rfl rfl rfl
theorem rX10_open_52 {d : Nat} {lv : xLV} {st : List Value} {S : xS} {r : xO} : XL SK MT d 263 (52, lv, .ref 5 :: st, S) r ↔ XL SK MT d 263 (55, lv, .ref 50 :: st, S) r := X_heap rfl rfl rfl rfl rfl
theorem rX10_open_55 {d : Nat} {lv : xLV} {st : List Value} {S : xS} {r : xO} : XL SK MT d 263 (55, lv, st, S) r ↔ XL SK MT d 263 (56, lv, .int 0 :: st, S) r := X_pure rfl rfl rfl
theorem rX10_open_56 {d : Nat} {lv : xLV} {st : List Value} {S : xS} {r : xO} : XL SK MT d 263 (56, lv, st, S) r ↔ XL SK MT d 263 (57, lv, .int 2 :: st, S) r := X_pure rfl rfl rfl
theorem rX10_open_57 {d : Nat} {lv : xLV} {S : xS} {r : xO} {x1 : Nat} {x2 : Int32} {x3 : Int32} : XL SK MT d 263 (57, lv, [.int x3, .int x2, .ref x1], S) r ↔ xK (XC SK MT d 304 [.ref x1, .int x2, .int x3] S) (fun v S => XL SK MT d 263 (60, lv, v.toList ++ [], S) r) := X_inv (n := 3) (kd := 1) (st0 := [.int x3, .int x2, .ref x1]) rfl (Or.inl ⟨rfl, rfl⟩) rfl (Nat.le_of_ble_eq_true rfl) (Nat.le_of_ble_eq_true rfl) (by decide) rfl
theorem rX10_open_60 {d : Nat} {lv : xLV} {st : List Value} {S : xS} {r : xO} : XL SK MT d 263 (60, lv, st, S) r ↔ xA (xlook lv 0) (fun x => XL SK MT d 263 (61, lv, .ref x :: st, S) r) := X_ldA rfl rfl (fun _ => rfl) rfl rfl rfl rfl
theorem rX10_open_61 {d : Nat} {lv : xLV} {st : List Value} {S : xS} {r : xO} : XL SK MT d 263 (61, lv, .ref 5 :: st, S) r ↔ XL SK MT d 263 (64, lv, .ref 50 :: st, S) r := X_heap rfl rfl rfl rfl rfl
theorem rX10_open_64 {d : Nat} {lv : xLV} {st : List Value} {S : xS} {r : xO} : XL SK MT d 263 (64, lv, st, S) r ↔ XL SK MT d 263 (66, lv, .int 7 :: st, S) r := X_pure rfl rfl rfl
theorem rX10_open_66 {d : Nat} {lv : xLV} {st : List Value} {S : xS} {r : xO} : XL SK MT d 263 (66, lv, st, S) r ↔ XL SK MT d 263 (67, lv, .int 1 :: st, S) r := X_pure rfl rfl rfl
theorem rX10_open_67 {d : Nat} {lv : xLV} {S : xS} {r : xO} {x1 : Nat} {x2 : Int32} {x3 : Int32} : XL SK MT d 263 (67, lv, [.int x3, .int x2, .ref x1], S) r ↔ xK (XC SK MT d 304 [.ref x1, .int x2, .int x3] S) (fun v S => XL SK MT d 263 (70, lv, v.toList ++ [], S) r) := X_inv (n := 3) (kd := 1) (st0 := [.int x3, .int x2, .ref x1]) rfl (Or.inl ⟨rfl, rfl⟩) rfl (Nat.le_of_ble_eq_true rfl) (Nat.le_of_ble_eq_true rfl) (by decide) rfl
theorem rX10_open_70 {d : Nat} {lv : xLV} {st : List Value} {S : xS} {r : xO} : XL SK MT d 263 (70, lv, st, S) r ↔ xA (xlook lv 0) (fun x => XL SK MT d 263 (71, lv, .ref x :: st, S) r) := X_ldA rfl rfl (fun _ => rfl) rfl rfl rfl rfl
theorem rX10_open_71 {d : Nat} {lv : xLV} {st : List Value} {S : xS} {r : xO} : XL SK MT d 263 (71, lv, .ref 5 :: st, S) r ↔ XL SK MT d 263 (74, lv, .ref 50 :: st, S) r := X_heap rfl rfl rfl rfl rfl
theorem rX10_open_74 {d : Nat} {lv : xLV} {st : List Value} {S : xS} {r : xO} : XL SK MT d 263 (74, lv, st, S) r ↔ XL SK MT d 263 (76, lv, .int 8 :: st, S) r := X_pure rfl rfl rfl
theorem rX10_open_76 {d : Nat} {lv : xLV} {st : List Value} {S : xS} {r : xO} : XL SK MT d 263 (76, lv, st, S) r ↔ XL SK MT d 263 (77, lv, .int 1 :: st, S) r := X_pure rfl rfl rfl
theorem rX10_open_77 {d : Nat} {lv : xLV} {S : xS} {r : xO} {x1 : Nat} {x2 : Int32} {x3 : Int32} : XL SK MT d 263 (77, lv, [.int x3, .int x2, .ref x1], S) r ↔ xK (XC SK MT d 304 [.ref x1, .int x2, .int x3] S) (fun v S => XL SK MT d 263 (80, lv, v.toList ++ [], S) r) := X_inv (n := 3) (kd := 1) (st0 := [.int x3, .int x2, .ref x1]) rfl (Or.inl ⟨rfl, rfl⟩) rfl (Nat.le_of_ble_eq_true rfl) (Nat.le_of_ble_eq_true rfl) (by decide) rfl
theorem rX10_open_80 {d : Nat} {lv : xLV} {st : List Value} {S : xS} {r : xO} : XL SK MT d 263 (80, lv, st, S) r ↔ XL SK MT d 263 (81, lv, .int 0 :: st, S) r := X_pure rfl rfl rfl
theorem rX10_open_81 {d : Nat} {lv : xLV} {st : List Value} {S : xS} {r : xO} {x : Int32} : XL SK MT d 263 (81, lv, .int x :: st, S) r ↔ XL SK MT d 263 (82, xst1 lv 1 (.int x), st, S) r := X_pure rfl rfl rfl
theorem rX10_open_82 {d : Nat} {lv : xLV} {st : List Value} {S : xS} {r : xO} : XL SK MT d 263 (82, lv, st, S) r ↔ xI (xlook lv 1) (fun x => XL SK MT d 263 (83, lv, .int x :: st, S) r) := X_ldI rfl rfl (fun _ => rfl) rfl rfl rfl rfl
theorem rX10_open_83 {d : Nat} {lv : xLV} {st : List Value} {S : xS} {r : xO} : XL SK MT d 263 (83, lv, st, S) r ↔ XL SK MT d 263 (85, lv, .int 9 :: st, S) r := X_pure rfl rfl rfl
theorem rX10_open_85 {d : Nat} {lv : xLV} {st : List Value} {S : xS} {r : xO} {x z : Int32} : XL SK MT d 263 (85, lv, .int z :: .int x :: st, S) r ↔ if z ≤ x then XL SK MT d 263 (107, lv, st, S) r else XL SK MT d 263 (88, lv, st, S) r := (X_icmp rfl rfl).trans xc_ge
theorem rX10_open_88 {d : Nat} {lv : xLV} {st : List Value} {S : xS} {r : xO} : XL SK MT d 263 (88, lv, st, S) r ↔ xA (xlook lv 0) (fun x => XL SK MT d 263 (89, lv, .ref x :: st, S) r) := X_ldA rfl rfl (fun _ => rfl) rfl rfl rfl rfl
theorem rX10_open_89 {d : Nat} {lv : xLV} {st : List Value} {S : xS} {r : xO} : XL SK MT d 263 (89, lv, .ref 5 :: st, S) r ↔ XL SK MT d 263 (92, lv, .ref 44 :: st, S) r := X_heap rfl rfl rfl rfl rfl
theorem rX10_open_92 {d : Nat} {lv : xLV} {st : List Value} {S : xS} {r : xO} : XL SK MT d 263 (92, lv, st, S) r ↔ xA (xlook lv 0) (fun x => XL SK MT d 263 (93, lv, .ref x :: st, S) r) := X_ldA rfl rfl (fun _ => rfl) rfl rfl rfl rfl
theorem rX10_open_93 {d : Nat} {lv : xLV} {st : List Value} {S : xS} {r : xO} : XL SK MT d 263 (93, lv, st, S) r ↔ XL SK MT d 263 (94, lv, .int 0 :: st, S) r := X_pure rfl rfl rfl
theorem rX10_open_94 {d : Nat} {lv : xLV} {S : xS} {r : xO} {x1 : Int32} {u1 : Nat} : XL SK MT d 263 (94, lv, [.int x1, .ref 5, .ref u1], S) r ↔ xK (XC SK MT d 266 [.ref 5, .int x1] S) (fun v S => XL SK MT d 263 (97, lv, v.toList ++ [.ref u1], S) r) := X_inv (n := 2) (kd := 12) (st0 := [.int x1, .ref 5, .ref u1]) rfl (Or.inr ⟨rfl, rfl⟩) rfl (Nat.le_of_ble_eq_true rfl) (Nat.le_of_ble_eq_true rfl) (by decide) rfl
theorem rX10_open_97 {d : Nat} {lv : xLV} {st : List Value} {S : xS} {r : xO} : XL SK MT d 263 (97, lv, st, S) r ↔ xI (xlook lv 1) (fun x => XL SK MT d 263 (98, lv, .int x :: st, S) r) := X_ldI rfl rfl (fun _ => rfl) rfl rfl rfl rfl
theorem rX10_open_98 {d : Nat} {lv : xLV} {S : xS} {r : xO} {x1 : Nat} {x2 : Int32} {x3 : Int32} : XL SK MT d 263 (98, lv, [.int x3, .int x2, .ref x1], S) r ↔ xK (XC SK MT d 304 [.ref x1, .int x2, .int x3] S) (fun v S => XL SK MT d 263 (101, lv, v.toList ++ [], S) r) := X_inv (n := 3) (kd := 1) (st0 := [.int x3, .int x2, .ref x1]) rfl (Or.inl ⟨rfl, rfl⟩) rfl (Nat.le_of_ble_eq_true rfl) (Nat.le_of_ble_eq_true rfl) (by decide) rfl
theorem rX10_open_101 {d : Nat} {lv : xLV} {st : List Value} {S : xS} {r : xO} : XL SK MT d 263 (101, lv, st, S) r ↔ xI (xlook lv 1) (fun x => XL SK MT d 263 (104, xst1 lv 1 (.int (x + 1)), st, S) r) := X_inc (i := 1) (n := 1) rfl (Nat.le_of_ble_eq_true rfl)
theorem rX10_open_104 {d : Nat} {lv : xLV} {st : List Value} {S : xS} {r : xO} : XL SK MT d 263 (104, lv, st, S) r ↔ XL SK MT d 263 (82, lv, st, S) r := X_jump rfl rfl rfl
theorem rX10_open_107 {d : Nat} {lv : xLV} {S : xS} {r : xO} : XL SK MT d 263 (107, lv, [], S) r ↔ (none, S) = r := X_ret rfl rfl rfl rfl rfl rfl

/-! Types and Scope: a program begins (Types). -/
theorem xat_l {S : xS} {a n : Nat} {k : Int32} (h0 : ¬ k < 0) (h1 : ¬ nI n ≤ k) : xat S a n k = S.1 a k.toNatClampNeg := by
  unfold xat
  rw [if_neg h0, if_neg h1]
theorem xput_l {S : xS} {a n : Nat} {k v : Int32} (h0 : ¬ k < 0) (h1 : ¬ nI n ≤ k) : xput S a n k v = xsetI S a k.toNatClampNeg v := by
  unfold xput
  rw [if_neg h0, if_neg h1]
def arF (j : Nat) : Int32 := if j < 64 then 0 else nI (j - 64)
theorem nS64 {a : Nat} : nI (a + 64) - 64 = nI a := by
  have h : nI (a + 64) = nI a + 64 := (nI_add a 64).symm
  rw [h]
  exact Int32.add_sub_cancel _ _
set_option maxHeartbeats 4000000 in
set_option maxRecDepth 100000 in
theorem ar_loop {d : Nat} {Q : xS → Prop} : ∀ k i, i + k = 95 → ∀ S : xS, (∀ j, j < i → S.1 50 j = arF j) → (∀ S' : xS, (∀ j, j < 95 → S'.1 50 j = arF j) → S'.2 = S.2 → (∀ a, ¬ a = 50 → S'.1 a = S.1 a) → ∃ S9, XL SK MT (d + 2) 263 (51, [some (.ref 5), some (.int (nI 95))], [], S') (none, S9) ∧ Q S9) → ∃ S9, XL SK MT (d + 2) 263 (17, [some (.ref 5), some (.int (nI i))], [], S) (none, S9) ∧ Q S9 := by
  intro k
  induction k with
  | zero =>
    intro i hi S h hr
    obtain rfl : i = 95 := hi
    obtain ⟨S9, q1, q2⟩ := hr S h rfl (fun _ _ => rfl)
    refine ⟨S9, ?_, q2⟩
    rw [rX10_open_17]
    simp (config := { decide := true }) only [rX10_open_0, rX10_open_1, rX10_open_2, rX10_open_5, rX10_open_6, rX10_open_7, rX10_open_10, rX10_open_11, rX10_open_12, rX10_open_15, rX10_open_16, rX10_open_18, rX10_open_20, rX10_open_23, rX10_open_24, rX10_open_27, rX10_open_28, rX10_open_29, rX10_open_31, rX10_open_34, rX10_open_35, rX10_open_38, rX10_open_39, rX10_open_41, rX10_open_42, rX10_open_45, rX10_open_48, rX10_open_52, rX10_open_55, rX10_open_56, rX10_open_57, rX10_open_60, rX10_open_61, rX10_open_64, rX10_open_66, rX10_open_67, rX10_open_70, rX10_open_71, rX10_open_74, rX10_open_76, rX10_open_77, rX10_open_80, rX10_open_81, rX10_open_83, rX10_open_85, rX10_open_88, rX10_open_89, rX10_open_92, rX10_open_93, rX10_open_94, rX10_open_97, rX10_open_98, rX10_open_101, rX10_open_104, rX10_open_107, ↓reduceIte, m1_le, m1_lt, m1_eq, ofInt_m1, ex_ret, Int32.reduceAdd, Int32.reduceSub, Int32.reduceMul, Int32.reduceLT, Int32.reduceLE, xsI, Nat.reduceEqDiff, and_false, false_and, and_true, true_and, if_true, if_false, ite_true, ite_false, xlook_0, xlook_s, xI_int, xA_ref, xJ_long, xK_some, xRow_row, xTo_some, xst1, xclr, List.set_cons_zero, List.set_cons_succ, xsum_nil, xsum_int, xsum_ref, xsum_long, Option.toList_some, Option.toList_none, List.nil_append, List.cons_append, show (95 : Int32) ≤ nI 95 by decide]
    exact q1
  | succ k ih =>
    intro i hi S h hr
    have hlt : i < 95 := by omega
    have h1 : ¬ (95 : Int32) ≤ nI i := nI_ge (b := 95) hlt (by decide)
    have hn : ∀ j, j < i + 1 → (xsetI S 50 i (arF i)).1 50 j = arF j := by
      intro j hj
      rw [xsI]
      by_cases z : j = i
      · rw [if_pos ⟨rfl, z⟩, z]
      · rw [if_neg (fun q => z q.2)]; exact h j (by omega)
    have hrest := ih (i + 1) (by omega) (xsetI S 50 i (arF i)) hn (fun S' g1 g2 g3 => hr S' g1 g2 (fun a ha => by rw [g3 a ha, xsR ha]))
    obtain ⟨S9, hrest, q2⟩ := hrest
    refine ⟨S9, ?_, q2⟩
    rw [rX10_open_17]
    by_cases z : i < 64
    · have e : arF i = 0 := if_pos z
      rw [e] at hrest
      have h2 : ¬ (64 : Int32) ≤ nI i := nI_ge (b := 64) z (by decide)
      simp (config := { decide := true }) only [rX10_open_0, rX10_open_1, rX10_open_2, rX10_open_5, rX10_open_6, rX10_open_7, rX10_open_10, rX10_open_11, rX10_open_12, rX10_open_15, rX10_open_16, rX10_open_18, rX10_open_20, rX10_open_23, rX10_open_24, rX10_open_27, rX10_open_28, rX10_open_29, rX10_open_31, rX10_open_34, rX10_open_35, rX10_open_38, rX10_open_39, rX10_open_41, rX10_open_42, rX10_open_45, rX10_open_48, rX10_open_52, rX10_open_55, rX10_open_56, rX10_open_57, rX10_open_60, rX10_open_61, rX10_open_64, rX10_open_66, rX10_open_67, rX10_open_70, rX10_open_71, rX10_open_74, rX10_open_76, rX10_open_77, rX10_open_80, rX10_open_81, rX10_open_83, rX10_open_85, rX10_open_88, rX10_open_89, rX10_open_92, rX10_open_93, rX10_open_94, rX10_open_97, rX10_open_98, rX10_open_101, rX10_open_104, rX10_open_107, ↓reduceIte, m1_le, m1_lt, m1_eq, ofInt_m1, ex_ret, Int32.reduceAdd, Int32.reduceSub, Int32.reduceMul, Int32.reduceLT, Int32.reduceLE, xsI, Nat.reduceEqDiff, and_false, false_and, and_true, true_and, if_true, if_false, ite_true, ite_false, xlook_0, xlook_s, xI_int, xA_ref, xJ_long, xK_some, xRow_row, xTo_some, xst1, xclr, List.set_cons_zero, List.set_cons_succ, xsum_nil, xsum_int, xsum_ref, xsum_long, Option.toList_some, Option.toList_none, List.nil_append, List.cons_append, h1, h2, s_at (show SK[50]? = some (.inl (0, 95)) from rfl) (by decide : 95 < 2 ^ 31), s_put (show SK[50]? = some (.inl (0, 95)) from rfl) (by decide : 95 < 2 ^ 31), xput_in, hlt, nI_1]
      exact hrest
    · obtain ⟨m, rfl⟩ : ∃ m, i = m + 64 := ⟨i - 64, by omega⟩
      have e : arF (m + 64) = nI m := by unfold arF; rw [if_neg z, Nat.add_sub_cancel]
      rw [e] at hrest
      have h2 : (64 : Int32) ≤ nI (m + 64) := nI_le (a := 64) (by omega) (by omega)
      simp (config := { decide := true }) only [rX10_open_0, rX10_open_1, rX10_open_2, rX10_open_5, rX10_open_6, rX10_open_7, rX10_open_10, rX10_open_11, rX10_open_12, rX10_open_15, rX10_open_16, rX10_open_18, rX10_open_20, rX10_open_23, rX10_open_24, rX10_open_27, rX10_open_28, rX10_open_29, rX10_open_31, rX10_open_34, rX10_open_35, rX10_open_38, rX10_open_39, rX10_open_41, rX10_open_42, rX10_open_45, rX10_open_48, rX10_open_52, rX10_open_55, rX10_open_56, rX10_open_57, rX10_open_60, rX10_open_61, rX10_open_64, rX10_open_66, rX10_open_67, rX10_open_70, rX10_open_71, rX10_open_74, rX10_open_76, rX10_open_77, rX10_open_80, rX10_open_81, rX10_open_83, rX10_open_85, rX10_open_88, rX10_open_89, rX10_open_92, rX10_open_93, rX10_open_94, rX10_open_97, rX10_open_98, rX10_open_101, rX10_open_104, rX10_open_107, ↓reduceIte, m1_le, m1_lt, m1_eq, ofInt_m1, ex_ret, Int32.reduceAdd, Int32.reduceSub, Int32.reduceMul, Int32.reduceLT, Int32.reduceLE, xsI, Nat.reduceEqDiff, and_false, false_and, and_true, true_and, if_true, if_false, ite_true, ite_false, xlook_0, xlook_s, xI_int, xA_ref, xJ_long, xK_some, xRow_row, xTo_some, xst1, xclr, List.set_cons_zero, List.set_cons_succ, xsum_nil, xsum_int, xsum_ref, xsum_long, Option.toList_some, Option.toList_none, List.nil_append, List.cons_append, h1, h2, nS64, s_at (show SK[50]? = some (.inl (0, 95)) from rfl) (by decide : 95 < 2 ^ 31), s_put (show SK[50]? = some (.inl (0, 95)) from rfl) (by decide : 95 < 2 ^ 31), xput_in, hlt, nI_1]
      exact hrest
set_option maxHeartbeats 4000000 in
set_option maxRecDepth 100000 in
theorem kd_loop {d : Nat} {Q : xS → Prop} : ∀ k i, i + k = 9 → ∀ S : xS, S.1 5 11 = nI i → (∀ j, j < i → S.1 44 j = nI j) → (∀ S' : xS, S'.1 5 11 = nI 9 → (∀ j, j < 9 → S'.1 44 j = nI j) → S'.2 = S.2 → (∀ a, ¬ a = 5 → ¬ a = 44 → ¬ a = 45 → ¬ a = 47 → S'.1 a = S.1 a) → (∀ q, ¬ q = 11 → S'.1 5 q = S.1 5 q) → ∃ S9, XL SK MT (d + 2) 263 (107, [some (.ref 5), some (.int (nI 9))], [], S') (none, S9) ∧ Q S9) → ∃ S9, XL SK MT (d + 2) 263 (82, [some (.ref 5), some (.int (nI i))], [], S) (none, S9) ∧ Q S9 := by
  intro k
  induction k with
  | zero =>
    intro i hi S h0 h hr
    obtain rfl : i = 9 := hi
    obtain ⟨S9, this, q2⟩ := hr S h0 h rfl (fun _ _ _ _ _ => rfl) (fun _ _ => rfl)
    refine ⟨S9, ?_, q2⟩
    rw [rX10_open_82]
    simp (config := { decide := true }) only [rX10_open_0, rX10_open_1, rX10_open_2, rX10_open_5, rX10_open_6, rX10_open_7, rX10_open_10, rX10_open_11, rX10_open_12, rX10_open_15, rX10_open_16, rX10_open_18, rX10_open_20, rX10_open_23, rX10_open_24, rX10_open_27, rX10_open_28, rX10_open_29, rX10_open_31, rX10_open_34, rX10_open_35, rX10_open_38, rX10_open_39, rX10_open_41, rX10_open_42, rX10_open_45, rX10_open_48, rX10_open_52, rX10_open_55, rX10_open_56, rX10_open_57, rX10_open_60, rX10_open_61, rX10_open_64, rX10_open_66, rX10_open_67, rX10_open_70, rX10_open_71, rX10_open_74, rX10_open_76, rX10_open_77, rX10_open_80, rX10_open_81, rX10_open_83, rX10_open_85, rX10_open_88, rX10_open_89, rX10_open_92, rX10_open_93, rX10_open_94, rX10_open_97, rX10_open_98, rX10_open_101, rX10_open_104, ↓reduceIte, m1_le, m1_lt, m1_eq, ofInt_m1, ex_ret, Int32.reduceAdd, Int32.reduceSub, Int32.reduceMul, Int32.reduceLT, Int32.reduceLE, xsI, Nat.reduceEqDiff, and_false, false_and, and_true, true_and, if_true, if_false, ite_true, ite_false, xlook_0, xlook_s, xI_int, xA_ref, xJ_long, xK_some, xRow_row, xTo_some, xst1, xclr, List.set_cons_zero, List.set_cons_succ, xsum_nil, xsum_int, xsum_ref, xsum_long, Option.toList_some, Option.toList_none, List.nil_append, List.cons_append, show (9 : Int32) ≤ nI 9 by decide]
    exact this
  | succ k ih =>
    intro i hi S h0 h hr
    have hlt : i < 9 := by omega
    have h1 : ¬ (9 : Int32) ≤ nI i := nI_ge (b := 9) hlt (by decide)
    have p1 := s_fresh (d := d) (h := 0) h0 (by omega)
    generalize hS1 : xsetI (frS S i 0) 44 i (nI i) = S1
    have n1 : S1.1 5 11 = nI (i + 1) := by rw [← hS1]; rfl
    have k1 : ∀ j, j < i + 1 → S1.1 44 j = nI j := by
      intro j hj
      rw [← hS1]
      unfold frS
      by_cases z : j = i
      · subst z; simp (config := { decide := true }) only [xsI, and_self, if_true]
      · simp (config := { decide := true }) only [xsI, z, and_false, false_and, if_false]; exact h j (by omega)
    have hrest := ih (i + 1) (by omega) S1 n1 k1 (fun S' g1 g2 g3 g4 g5 => hr S' g1 g2 (by rw [g3, ← hS1]; rfl) (fun a a1 a2 a3 a4 => by rw [g4 a a1 a2 a3 a4, ← hS1, xsR a2]; unfold frS; rw [xsR a4, xsR a3, xsR a2, xsR a1]) (fun q hq => by rw [g5 q hq, ← hS1, xsR (by decide)]; unfold frS; rw [xsR (by decide), xsR (by decide), xsR (by decide), xsI, if_neg (fun z => hq z.2)]))
    obtain ⟨S9, hrest, q2⟩ := hrest
    refine ⟨S9, ?_, q2⟩
    rw [rX10_open_82]
    simp (config := { decide := true }) only [rX10_open_0, rX10_open_1, rX10_open_2, rX10_open_5, rX10_open_6, rX10_open_7, rX10_open_10, rX10_open_11, rX10_open_12, rX10_open_15, rX10_open_16, rX10_open_18, rX10_open_20, rX10_open_23, rX10_open_24, rX10_open_27, rX10_open_28, rX10_open_29, rX10_open_31, rX10_open_34, rX10_open_35, rX10_open_38, rX10_open_39, rX10_open_41, rX10_open_42, rX10_open_45, rX10_open_48, rX10_open_52, rX10_open_55, rX10_open_56, rX10_open_57, rX10_open_60, rX10_open_61, rX10_open_64, rX10_open_66, rX10_open_67, rX10_open_70, rX10_open_71, rX10_open_74, rX10_open_76, rX10_open_77, rX10_open_80, rX10_open_81, rX10_open_83, rX10_open_85, rX10_open_88, rX10_open_89, rX10_open_92, rX10_open_93, rX10_open_94, rX10_open_97, rX10_open_98, rX10_open_101, rX10_open_104, rX10_open_107, ↓reduceIte, m1_le, m1_lt, m1_eq, ofInt_m1, ex_ret, Int32.reduceAdd, Int32.reduceSub, Int32.reduceMul, Int32.reduceLT, Int32.reduceLE, xsI, Nat.reduceEqDiff, and_false, false_and, and_true, true_and, if_true, if_false, ite_true, ite_false, xlook_0, xlook_s, xI_int, xA_ref, xJ_long, xK_some, xRow_row, xTo_some, xst1, xclr, List.set_cons_zero, List.set_cons_succ, xsum_nil, xsum_int, xsum_ref, xsum_long, Option.toList_some, Option.toList_none, List.nil_append, List.cons_append, h1, p1, s_at (show SK[44]? = some (.inl (0, 212992)) from rfl) (by decide : 212992 < 2 ^ 31), s_put (show SK[44]? = some (.inl (0, 212992)) from rfl) (by decide : 212992 < 2 ^ 31), xput_in, show i < 212992 by omega, hS1, nI_1]
    exact hrest
/-- the types known ahead, and nothing else -/
def TO (S : xS) : Prop := S.1 5 11 = nI 9 ∧ S.1 5 15 = 0 ∧ S.1 5 12 = 0 ∧ (∀ j, j < 9 → S.1 44 j = nI j) ∧ S.1 50 2 = 0 ∧ S.1 50 3 = 0 ∧ S.1 50 6 = 0 ∧ S.1 50 7 = 1
set_option maxHeartbeats 4000000 in
set_option maxRecDepth 100000 in
theorem s_topen {d : Nat} {S : xS} : ∃ S1, XC SK MT (d + 3) 263 [.ref 5] S = some (none, S1) ∧ TO S1 ∧ S1.1 5 13 = S.1 5 13 ∧ S1.2 = S.2 ∧ ∀ a, ¬ a = 5 → ¬ (42 ≤ a ∧ a ≤ 52) → S1.1 a = S.1 a := by
  have key : ∃ S9, XL SK MT (d + 2) 263 (0, [some (.ref 5), none], [], S) (none, S9) ∧ (TO S9 ∧ S9.1 5 13 = S.1 5 13 ∧ S9.2 = S.2 ∧ ∀ a, ¬ a = 5 → ¬ (42 ≤ a ∧ a ≤ 52) → S9.1 a = S.1 a) := by
    refine Exists.elim (ar_loop (d := d) (Q := fun S9 => TO S9 ∧ S9.1 5 13 = S.1 5 13 ∧ S9.2 = S.2 ∧ ∀ a, ¬ a = 5 → ¬ (42 ≤ a ∧ a ≤ 52) → S9.1 a = S.1 a) 95 0 (by omega) (xsetI (xsetI (xsetI S 5 11 0) 5 12 0) 5 15 0) (fun j hj => absurd hj (Nat.not_lt_zero j)) (fun S2 g1 g2 g3 => ?_)) (fun S9 h => ⟨S9, ?_, h.2⟩)
    rotate_left
    · simp (config := { decide := true }) only [rX10_open_0, rX10_open_1, rX10_open_2, rX10_open_5, rX10_open_6, rX10_open_7, rX10_open_10, rX10_open_11, rX10_open_12, rX10_open_15, rX10_open_16, rX10_open_18, rX10_open_20, rX10_open_23, rX10_open_24, rX10_open_27, rX10_open_28, rX10_open_29, rX10_open_31, rX10_open_34, rX10_open_35, rX10_open_38, rX10_open_39, rX10_open_41, rX10_open_42, rX10_open_45, rX10_open_48, rX10_open_52, rX10_open_55, rX10_open_56, rX10_open_57, rX10_open_60, rX10_open_61, rX10_open_64, rX10_open_66, rX10_open_67, rX10_open_70, rX10_open_71, rX10_open_74, rX10_open_76, rX10_open_77, rX10_open_80, rX10_open_81, rX10_open_83, rX10_open_85, rX10_open_88, rX10_open_89, rX10_open_92, rX10_open_93, rX10_open_94, rX10_open_97, rX10_open_98, rX10_open_101, rX10_open_104, rX10_open_107, ↓reduceIte, m1_le, m1_lt, m1_eq, ofInt_m1, ex_ret, Int32.reduceAdd, Int32.reduceSub, Int32.reduceMul, Int32.reduceLT, Int32.reduceLE, xsI, Nat.reduceEqDiff, and_false, false_and, and_true, true_and, if_true, if_false, ite_true, ite_false, xlook_0, xlook_s, xI_int, xA_ref, xJ_long, xK_some, xRow_row, xTo_some, xst1, xclr, List.set_cons_zero, List.set_cons_succ, xsum_nil, xsum_int, xsum_ref, xsum_long, Option.toList_some, Option.toList_none, List.nil_append, List.cons_append]
      exact h.1
    refine Exists.elim (kd_loop (d := d) (Q := fun S9 => TO S9 ∧ S9.1 5 13 = S.1 5 13 ∧ S9.2 = S.2 ∧ ∀ a, ¬ a = 5 → ¬ (42 ≤ a ∧ a ≤ 52) → S9.1 a = S.1 a) 9 0 (by omega) (xsetI (xsetI (xsetI S2 50 0 2) 50 7 1) 50 8 1) (by rw [xsR (by decide), xsR (by decide), xsR (by decide), g3 5 (by decide)]; rfl) (fun j hj => absurd hj (Nat.not_lt_zero j)) (fun S3 b1 b2 b3 b4 b5 => ?_)) (fun S9 h => ⟨S9, ?_, h.2⟩)
    rotate_left
    · rw [rX10_open_51]
      simp (config := { decide := true }) only [rX10_open_0, rX10_open_1, rX10_open_2, rX10_open_5, rX10_open_6, rX10_open_7, rX10_open_10, rX10_open_11, rX10_open_12, rX10_open_15, rX10_open_16, rX10_open_18, rX10_open_20, rX10_open_23, rX10_open_24, rX10_open_27, rX10_open_28, rX10_open_29, rX10_open_31, rX10_open_34, rX10_open_35, rX10_open_38, rX10_open_39, rX10_open_41, rX10_open_42, rX10_open_45, rX10_open_48, rX10_open_52, rX10_open_55, rX10_open_56, rX10_open_57, rX10_open_60, rX10_open_61, rX10_open_64, rX10_open_66, rX10_open_67, rX10_open_70, rX10_open_71, rX10_open_74, rX10_open_76, rX10_open_77, rX10_open_80, rX10_open_81, rX10_open_83, rX10_open_85, rX10_open_88, rX10_open_89, rX10_open_92, rX10_open_93, rX10_open_94, rX10_open_97, rX10_open_98, rX10_open_101, rX10_open_104, rX10_open_107, ↓reduceIte, m1_le, m1_lt, m1_eq, ofInt_m1, ex_ret, Int32.reduceAdd, Int32.reduceSub, Int32.reduceMul, Int32.reduceLT, Int32.reduceLE, xsI, Nat.reduceEqDiff, and_false, false_and, and_true, true_and, if_true, if_false, ite_true, ite_false, xlook_0, xlook_s, xI_int, xA_ref, xJ_long, xK_some, xRow_row, xTo_some, xst1, xclr, List.set_cons_zero, List.set_cons_succ, xsum_nil, xsum_int, xsum_ref, xsum_long, Option.toList_some, Option.toList_none, List.nil_append, List.cons_append, s_at (show SK[50]? = some (.inl (0, 95)) from rfl) (by decide : 95 < 2 ^ 31), s_put (show SK[50]? = some (.inl (0, 95)) from rfl) (by decide : 95 < 2 ^ 31), xput_l, Int32.reduceToNatClampNeg]
      exact h.1
    refine ⟨S3, ?_, ⟨b1, ?_, ?_, b2, ?_, ?_, ?_, ?_⟩, ?_, b3.trans g2, fun a a1 a2 => ?_⟩
    · simp (config := { decide := true }) only [rX10_open_0, rX10_open_1, rX10_open_2, rX10_open_5, rX10_open_6, rX10_open_7, rX10_open_10, rX10_open_11, rX10_open_12, rX10_open_15, rX10_open_16, rX10_open_18, rX10_open_20, rX10_open_23, rX10_open_24, rX10_open_27, rX10_open_28, rX10_open_29, rX10_open_31, rX10_open_34, rX10_open_35, rX10_open_38, rX10_open_39, rX10_open_41, rX10_open_42, rX10_open_45, rX10_open_48, rX10_open_52, rX10_open_55, rX10_open_56, rX10_open_57, rX10_open_60, rX10_open_61, rX10_open_64, rX10_open_66, rX10_open_67, rX10_open_70, rX10_open_71, rX10_open_74, rX10_open_76, rX10_open_77, rX10_open_80, rX10_open_81, rX10_open_83, rX10_open_85, rX10_open_88, rX10_open_89, rX10_open_92, rX10_open_93, rX10_open_94, rX10_open_97, rX10_open_98, rX10_open_101, rX10_open_104, rX10_open_107, ↓reduceIte, m1_le, m1_lt, m1_eq, ofInt_m1, ex_ret, Int32.reduceAdd, Int32.reduceSub, Int32.reduceMul, Int32.reduceLT, Int32.reduceLE, xsI, Nat.reduceEqDiff, and_false, false_and, and_true, true_and, if_true, if_false, ite_true, ite_false, xlook_0, xlook_s, xI_int, xA_ref, xJ_long, xK_some, xRow_row, xTo_some, xst1, xclr, List.set_cons_zero, List.set_cons_succ, xsum_nil, xsum_int, xsum_ref, xsum_long, Option.toList_some, Option.toList_none, List.nil_append, List.cons_append]
    · rw [b5 _ (by decide), xsR (by decide), xsR (by decide), xsR (by decide), g3 5 (by decide)]; rfl
    · rw [b5 _ (by decide), xsR (by decide), xsR (by decide), xsR (by decide), g3 5 (by decide)]; rfl
    · rw [b4 _ (by decide) (by decide) (by decide) (by decide), xsI, if_neg (by decide), xsI, if_neg (by decide), xsI, if_neg (by decide), g1 _ (by decide)]; rfl
    · rw [b4 _ (by decide) (by decide) (by decide) (by decide), xsI, if_neg (by decide), xsI, if_neg (by decide), xsI, if_neg (by decide), g1 _ (by decide)]; rfl
    · rw [b4 _ (by decide) (by decide) (by decide) (by decide), xsI, if_neg (by decide), xsI, if_neg (by decide), xsI, if_neg (by decide), g1 _ (by decide)]; rfl
    · rw [b4 _ (by decide) (by decide) (by decide) (by decide), xsI, if_neg (by decide), xsI, if_pos (by decide)]
    · rw [b5 _ (by decide), xsR (by decide), xsR (by decide), xsR (by decide), g3 5 (by decide)]; rfl
    · rw [b4 a a1 (by omega) (by omega) (by omega), xsR (by omega), xsR (by omega), xsR (by omega), g3 a (by omega), xsR a1, xsR a1, xsR a1]
  obtain ⟨S9, h8, h9⟩ := key
  exact ⟨S9, XC_iff.mpr ⟨Nat.le_of_ble_eq_true rfl, h8⟩, h9⟩
