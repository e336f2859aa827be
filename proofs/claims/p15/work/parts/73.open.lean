/-! XF: rows, then what is proved of them. -/
theorem rX4_forget_0 {d : Nat} {lv : xLV} {st : List Value} {S : xS} {r : xO} : XL SK MT d 118 (0, lv, st, S) r ↔ XL SK MT d 118 (1, lv, .int 0 :: st, S) r := X_pure rfl rfl rfl
theorem rX4_forget_1 {d : Nat} {lv : xLV} {st : List Value} {S : xS} {r : xO} {x : Int32} : XL SK MT d 118 (1, lv, .int x :: st, S) r ↔ XL SK MT d 118 (2, xst1 lv 1 (.int x), st, S) r := X_pure rfl rfl rfl
theorem rX4_forget_2 {d : Nat} {lv : xLV} {st : List Value} {S : xS} {r : xO} : XL SK MT d 118 (2, lv, st, S) r ↔ xI (xlook lv 1) (fun x => XL SK MT d 118 (3, lv, .int x :: st, S) r) := X_ldI rfl rfl (fun _ => rfl) rfl rfl rfl rfl
theorem rX4_forget_3 {d : Nat} {lv : xLV} {st : List Value} {S : xS} {r : xO} : XL SK MT d 118 (3, lv, st, S) r ↔ XL SK MT d 118 (6, lv, .int 512 :: st, S) r := X_pure rfl rfl rfl
theorem rX4_forget_6 {d : Nat} {lv : xLV} {st : List Value} {S : xS} {r : xO} {x z : Int32} : XL SK MT d 118 (6, lv, .int z :: .int x :: st, S) r ↔ if z ≤ x then XL SK MT d 118 (63, lv, st, S) r else XL SK MT d 118 (9, lv, st, S) r := (X_icmp rfl rfl).trans xc_ge
theorem rX4_forget_9 {d : Nat} {lv : xLV} {st : List Value} {S : xS} {r : xO} : XL SK MT d 118 (9, lv, st, S) r ↔ xA (xlook lv 0) (fun x => XL SK MT d 118 (10, lv, .ref x :: st, S) r) := X_ldA rfl rfl (fun _ => rfl) rfl rfl rfl rfl
theorem rX4_forget_10 {d : Nat} {lv : xLV} {st : List Value} {S : xS} {r : xO} : XL SK MT d 118 (10, lv, .ref 1 :: st, S) r ↔ XL SK MT d 118 (13, lv, .ref 20 :: st, S) r := X_heap rfl rfl rfl rfl rfl
theorem rX4_forget_13 {d : Nat} {lv : xLV} {st : List Value} {S : xS} {r : xO} : XL SK MT d 118 (13, lv, st, S) r ↔ xI (xlook lv 1) (fun x => XL SK MT d 118 (14, lv, .int x :: st, S) r) := X_ldI rfl rfl (fun _ => rfl) rfl rfl rfl rfl
theorem rX4_forget_14 {d : Nat} {lv : xLV} {S : xS} {r : xO} {x1 : Nat} {x2 : Int32} : XL SK MT d 118 (14, lv, [.int x2, .ref x1], S) r ↔ xK (XC SK MT d 303 [.ref x1, .int x2] S) (fun v S => XL SK MT d 118 (17, lv, v.toList ++ [], S) r) := X_inv (n := 2) (kd := 1) (st0 := [.int x2, .ref x1]) rfl (Or.inl ⟨rfl, rfl⟩) rfl (Nat.le_of_ble_eq_true rfl) (Nat.le_of_ble_eq_true rfl) (by decide) rfl
theorem rX4_forget_17 {d : Nat} {lv : xLV} {st : List Value} {S : xS} {r : xO} {x : Int32} : XL SK MT d 118 (17, lv, .int x :: st, S) r ↔ XL SK MT d 118 (18, xst1 lv 2 (.int x), st, S) r := X_pure rfl rfl rfl
theorem rX4_forget_18 {d : Nat} {lv : xLV} {st : List Value} {S : xS} {r : xO} : XL SK MT d 118 (18, lv, st, S) r ↔ XL SK MT d 118 (19, lv, .int 0 :: st, S) r := X_pure rfl rfl rfl
theorem rX4_forget_19 {d : Nat} {lv : xLV} {st : List Value} {S : xS} {r : xO} {x : Int32} : XL SK MT d 118 (19, lv, .int x :: st, S) r ↔ XL SK MT d 118 (20, xst1 lv 3 (.int x), st, S) r := X_pure rfl rfl rfl
theorem rX4_forget_20 {d : Nat} {lv : xLV} {st : List Value} {S : xS} {r : xO} : XL SK MT d 118 (20, lv, st, S) r ↔ xI (xlook lv 3) (fun x => XL SK MT d 118 (21, lv, .int x :: st, S) r) := X_ldI rfl rfl (fun _ => rfl) rfl rfl rfl rfl
theorem rX4_forget_21 {d : Nat} {lv : xLV} {st : List Value} {S : xS} {r : xO} : XL SK MT d 118 (21, lv, st, S) r ↔ XL SK MT d 118 (24, lv, .int 2176 :: st, S) r := X_pure rfl rfl rfl
theorem rX4_forget_24 {d : Nat} {lv : xLV} {st : List Value} {S : xS} {r : xO} {x z : Int32} : XL SK MT d 118 (24, lv, .int z :: .int x :: st, S) r ↔ if z ≤ x then XL SK MT d 118 (48, lv, st, S) r else XL SK MT d 118 (27, lv, st, S) r := (X_icmp rfl rfl).trans xc_ge
theorem rX4_forget_27 {d : Nat} {lv : xLV} {st : List Value} {S : xS} {r : xO} : XL SK MT d 118 (27, lv, st, S) r ↔ xI (xlook lv 2) (fun x => XL SK MT d 118 (28, lv, .int x :: st, S) r) := X_ldI rfl rfl (fun _ => rfl) rfl rfl rfl rfl
theorem rX4_forget_28 {d : Nat} {lv : xLV} {st : List Value} {S : xS} {r : xO} : XL SK MT d 118 (28, lv, st, S) r ↔ XL SK MT d 118 (30, lv, .int 51 :: st, S) r := X_pure rfl rfl rfl
theorem rX4_forget_30 {d : Nat} {lv : xLV} {st : List Value} {S : xS} {r : xO} {x z : Int32} : XL SK MT d 118 (30, lv, .int z :: .int x :: st, S) r ↔ if x < z then XL SK MT d 118 (48, lv, st, S) r else XL SK MT d 118 (33, lv, st, S) r := (X_icmp rfl rfl).trans xc_lt
theorem rX4_forget_33 {d : Nat} {lv : xLV} {st : List Value} {S : xS} {r : xO} : XL SK MT d 118 (33, lv, st, S) r ↔ xA (xlook lv 0) (fun x => XL SK MT d 118 (34, lv, .ref x :: st, S) r) := X_ldA rfl rfl (fun _ => rfl) rfl rfl rfl rfl
theorem rX4_forget_34 {d : Nat} {lv : xLV} {st : List Value} {S : xS} {r : xO} : XL SK MT d 118 (34, lv, .ref 1 :: st, S) r ↔ XL SK MT d 118 (37, lv, .ref 21 :: st, S) r := X_heap rfl rfl rfl rfl rfl
theorem rX4_forget_37 {d : Nat} {lv : xLV} {st : List Value} {S : xS} {r : xO} : XL SK MT d 118 (37, lv, st, S) r ↔ xI (xlook lv 2) (fun x => XL SK MT d 118 (38, lv, .int x :: st, S) r) := X_ldI rfl rfl (fun _ => rfl) rfl rfl rfl rfl
theorem rX4_forget_38 {d : Nat} {lv : xLV} {S : xS} {r : xO} {x1 : Nat} {x2 : Int32} : XL SK MT d 118 (38, lv, [.int x2, .ref x1], S) r ↔ xK (XC SK MT d 303 [.ref x1, .int x2] S) (fun v S => XL SK MT d 118 (41, lv, v.toList ++ [], S) r) := X_inv (n := 2) (kd := 1) (st0 := [.int x2, .ref x1]) rfl (Or.inl ⟨rfl, rfl⟩) rfl (Nat.le_of_ble_eq_true rfl) (Nat.le_of_ble_eq_true rfl) (by decide) rfl
theorem rX4_forget_41 {d : Nat} {lv : xLV} {st : List Value} {S : xS} {r : xO} {x : Int32} : XL SK MT d 118 (41, lv, .int x :: st, S) r ↔ XL SK MT d 118 (42, xst1 lv 2 (.int x), st, S) r := X_pure rfl rfl rfl
theorem rX4_forget_42 {d : Nat} {lv : xLV} {st : List Value} {S : xS} {r : xO} : XL SK MT d 118 (42, lv, st, S) r ↔ xI (xlook lv 3) (fun x => XL SK MT d 118 (45, xst1 lv 3 (.int (x + 1)), st, S) r) := X_inc (i := 3) (n := 1) rfl (Nat.le_of_ble_eq_true rfl)
theorem rX4_forget_45 {d : Nat} {lv : xLV} {st : List Value} {S : xS} {r : xO} : XL SK MT d 118 (45, lv, st, S) r ↔ XL SK MT d 118 (20, lv, st, S) r := X_jump rfl rfl rfl
theorem rX4_forget_48 {d : Nat} {lv : xLV} {st : List Value} {S : xS} {r : xO} : XL SK MT d 118 (48, lv, st, S) r ↔ xA (xlook lv 0) (fun x => XL SK MT d 118 (49, lv, .ref x :: st, S) r) := X_ldA rfl rfl (fun _ => rfl) rfl rfl rfl rfl
theorem rX4_forget_49 {d : Nat} {lv : xLV} {st : List Value} {S : xS} {r : xO} : XL SK MT d 118 (49, lv, .ref 1 :: st, S) r ↔ XL SK MT d 118 (52, lv, .ref 20 :: st, S) r := X_heap rfl rfl rfl rfl rfl
theorem rX4_forget_52 {d : Nat} {lv : xLV} {st : List Value} {S : xS} {r : xO} : XL SK MT d 118 (52, lv, st, S) r ↔ xI (xlook lv 1) (fun x => XL SK MT d 118 (53, lv, .int x :: st, S) r) := X_ldI rfl rfl (fun _ => rfl) rfl rfl rfl rfl
theorem rX4_forget_53 {d : Nat} {lv : xLV} {st : List Value} {S : xS} {r : xO} : XL SK MT d 118 (53, lv, st, S) r ↔ xI (xlook lv 2) (fun x => XL SK MT d 118 (54, lv, .int x :: st, S) r) := X_ldI rfl rfl (fun _ => rfl) rfl rfl rfl rfl
theorem rX4_forget_54 {d : Nat} {lv : xLV} {S : xS} {r : xO} {x1 : Nat} {x2 : Int32} {x3 : Int32} : XL SK MT d 118 (54, lv, [.int x3, .int x2, .ref x1], S) r ↔ xK (XC SK MT d 304 [.ref x1, .int x2, .int x3] S) (fun v S => XL SK MT d 118 (57, lv, v.toList ++ [], S) r) := X_inv (n := 3) (kd := 1) (st0 := [.int x3, .int x2, .ref x1]) rfl (Or.inl ⟨rfl, rfl⟩) rfl (Nat.le_of_ble_eq_true rfl) (Nat.le_of_ble_eq_true rfl) (by decide) rfl
theorem rX4_forget_57 {d : Nat} {lv : xLV} {st : List Value} {S : xS} {r : xO} : XL SK MT d 118 (57, lv, st, S) r ↔ xI (xlook lv 1) (fun x => XL SK MT d 118 (60, xst1 lv 1 (.int (x + 1)), st, S) r) := X_inc (i := 1) (n := 1) rfl (Nat.le_of_ble_eq_true rfl)
theorem rX4_forget_60 {d : Nat} {lv : xLV} {st : List Value} {S : xS} {r : xO} : XL SK MT d 118 (60, lv, st, S) r ↔ XL SK MT d 118 (2, lv, st, S) r := X_jump rfl rfl rfl
theorem rX4_forget_63 {d : Nat} {lv : xLV} {st : List Value} {S : xS} {r : xO} : XL SK MT d 118 (63, lv, st, S) r ↔ xA (xlook lv 0) (fun x => XL SK MT d 118 (64, lv, .ref x :: st, S) r) := X_ldA rfl rfl (fun _ => rfl) rfl rfl rfl rfl
theorem rX4_forget_64 {d : Nat} {lv : xLV} {st : List Value} {S : xS} {r : xO} : XL SK MT d 118 (64, lv, st, S) r ↔ XL SK MT d 118 (66, lv, .int 51 :: st, S) r := X_pure rfl rfl rfl
theorem rX4_forget_66 {d : Nat} {lv : xLV} {st : List Value} {S : xS} {r : xO} {x : Int32} : XL SK MT d 118 (66, lv, .int x :: .ref 1 :: st, S) r ↔ XL SK MT d 118 (69, lv, st, (xsetI S 1 7 x)) r := X_heap rfl rfl rfl rfl rfl
theorem rX4_forget_69 {d : Nat} {lv : xLV} {st : List Value} {S : xS} {r : xO} : XL SK MT d 118 (69, lv, st, S) r ↔ xA (xlook lv 0) (fun x => XL SK MT d 118 (70, lv, .ref x :: st, S) r) := X_ldA rfl rfl (fun _ => rfl) rfl rfl rfl rfl
theorem rX4_forget_70 {d : Nat} {lv : xLV} {st : List Value} {S : xS} {r : xO} : XL SK MT d 118 (70, lv, st, S) r ↔ xA (xlook lv 0) (fun x => XL SK MT d 118 (71, lv, .ref x :: st, S) r) := X_ldA rfl rfl (fun _ => rfl) rfl rfl rfl rfl
theorem rX4_forget_71 {d : Nat} {lv : xLV} {st : List Value} {S : xS} {r : xO} : XL SK MT d 118 (71, lv, .ref 1 :: st, S) r ↔ XL SK MT d 118 (74, lv, .int (S.1 1 9) :: st, S) r := X_heap rfl rfl rfl rfl rfl
theorem rX4_forget_74 {d : Nat} {lv : xLV} {st : List Value} {S : xS} {r : xO} {x : Int32} : XL SK MT d 118 (74, lv, .int x :: .ref 1 :: st, S) r ↔ XL SK MT d 118 (77, lv, st, (xsetI S 1 8 x)) r := X_heap rfl rfl rfl rfl rfl
theorem rX4_forget_77 {d : Nat} {lv : xLV} {S : xS} {r : xO} : XL SK MT d 118 (77, lv, [], S) r ↔ (none, S) = r := X_ret rfl rfl rfl rfl rfl rfl

theorem rX4_open_0 {d : Nat} {lv : xLV} {st : List Value} {S : xS} {r : xO} : XL SK MT d 114 (0, lv, st, S) r ↔ xA (xlook lv 0) (fun x => XL SK MT d 114 (1, lv, .ref x :: st, S) r) := X_ldA rfl rfl (fun _ => rfl) rfl rfl rfl rfl
theorem rX4_open_1 {d : Nat} {lv : xLV} {st : List Value} {S : xS} {r : xO} : XL SK MT d 114 (1, lv, st, S) r ↔ xI (xlook lv 1) (fun x => XL SK MT d 114 (2, lv, .int x :: st, S) r) := X_ldI rfl rfl (fun _ => rfl) rfl rfl rfl rfl
theorem rX4_open_2 {d : Nat} {lv : xLV} {st : List Value} {S : xS} {r : xO} {x : Int32} : XL SK MT d 114 (2, lv, .int x :: .ref 1 :: st, S) r ↔ XL SK MT d 114 (5, lv, st, (xsetI S 1 10 x)) r := X_heap rfl rfl rfl rfl rfl
theorem rX4_open_5 {d : Nat} {lv : xLV} {st : List Value} {S : xS} {r : xO} : XL SK MT d 114 (5, lv, st, S) r ↔ xA (xlook lv 0) (fun x => XL SK MT d 114 (6, lv, .ref x :: st, S) r) := X_ldA rfl rfl (fun _ => rfl) rfl rfl rfl rfl
theorem rX4_open_6 {d : Nat} {lv : xLV} {st : List Value} {S : xS} {r : xO} : XL SK MT d 114 (6, lv, st, S) r ↔ XL SK MT d 114 (7, lv, .int 0 :: st, S) r := X_pure rfl rfl rfl
theorem rX4_open_7 {d : Nat} {lv : xLV} {st : List Value} {S : xS} {r : xO} {x : Int32} : XL SK MT d 114 (7, lv, .int x :: .ref 1 :: st, S) r ↔ XL SK MT d 114 (10, lv, st, (xsetI S 1 11 x)) r := X_heap rfl rfl rfl rfl rfl
theorem rX4_open_10 {d : Nat} {lv : xLV} {st : List Value} {S : xS} {r : xO} : XL SK MT d 114 (10, lv, st, S) r ↔ xA (xlook lv 0) (fun x => XL SK MT d 114 (11, lv, .ref x :: st, S) r) := X_ldA rfl rfl (fun _ => rfl) rfl rfl rfl rfl
theorem rX4_open_11 {d : Nat} {lv : xLV} {st : List Value} {S : xS} {r : xO} : XL SK MT d 114 (11, lv, st, S) r ↔ XL SK MT d 114 (12, lv, .int 0 :: st, S) r := X_pure rfl rfl rfl
theorem rX4_open_12 {d : Nat} {lv : xLV} {st : List Value} {S : xS} {r : xO} {x : Int32} : XL SK MT d 114 (12, lv, .int x :: .ref 1 :: st, S) r ↔ XL SK MT d 114 (15, lv, st, (xsetI S 1 12 x)) r := X_heap rfl rfl rfl rfl rfl
theorem rX4_open_15 {d : Nat} {lv : xLV} {st : List Value} {S : xS} {r : xO} : XL SK MT d 114 (15, lv, st, S) r ↔ xA (xlook lv 0) (fun x => XL SK MT d 114 (16, lv, .ref x :: st, S) r) := X_ldA rfl rfl (fun _ => rfl) rfl rfl rfl rfl
theorem rX4_open_16 {d : Nat} {lv : xLV} {st : List Value} {S : xS} {r : xO} : XL SK MT d 114 (16, lv, st, S) r ↔ XL SK MT d 114 (17, lv, .int 0 :: st, S) r := X_pure rfl rfl rfl
theorem rX4_open_17 {d : Nat} {lv : xLV} {st : List Value} {S : xS} {r : xO} {x : Int32} : XL SK MT d 114 (17, lv, .int x :: .ref 1 :: st, S) r ↔ XL SK MT d 114 (20, lv, st, (xsetI S 1 16 x)) r := X_heap rfl rfl rfl rfl rfl
theorem rX4_open_20 {d : Nat} {lv : xLV} {st : List Value} {S : xS} {r : xO} : XL SK MT d 114 (20, lv, st, S) r ↔ xA (xlook lv 0) (fun x => XL SK MT d 114 (21, lv, .ref x :: st, S) r) := X_ldA rfl rfl (fun _ => rfl) rfl rfl rfl rfl
theorem rX4_open_21 {d : Nat} {lv : xLV} {st : List Value} {S : xS} {r : xO} : XL SK MT d 114 (21, lv, st, S) r ↔ XL SK MT d 114 (23, lv, .int 55 :: st, S) r := X_pure rfl rfl rfl
theorem rX4_open_23 {d : Nat} {lv : xLV} {st : List Value} {S : xS} {r : xO} {x : Int32} : XL SK MT d 114 (23, lv, .int x :: .ref 1 :: st, S) r ↔ XL SK MT d 114 (26, lv, st, (xsetI S 1 13 x)) r := X_heap rfl rfl rfl rfl rfl
theorem rX4_open_26 {d : Nat} {lv : xLV} {st : List Value} {S : xS} {r : xO} : XL SK MT d 114 (26, lv, st, S) r ↔ xA (xlook lv 0) (fun x => XL SK MT d 114 (27, lv, .ref x :: st, S) r) := X_ldA rfl rfl (fun _ => rfl) rfl rfl rfl rfl
theorem rX4_open_27 {d : Nat} {lv : xLV} {st : List Value} {S : xS} {r : xO} : XL SK MT d 114 (27, lv, st, S) r ↔ XL SK MT d 114 (28, lv, .int 0 :: st, S) r := X_pure rfl rfl rfl
theorem rX4_open_28 {d : Nat} {lv : xLV} {st : List Value} {S : xS} {r : xO} {x : Int32} : XL SK MT d 114 (28, lv, .int x :: .ref 1 :: st, S) r ↔ XL SK MT d 114 (31, lv, st, (xsetI S 1 14 x)) r := X_heap rfl rfl rfl rfl rfl
theorem rX4_open_31 {d : Nat} {lv : xLV} {st : List Value} {S : xS} {r : xO} : XL SK MT d 114 (31, lv, st, S) r ↔ xA (xlook lv 0) (fun x => XL SK MT d 114 (32, lv, .ref x :: st, S) r) := X_ldA rfl rfl (fun _ => rfl) rfl rfl rfl rfl
theorem rX4_open_32 {d : Nat} {lv : xLV} {S : xS} {r : xO} : XL SK MT d 114 (32, lv, [.ref 1], S) r ↔ xK (XC SK MT d 118 [.ref 1] S) (fun v S => XL SK MT d 114 (35, lv, v.toList ++ [], S) r) := X_inv (n := 1) (kd := 6) (st0 := [.ref 1]) rfl (Or.inr ⟨rfl, rfl⟩) rfl (Nat.le_of_ble_eq_true rfl) (Nat.le_of_ble_eq_true rfl) (by decide) rfl
theorem rX4_open_35 {d : Nat} {lv : xLV} {S : xS} {r : xO} : XL SK MT d 114 (35, lv, [], S) r ↔ (none, S) = r := X_ret rfl rfl rfl rfl rfl rfl

/-! Lexer: the text is opened. -/
theorem xsetI_self {S : xS} {a k : Nat} {x : Int32} (h : S.1 a k = x) : xsetI S a k x = S := by
  obtain ⟨f, g⟩ := S
  have e : (fun i j => if i = a ∧ j = k then x else f i j) = f := by
    funext i j
    by_cases z : i = a ∧ j = k
    · rw [if_pos z, z.1, z.2]; exact h.symm
    · rw [if_neg z]
  exact Prod.ext e rfl
/-- the heads of the chains are names known ahead, or none -/
def Hd (S : xS) : Prop := ∀ k, k < 512 → S.1 20 k < 51
def fgS (S : xS) : xS := xsetI (xsetI S 1 7 51) 1 8 (S.1 1 9)
set_option maxHeartbeats 4000000 in
set_option maxRecDepth 100000 in
theorem forget_loop {d : Nat} {S : xS} (hS : Hd S) : ∀ k i, i + k = 512 → ∀ l2 l3, XL SK MT (d + 1) 118 (2, [some (.ref 1), some (.int (nI i)), l2, l3], [], S) (none, fgS S) := by
  intro k
  induction k with
  | zero =>
    intro i hi l2 l3
    obtain rfl : i = 512 := hi
    rw [rX4_forget_2]
    simp (config := { decide := true }) only [rX4_forget_0, rX4_forget_1, rX4_forget_3, rX4_forget_6, rX4_forget_9, rX4_forget_10, rX4_forget_13, rX4_forget_14, rX4_forget_17, rX4_forget_18, rX4_forget_19, rX4_forget_20, rX4_forget_21, rX4_forget_24, rX4_forget_27, rX4_forget_28, rX4_forget_30, rX4_forget_33, rX4_forget_34, rX4_forget_37, rX4_forget_38, rX4_forget_41, rX4_forget_42, rX4_forget_45, rX4_forget_48, rX4_forget_49, rX4_forget_52, rX4_forget_53, rX4_forget_54, rX4_forget_57, rX4_forget_60, rX4_forget_63, rX4_forget_64, rX4_forget_66, rX4_forget_69, rX4_forget_70, rX4_forget_71, rX4_forget_74, rX4_forget_77, ↓reduceIte, m1_le, m1_lt, m1_eq, ofInt_m1, ex_ret, Int32.reduceAdd, Int32.reduceSub, Int32.reduceMul, Int32.reduceLT, Int32.reduceLE, xsI, Nat.reduceEqDiff, and_false, false_and, and_true, true_and, if_true, if_false, ite_true, ite_false, xlook_0, xlook_s, xI_int, xA_ref, xJ_long, xK_some, xRow_row, xTo_some, xst1, xclr, List.set_cons_zero, List.set_cons_succ, xsum_nil, xsum_int, xsum_ref, xsum_long, Option.toList_some, Option.toList_none, List.nil_append, List.cons_append, show (512 : Int32) ≤ nI 512 by decide]
    rfl
  | succ k ih =>
    intro i hi l2 l3
    have hlt : i < 512 := by omega
    have h1 : ¬ (512 : Int32) ≤ nI i := nI_ge (b := 512) hlt (by decide)
    have h2 := hS i hlt
    rw [rX4_forget_2]
    simp (config := { decide := true }) only [rX4_forget_0, rX4_forget_1, rX4_forget_3, rX4_forget_6, rX4_forget_9, rX4_forget_10, rX4_forget_13, rX4_forget_14, rX4_forget_17, rX4_forget_18, rX4_forget_19, rX4_forget_20, rX4_forget_21, rX4_forget_24, rX4_forget_27, rX4_forget_28, rX4_forget_30, rX4_forget_33, rX4_forget_34, rX4_forget_37, rX4_forget_38, rX4_forget_41, rX4_forget_42, rX4_forget_45, rX4_forget_48, rX4_forget_49, rX4_forget_52, rX4_forget_53, rX4_forget_54, rX4_forget_57, rX4_forget_60, rX4_forget_63, rX4_forget_64, rX4_forget_66, rX4_forget_69, rX4_forget_70, rX4_forget_71, rX4_forget_74, rX4_forget_77, ↓reduceIte, m1_le, m1_lt, m1_eq, ofInt_m1, ex_ret, Int32.reduceAdd, Int32.reduceSub, Int32.reduceMul, Int32.reduceLT, Int32.reduceLE, xsI, Nat.reduceEqDiff, and_false, false_and, and_true, true_and, if_true, if_false, ite_true, ite_false, xlook_0, xlook_s, xI_int, xA_ref, xJ_long, xK_some, xRow_row, xTo_some, xst1, xclr, List.set_cons_zero, List.set_cons_succ, xsum_nil, xsum_int, xsum_ref, xsum_long, Option.toList_some, Option.toList_none, List.nil_append, List.cons_append, h1, s_at (show SK[20]? = some (.inl (0, 512)) from rfl) (by decide : 512 < 2 ^ 31), s_put (show SK[20]? = some (.inl (0, 512)) from rfl) (by decide : 512 < 2 ^ 31), xat_in hlt (by decide : 512 < 2 ^ 31), xput_in hlt (by decide : 512 < 2 ^ 31), h2, xsetI_self (S := S) (a := 20) (k := i) rfl, nI_1]
    exact ih (i + 1) (by omega) _ _
theorem s_forget {d : Nat} {S : xS} (hS : Hd S) : XC SK MT (d + 2) 118 [.ref 1] S = some (none, fgS S) := by
  rw [XC_iff]
  refine ⟨Nat.le_of_ble_eq_true rfl, ?_⟩
  show XL SK MT (d + 1) 118 (0, [some (.ref 1), none, none, none], [], S) _
  simp (config := { decide := true }) only [rX4_forget_0, rX4_forget_1, rX4_forget_3, rX4_forget_6, rX4_forget_9, rX4_forget_10, rX4_forget_13, rX4_forget_14, rX4_forget_17, rX4_forget_18, rX4_forget_19, rX4_forget_20, rX4_forget_21, rX4_forget_24, rX4_forget_27, rX4_forget_28, rX4_forget_30, rX4_forget_33, rX4_forget_34, rX4_forget_37, rX4_forget_38, rX4_forget_41, rX4_forget_42, rX4_forget_45, rX4_forget_48, rX4_forget_49, rX4_forget_52, rX4_forget_53, rX4_forget_54, rX4_forget_57, rX4_forget_60, rX4_forget_63, rX4_forget_64, rX4_forget_66, rX4_forget_69, rX4_forget_70, rX4_forget_71, rX4_forget_74, rX4_forget_77, ↓reduceIte, m1_le, m1_lt, m1_eq, ofInt_m1, ex_ret, Int32.reduceAdd, Int32.reduceSub, Int32.reduceMul, Int32.reduceLT, Int32.reduceLE, xsI, Nat.reduceEqDiff, and_false, false_and, and_true, true_and, if_true, if_false, ite_true, ite_false, xlook_0, xlook_s, xI_int, xA_ref, xJ_long, xK_some, xRow_row, xTo_some, xst1, xclr, List.set_cons_zero, List.set_cons_succ, xsum_nil, xsum_int, xsum_ref, xsum_long, Option.toList_some, Option.toList_none, List.nil_append, List.cons_append]
  exact forget_loop hS 512 0 (by omega) _ _
def opS (S : xS) (z : Int32) : xS := fgS (xsetI (xsetI (xsetI (xsetI (xsetI (xsetI S 1 10 z) 1 11 0) 1 12 0) 1 16 0) 1 13 55) 1 14 0)
theorem s_open {d : Nat} {S : xS} {z : Int32} (hS : Hd S) : XC SK MT (d + 3) 114 [.ref 1, .int z] S = some (none, opS S z) := by
  have h9 : Hd (xsetI (xsetI (xsetI (xsetI (xsetI (xsetI S 1 10 z) 1 11 0) 1 12 0) 1 16 0) 1 13 55) 1 14 0) := hS
  rw [XC_iff]
  refine ⟨Nat.le_of_ble_eq_true rfl, ?_⟩
  show XL SK MT (d + 2) 114 (0, [some (.ref 1), some (.int z)], [], S) _
  simp (config := { decide := true }) only [rX4_open_0, rX4_open_1, rX4_open_2, rX4_open_5, rX4_open_6, rX4_open_7, rX4_open_10, rX4_open_11, rX4_open_12, rX4_open_15, rX4_open_16, rX4_open_17, rX4_open_20, rX4_open_21, rX4_open_23, rX4_open_26, rX4_open_27, rX4_open_28, rX4_open_31, rX4_open_32, rX4_open_35, ↓reduceIte, m1_le, m1_lt, m1_eq, ofInt_m1, ex_ret, Int32.reduceAdd, Int32.reduceSub, Int32.reduceMul, Int32.reduceLT, Int32.reduceLE, xsI, Nat.reduceEqDiff, and_false, false_and, and_true, true_and, if_true, if_false, ite_true, ite_false, xlook_0, xlook_s, xI_int, xA_ref, xJ_long, xK_some, xRow_row, xTo_some, xst1, xclr, List.set_cons_zero, List.set_cons_succ, xsum_nil, xsum_int, xsum_ref, xsum_long, Option.toList_some, Option.toList_none, List.nil_append, List.cons_append, s_forget h9]
  rfl
theorem opS_row {S : xS} {z : Int32} {a : Nat} (h : ¬ a = 1) : (opS S z).1 a = S.1 a := by
  unfold opS fgS
  rw [xsR h, xsR h, xsR h, xsR h, xsR h, xsR h, xsR h, xsR h]
theorem opS_at {S : xS} {z : Int32} {q : Nat} (h : q < 7 ∨ q = 9) : (opS S z).1 1 q = S.1 1 q := by
  unfold opS fgS
  rw [xsI, if_neg (by omega), xsI, if_neg (by omega), xsI, if_neg (by omega), xsI, if_neg (by omega), xsI, if_neg (by omega), xsI, if_neg (by omega), xsI, if_neg (by omega), xsI, if_neg (by omega)]
theorem opS_names {S : xS} {z : Int32} : (opS S z).1 1 7 = 51 := rfl
theorem opS_pool {S : xS} {z : Int32} : (opS S z).1 1 8 = S.1 1 9 := rfl
theorem opS_LX {S : xS} {bs : List Nat} (h : ∀ j b, bs[j]? = some b → S.1 13 j = nI b ∧ b < 128) (hl : bs.length ≤ 8192) : LX (opS S (nI bs.length)) 0 bs 0 := by
  refine ⟨⟨fun j b hj => ?_, ?_, by omega⟩, rfl, rfl, rfl⟩
  · rw [Nat.zero_add, opS_row (by decide)]; exact h j b hj
  · rw [Nat.zero_add]; rfl
