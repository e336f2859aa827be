/-! XF: rows, then what is proved of them. -/
theorem rX11_number_0 {d : Nat} {lv : xLV} {st : List Value} {S : xS} {r : xO} : XL SK MT d 286 (0, lv, st, S) r ↔ xI (xlook lv 1) (fun x => XL SK MT d 286 (1, lv, .int x :: st, S) r) := X_ldI rfl rfl (fun _ => rfl) rfl rfl rfl rfl
theorem rX11_number_1 {d : Nat} {lv : xLV} {st : List Value} {S : xS} {r : xO} {x : Int32} : XL SK MT d 286 (1, lv, .int x :: st, S) r ↔ if 0 ≤ x then XL SK MT d 286 (10, lv, st, S) r else XL SK MT d 286 (4, lv, st, S) r := (X_if rfl rfl).trans xc_ge
theorem rX11_number_4 {d : Nat} {lv : xLV} {st : List Value} {S : xS} {r : xO} : XL SK MT d 286 (4, lv, st, S) r ↔ xA (xlook lv 0) (fun x => XL SK MT d 286 (5, lv, .ref x :: st, S) r) := X_ldA rfl rfl (fun _ => rfl) rfl rfl rfl rfl
theorem rX11_number_5 {d : Nat} {lv : xLV} {st : List Value} {S : xS} {r : xO} : XL SK MT d 286 (5, lv, st, S) r ↔ XL SK MT d 286 (7, lv, .int 126 :: st, S) r := X_pure rfl rfl rfl
theorem rX11_number_7 {d : Nat} {lv : xLV} {S : xS} {r : xO} {x1 : Int32} : XL SK MT d 286 (7, lv, [.int x1, .ref 12], S) r ↔ xK (XC SK MT d 284 [.ref 12, .int x1] S) (fun v S => XL SK MT d 286 (10, lv, v.toList ++ [], S) r) := X_inv (n := 2) (kd := 13) (st0 := [.int x1, .ref 12]) rfl (Or.inr ⟨rfl, rfl⟩) rfl (Nat.le_of_ble_eq_true rfl) (Nat.le_of_ble_eq_true rfl) (by decide) rfl
theorem rX11_number_10 {d : Nat} {lv : xLV} {st : List Value} {S : xS} {r : xO} : XL SK MT d 286 (10, lv, st, S) r ↔ xI (xlook lv 1) (fun x => XL SK MT d 286 (11, lv, .int x :: st, S) r) := X_ldI rfl rfl (fun _ => rfl) rfl rfl rfl rfl
theorem rX11_number_11 {d : Nat} {lv : xLV} {st : List Value} {S : xS} {r : xO} {x : Int32} : XL SK MT d 286 (11, lv, .int x :: st, S) r ↔ if 0 ≤ x then XL SK MT d 286 (19, lv, st, S) r else XL SK MT d 286 (14, lv, st, S) r := (X_if rfl rfl).trans xc_ge
theorem rX11_number_14 {d : Nat} {lv : xLV} {st : List Value} {S : xS} {r : xO} : XL SK MT d 286 (14, lv, st, S) r ↔ xI (xlook lv 1) (fun x => XL SK MT d 286 (15, lv, .int x :: st, S) r) := X_ldI rfl rfl (fun _ => rfl) rfl rfl rfl rfl
theorem rX11_number_15 {d : Nat} {lv : xLV} {st : List Value} {S : xS} {r : xO} {x : Int32} : XL SK MT d 286 (15, lv, .int x :: st, S) r ↔ XL SK MT d 286 (16, lv, .int (-x) :: st, S) r := X_pure rfl rfl rfl
theorem rX11_number_16 {d : Nat} {lv : xLV} {st : List Value} {S : xS} {r : xO} : XL SK MT d 286 (16, lv, st, S) r ↔ XL SK MT d 286 (20, lv, st, S) r := X_jump rfl rfl rfl
theorem rX11_number_19 {d : Nat} {lv : xLV} {st : List Value} {S : xS} {r : xO} : XL SK MT d 286 (19, lv, st, S) r ↔ xI (xlook lv 1) (fun x => XL SK MT d 286 (20, lv, .int x :: st, S) r) := X_ldI rfl rfl (fun _ => rfl) rfl rfl rfl rfl
theorem rX11_number_20 {d : Nat} {lv : xLV} {st : List Value} {S : xS} {r : xO} {x : Int32} : XL SK MT d 286 (20, lv, .int x :: st, S) r ↔ XL SK MT d 286 (21, xst1 lv 2 (.int x), st, S) r := X_pure rfl rfl rfl
theorem rX11_number_21 {d : Nat} {lv : xLV} {st : List Value} {S : xS} {r : xO} : XL SK MT d 286 (21, lv, st, S) r ↔ XL SK MT d 286 (22, lv, .int 1 :: st, S) r := X_pure rfl rfl rfl
theorem rX11_number_22 {d : Nat} {lv : xLV} {st : List Value} {S : xS} {r : xO} {x : Int32} : XL SK MT d 286 (22, lv, .int x :: st, S) r ↔ XL SK MT d 286 (23, xst1 lv 3 (.int x), st, S) r := X_pure rfl rfl rfl
theorem rX11_number_23 {d : Nat} {lv : xLV} {st : List Value} {S : xS} {r : xO} : XL SK MT d 286 (23, lv, st, S) r ↔ XL SK MT d 286 (24, lv, .int 0 :: st, S) r := X_pure rfl rfl rfl
theorem rX11_number_24 {d : Nat} {lv : xLV} {st : List Value} {S : xS} {r : xO} {x : Int32} : XL SK MT d 286 (24, lv, .int x :: st, S) r ↔ XL SK MT d 286 (26, xst1 lv 4 (.int x), st, S) r := X_pure rfl rfl rfl
theorem rX11_number_26 {d : Nat} {lv : xLV} {st : List Value} {S : xS} {r : xO} : XL SK MT d 286 (26, lv, st, S) r ↔ xI (xlook lv 4) (fun x => XL SK MT d 286 (28, lv, .int x :: st, S) r) := X_ldI rfl rfl (fun _ => rfl) rfl rfl rfl rfl
theorem rX11_number_28 {d : Nat} {lv : xLV} {st : List Value} {S : xS} {r : xO} : XL SK MT d 286 (28, lv, st, S) r ↔ XL SK MT d 286 (30, lv, .int 9 :: st, S) r := X_pure rfl rfl rfl
theorem rX11_number_30 {d : Nat} {lv : xLV} {st : List Value} {S : xS} {r : xO} {x z : Int32} : XL SK MT d 286 (30, lv, .int z :: .int x :: st, S) r ↔ if z ≤ x then XL SK MT d 286 (52, lv, st, S) r else XL SK MT d 286 (33, lv, st, S) r := (X_icmp rfl rfl).trans xc_ge
theorem rX11_number_33 {d : Nat} {lv : xLV} {st : List Value} {S : xS} {r : xO} : XL SK MT d 286 (33, lv, st, S) r ↔ xI (xlook lv 2) (fun x => XL SK MT d 286 (34, lv, .int x :: st, S) r) := X_ldI rfl rfl (fun _ => rfl) rfl rfl rfl rfl
theorem rX11_number_34 {d : Nat} {lv : xLV} {st : List Value} {S : xS} {r : xO} : XL SK MT d 286 (34, lv, st, S) r ↔ xI (xlook lv 3) (fun x => XL SK MT d 286 (35, lv, .int x :: st, S) r) := X_ldI rfl rfl (fun _ => rfl) rfl rfl rfl rfl
theorem rX11_number_35 {d : Nat} {lv : xLV} {st : List Value} {S : xS} {r : xO} {x z : Int32} (hz : ¬ z = 0) : XL SK MT d 286 (35, lv, .int z :: .int x :: st, S) r ↔ XL SK MT d 286 (36, lv, .int (x / z) :: st, S) r := X_pure rfl rfl (if_neg hz)
theorem rX11_number_36 {d : Nat} {lv : xLV} {st : List Value} {S : xS} {r : xO} : XL SK MT d 286 (36, lv, st, S) r ↔ XL SK MT d 286 (38, lv, .int 10 :: st, S) r := X_pure rfl rfl rfl
theorem rX11_number_38 {d : Nat} {lv : xLV} {st : List Value} {S : xS} {r : xO} {x z : Int32} : XL SK MT d 286 (38, lv, .int z :: .int x :: st, S) r ↔ if x < z then XL SK MT d 286 (52, lv, st, S) r else XL SK MT d 286 (41, lv, st, S) r := (X_icmp rfl rfl).trans xc_lt
theorem rX11_number_41 {d : Nat} {lv : xLV} {st : List Value} {S : xS} {r : xO} : XL SK MT d 286 (41, lv, st, S) r ↔ xI (xlook lv 3) (fun x => XL SK MT d 286 (42, lv, .int x :: st, S) r) := X_ldI rfl rfl (fun _ => rfl) rfl rfl rfl rfl
theorem rX11_number_42 {d : Nat} {lv : xLV} {st : List Value} {S : xS} {r : xO} : XL SK MT d 286 (42, lv, st, S) r ↔ XL SK MT d 286 (44, lv, .int 10 :: st, S) r := X_pure rfl rfl rfl
theorem rX11_number_44 {d : Nat} {lv : xLV} {st : List Value} {S : xS} {r : xO} {x z : Int32} : XL SK MT d 286 (44, lv, .int z :: .int x :: st, S) r ↔ XL SK MT d 286 (45, lv, .int (x * z) :: st, S) r := X_pure rfl rfl rfl
theorem rX11_number_45 {d : Nat} {lv : xLV} {st : List Value} {S : xS} {r : xO} {x : Int32} : XL SK MT d 286 (45, lv, .int x :: st, S) r ↔ XL SK MT d 286 (46, xst1 lv 3 (.int x), st, S) r := X_pure rfl rfl rfl
theorem rX11_number_46 {d : Nat} {lv : xLV} {st : List Value} {S : xS} {r : xO} : XL SK MT d 286 (46, lv, st, S) r ↔ xI (xlook lv 4) (fun x => XL SK MT d 286 (49, xst1 lv 4 (.int (x + 1)), st, S) r) := X_inc (i := 4) (n := 1) rfl (Nat.le_of_ble_eq_true rfl)
theorem rX11_number_49 {d : Nat} {lv : xLV} {st : List Value} {S : xS} {r : xO} : XL SK MT d 286 (49, lv, st, S) r ↔ XL SK MT d 286 (26, lv, st, S) r := X_jump rfl rfl rfl
theorem rX11_number_52 {d : Nat} {lv : xLV} {st : List Value} {S : xS} {r : xO} : XL SK MT d 286 (52, lv, st, S) r ↔ XL SK MT d 286 (53, lv, .int 0 :: st, S) r := X_pure rfl rfl rfl
theorem rX11_number_53 {d : Nat} {lv : xLV} {st : List Value} {S : xS} {r : xO} {x : Int32} : XL SK MT d 286 (53, lv, .int x :: st, S) r ↔ XL SK MT d 286 (55, xst1 lv 4 (.int x), st, S) r := X_pure rfl rfl rfl
theorem rX11_number_55 {d : Nat} {lv : xLV} {st : List Value} {S : xS} {r : xO} : XL SK MT d 286 (55, lv, st, S) r ↔ xI (xlook lv 4) (fun x => XL SK MT d 286 (57, lv, .int x :: st, S) r) := X_ldI rfl rfl (fun _ => rfl) rfl rfl rfl rfl
theorem rX11_number_57 {d : Nat} {lv : xLV} {st : List Value} {S : xS} {r : xO} : XL SK MT d 286 (57, lv, st, S) r ↔ XL SK MT d 286 (59, lv, .int 10 :: st, S) r := X_pure rfl rfl rfl
theorem rX11_number_59 {d : Nat} {lv : xLV} {st : List Value} {S : xS} {r : xO} {x z : Int32} : XL SK MT d 286 (59, lv, .int z :: .int x :: st, S) r ↔ if z ≤ x then XL SK MT d 286 (90, lv, st, S) r else XL SK MT d 286 (62, lv, st, S) r := (X_icmp rfl rfl).trans xc_ge
theorem rX11_number_62 {d : Nat} {lv : xLV} {st : List Value} {S : xS} {r : xO} : XL SK MT d 286 (62, lv, st, S) r ↔ xI (xlook lv 3) (fun x => XL SK MT d 286 (63, lv, .int x :: st, S) r) := X_ldI rfl rfl (fun _ => rfl) rfl rfl rfl rfl
theorem rX11_number_63 {d : Nat} {lv : xLV} {st : List Value} {S : xS} {r : xO} {x : Int32} : XL SK MT d 286 (63, lv, .int x :: st, S) r ↔ if x ≤ 0 then XL SK MT d 286 (90, lv, st, S) r else XL SK MT d 286 (66, lv, st, S) r := (X_if rfl rfl).trans xc_le
theorem rX11_number_66 {d : Nat} {lv : xLV} {st : List Value} {S : xS} {r : xO} : XL SK MT d 286 (66, lv, st, S) r ↔ xA (xlook lv 0) (fun x => XL SK MT d 286 (67, lv, .ref x :: st, S) r) := X_ldA rfl rfl (fun _ => rfl) rfl rfl rfl rfl
theorem rX11_number_67 {d : Nat} {lv : xLV} {st : List Value} {S : xS} {r : xO} : XL SK MT d 286 (67, lv, st, S) r ↔ XL SK MT d 286 (69, lv, .int 48 :: st, S) r := X_pure rfl rfl rfl
theorem rX11_number_69 {d : Nat} {lv : xLV} {st : List Value} {S : xS} {r : xO} : XL SK MT d 286 (69, lv, st, S) r ↔ xI (xlook lv 2) (fun x => XL SK MT d 286 (70, lv, .int x :: st, S) r) := X_ldI rfl rfl (fun _ => rfl) rfl rfl rfl rfl
theorem rX11_number_70 {d : Nat} {lv : xLV} {st : List Value} {S : xS} {r : xO} : XL SK MT d 286 (70, lv, st, S) r ↔ xI (xlook lv 3) (fun x => XL SK MT d 286 (71, lv, .int x :: st, S) r) := X_ldI rfl rfl (fun _ => rfl) rfl rfl rfl rfl
theorem rX11_number_71 {d : Nat} {lv : xLV} {st : List Value} {S : xS} {r : xO} {x z : Int32} (hz : ¬ z = 0) : XL SK MT d 286 (71, lv, .int z :: .int x :: st, S) r ↔ XL SK MT d 286 (72, lv, .int (x / z) :: st, S) r := X_pure rfl rfl (if_neg hz)
theorem rX11_number_72 {d : Nat} {lv : xLV} {st : List Value} {S : xS} {r : xO} : XL SK MT d 286 (72, lv, st, S) r ↔ XL SK MT d 286 (74, lv, .int 10 :: st, S) r := X_pure rfl rfl rfl
theorem rX11_number_74 {d : Nat} {lv : xLV} {st : List Value} {S : xS} {r : xO} {x z : Int32} (hz : ¬ z = 0) : XL SK MT d 286 (74, lv, .int z :: .int x :: st, S) r ↔ XL SK MT d 286 (75, lv, .int (x - x / z * z) :: st, S) r := X_pure rfl rfl (if_neg hz)
theorem rX11_number_75 {d : Nat} {lv : xLV} {st : List Value} {S : xS} {r : xO} {x z : Int32} : XL SK MT d 286 (75, lv, .int z :: .int x :: st, S) r ↔ XL SK MT d 286 (76, lv, .int (x + z) :: st, S) r := X_pure rfl rfl rfl
theorem rX11_number_76 {d : Nat} {lv : xLV} {S : xS} {r : xO} {x1 : Int32} : XL SK MT d 286 (76, lv, [.int x1, .ref 12], S) r ↔ xK (XC SK MT d 284 [.ref 12, .int x1] S) (fun v S => XL SK MT d 286 (79, lv, v.toList ++ [], S) r) := X_inv (n := 2) (kd := 13) (st0 := [.int x1, .ref 12]) rfl (Or.inr ⟨rfl, rfl⟩) rfl (Nat.le_of_ble_eq_true rfl) (Nat.le_of_ble_eq_true rfl) (by decide) rfl
theorem rX11_number_79 {d : Nat} {lv : xLV} {st : List Value} {S : xS} {r : xO} : XL SK MT d 286 (79, lv, st, S) r ↔ xI (xlook lv 3) (fun x => XL SK MT d 286 (80, lv, .int x :: st, S) r) := X_ldI rfl rfl (fun _ => rfl) rfl rfl rfl rfl
theorem rX11_number_80 {d : Nat} {lv : xLV} {st : List Value} {S : xS} {r : xO} : XL SK MT d 286 (80, lv, st, S) r ↔ XL SK MT d 286 (82, lv, .int 10 :: st, S) r := X_pure rfl rfl rfl
theorem rX11_number_82 {d : Nat} {lv : xLV} {st : List Value} {S : xS} {r : xO} {x z : Int32} (hz : ¬ z = 0) : XL SK MT d 286 (82, lv, .int z :: .int x :: st, S) r ↔ XL SK MT d 286 (83, lv, .int (x / z) :: st, S) r := X_pure rfl rfl (if_neg hz)
theorem rX11_number_83 {d : Nat} {lv : xLV} {st : List Value} {S : xS} {r : xO} {x : Int32} : XL SK MT d 286 (83, lv, .int x :: st, S) r ↔ XL SK MT d 286 (84, xst1 lv 3 (.int x), st, S) r := X_pure rfl rfl rfl
theorem rX11_number_84 {d : Nat} {lv : xLV} {st : List Value} {S : xS} {r : xO} : XL SK MT d 286 (84, lv, st, S) r ↔ xI (xlook lv 4) (fun x => XL SK MT d 286 (87, xst1 lv 4 (.int (x + 1)), st, S) r) := X_inc (i := 4) (n := 1) rfl (Nat.le_of_ble_eq_true rfl)
theorem rX11_number_87 {d : Nat} {lv : xLV} {st : List Value} {S : xS} {r : xO} : XL SK MT d 286 (87, lv, st, S) r ↔ XL SK MT d 286 (55, lv, st, S) r := X_jump rfl rfl rfl
theorem rX11_number_90 {d : Nat} {lv : xLV} {S : xS} {r : xO} : XL SK MT d 286 (90, lv, [], S) r ↔ (none, S) = r := X_ret rfl rfl rfl rfl rfl rfl

/-! Writer: a number. -/
theorem p10_lt : ∀ k, k < 10 → 10 ^ k < 2 ^ 31 := by decide
def uN : Nat → Nat
  | 0 => 0
  | k + 1 => 10 ^ k
theorem uN_div : ∀ k, uN (k + 1) / 10 = uN k
  | 0 => by decide
  | k + 1 => by show 10 ^ (k + 1) / 10 = 10 ^ k; rw [Nat.pow_succ, Nat.mul_div_cancel _ (by decide)]
theorem uN_lt {k : Nat} (h : k < 10) : uN (k + 1) < 2 ^ 31 := p10_lt k h
set_option maxHeartbeats 4000000 in
set_option maxRecDepth 100000 in
theorem num_unit {d m : Nat} {S : xS} {n : Int32} {r : xO} (hm : m < 2 ^ 31) : ∀ k j, j + k = 9 → (∀ i, XL SK MT (d + 2) 286 (52, [some (.ref 12), some (.int n), some (.int (nI m)), some (.int (nI (uN (j + ndg (k + 1) (m / 10 ^ j))))), some (.int i)], [], S) r) → XL SK MT (d + 2) 286 (26, [some (.ref 12), some (.int n), some (.int (nI m)), some (.int (nI (10 ^ j))), some (.int (nI j))], [], S) r := by
  intro k
  induction k with
  | zero =>
    intro j hj h
    obtain rfl : j = 9 := by omega
    have hx : m / 10 ^ 9 < 10 := by rw [Nat.div_lt_iff_lt_mul (by decide)]; omega
    have h1 := h (nI 9)
    have e : ndg (0 + 1) (m / 10 ^ 9) = 1 := by unfold ndg; rw [if_pos hx]
    rw [e] at h1
    rw [rX11_number_26]
    simp (config := { decide := true }) only [rX11_number_0, rX11_number_1, rX11_number_4, rX11_number_5, rX11_number_7, rX11_number_10, rX11_number_11, rX11_number_14, rX11_number_15, rX11_number_16, rX11_number_19, rX11_number_20, rX11_number_21, rX11_number_22, rX11_number_23, rX11_number_24, rX11_number_28, rX11_number_30, rX11_number_33, rX11_number_34, rX11_number_35, rX11_number_36, rX11_number_38, rX11_number_41, rX11_number_42, rX11_number_44, rX11_number_45, rX11_number_46, rX11_number_49, rX11_number_53, rX11_number_55, rX11_number_57, rX11_number_59, rX11_number_62, rX11_number_63, rX11_number_66, rX11_number_67, rX11_number_69, rX11_number_70, rX11_number_71, rX11_number_72, rX11_number_74, rX11_number_75, rX11_number_76, rX11_number_79, rX11_number_80, rX11_number_82, rX11_number_83, rX11_number_84, rX11_number_87, rX11_number_90, ↓reduceIte, m1_le, m1_lt, m1_eq, ofInt_m1, ex_ret, Int32.reduceAdd, Int32.reduceSub, Int32.reduceMul, Int32.reduceLT, Int32.reduceLE, xsI, Nat.reduceEqDiff, and_false, false_and, and_true, true_and, if_true, if_false, ite_true, ite_false, xlook_0, xlook_s, xI_int, xA_ref, xJ_long, xK_some, xRow_row, xTo_some, xst1, xclr, List.set_cons_zero, List.set_cons_succ, xsum_nil, xsum_int, xsum_ref, xsum_long, Option.toList_some, Option.toList_none, List.nil_append, List.cons_append, show (9 : Int32) ≤ nI 9 from by decide]
    exact h1
  | succ k ih =>
    intro j hj h
    have n9 : ¬ (9 : Int32) ≤ nI j := nI_ge (b := 9) (by omega) (by decide)
    have p1 := p10_lt j (by omega)
    have hd : nI m / nI (10 ^ j) = nI (m / 10 ^ j) := pk_div hm (Nat.pow_pos (by decide)) p1
    have hz : ¬ nI (10 ^ j) = 0 := nI_ne0 (Nat.pow_pos (by decide)) p1
    have hq : m / 10 ^ j ≤ m := Nat.div_le_self _ _
    rw [rX11_number_26]
    by_cases q : m / 10 ^ j < 10
    · have c1 : nI (m / 10 ^ j) < 10 := nI_lt (b := 10) (by omega) (by decide)
      have h1 := h (nI j)
      have e : ndg (k + 1 + 1) (m / 10 ^ j) = 1 := by rw [ndg, if_pos q]
      rw [e] at h1
      simp (config := { decide := true }) only [rX11_number_0, rX11_number_1, rX11_number_4, rX11_number_5, rX11_number_7, rX11_number_10, rX11_number_11, rX11_number_14, rX11_number_15, rX11_number_16, rX11_number_19, rX11_number_20, rX11_number_21, rX11_number_22, rX11_number_23, rX11_number_24, rX11_number_28, rX11_number_30, rX11_number_33, rX11_number_34, rX11_number_35, rX11_number_36, rX11_number_38, rX11_number_41, rX11_number_42, rX11_number_44, rX11_number_45, rX11_number_46, rX11_number_49, rX11_number_53, rX11_number_55, rX11_number_57, rX11_number_59, rX11_number_62, rX11_number_63, rX11_number_66, rX11_number_67, rX11_number_69, rX11_number_70, rX11_number_71, rX11_number_72, rX11_number_74, rX11_number_75, rX11_number_76, rX11_number_79, rX11_number_80, rX11_number_82, rX11_number_83, rX11_number_84, rX11_number_87, rX11_number_90, ↓reduceIte, m1_le, m1_lt, m1_eq, ofInt_m1, ex_ret, Int32.reduceAdd, Int32.reduceSub, Int32.reduceMul, Int32.reduceLT, Int32.reduceLE, xsI, Nat.reduceEqDiff, and_false, false_and, and_true, true_and, if_true, if_false, ite_true, ite_false, xlook_0, xlook_s, xI_int, xA_ref, xJ_long, xK_some, xRow_row, xTo_some, xst1, xclr, List.set_cons_zero, List.set_cons_succ, xsum_nil, xsum_int, xsum_ref, xsum_long, Option.toList_some, Option.toList_none, List.nil_append, List.cons_append, n9, rX11_number_35 hz, hd, c1]
      exact h1
    · have c1 : ¬ nI (m / 10 ^ j) < 10 := nI_nlt (b := 10) (by omega) (by omega)
      have e1 : nI (10 ^ j) * 10 = nI (10 ^ (j + 1)) := by rw [Nat.pow_succ]; exact pk_mul _ 10
      have e2 : nI j + 1 = nI (j + 1) := nA1
      have e3 : m / 10 ^ j / 10 = m / 10 ^ (j + 1) := by rw [Nat.pow_succ, Nat.div_div_eq_div_mul]
      have h2 : ∀ i, XL SK MT (d + 2) 286 (52, [some (.ref 12), some (.int n), some (.int (nI m)), some (.int (nI (uN (j + 1 + ndg (k + 1) (m / 10 ^ (j + 1)))))), some (.int i)], [], S) r := fun i => by
        have h1 := h i
        rw [ndg, if_neg q, e3] at h1
        rw [show j + 1 + ndg (k + 1) (m / 10 ^ (j + 1)) = j + (ndg (k + 1) (m / 10 ^ (j + 1)) + 1) by omega]
        exact h1
      simp (config := { decide := true }) only [rX11_number_0, rX11_number_1, rX11_number_4, rX11_number_5, rX11_number_7, rX11_number_10, rX11_number_11, rX11_number_14, rX11_number_15, rX11_number_16, rX11_number_19, rX11_number_20, rX11_number_21, rX11_number_22, rX11_number_23, rX11_number_24, rX11_number_28, rX11_number_30, rX11_number_33, rX11_number_34, rX11_number_35, rX11_number_36, rX11_number_38, rX11_number_41, rX11_number_42, rX11_number_44, rX11_number_45, rX11_number_46, rX11_number_49, rX11_number_53, rX11_number_55, rX11_number_57, rX11_number_59, rX11_number_62, rX11_number_63, rX11_number_66, rX11_number_67, rX11_number_69, rX11_number_70, rX11_number_71, rX11_number_72, rX11_number_74, rX11_number_75, rX11_number_76, rX11_number_79, rX11_number_80, rX11_number_82, rX11_number_83, rX11_number_84, rX11_number_87, rX11_number_90, ↓reduceIte, m1_le, m1_lt, m1_eq, ofInt_m1, ex_ret, Int32.reduceAdd, Int32.reduceSub, Int32.reduceMul, Int32.reduceLT, Int32.reduceLE, xsI, Nat.reduceEqDiff, and_false, false_and, and_true, true_and, if_true, if_false, ite_true, ite_false, xlook_0, xlook_s, xI_int, xA_ref, xJ_long, xK_some, xRow_row, xTo_some, xst1, xclr, List.set_cons_zero, List.set_cons_succ, xsum_nil, xsum_int, xsum_ref, xsum_long, Option.toList_some, Option.toList_none, List.nil_append, List.cons_append, n9, rX11_number_35 hz, hd, c1, e1, e2]
      exact ih (j + 1) (by omega) h2
set_option maxHeartbeats 4000000 in
set_option maxRecDepth 100000 in
theorem num_figs {d m : Nat} {n : Int32} (hm : m < 2 ^ 31) : ∀ k i (S : xS) bs, WSt S bs → i + k ≤ 10 → bs.length + k ≤ 1000 → ∃ S1, XL SK MT (d + 2) 286 (55, [some (.ref 12), some (.int n), some (.int (nI m)), some (.int (nI (uN k))), some (.int (nI i))], [], S) (none, S1) ∧ WSt S1 (bs ++ dgs k m) ∧ FrWr S S1 := by
  intro k
  induction k with
  | zero =>
    intro i S bs hw hi hb
    refine ⟨S, ?_, by rw [show dgs 0 m = [] from rfl, List.append_nil]; exact hw, ⟨rfl, rfl, fun _ _ _ => rfl⟩⟩
    rw [rX11_number_55]
    by_cases q : (10 : Int32) ≤ nI i
    · simp (config := { decide := true }) only [rX11_number_0, rX11_number_1, rX11_number_4, rX11_number_5, rX11_number_7, rX11_number_10, rX11_number_11, rX11_number_14, rX11_number_15, rX11_number_16, rX11_number_19, rX11_number_20, rX11_number_21, rX11_number_22, rX11_number_23, rX11_number_24, rX11_number_26, rX11_number_28, rX11_number_30, rX11_number_33, rX11_number_34, rX11_number_35, rX11_number_36, rX11_number_38, rX11_number_41, rX11_number_42, rX11_number_44, rX11_number_45, rX11_number_46, rX11_number_49, rX11_number_52, rX11_number_53, rX11_number_57, rX11_number_59, rX11_number_62, rX11_number_63, rX11_number_66, rX11_number_67, rX11_number_69, rX11_number_70, rX11_number_71, rX11_number_72, rX11_number_74, rX11_number_75, rX11_number_76, rX11_number_79, rX11_number_80, rX11_number_82, rX11_number_83, rX11_number_84, rX11_number_87, rX11_number_90, ↓reduceIte, m1_le, m1_lt, m1_eq, ofInt_m1, ex_ret, Int32.reduceAdd, Int32.reduceSub, Int32.reduceMul, Int32.reduceLT, Int32.reduceLE, xsI, Nat.reduceEqDiff, and_false, false_and, and_true, true_and, if_true, if_false, ite_true, ite_false, xlook_0, xlook_s, xI_int, xA_ref, xJ_long, xK_some, xRow_row, xTo_some, xst1, xclr, List.set_cons_zero, List.set_cons_succ, xsum_nil, xsum_int, xsum_ref, xsum_long, Option.toList_some, Option.toList_none, List.nil_append, List.cons_append, q]
    · simp (config := { decide := true }) only [rX11_number_0, rX11_number_1, rX11_number_4, rX11_number_5, rX11_number_7, rX11_number_10, rX11_number_11, rX11_number_14, rX11_number_15, rX11_number_16, rX11_number_19, rX11_number_20, rX11_number_21, rX11_number_22, rX11_number_23, rX11_number_24, rX11_number_26, rX11_number_28, rX11_number_30, rX11_number_33, rX11_number_34, rX11_number_35, rX11_number_36, rX11_number_38, rX11_number_41, rX11_number_42, rX11_number_44, rX11_number_45, rX11_number_46, rX11_number_49, rX11_number_52, rX11_number_53, rX11_number_57, rX11_number_59, rX11_number_62, rX11_number_63, rX11_number_66, rX11_number_67, rX11_number_69, rX11_number_70, rX11_number_71, rX11_number_72, rX11_number_74, rX11_number_75, rX11_number_76, rX11_number_79, rX11_number_80, rX11_number_82, rX11_number_83, rX11_number_84, rX11_number_87, rX11_number_90, ↓reduceIte, m1_le, m1_lt, m1_eq, ofInt_m1, ex_ret, Int32.reduceAdd, Int32.reduceSub, Int32.reduceMul, Int32.reduceLT, Int32.reduceLE, xsI, Nat.reduceEqDiff, and_false, false_and, and_true, true_and, if_true, if_false, ite_true, ite_false, xlook_0, xlook_s, xI_int, xA_ref, xJ_long, xK_some, xRow_row, xTo_some, xst1, xclr, List.set_cons_zero, List.set_cons_succ, xsum_nil, xsum_int, xsum_ref, xsum_long, Option.toList_some, Option.toList_none, List.nil_append, List.cons_append, q, show nI (uN 0) ≤ 0 from by decide]
  | succ k ih =>
    intro i S bs hw hi hb
    have p1 := uN_lt (k := k) (by omega)
    have p0 : 0 < uN (k + 1) := Nat.pow_pos (by decide)
    have n1 : ¬ (10 : Int32) ≤ nI i := nI_ge (b := 10) (by omega) (by decide)
    have hz : ¬ nI (uN (k + 1)) = 0 := nI_ne0 p0 p1
    have n2 : ¬ nI (uN (k + 1)) ≤ 0 := nI_ge (a := 0) (by omega) p1
    have hd : nI m / nI (uN (k + 1)) = nI (m / 10 ^ k) := pk_div hm p0 p1
    have hq : m / 10 ^ k ≤ m := Nat.div_le_self _ _
    have hr : nI (m / 10 ^ k) - nI (m / 10 ^ k) / 10 * 10 = nI (m / 10 ^ k % 10) := pk_rem (d := 10) (by omega) (by decide) (by decide)
    have hx : (48 : Int32) + nI (m / 10 ^ k % 10) = nI (48 + m / 10 ^ k % 10) := nI_add 48 _
    have hu : nI (uN (k + 1)) / 10 = nI (uN k) := (pk_div (d := 10) p1 (by decide) (by decide)).trans (congrArg nI (uN_div k))
    have e2 : nI i + 1 = nI (i + 1) := nA1
    have hl := Nat.mod_lt (m / 10 ^ k) (show 0 < 10 by decide)
    obtain ⟨S1, r1, w1, f1⟩ := s_sign (d := d) hw (b := 48 + m / 10 ^ k % 10) (by omega) (by omega)
    obtain ⟨S2, r2, w2, f2⟩ := ih (i + 1) S1 _ w1 (by omega) (by rw [List.length_append, List.length_singleton]; omega)
    refine ⟨S2, ?_, ?_, f1.trans f2⟩
    · rw [rX11_number_55]
      simp (config := { decide := true }) only [rX11_number_0, rX11_number_1, rX11_number_4, rX11_number_5, rX11_number_7, rX11_number_10, rX11_number_11, rX11_number_14, rX11_number_15, rX11_number_16, rX11_number_19, rX11_number_20, rX11_number_21, rX11_number_22, rX11_number_23, rX11_number_24, rX11_number_26, rX11_number_28, rX11_number_30, rX11_number_33, rX11_number_34, rX11_number_35, rX11_number_36, rX11_number_38, rX11_number_41, rX11_number_42, rX11_number_44, rX11_number_45, rX11_number_46, rX11_number_49, rX11_number_52, rX11_number_53, rX11_number_57, rX11_number_59, rX11_number_62, rX11_number_63, rX11_number_66, rX11_number_67, rX11_number_69, rX11_number_70, rX11_number_71, rX11_number_72, rX11_number_74, rX11_number_75, rX11_number_76, rX11_number_79, rX11_number_80, rX11_number_82, rX11_number_83, rX11_number_84, rX11_number_87, rX11_number_90, ↓reduceIte, m1_le, m1_lt, m1_eq, ofInt_m1, ex_ret, Int32.reduceAdd, Int32.reduceSub, Int32.reduceMul, Int32.reduceLT, Int32.reduceLE, xsI, Nat.reduceEqDiff, and_false, false_and, and_true, true_and, if_true, if_false, ite_true, ite_false, xlook_0, xlook_s, xI_int, xA_ref, xJ_long, xK_some, xRow_row, xTo_some, xst1, xclr, List.set_cons_zero, List.set_cons_succ, xsum_nil, xsum_int, xsum_ref, xsum_long, Option.toList_some, Option.toList_none, List.nil_append, List.cons_append, n1, n2, rX11_number_71 hz, hd, rX11_number_74 (show ¬ (10 : Int32) = 0 by decide), hr, hx, r1, rX11_number_82 (show ¬ (10 : Int32) = 0 by decide), hu, e2]
      exact r2
    · rw [List.append_assoc] at w2
      exact w2
theorem oI_lt {v : Int} (h : inR v) : Int32.ofInt v < 0 ↔ v < 0 := by
  obtain ⟨h1, h2⟩ := h
  rw [Int32.lt_iff_toInt_lt, Int32.toInt_ofInt_of_le (by omega) (by omega)]
  rfl
theorem oI_pos {v : Int} (h : ¬ v < 0) : Int32.ofInt v = nI v.natAbs := by
  show _ = Int32.ofNat _
  rw [← Int32.ofInt_eq_ofNat]
  congr 1
  omega
theorem oI_neg {v : Int} (h : v < 0) : - Int32.ofInt v = nI v.natAbs := by
  show _ = Int32.ofNat _
  rw [← Int32.ofInt_eq_ofNat, ← Int32.ofInt_neg]
  congr 1
  omega
set_option maxHeartbeats 4000000 in
set_option maxRecDepth 100000 in
theorem w_number {d : Nat} {v : Int} {S : xS} {bs : List Nat} (hv : inR v) (hw : WSt S bs) (hb : bs.length ≤ 900) : ∃ S1, XC SK MT (d + 3) 286 [.ref 12, .int (Int32.ofInt v)] S = some (none, S1) ∧ WSt S1 (bs ++ nmB v) ∧ FrWr S S1 := by
  have hm : v.natAbs < 2 ^ 31 := by obtain ⟨h1, h2⟩ := hv; omega
  have hl := ndg_pos 10 v.natAbs
  have hl2 : ndg 10 v.natAbs ≤ 10 := by
    have h9 : v.natAbs / 10 ^ 9 < 10 := by rw [Nat.div_lt_iff_lt_mul (by decide)]; omega
    have gen : ∀ k j x, x < 10 ^ (k + 1) → ndg (k + j) x ≤ k + 1 := by
      intro k
      induction k with
      | zero =>
        intro j x hx
        cases j with
        | zero => exact Nat.le_refl _
        | succ j => rw [show 0 + (j + 1) = j + 1 by omega, ndg, if_pos (by omega)]; exact Nat.le_refl _
      | succ k ih =>
        intro j x hx
        rw [show k + 1 + j = (k + j) + 1 by omega, ndg]
        split
        · omega
        · have := ih j (x / 10) (by rw [Nat.div_lt_iff_lt_mul (by decide), ← Nat.pow_succ]; exact hx)
          omega
    exact gen 9 1 v.natAbs (by rw [show (10 : Nat) ^ (9 + 1) = 10000000000 by decide]; omega)
  have main : ∀ S bs, WSt S bs → bs.length ≤ 950 → ∃ S1, (∀ r, (none, S1) = r → XL SK MT (d + 2) 286 (20, [some (.ref 12), some (.int (Int32.ofInt v)), none, none, none], [.int (nI v.natAbs)], S) r) ∧ WSt S1 (bs ++ dgs (ndg 10 v.natAbs) v.natAbs) ∧ FrWr S S1 := fun S bs hw hb => by
    obtain ⟨S1, r1, w1, f1⟩ := num_figs (d := d) (n := Int32.ofInt v) hm (ndg 10 v.natAbs) 0 S bs hw (by omega) (by omega)
    refine ⟨S1, fun r hr => ?_, w1, f1⟩
    subst hr
    have h0 := num_unit (d := d) (S := S) (n := Int32.ofInt v) (r := (none, S1)) hm 9 0 (by omega) (fun i => by
      simp (config := { decide := true }) only [rX11_number_0, rX11_number_1, rX11_number_4, rX11_number_5, rX11_number_7, rX11_number_10, rX11_number_11, rX11_number_14, rX11_number_15, rX11_number_16, rX11_number_19, rX11_number_20, rX11_number_21, rX11_number_22, rX11_number_23, rX11_number_24, rX11_number_26, rX11_number_28, rX11_number_30, rX11_number_33, rX11_number_34, rX11_number_35, rX11_number_36, rX11_number_38, rX11_number_41, rX11_number_42, rX11_number_44, rX11_number_45, rX11_number_46, rX11_number_49, rX11_number_52, rX11_number_53, rX11_number_57, rX11_number_59, rX11_number_62, rX11_number_63, rX11_number_66, rX11_number_67, rX11_number_69, rX11_number_70, rX11_number_71, rX11_number_72, rX11_number_74, rX11_number_75, rX11_number_76, rX11_number_79, rX11_number_80, rX11_number_82, rX11_number_83, rX11_number_84, rX11_number_87, rX11_number_90, ↓reduceIte, m1_le, m1_lt, m1_eq, ofInt_m1, ex_ret, Int32.reduceAdd, Int32.reduceSub, Int32.reduceMul, Int32.reduceLT, Int32.reduceLE, xsI, Nat.reduceEqDiff, and_false, false_and, and_true, true_and, if_true, if_false, ite_true, ite_false, xlook_0, xlook_s, xI_int, xA_ref, xJ_long, xK_some, xRow_row, xTo_some, xst1, xclr, List.set_cons_zero, List.set_cons_succ, xsum_nil, xsum_int, xsum_ref, xsum_long, Option.toList_some, Option.toList_none, List.nil_append, List.cons_append]
      rw [Nat.zero_add, Nat.pow_zero, Nat.div_one]
      exact r1)
    simp (config := { decide := true }) only [rX11_number_0, rX11_number_1, rX11_number_4, rX11_number_5, rX11_number_7, rX11_number_10, rX11_number_11, rX11_number_14, rX11_number_15, rX11_number_16, rX11_number_19, rX11_number_20, rX11_number_21, rX11_number_22, rX11_number_23, rX11_number_24, rX11_number_28, rX11_number_30, rX11_number_33, rX11_number_34, rX11_number_35, rX11_number_36, rX11_number_38, rX11_number_41, rX11_number_42, rX11_number_44, rX11_number_45, rX11_number_46, rX11_number_49, rX11_number_52, rX11_number_53, rX11_number_55, rX11_number_57, rX11_number_59, rX11_number_62, rX11_number_63, rX11_number_66, rX11_number_67, rX11_number_69, rX11_number_70, rX11_number_71, rX11_number_72, rX11_number_74, rX11_number_75, rX11_number_76, rX11_number_79, rX11_number_80, rX11_number_82, rX11_number_83, rX11_number_84, rX11_number_87, rX11_number_90, ↓reduceIte, m1_le, m1_lt, m1_eq, ofInt_m1, ex_ret, Int32.reduceAdd, Int32.reduceSub, Int32.reduceMul, Int32.reduceLT, Int32.reduceLE, xsI, Nat.reduceEqDiff, and_false, false_and, and_true, true_and, if_true, if_false, ite_true, ite_false, xlook_0, xlook_s, xI_int, xA_ref, xJ_long, xK_some, xRow_row, xTo_some, xst1, xclr, List.set_cons_zero, List.set_cons_succ, xsum_nil, xsum_int, xsum_ref, xsum_long, Option.toList_some, Option.toList_none, List.nil_append, List.cons_append]
    exact h0
  by_cases hn : v < 0
  · obtain ⟨S1, r1, w1, f1⟩ := s_sign (d := d) hw (b := 126) (by omega) (by omega)
    obtain ⟨S2, r2, w2, f2⟩ := main S1 _ w1 (by rw [List.length_append, List.length_singleton]; omega)
    refine ⟨S2, ?_, ?_, f1.trans f2⟩
    · rw [XC_iff]
      refine ⟨Nat.le_of_ble_eq_true rfl, ?_⟩
      show XL SK MT (d + 2) 286 (0, [some (.ref 12), some (.int (Int32.ofInt v)), none, none, none], [], S) _
      have c1 : ¬ (0 : Int32) ≤ Int32.ofInt v := Int32.not_le.mpr ((oI_lt hv).mpr hn)
      have r1' : XC SK MT (d + 2) 284 [.ref 12, .int 126] S = some (none, S1) := r1
      simp (config := { decide := true }) only [rX11_number_0, rX11_number_1, rX11_number_4, rX11_number_5, rX11_number_7, rX11_number_10, rX11_number_11, rX11_number_14, rX11_number_15, rX11_number_16, rX11_number_19, rX11_number_21, rX11_number_22, rX11_number_23, rX11_number_24, rX11_number_26, rX11_number_28, rX11_number_30, rX11_number_33, rX11_number_34, rX11_number_35, rX11_number_36, rX11_number_38, rX11_number_41, rX11_number_42, rX11_number_44, rX11_number_45, rX11_number_46, rX11_number_49, rX11_number_52, rX11_number_53, rX11_number_55, rX11_number_57, rX11_number_59, rX11_number_62, rX11_number_63, rX11_number_66, rX11_number_67, rX11_number_69, rX11_number_70, rX11_number_71, rX11_number_72, rX11_number_74, rX11_number_75, rX11_number_76, rX11_number_79, rX11_number_80, rX11_number_82, rX11_number_83, rX11_number_84, rX11_number_87, rX11_number_90, ↓reduceIte, m1_le, m1_lt, m1_eq, ofInt_m1, ex_ret, Int32.reduceAdd, Int32.reduceSub, Int32.reduceMul, Int32.reduceLT, Int32.reduceLE, xsI, Nat.reduceEqDiff, and_false, false_and, and_true, true_and, if_true, if_false, ite_true, ite_false, xlook_0, xlook_s, xI_int, xA_ref, xJ_long, xK_some, xRow_row, xTo_some, xst1, xclr, List.set_cons_zero, List.set_cons_succ, xsum_nil, xsum_int, xsum_ref, xsum_long, Option.toList_some, Option.toList_none, List.nil_append, List.cons_append, c1, r1', oI_neg hn]
      exact r2 _ rfl
    · have : bs ++ nmB v = bs ++ [126] ++ dgs (ndg 10 v.natAbs) v.natAbs := by unfold nmB nby; rw [if_pos hn, List.append_assoc]; rfl
      rw [this]; exact w2
  · obtain ⟨S2, r2, w2, f2⟩ := main S bs hw (by omega)
    refine ⟨S2, ?_, ?_, f2⟩
    · rw [XC_iff]
      refine ⟨Nat.le_of_ble_eq_true rfl, ?_⟩
      show XL SK MT (d + 2) 286 (0, [some (.ref 12), some (.int (Int32.ofInt v)), none, none, none], [], S) _
      have c1 : (0 : Int32) ≤ Int32.ofInt v := Int32.not_lt.mp (fun z => hn ((oI_lt hv).mp z))
      have r2' := r2 _ rfl
      rw [← oI_pos hn] at r2'
      simp (config := { decide := true }) only [rX11_number_0, rX11_number_1, rX11_number_4, rX11_number_5, rX11_number_7, rX11_number_10, rX11_number_11, rX11_number_14, rX11_number_15, rX11_number_16, rX11_number_19, rX11_number_21, rX11_number_22, rX11_number_23, rX11_number_24, rX11_number_26, rX11_number_28, rX11_number_30, rX11_number_33, rX11_number_34, rX11_number_35, rX11_number_36, rX11_number_38, rX11_number_41, rX11_number_42, rX11_number_44, rX11_number_45, rX11_number_46, rX11_number_49, rX11_number_52, rX11_number_53, rX11_number_55, rX11_number_57, rX11_number_59, rX11_number_62, rX11_number_63, rX11_number_66, rX11_number_67, rX11_number_69, rX11_number_70, rX11_number_71, rX11_number_72, rX11_number_74, rX11_number_75, rX11_number_76, rX11_number_79, rX11_number_80, rX11_number_82, rX11_number_83, rX11_number_84, rX11_number_87, rX11_number_90, ↓reduceIte, m1_le, m1_lt, m1_eq, ofInt_m1, ex_ret, Int32.reduceAdd, Int32.reduceSub, Int32.reduceMul, Int32.reduceLT, Int32.reduceLE, xsI, Nat.reduceEqDiff, and_false, false_and, and_true, true_and, if_true, if_false, ite_true, ite_false, xlook_0, xlook_s, xI_int, xA_ref, xJ_long, xK_some, xRow_row, xTo_some, xst1, xclr, List.set_cons_zero, List.set_cons_succ, xsum_nil, xsum_int, xsum_ref, xsum_long, Option.toList_some, Option.toList_none, List.nil_append, List.cons_append, c1]
      exact r2'
    · have : nmB v = dgs (ndg 10 v.natAbs) v.natAbs := by unfold nmB nby; rw [if_neg hn]
      rw [this]; exact w2
