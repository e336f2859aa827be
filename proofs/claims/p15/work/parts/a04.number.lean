/-! XF: rows, then what is proved of them. -/
theorem rL_number_0 {d : Nat} {lv : xLV} {st : List Value} {S : xS} {r : xO} : XL SK MT d 324 (0, lv, st, S) r ↔ xI (xlook lv 1) (fun x => XL SK MT d 324 (1, lv, .int x :: st, S) r) := X_ldI rfl rfl (fun _ => rfl) rfl rfl rfl rfl
theorem rL_number_1 {d : Nat} {lv : xLV} {st : List Value} {S : xS} {r : xO} {x : Int32} : XL SK MT d 324 (1, lv, .int x :: st, S) r ↔ if 0 ≤ x then XL SK MT d 324 (13, lv, st, S) r else XL SK MT d 324 (4, lv, st, S) r := (X_if rfl rfl).trans xc_ge
theorem rL_number_4 {d : Nat} {lv : xLV} {st : List Value} {S : xS} {r : xO} : XL SK MT d 324 (4, lv, st, S) r ↔ xA (xlook lv 0) (fun x => XL SK MT d 324 (5, lv, .ref x :: st, S) r) := X_ldA rfl rfl (fun _ => rfl) rfl rfl rfl rfl
theorem rL_number_5 {d : Nat} {lv : xLV} {st : List Value} {S : xS} {r : xO} : XL SK MT d 324 (5, lv, st, S) r ↔ XL SK MT d 324 (8, lv, .long 126 :: st, S) r := X_pure rfl rfl rfl
theorem rL_number_8 {d : Nat} {lv : xLV} {st : List Value} {S : xS} {r : xO} : XL SK MT d 324 (8, lv, st, S) r ↔ XL SK MT d 324 (9, lv, .int 1 :: st, S) r := X_pure rfl rfl rfl
theorem rL_number_9 {d : Nat} {lv : xLV} {st : List Value} {S : xS} {r : xO} : XL SK MT d 324 (9, lv, st, S) r ↔ xA (xlook lv 2) (fun x => XL SK MT d 324 (10, lv, .ref x :: st, S) r) := X_ldA rfl rfl (fun _ => rfl) rfl rfl rfl rfl
theorem rL_number_10 {d : Nat} {lv : xLV} {S : xS} {r : xO} {x1 : Nat} {x2 : Int64} {x3 : Int32} {x4 : Nat} : XL SK MT d 324 (10, lv, [.ref x4, .int x3, .long x2, .ref x1], S) r ↔ xK (XC SK MT d 321 [.ref x1, .long x2, .int x3, .ref x4] S) (fun v S => XL SK MT d 324 (13, lv, v.toList ++ [], S) r) := X_inv (n := 4) (kd := 0) (st0 := [.ref x4, .int x3, .long x2, .ref x1]) rfl (Or.inl ⟨rfl, rfl⟩) rfl (Nat.le_of_ble_eq_true rfl) (Nat.le_of_ble_eq_true rfl) (by decide) rfl
theorem rL_number_13 {d : Nat} {lv : xLV} {st : List Value} {S : xS} {r : xO} : XL SK MT d 324 (13, lv, st, S) r ↔ xI (xlook lv 1) (fun x => XL SK MT d 324 (14, lv, .int x :: st, S) r) := X_ldI rfl rfl (fun _ => rfl) rfl rfl rfl rfl
theorem rL_number_14 {d : Nat} {lv : xLV} {st : List Value} {S : xS} {r : xO} {x : Int32} : XL SK MT d 324 (14, lv, .int x :: st, S) r ↔ if 0 ≤ x then XL SK MT d 324 (23, lv, st, S) r else XL SK MT d 324 (17, lv, st, S) r := (X_if rfl rfl).trans xc_ge
theorem rL_number_17 {d : Nat} {lv : xLV} {st : List Value} {S : xS} {r : xO} : XL SK MT d 324 (17, lv, st, S) r ↔ xI (xlook lv 1) (fun x => XL SK MT d 324 (18, lv, .int x :: st, S) r) := X_ldI rfl rfl (fun _ => rfl) rfl rfl rfl rfl
theorem rL_number_18 {d : Nat} {lv : xLV} {st : List Value} {S : xS} {r : xO} {x : Int32} : XL SK MT d 324 (18, lv, .int x :: st, S) r ↔ XL SK MT d 324 (19, lv, .long x.toInt64 :: st, S) r := X_pure rfl rfl rfl
theorem rL_number_19 {d : Nat} {lv : xLV} {st : List Value} {S : xS} {r : xO} {x : Int64} : XL SK MT d 324 (19, lv, .long x :: st, S) r ↔ XL SK MT d 324 (20, lv, .long (-x) :: st, S) r := X_pure rfl rfl rfl
theorem rL_number_20 {d : Nat} {lv : xLV} {st : List Value} {S : xS} {r : xO} : XL SK MT d 324 (20, lv, st, S) r ↔ XL SK MT d 324 (25, lv, st, S) r := X_jump rfl rfl rfl
theorem rL_number_23 {d : Nat} {lv : xLV} {st : List Value} {S : xS} {r : xO} : XL SK MT d 324 (23, lv, st, S) r ↔ xI (xlook lv 1) (fun x => XL SK MT d 324 (24, lv, .int x :: st, S) r) := X_ldI rfl rfl (fun _ => rfl) rfl rfl rfl rfl
theorem rL_number_24 {d : Nat} {lv : xLV} {st : List Value} {S : xS} {r : xO} {x : Int32} : XL SK MT d 324 (24, lv, .int x :: st, S) r ↔ XL SK MT d 324 (25, lv, .long x.toInt64 :: st, S) r := X_pure rfl rfl rfl
theorem rL_number_25 {d : Nat} {lv : xLV} {st : List Value} {S : xS} {r : xO} {x : Int64} : XL SK MT d 324 (25, lv, .long x :: st, S) r ↔ XL SK MT d 324 (26, xst2 lv 3 (.long x), st, S) r := X_pure rfl rfl rfl
theorem rL_number_26 {d : Nat} {lv : xLV} {st : List Value} {S : xS} {r : xO} : XL SK MT d 324 (26, lv, st, S) r ↔ XL SK MT d 324 (27, lv, .long 1 :: st, S) r := X_pure rfl rfl rfl
theorem rL_number_27 {d : Nat} {lv : xLV} {st : List Value} {S : xS} {r : xO} {x : Int64} : XL SK MT d 324 (27, lv, .long x :: st, S) r ↔ XL SK MT d 324 (29, xst2 lv 5 (.long x), st, S) r := X_pure rfl rfl rfl
theorem rL_number_29 {d : Nat} {lv : xLV} {st : List Value} {S : xS} {r : xO} : XL SK MT d 324 (29, lv, st, S) r ↔ xJ (xlook lv 3) (fun x => XL SK MT d 324 (30, lv, .long x :: st, S) r) := X_ldL rfl rfl (fun _ => rfl) rfl rfl rfl rfl
theorem rL_number_30 {d : Nat} {lv : xLV} {st : List Value} {S : xS} {r : xO} : XL SK MT d 324 (30, lv, st, S) r ↔ xJ (xlook lv 5) (fun x => XL SK MT d 324 (32, lv, .long x :: st, S) r) := X_ldL rfl rfl (fun _ => rfl) rfl rfl rfl rfl
theorem rL_number_32 {d : Nat} {lv : xLV} {st : List Value} {S : xS} {r : xO} {x z : Int64} (hz : ¬ z = 0) : XL SK MT d 324 (32, lv, .long z :: .long x :: st, S) r ↔ XL SK MT d 324 (33, lv, .long (x / z) :: st, S) r := X_pure rfl rfl (if_neg hz)
theorem rL_number_33 {d : Nat} {lv : xLV} {st : List Value} {S : xS} {r : xO} : XL SK MT d 324 (33, lv, st, S) r ↔ XL SK MT d 324 (36, lv, .long 9 :: st, S) r := X_pure rfl rfl rfl
theorem rL_number_36 {d : Nat} {lv : xLV} {st : List Value} {S : xS} {r : xO} {x z : Int64} : XL SK MT d 324 (36, lv, .long z :: .long x :: st, S) r ↔ XL SK MT d 324 (37, lv, .int (lg_cmp x z) :: st, S) r := X_pure rfl rfl rfl
theorem rL_number_37 {d : Nat} {lv : xLV} {st : List Value} {S : xS} {r : xO} {x : Int32} : XL SK MT d 324 (37, lv, .int x :: st, S) r ↔ if x ≤ 0 then XL SK MT d 324 (51, lv, st, S) r else XL SK MT d 324 (40, lv, st, S) r := (X_if rfl rfl).trans xc_le
theorem rL_number_40 {d : Nat} {lv : xLV} {st : List Value} {S : xS} {r : xO} : XL SK MT d 324 (40, lv, st, S) r ↔ xJ (xlook lv 5) (fun x => XL SK MT d 324 (42, lv, .long x :: st, S) r) := X_ldL rfl rfl (fun _ => rfl) rfl rfl rfl rfl
theorem rL_number_42 {d : Nat} {lv : xLV} {st : List Value} {S : xS} {r : xO} : XL SK MT d 324 (42, lv, st, S) r ↔ XL SK MT d 324 (45, lv, .long 10 :: st, S) r := X_pure rfl rfl rfl
theorem rL_number_45 {d : Nat} {lv : xLV} {st : List Value} {S : xS} {r : xO} {x z : Int64} : XL SK MT d 324 (45, lv, .long z :: .long x :: st, S) r ↔ XL SK MT d 324 (46, lv, .long (x * z) :: st, S) r := X_pure rfl rfl rfl
theorem rL_number_46 {d : Nat} {lv : xLV} {st : List Value} {S : xS} {r : xO} {x : Int64} : XL SK MT d 324 (46, lv, .long x :: st, S) r ↔ XL SK MT d 324 (48, xst2 lv 5 (.long x), st, S) r := X_pure rfl rfl rfl
theorem rL_number_48 {d : Nat} {lv : xLV} {st : List Value} {S : xS} {r : xO} : XL SK MT d 324 (48, lv, st, S) r ↔ XL SK MT d 324 (29, lv, st, S) r := X_jump rfl rfl rfl
theorem rL_number_51 {d : Nat} {lv : xLV} {st : List Value} {S : xS} {r : xO} : XL SK MT d 324 (51, lv, st, S) r ↔ xJ (xlook lv 5) (fun x => XL SK MT d 324 (53, lv, .long x :: st, S) r) := X_ldL rfl rfl (fun _ => rfl) rfl rfl rfl rfl
theorem rL_number_53 {d : Nat} {lv : xLV} {st : List Value} {S : xS} {r : xO} {x : Int64} : XL SK MT d 324 (53, lv, .long x :: st, S) r ↔ XL SK MT d 324 (55, xst2 lv 7 (.long x), st, S) r := X_pure rfl rfl rfl
theorem rL_number_55 {d : Nat} {lv : xLV} {st : List Value} {S : xS} {r : xO} : XL SK MT d 324 (55, lv, st, S) r ↔ xJ (xlook lv 7) (fun x => XL SK MT d 324 (57, lv, .long x :: st, S) r) := X_ldL rfl rfl (fun _ => rfl) rfl rfl rfl rfl
theorem rL_number_57 {d : Nat} {lv : xLV} {st : List Value} {S : xS} {r : xO} : XL SK MT d 324 (57, lv, st, S) r ↔ XL SK MT d 324 (58, lv, .long 0 :: st, S) r := X_pure rfl rfl rfl
theorem rL_number_58 {d : Nat} {lv : xLV} {st : List Value} {S : xS} {r : xO} {x z : Int64} : XL SK MT d 324 (58, lv, .long z :: .long x :: st, S) r ↔ XL SK MT d 324 (59, lv, .int (lg_cmp x z) :: st, S) r := X_pure rfl rfl rfl
theorem rL_number_59 {d : Nat} {lv : xLV} {st : List Value} {S : xS} {r : xO} {x : Int32} : XL SK MT d 324 (59, lv, .int x :: st, S) r ↔ if x ≤ 0 then XL SK MT d 324 (91, lv, st, S) r else XL SK MT d 324 (62, lv, st, S) r := (X_if rfl rfl).trans xc_le
theorem rL_number_62 {d : Nat} {lv : xLV} {st : List Value} {S : xS} {r : xO} : XL SK MT d 324 (62, lv, st, S) r ↔ xA (xlook lv 0) (fun x => XL SK MT d 324 (63, lv, .ref x :: st, S) r) := X_ldA rfl rfl (fun _ => rfl) rfl rfl rfl rfl
theorem rL_number_63 {d : Nat} {lv : xLV} {st : List Value} {S : xS} {r : xO} : XL SK MT d 324 (63, lv, st, S) r ↔ XL SK MT d 324 (66, lv, .long 48 :: st, S) r := X_pure rfl rfl rfl
theorem rL_number_66 {d : Nat} {lv : xLV} {st : List Value} {S : xS} {r : xO} : XL SK MT d 324 (66, lv, st, S) r ↔ xJ (xlook lv 3) (fun x => XL SK MT d 324 (67, lv, .long x :: st, S) r) := X_ldL rfl rfl (fun _ => rfl) rfl rfl rfl rfl
theorem rL_number_67 {d : Nat} {lv : xLV} {st : List Value} {S : xS} {r : xO} : XL SK MT d 324 (67, lv, st, S) r ↔ xJ (xlook lv 7) (fun x => XL SK MT d 324 (69, lv, .long x :: st, S) r) := X_ldL rfl rfl (fun _ => rfl) rfl rfl rfl rfl
theorem rL_number_69 {d : Nat} {lv : xLV} {st : List Value} {S : xS} {r : xO} {x z : Int64} (hz : ¬ z = 0) : XL SK MT d 324 (69, lv, .long z :: .long x :: st, S) r ↔ XL SK MT d 324 (70, lv, .long (x / z) :: st, S) r := X_pure rfl rfl (if_neg hz)
theorem rL_number_70 {d : Nat} {lv : xLV} {st : List Value} {S : xS} {r : xO} : XL SK MT d 324 (70, lv, st, S) r ↔ XL SK MT d 324 (73, lv, .long 10 :: st, S) r := X_pure rfl rfl rfl
theorem rL_number_73 {d : Nat} {lv : xLV} {st : List Value} {S : xS} {r : xO} {x z : Int64} (hz : ¬ z = 0) : XL SK MT d 324 (73, lv, .long z :: .long x :: st, S) r ↔ XL SK MT d 324 (74, lv, .long (x - x / z * z) :: st, S) r := X_pure rfl rfl (if_neg hz)
theorem rL_number_74 {d : Nat} {lv : xLV} {st : List Value} {S : xS} {r : xO} {x z : Int64} : XL SK MT d 324 (74, lv, .long z :: .long x :: st, S) r ↔ XL SK MT d 324 (75, lv, .long (x + z) :: st, S) r := X_pure rfl rfl rfl
theorem rL_number_75 {d : Nat} {lv : xLV} {st : List Value} {S : xS} {r : xO} : XL SK MT d 324 (75, lv, st, S) r ↔ XL SK MT d 324 (76, lv, .int 1 :: st, S) r := X_pure rfl rfl rfl
theorem rL_number_76 {d : Nat} {lv : xLV} {st : List Value} {S : xS} {r : xO} : XL SK MT d 324 (76, lv, st, S) r ↔ xA (xlook lv 2) (fun x => XL SK MT d 324 (77, lv, .ref x :: st, S) r) := X_ldA rfl rfl (fun _ => rfl) rfl rfl rfl rfl
theorem rL_number_77 {d : Nat} {lv : xLV} {S : xS} {r : xO} {x1 : Nat} {x2 : Int64} {x3 : Int32} {x4 : Nat} : XL SK MT d 324 (77, lv, [.ref x4, .int x3, .long x2, .ref x1], S) r ↔ xK (XC SK MT d 321 [.ref x1, .long x2, .int x3, .ref x4] S) (fun v S => XL SK MT d 324 (80, lv, v.toList ++ [], S) r) := X_inv (n := 4) (kd := 0) (st0 := [.ref x4, .int x3, .long x2, .ref x1]) rfl (Or.inl ⟨rfl, rfl⟩) rfl (Nat.le_of_ble_eq_true rfl) (Nat.le_of_ble_eq_true rfl) (by decide) rfl
theorem rL_number_80 {d : Nat} {lv : xLV} {st : List Value} {S : xS} {r : xO} : XL SK MT d 324 (80, lv, st, S) r ↔ xJ (xlook lv 7) (fun x => XL SK MT d 324 (82, lv, .long x :: st, S) r) := X_ldL rfl rfl (fun _ => rfl) rfl rfl rfl rfl
theorem rL_number_82 {d : Nat} {lv : xLV} {st : List Value} {S : xS} {r : xO} : XL SK MT d 324 (82, lv, st, S) r ↔ XL SK MT d 324 (85, lv, .long 10 :: st, S) r := X_pure rfl rfl rfl
theorem rL_number_85 {d : Nat} {lv : xLV} {st : List Value} {S : xS} {r : xO} {x z : Int64} (hz : ¬ z = 0) : XL SK MT d 324 (85, lv, .long z :: .long x :: st, S) r ↔ XL SK MT d 324 (86, lv, .long (x / z) :: st, S) r := X_pure rfl rfl (if_neg hz)
theorem rL_number_86 {d : Nat} {lv : xLV} {st : List Value} {S : xS} {r : xO} {x : Int64} : XL SK MT d 324 (86, lv, .long x :: st, S) r ↔ XL SK MT d 324 (88, xst2 lv 7 (.long x), st, S) r := X_pure rfl rfl rfl
theorem rL_number_88 {d : Nat} {lv : xLV} {st : List Value} {S : xS} {r : xO} : XL SK MT d 324 (88, lv, st, S) r ↔ XL SK MT d 324 (55, lv, st, S) r := X_jump rfl rfl rfl
theorem rL_number_91 {d : Nat} {lv : xLV} {S : xS} {r : xO} : XL SK MT d 324 (91, lv, [], S) r ↔ (none, S) = r := X_ret rfl rfl rfl rfl rfl rfl

/-! The law: numbers said. -/
theorem l9N : (9 : Int64) = lN 9 := rfl
theorem l10N : (10 : Int64) = lN 10 := rfl
theorem l48N : (48 : Int64) = lN 48 := rfl
theorem l126N : (126 : Int64) = lN 126 := rfl
theorem l32N : (32 : Int64) = lN 32 := rfl
theorem lgc_le {a b : Nat} (ha : a < 2 ^ 63) (hb : b < 2 ^ 63) : (lg_cmp (lN a) (lN b) ≤ 0) ↔ a ≤ b := by
  rcases Nat.lt_trichotomy a b with h | h | h
  · rw [lgc_lt ha hb h]
    exact ⟨fun _ => by omega, fun _ => by decide⟩
  · subst h
    rw [lgc_eq]
    exact ⟨fun _ => Nat.le_refl _, fun _ => by decide⟩
  · have e : lg_cmp (lN a) (lN b) = 1 := by
      unfold lg_cmp
      rw [if_pos ((pk_lLT hb ha).mpr h)]
    rw [e]
    exact ⟨fun z => absurd z (by decide), fun z => absurd z (by omega)⟩
theorem abs_p {v : Int32} (h : ¬ v < 0) : v.toInt64 = lN v.toInt.natAbs := by
  have h1 : 0 ≤ v.toInt := by
    have := Int32.not_lt.mp h
    exact Int32.le_iff_toInt_le.mp this
  have h2 := Int32.toInt_lt v
  apply Int64.toInt_inj.mp
  rw [Int32.toInt_toInt64, pk_lT (by omega)]
  omega
theorem abs_n {v : Int32} (h : v < 0) : -v.toInt64 = lN v.toInt.natAbs := by
  have h1 : v.toInt < 0 := Int32.lt_iff_toInt_lt.mp h
  have h2 := Int32.le_toInt v
  apply Int64.toInt_inj.mp
  rw [Int64.toInt_neg, Int32.toInt_toInt64, pk_lT (by omega), Int.bmod_eq_of_le (by omega) (by omega)]
  omega
theorem neN {a : Nat} (h : 0 < a) (h2 : a < 2 ^ 63) : ¬ lN a = 0 := fun z => absurd ((pk_lEQ (b := 0) h2 (by decide)).mp z) (by omega)
theorem t10_lt {i : Nat} (h : i ≤ 11) : 10 ^ i < 2 ^ 40 := Nat.lt_of_le_of_lt (Nat.pow_le_pow_right (by decide) h) (by decide)
theorem t10_pos (i : Nat) : 0 < 10 ^ i := Nat.pow_pos (by decide)
set_option maxHeartbeats 4000000 in
set_option maxRecDepth 100000 in
theorem lnum_unit {d mm : Nat} {S : xS} {v : Int32} {r : xO} (hm : mm < 2 ^ 40) : ∀ k i, i + k ≤ 10 → mm / 10 ^ i < 10 ^ (k + 1) →
    (XL SK MT (d + 5) 324 (29, [some (.ref 0), some (.int v), some (.ref 69), some (.long (lN mm)), none, some (.long (lN (10 ^ i))), none, none, none], [], S) r ↔ XL SK MT (d + 5) 324 (51, [some (.ref 0), some (.int v), some (.ref 69), some (.long (lN mm)), none, some (.long (lN (10 ^ (i + ndg k (mm / 10 ^ i) - 1)))), none, none, none], [], S) r) := by
  intro k
  induction k with
  | zero =>
    intro i hi h
    have h1 := t10_lt (i := i) (by omega)
    have h2 := t10_pos i
    have hd : lN mm / lN (10 ^ i) = lN (mm / 10 ^ i) := pk_lDiv (by omega) h2 (by omega)
    have hc : lg_cmp (lN (mm / 10 ^ i)) (lN 9) ≤ 0 := (lgc_le (Nat.lt_of_le_of_lt (Nat.div_le_self _ _) (by omega)) (by decide)).mpr (by rw [Nat.zero_add, Nat.pow_one] at h; omega)
    rw [rL_number_29]
    simp (config := { decide := true }) only [rL_number_0, rL_number_1, rL_number_4, rL_number_5, rL_number_8, rL_number_9, rL_number_10, rL_number_13, rL_number_14, rL_number_17, rL_number_18, rL_number_19, rL_number_20, rL_number_23, rL_number_24, rL_number_25, rL_number_26, rL_number_27, rL_number_30, rL_number_33, rL_number_36, rL_number_37, rL_number_40, rL_number_42, rL_number_45, rL_number_46, rL_number_48, rL_number_53, rL_number_55, rL_number_57, rL_number_58, rL_number_59, rL_number_62, rL_number_63, rL_number_66, rL_number_67, rL_number_69, rL_number_70, rL_number_73, rL_number_74, rL_number_75, rL_number_76, rL_number_77, rL_number_80, rL_number_82, rL_number_85, rL_number_86, rL_number_88, rL_number_91, rL_number_32 (neN h2 (by omega)), ↓reduceIte, m1_le, m1_lt, m1_eq, ofInt_m1, ex_ret, Int32.reduceAdd, Int32.reduceSub, Int32.reduceMul, Int32.reduceLT, Int32.reduceLE, xsI, Nat.reduceEqDiff, and_false, false_and, and_true, true_and, if_true, if_false, ite_true, ite_false, xlook_0, xlook_s, xI_int, xA_ref, xJ_long, xK_some, xRow_row, xTo_some, xst1, xclr, List.set_cons_zero, List.set_cons_succ, xsum_nil, xsum_int, xsum_ref, xsum_long, Option.toList_some, Option.toList_none, List.nil_append, List.cons_append, xst2, hd, l9N, hc]
    exact Iff.rfl
  | succ k ih =>
    intro i hi h
    have h1 := t10_lt (i := i) (by omega)
    have h2 := t10_pos i
    have hd : lN mm / lN (10 ^ i) = lN (mm / 10 ^ i) := pk_lDiv (by omega) h2 (by omega)
    have hlt : mm / 10 ^ i < 2 ^ 63 := Nat.lt_of_le_of_lt (Nat.div_le_self _ _) (by omega)
    by_cases hs : mm / 10 ^ i < 10
    · have hc : lg_cmp (lN (mm / 10 ^ i)) (lN 9) ≤ 0 := (lgc_le hlt (by decide)).mpr (by omega)
      have e : ndg (k + 1) (mm / 10 ^ i) = 1 := by unfold ndg; rw [if_pos hs]
      rw [e, rL_number_29]
      simp (config := { decide := true }) only [rL_number_0, rL_number_1, rL_number_4, rL_number_5, rL_number_8, rL_number_9, rL_number_10, rL_number_13, rL_number_14, rL_number_17, rL_number_18, rL_number_19, rL_number_20, rL_number_23, rL_number_24, rL_number_25, rL_number_26, rL_number_27, rL_number_30, rL_number_33, rL_number_36, rL_number_37, rL_number_40, rL_number_42, rL_number_45, rL_number_46, rL_number_48, rL_number_53, rL_number_55, rL_number_57, rL_number_58, rL_number_59, rL_number_62, rL_number_63, rL_number_66, rL_number_67, rL_number_69, rL_number_70, rL_number_73, rL_number_74, rL_number_75, rL_number_76, rL_number_77, rL_number_80, rL_number_82, rL_number_85, rL_number_86, rL_number_88, rL_number_91, rL_number_32 (neN h2 (by omega)), ↓reduceIte, m1_le, m1_lt, m1_eq, ofInt_m1, ex_ret, Int32.reduceAdd, Int32.reduceSub, Int32.reduceMul, Int32.reduceLT, Int32.reduceLE, xsI, Nat.reduceEqDiff, and_false, false_and, and_true, true_and, if_true, if_false, ite_true, ite_false, xlook_0, xlook_s, xI_int, xA_ref, xJ_long, xK_some, xRow_row, xTo_some, xst1, xclr, List.set_cons_zero, List.set_cons_succ, xsum_nil, xsum_int, xsum_ref, xsum_long, Option.toList_some, Option.toList_none, List.nil_append, List.cons_append, xst2, hd, l9N, hc]
      exact Iff.rfl
    · have hc : ¬ lg_cmp (lN (mm / 10 ^ i)) (lN 9) ≤ 0 := fun z => absurd ((lgc_le hlt (by decide)).mp z) (by omega)
      have e : ndg (k + 1) (mm / 10 ^ i) = ndg k (mm / 10 ^ i / 10) + 1 := by unfold ndg; rw [if_neg hs]; cases k <;> rfl
      have e2 : mm / 10 ^ i / 10 = mm / 10 ^ (i + 1) := by rw [Nat.div_div_eq_div_mul, Nat.pow_succ]
      have e3 : lN (10 ^ i) * lN 10 = lN (10 ^ (i + 1)) := by rw [lN_mul, Nat.pow_succ]
      have h9 := ih (i + 1) (by omega) (by rw [← e2]; rw [Nat.pow_succ] at h; omega)
      have hp := (ndg_pos k (mm / 10 ^ (i + 1))).1
      rw [e, e2, show i + (ndg k (mm / 10 ^ (i + 1)) + 1) - 1 = i + 1 + ndg k (mm / 10 ^ (i + 1)) - 1 by omega, ← h9, rL_number_29]
      simp (config := { decide := true }) only [rL_number_0, rL_number_1, rL_number_4, rL_number_5, rL_number_8, rL_number_9, rL_number_10, rL_number_13, rL_number_14, rL_number_17, rL_number_18, rL_number_19, rL_number_20, rL_number_23, rL_number_24, rL_number_25, rL_number_26, rL_number_27, rL_number_30, rL_number_33, rL_number_36, rL_number_37, rL_number_40, rL_number_42, rL_number_45, rL_number_46, rL_number_48, rL_number_53, rL_number_55, rL_number_57, rL_number_58, rL_number_59, rL_number_62, rL_number_63, rL_number_66, rL_number_67, rL_number_69, rL_number_70, rL_number_73, rL_number_74, rL_number_75, rL_number_76, rL_number_77, rL_number_80, rL_number_82, rL_number_85, rL_number_86, rL_number_88, rL_number_91, rL_number_32 (neN h2 (by omega)), ↓reduceIte, m1_le, m1_lt, m1_eq, ofInt_m1, ex_ret, Int32.reduceAdd, Int32.reduceSub, Int32.reduceMul, Int32.reduceLT, Int32.reduceLE, xsI, Nat.reduceEqDiff, and_false, false_and, and_true, true_and, if_true, if_false, ite_true, ite_false, xlook_0, xlook_s, xI_int, xA_ref, xJ_long, xK_some, xRow_row, xTo_some, xst1, xclr, List.set_cons_zero, List.set_cons_succ, xsum_nil, xsum_int, xsum_ref, xsum_long, Option.toList_some, Option.toList_none, List.nil_append, List.cons_append, xst2, hd, l9N, hc, l10N, e3]
set_option maxHeartbeats 4000000 in
set_option maxRecDepth 100000 in
theorem num_say {d mm : Nat} {v : Int32} (hm : mm < 2 ^ 40) : ∀ (j : Nat) (un : Int64) (S : xS) (bs : List Nat), j ≤ 10 → Sd S bs → bs.length + j + 2 < 8000 →
    ∃ S', Sd S' (bs ++ dgs (j + 1) mm) ∧ FrSy S S' ∧ ∀ r, XL SK MT (d + 5) 324 (55, [some (.ref 0), some (.int v), some (.ref 69), some (.long (lN mm)), none, some (.long un), none, some (.long (lN (10 ^ j))), none], [], S) r ↔ (none, S') = r := by
  intro j
  have dig : ∀ j, j ≤ 10 → lN 48 + (lN mm / lN (10 ^ j) - lN mm / lN (10 ^ j) / lN 10 * lN 10) = lN (48 + mm / 10 ^ j % 10) := by
    intro j hj
    have h1 := t10_lt (i := j) (by omega)
    rw [pk_lDiv (by omega) (t10_pos j) (by omega), pk_lRem (Nat.lt_of_le_of_lt (Nat.div_le_self _ _) (by omega)) (by decide) (by decide), lN_add]
  have dby : ∀ x, x < 10 → byL (48 + x) 0 1 = [48 + x] := by
    intro x hx
    show [(48 + x) / 2 ^ (8 * 0) % 256] = _
    rw [Nat.mul_zero, Nat.pow_zero, Nat.div_one, Nat.mod_eq_of_lt (by omega)]
  have one : ∀ (j : Nat) (S : xS) (bs : List Nat), j ≤ 10 → Sd S bs → bs.length + 2 < 8000 → ∃ S', XC SK MT (d + 5) 321 [.ref 0, .long (lN (48 + mm / 10 ^ j % 10)), .int 1, .ref 69] S = some (none, S') ∧ Sd S' (bs ++ [48 + mm / 10 ^ j % 10]) ∧ FrSy S S' := by
    intro j S bs hj h hz
    have hlt := Nat.mod_lt (mm / 10 ^ j) (show 0 < 10 by decide)
    have g := s_say (d := d) (sg := 48 + mm / 10 ^ j % 10) (n := 1) h (by omega) (by decide) (fun b hb => by rw [dby _ hlt] at hb; rw [List.mem_singleton.mp hb]; omega) (by omega)
    rw [dby _ hlt] at g
    exact g
  have nz : ∀ j, j ≤ 10 → ¬ lg_cmp (lN (10 ^ j)) (lN 0) ≤ 0 := fun j hj z => absurd ((lgc_le (by have := t10_lt (i := j) (by omega); omega) (by decide)).mp z) (by have := t10_pos j; omega)
  induction j with
  | zero =>
    intro un S bs hj h hz
    obtain ⟨S', g1, g2, g3⟩ := one 0 S bs hj h (by omega)
    have e0 := dig 0 hj
    have hu : lN (10 ^ 0) / lN 10 = lN 0 := by rw [pk_lDiv (by decide) (by decide) (by decide)]
    have n0 := nz 0 hj
    refine ⟨S', g2, g3, fun r => ?_⟩
    have l00 : lg_cmp (lN 0) (lN 0) ≤ 0 := by rw [lgc_eq]; decide
    rw [rL_number_55]
    simp (config := { decide := true }) only [rL_number_0, rL_number_1, rL_number_4, rL_number_5, rL_number_8, rL_number_9, rL_number_10, rL_number_13, rL_number_14, rL_number_17, rL_number_18, rL_number_19, rL_number_20, rL_number_23, rL_number_24, rL_number_25, rL_number_26, rL_number_27, rL_number_29, rL_number_30, rL_number_32, rL_number_33, rL_number_36, rL_number_37, rL_number_40, rL_number_42, rL_number_45, rL_number_46, rL_number_48, rL_number_51, rL_number_53, rL_number_57, rL_number_58, rL_number_59, rL_number_62, rL_number_63, rL_number_66, rL_number_67, rL_number_70, rL_number_74, rL_number_75, rL_number_76, rL_number_77, rL_number_80, rL_number_82, rL_number_86, rL_number_88, rL_number_91, rL_number_69 (neN (t10_pos 0) (by decide)), rL_number_73 (neN (show 0 < 10 by decide) (by decide)), rL_number_85 (neN (show 0 < 10 by decide) (by decide)), ↓reduceIte, m1_le, m1_lt, m1_eq, ofInt_m1, ex_ret, Int32.reduceAdd, Int32.reduceSub, Int32.reduceMul, Int32.reduceLT, Int32.reduceLE, xsI, Nat.reduceEqDiff, and_false, false_and, and_true, true_and, if_true, if_false, ite_true, ite_false, xlook_0, xlook_s, xI_int, xA_ref, xJ_long, xK_some, xRow_row, xTo_some, xst1, xclr, List.set_cons_zero, List.set_cons_succ, xsum_nil, xsum_int, xsum_ref, xsum_long, Option.toList_some, Option.toList_none, List.nil_append, List.cons_append, xst2, l0N, l48N, l10N, n0, e0, g1, hu]
    rw [rL_number_55]
    simp (config := { decide := true }) only [rL_number_0, rL_number_1, rL_number_4, rL_number_5, rL_number_8, rL_number_9, rL_number_10, rL_number_13, rL_number_14, rL_number_17, rL_number_18, rL_number_19, rL_number_20, rL_number_23, rL_number_24, rL_number_25, rL_number_26, rL_number_27, rL_number_29, rL_number_30, rL_number_32, rL_number_33, rL_number_36, rL_number_37, rL_number_40, rL_number_42, rL_number_45, rL_number_46, rL_number_48, rL_number_51, rL_number_53, rL_number_57, rL_number_58, rL_number_59, rL_number_62, rL_number_63, rL_number_66, rL_number_67, rL_number_70, rL_number_74, rL_number_75, rL_number_76, rL_number_77, rL_number_80, rL_number_82, rL_number_86, rL_number_88, rL_number_91, ↓reduceIte, m1_le, m1_lt, m1_eq, ofInt_m1, ex_ret, Int32.reduceAdd, Int32.reduceSub, Int32.reduceMul, Int32.reduceLT, Int32.reduceLE, xsI, Nat.reduceEqDiff, and_false, false_and, and_true, true_and, if_true, if_false, ite_true, ite_false, xlook_0, xlook_s, xI_int, xA_ref, xJ_long, xK_some, xRow_row, xTo_some, xst1, xclr, List.set_cons_zero, List.set_cons_succ, xsum_nil, xsum_int, xsum_ref, xsum_long, Option.toList_some, Option.toList_none, List.nil_append, List.cons_append, xst2, l0N, l00]
  | succ j ih =>
    intro un S bs hj h hz
    obtain ⟨S1, g1, g2, g3⟩ := one (j + 1) S bs hj h (by omega)
    have e0 := dig (j + 1) hj
    have h1 := t10_lt (i := j + 1) (by omega)
    have hu : lN (10 ^ (j + 1)) / lN 10 = lN (10 ^ j) := by rw [pk_lDiv (by omega) (by decide) (by decide), Nat.pow_succ, Nat.mul_div_cancel _ (by decide)]
    have n0 := nz (j + 1) hj
    obtain ⟨S', k1, k2, k3⟩ := ih un S1 _ (by omega) g2 (by rw [List.length_append]; show _ + 1 + _ + _ < _; omega)
    refine ⟨S', ?_, g3.tr k2, fun r => ?_⟩
    · rw [List.append_assoc] at k1; exact k1
    · rw [← k3 r, rL_number_55]
      simp (config := { decide := true }) only [rL_number_0, rL_number_1, rL_number_4, rL_number_5, rL_number_8, rL_number_9, rL_number_10, rL_number_13, rL_number_14, rL_number_17, rL_number_18, rL_number_19, rL_number_20, rL_number_23, rL_number_24, rL_number_25, rL_number_26, rL_number_27, rL_number_29, rL_number_30, rL_number_32, rL_number_33, rL_number_36, rL_number_37, rL_number_40, rL_number_42, rL_number_45, rL_number_46, rL_number_48, rL_number_51, rL_number_53, rL_number_57, rL_number_58, rL_number_59, rL_number_62, rL_number_63, rL_number_66, rL_number_67, rL_number_70, rL_number_74, rL_number_75, rL_number_76, rL_number_77, rL_number_80, rL_number_82, rL_number_86, rL_number_88, rL_number_91, rL_number_69 (neN (t10_pos (j + 1)) (by omega)), rL_number_73 (neN (show 0 < 10 by decide) (by decide)), rL_number_85 (neN (show 0 < 10 by decide) (by decide)), ↓reduceIte, m1_le, m1_lt, m1_eq, ofInt_m1, ex_ret, Int32.reduceAdd, Int32.reduceSub, Int32.reduceMul, Int32.reduceLT, Int32.reduceLE, xsI, Nat.reduceEqDiff, and_false, false_and, and_true, true_and, if_true, if_false, ite_true, ite_false, xlook_0, xlook_s, xI_int, xA_ref, xJ_long, xK_some, xRow_row, xTo_some, xst1, xclr, List.set_cons_zero, List.set_cons_succ, xsum_nil, xsum_int, xsum_ref, xsum_long, Option.toList_some, Option.toList_none, List.nil_append, List.cons_append, xst2, l0N, l48N, l10N, n0, e0, g1, hu]
set_option maxHeartbeats 4000000 in
set_option maxRecDepth 100000 in
theorem s_lnumber {d : Nat} {S : xS} {v : Int32} {bs : List Nat} (h : Sd S bs) (hz : bs.length + 20 < 8000) :
    ∃ S', XC SK MT (d + 6) 324 [.ref 0, .int v, .ref 69] S = some (none, S') ∧ Sd S' (bs ++ nmB v.toInt) ∧ FrSy S S' := by
  have hm : v.toInt.natAbs < 2 ^ 40 := by have := Int32.toInt_lt v; have := Int32.le_toInt v; omega
  have hd11 : v.toInt.natAbs < 10 ^ 11 := by have := Int32.toInt_lt v; have := Int32.le_toInt v; omega
  have hp := ndg_pos 10 v.toInt.natAbs
  have fin : ∀ (S1 : xS) (b1 : List Nat), Sd S1 b1 → b1.length + 15 < 8000 → ∃ S', Sd S' (b1 ++ dgs (ndg 10 v.toInt.natAbs) v.toInt.natAbs) ∧ FrSy S1 S' ∧ ∀ r, XL SK MT (d + 5) 324 (29, [some (.ref 0), some (.int v), some (.ref 69), some (.long (lN v.toInt.natAbs)), none, some (.long (lN 1)), none, none, none], [], S1) r ↔ (none, S') = r := by
    intro S1 b1 h1 hz1
    have u := fun r => lnum_unit (d := d) (S := S1) (v := v) (r := r) hm 10 0 (by decide) (by rw [Nat.pow_zero, Nat.div_one]; exact hd11)
    rw [Nat.pow_zero, Nat.div_one, Nat.zero_add] at u
    obtain ⟨S', k1, k2, k3⟩ := num_say (d := d) (v := v) hm (ndg 10 v.toInt.natAbs - 1) (lN (10 ^ (ndg 10 v.toInt.natAbs - 1))) S1 b1 (by omega) h1 (by omega)
    rw [show ndg 10 v.toInt.natAbs - 1 + 1 = ndg 10 v.toInt.natAbs by omega] at k1
    refine ⟨S', k1, k2, fun r => ?_⟩
    rw [u r, ← k3 r, rL_number_51]
    simp (config := { decide := true }) only [rL_number_53, ↓reduceIte, m1_le, m1_lt, m1_eq, ofInt_m1, ex_ret, Int32.reduceAdd, Int32.reduceSub, Int32.reduceMul, Int32.reduceLT, Int32.reduceLE, xsI, Nat.reduceEqDiff, and_false, false_and, and_true, true_and, if_true, if_false, ite_true, ite_false, xlook_0, xlook_s, xI_int, xA_ref, xJ_long, xK_some, xRow_row, xTo_some, xst1, xclr, List.set_cons_zero, List.set_cons_succ, xsum_nil, xsum_int, xsum_ref, xsum_long, Option.toList_some, Option.toList_none, List.nil_append, List.cons_append, xst2]
  by_cases hn : v < 0
  · have hv : v.toInt < 0 := Int32.lt_iff_toInt_lt.mp hn
    have e : nmB v.toInt = 126 :: dgs (ndg 10 v.toInt.natAbs) v.toInt.natAbs := if_pos hv
    obtain ⟨S1, g1, g2, g3⟩ := s_say (d := d) (sg := 126) (n := 1) h (by decide) (by decide) (by decide) (by omega)
    obtain ⟨S', k1, k2, k3⟩ := fin S1 _ g2 (by rw [List.length_append]; show _ + 1 + _ < _; omega)
    have g1' : XC SK MT (d + 5) 321 [.ref 0, .long (lN 126), .int 1, .ref 69] S = some (none, S1) := g1
    have nn : ¬ 0 ≤ v := fun z => absurd (Int32.le_iff_toInt_le.mp z) (by show ¬ (0 : Int) ≤ _; omega)
    refine ⟨S', ?_, ?_, g3.tr k2⟩
    · rw [XC_iff]
      refine ⟨Nat.le_of_ble_eq_true rfl, ?_⟩
      show XL SK MT (d + 5) 324 (0, [some (.ref 0), some (.int v), some (.ref 69), none, none, none, none, none, none], [], S) _
      simp (config := { decide := true }) only [rL_number_0, rL_number_1, rL_number_4, rL_number_5, rL_number_8, rL_number_9, rL_number_10, rL_number_13, rL_number_14, rL_number_17, rL_number_18, rL_number_19, rL_number_20, rL_number_23, rL_number_24, rL_number_25, rL_number_26, rL_number_27, rL_number_30, rL_number_33, rL_number_36, rL_number_37, rL_number_40, rL_number_42, rL_number_45, rL_number_46, rL_number_48, rL_number_51, rL_number_53, rL_number_55, rL_number_57, rL_number_58, rL_number_59, rL_number_62, rL_number_63, rL_number_66, rL_number_67, rL_number_70, rL_number_74, rL_number_75, rL_number_76, rL_number_77, rL_number_80, rL_number_82, rL_number_86, rL_number_88, rL_number_91, ↓reduceIte, m1_le, m1_lt, m1_eq, ofInt_m1, ex_ret, Int32.reduceAdd, Int32.reduceSub, Int32.reduceMul, Int32.reduceLT, Int32.reduceLE, xsI, Nat.reduceEqDiff, and_false, false_and, and_true, true_and, if_true, if_false, ite_true, ite_false, xlook_0, xlook_s, xI_int, xA_ref, xJ_long, xK_some, xRow_row, xTo_some, xst1, xclr, List.set_cons_zero, List.set_cons_succ, xsum_nil, xsum_int, xsum_ref, xsum_long, Option.toList_some, Option.toList_none, List.nil_append, List.cons_append, xst2, nn, l126N, g1', abs_n hn, l1N, k3]
    · rw [e]
      have e2 : bs ++ byL 126 0 1 ++ dgs (ndg 10 v.toInt.natAbs) v.toInt.natAbs = bs ++ 126 :: dgs (ndg 10 v.toInt.natAbs) v.toInt.natAbs := by rw [List.append_assoc]; rfl
      rw [← e2]; exact k1
  · have hv : ¬ v.toInt < 0 := fun z => hn (Int32.lt_iff_toInt_lt.mpr z)
    have e : nmB v.toInt = dgs (ndg 10 v.toInt.natAbs) v.toInt.natAbs := if_neg hv
    obtain ⟨S', k1, k2, k3⟩ := fin S bs h (by omega)
    have nn : 0 ≤ v := Int32.not_lt.mp hn
    refine ⟨S', ?_, by rw [e]; exact k1, k2⟩
    rw [XC_iff]
    refine ⟨Nat.le_of_ble_eq_true rfl, ?_⟩
    show XL SK MT (d + 5) 324 (0, [some (.ref 0), some (.int v), some (.ref 69), none, none, none, none, none, none], [], S) _
    simp (config := { decide := true }) only [rL_number_0, rL_number_1, rL_number_4, rL_number_5, rL_number_8, rL_number_9, rL_number_10, rL_number_13, rL_number_14, rL_number_17, rL_number_18, rL_number_19, rL_number_20, rL_number_23, rL_number_24, rL_number_25, rL_number_26, rL_number_27, rL_number_30, rL_number_33, rL_number_36, rL_number_37, rL_number_40, rL_number_42, rL_number_45, rL_number_46, rL_number_48, rL_number_51, rL_number_53, rL_number_55, rL_number_57, rL_number_58, rL_number_59, rL_number_62, rL_number_63, rL_number_66, rL_number_67, rL_number_70, rL_number_74, rL_number_75, rL_number_76, rL_number_77, rL_number_80, rL_number_82, rL_number_86, rL_number_88, rL_number_91, ↓reduceIte, m1_le, m1_lt, m1_eq, ofInt_m1, ex_ret, Int32.reduceAdd, Int32.reduceSub, Int32.reduceMul, Int32.reduceLT, Int32.reduceLE, xsI, Nat.reduceEqDiff, and_false, false_and, and_true, true_and, if_true, if_false, ite_true, ite_false, xlook_0, xlook_s, xI_int, xA_ref, xJ_long, xK_some, xRow_row, xTo_some, xst1, xclr, List.set_cons_zero, List.set_cons_succ, xsum_nil, xsum_int, xsum_ref, xsum_long, Option.toList_some, Option.toList_none, List.nil_append, List.cons_append, xst2, nn, abs_p hn, l1N, k3]
