/-! XF: rows, then what is proved of them. -/
theorem rX6_push_0 {d : Nat} {lv : xLV} {st : List Value} {S : xS} {r : xO} : XL SK MT d 157 (0, lv, st, S) r ↔ xA (xlook lv 0) (fun x => XL SK MT d 157 (1, lv, .ref x :: st, S) r) := X_ldA rfl rfl (fun _ => rfl) rfl rfl rfl rfl
theorem rX6_push_1 {d : Nat} {lv : xLV} {st : List Value} {S : xS} {r : xO} : XL SK MT d 157 (1, lv, .ref 7 :: st, S) r ↔ XL SK MT d 157 (4, lv, .int (S.1 7 4) :: st, S) r := X_heap rfl rfl rfl rfl rfl
theorem rX6_push_4 {d : Nat} {lv : xLV} {st : List Value} {S : xS} {r : xO} : XL SK MT d 157 (4, lv, st, S) r ↔ XL SK MT d 157 (7, lv, .int 11632 :: st, S) r := X_pure rfl rfl rfl
theorem rX6_push_7 {d : Nat} {lv : xLV} {st : List Value} {S : xS} {r : xO} {x z : Int32} : XL SK MT d 157 (7, lv, .int z :: .int x :: st, S) r ↔ if x < z then XL SK MT d 157 (16, lv, st, S) r else XL SK MT d 157 (10, lv, st, S) r := (X_icmp rfl rfl).trans xc_lt
theorem rX6_push_10 {d : Nat} {lv : xLV} {st : List Value} {S : xS} {r : xO} : XL SK MT d 157 (10, lv, st, S) r ↔ xA (xlook lv 0) (fun x => XL SK MT d 157 (11, lv, .ref x :: st, S) r) := X_ldA rfl rfl (fun _ => rfl) rfl rfl rfl rfl
theorem rX6_push_11 {d : Nat} {lv : xLV} {st : List Value} {S : xS} {r : xO} : XL SK MT d 157 (11, lv, st, S) r ↔ XL SK MT d 157 (12, lv, .int 4 :: st, S) r := X_pure rfl rfl rfl
theorem rX6_push_12 {d : Nat} {lv : xLV} {st : List Value} {S : xS} {r : xO} {x : Int32} : XL SK MT d 157 (12, lv, .int x :: .ref 7 :: st, S) r ↔ XL SK MT d 157 (15, lv, st, (xsetI S 7 14 x)) r := X_heap rfl rfl rfl rfl rfl
theorem rX6_push_15 {d : Nat} {lv : xLV} {S : xS} {r : xO} : XL SK MT d 157 (15, lv, [], S) r ↔ (none, S) = r := X_ret rfl rfl rfl rfl rfl rfl
theorem rX6_push_16 {d : Nat} {lv : xLV} {st : List Value} {S : xS} {r : xO} : XL SK MT d 157 (16, lv, st, S) r ↔ xA (xlook lv 0) (fun x => XL SK MT d 157 (17, lv, .ref x :: st, S) r) := X_ldA rfl rfl (fun _ => rfl) rfl rfl rfl rfl
theorem rX6_push_17 {d : Nat} {lv : xLV} {st : List Value} {S : xS} {r : xO} : XL SK MT d 157 (17, lv, .ref 7 :: st, S) r ↔ XL SK MT d 157 (20, lv, .ref 14 :: st, S) r := X_heap rfl rfl rfl rfl rfl
theorem rX6_push_20 {d : Nat} {lv : xLV} {st : List Value} {S : xS} {r : xO} : XL SK MT d 157 (20, lv, st, S) r ↔ xA (xlook lv 0) (fun x => XL SK MT d 157 (21, lv, .ref x :: st, S) r) := X_ldA rfl rfl (fun _ => rfl) rfl rfl rfl rfl
theorem rX6_push_21 {d : Nat} {lv : xLV} {st : List Value} {S : xS} {r : xO} : XL SK MT d 157 (21, lv, .ref 7 :: st, S) r ↔ XL SK MT d 157 (24, lv, .int (S.1 7 4) :: st, S) r := X_heap rfl rfl rfl rfl rfl
theorem rX6_push_24 {d : Nat} {lv : xLV} {st : List Value} {S : xS} {r : xO} : XL SK MT d 157 (24, lv, st, S) r ↔ xI (xlook lv 1) (fun x => XL SK MT d 157 (25, lv, .int x :: st, S) r) := X_ldI rfl rfl (fun _ => rfl) rfl rfl rfl rfl
theorem rX6_push_25 {d : Nat} {lv : xLV} {S : xS} {r : xO} {x1 : Nat} {x2 : Int32} {x3 : Int32} : XL SK MT d 157 (25, lv, [.int x3, .int x2, .ref x1], S) r ↔ xK (XC SK MT d 304 [.ref x1, .int x2, .int x3] S) (fun v S => XL SK MT d 157 (28, lv, v.toList ++ [], S) r) := X_inv (n := 3) (kd := 1) (st0 := [.int x3, .int x2, .ref x1]) rfl (Or.inl ⟨rfl, rfl⟩) rfl (Nat.le_of_ble_eq_true rfl) (Nat.le_of_ble_eq_true rfl) (by decide) rfl
theorem rX6_push_28 {d : Nat} {lv : xLV} {st : List Value} {S : xS} {r : xO} : XL SK MT d 157 (28, lv, st, S) r ↔ xA (xlook lv 0) (fun x => XL SK MT d 157 (29, lv, .ref x :: st, S) r) := X_ldA rfl rfl (fun _ => rfl) rfl rfl rfl rfl
theorem riX6_push_29 {d : Nat} {lv : xLV} {st : List Value} {S : xS} {r : xO} {x : Int32} : XL SK MT d 157 (29, lv, .int x :: st, S) r ↔ XL SK MT d 157 (30, lv, .int x :: .int x :: st, S) r := X_pure rfl rfl rfl
theorem rX6_push_29 {d : Nat} {lv : xLV} {st : List Value} {S : xS} {r : xO} {x : Nat} : XL SK MT d 157 (29, lv, .ref x :: st, S) r ↔ XL SK MT d 157 (30, lv, .ref x :: .ref x :: st, S) r := X_pure rfl rfl rfl
theorem rX6_push_30 {d : Nat} {lv : xLV} {st : List Value} {S : xS} {r : xO} : XL SK MT d 157 (30, lv, .ref 7 :: st, S) r ↔ XL SK MT d 157 (33, lv, .int (S.1 7 4) :: st, S) r := X_heap rfl rfl rfl rfl rfl
theorem rX6_push_33 {d : Nat} {lv : xLV} {st : List Value} {S : xS} {r : xO} : XL SK MT d 157 (33, lv, st, S) r ↔ XL SK MT d 157 (34, lv, .int 1 :: st, S) r := X_pure rfl rfl rfl
theorem rX6_push_34 {d : Nat} {lv : xLV} {st : List Value} {S : xS} {r : xO} {x z : Int32} : XL SK MT d 157 (34, lv, .int z :: .int x :: st, S) r ↔ XL SK MT d 157 (35, lv, .int (x + z) :: st, S) r := X_pure rfl rfl rfl
theorem rX6_push_35 {d : Nat} {lv : xLV} {st : List Value} {S : xS} {r : xO} {x : Int32} : XL SK MT d 157 (35, lv, .int x :: .ref 7 :: st, S) r ↔ XL SK MT d 157 (38, lv, st, (xsetI S 7 4 x)) r := X_heap rfl rfl rfl rfl rfl
theorem rX6_push_38 {d : Nat} {lv : xLV} {st : List Value} {S : xS} {r : xO} : XL SK MT d 157 (38, lv, st, S) r ↔ xA (xlook lv 0) (fun x => XL SK MT d 157 (39, lv, .ref x :: st, S) r) := X_ldA rfl rfl (fun _ => rfl) rfl rfl rfl rfl
theorem rX6_push_39 {d : Nat} {lv : xLV} {st : List Value} {S : xS} {r : xO} : XL SK MT d 157 (39, lv, .ref 7 :: st, S) r ↔ XL SK MT d 157 (42, lv, .int (S.1 7 4) :: st, S) r := X_heap rfl rfl rfl rfl rfl
theorem rX6_push_42 {d : Nat} {lv : xLV} {st : List Value} {S : xS} {r : xO} : XL SK MT d 157 (42, lv, st, S) r ↔ xA (xlook lv 0) (fun x => XL SK MT d 157 (43, lv, .ref x :: st, S) r) := X_ldA rfl rfl (fun _ => rfl) rfl rfl rfl rfl
theorem rX6_push_43 {d : Nat} {lv : xLV} {st : List Value} {S : xS} {r : xO} : XL SK MT d 157 (43, lv, .ref 7 :: st, S) r ↔ XL SK MT d 157 (46, lv, .int (S.1 7 18) :: st, S) r := X_heap rfl rfl rfl rfl rfl
theorem rX6_push_46 {d : Nat} {lv : xLV} {st : List Value} {S : xS} {r : xO} {x z : Int32} : XL SK MT d 157 (46, lv, .int z :: .int x :: st, S) r ↔ if x ≤ z then XL SK MT d 157 (57, lv, st, S) r else XL SK MT d 157 (49, lv, st, S) r := (X_icmp rfl rfl).trans xc_le
theorem rX6_push_49 {d : Nat} {lv : xLV} {st : List Value} {S : xS} {r : xO} : XL SK MT d 157 (49, lv, st, S) r ↔ xA (xlook lv 0) (fun x => XL SK MT d 157 (50, lv, .ref x :: st, S) r) := X_ldA rfl rfl (fun _ => rfl) rfl rfl rfl rfl
theorem rX6_push_50 {d : Nat} {lv : xLV} {st : List Value} {S : xS} {r : xO} : XL SK MT d 157 (50, lv, st, S) r ↔ xA (xlook lv 0) (fun x => XL SK MT d 157 (51, lv, .ref x :: st, S) r) := X_ldA rfl rfl (fun _ => rfl) rfl rfl rfl rfl
theorem rX6_push_51 {d : Nat} {lv : xLV} {st : List Value} {S : xS} {r : xO} : XL SK MT d 157 (51, lv, .ref 7 :: st, S) r ↔ XL SK MT d 157 (54, lv, .int (S.1 7 4) :: st, S) r := X_heap rfl rfl rfl rfl rfl
theorem rX6_push_54 {d : Nat} {lv : xLV} {st : List Value} {S : xS} {r : xO} {x : Int32} : XL SK MT d 157 (54, lv, .int x :: .ref 7 :: st, S) r ↔ XL SK MT d 157 (57, lv, st, (xsetI S 7 18 x)) r := X_heap rfl rfl rfl rfl rfl
theorem rX6_push_57 {d : Nat} {lv : xLV} {S : xS} {r : xO} : XL SK MT d 157 (57, lv, [], S) r ↔ (none, S) = r := X_ret rfl rfl rfl rfl rfl rfl

theorem rX6_top_0 {d : Nat} {lv : xLV} {st : List Value} {S : xS} {r : xO} : XL SK MT d 159 (0, lv, st, S) r ↔ xA (xlook lv 0) (fun x => XL SK MT d 159 (1, lv, .ref x :: st, S) r) := X_ldA rfl rfl (fun _ => rfl) rfl rfl rfl rfl
theorem rX6_top_1 {d : Nat} {lv : xLV} {st : List Value} {S : xS} {r : xO} : XL SK MT d 159 (1, lv, .ref 7 :: st, S) r ↔ XL SK MT d 159 (4, lv, .ref 14 :: st, S) r := X_heap rfl rfl rfl rfl rfl
theorem rX6_top_4 {d : Nat} {lv : xLV} {st : List Value} {S : xS} {r : xO} : XL SK MT d 159 (4, lv, st, S) r ↔ xA (xlook lv 0) (fun x => XL SK MT d 159 (5, lv, .ref x :: st, S) r) := X_ldA rfl rfl (fun _ => rfl) rfl rfl rfl rfl
theorem rX6_top_5 {d : Nat} {lv : xLV} {st : List Value} {S : xS} {r : xO} : XL SK MT d 159 (5, lv, .ref 7 :: st, S) r ↔ XL SK MT d 159 (8, lv, .int (S.1 7 4) :: st, S) r := X_heap rfl rfl rfl rfl rfl
theorem rX6_top_8 {d : Nat} {lv : xLV} {st : List Value} {S : xS} {r : xO} : XL SK MT d 159 (8, lv, st, S) r ↔ xI (xlook lv 1) (fun x => XL SK MT d 159 (9, lv, .int x :: st, S) r) := X_ldI rfl rfl (fun _ => rfl) rfl rfl rfl rfl
theorem rX6_top_9 {d : Nat} {lv : xLV} {st : List Value} {S : xS} {r : xO} {x z : Int32} : XL SK MT d 159 (9, lv, .int z :: .int x :: st, S) r ↔ XL SK MT d 159 (10, lv, .int (x - z) :: st, S) r := X_pure rfl rfl rfl
theorem rX6_top_10 {d : Nat} {lv : xLV} {S : xS} {r : xO} {x1 : Nat} {x2 : Int32} : XL SK MT d 159 (10, lv, [.int x2, .ref x1], S) r ↔ xK (XC SK MT d 303 [.ref x1, .int x2] S) (fun v S => XL SK MT d 159 (13, lv, v.toList ++ [], S) r) := X_inv (n := 2) (kd := 1) (st0 := [.int x2, .ref x1]) rfl (Or.inl ⟨rfl, rfl⟩) rfl (Nat.le_of_ble_eq_true rfl) (Nat.le_of_ble_eq_true rfl) (by decide) rfl
theorem rX6_top_13 {d : Nat} {lv : xLV} {S : xS} {r : xO} {x : Int32} : XL SK MT d 159 (13, lv, [.int x], S) r ↔ (some (.int x), S) = r := X_ret rfl rfl rfl rfl rfl rfl

theorem rX6_replace_0 {d : Nat} {lv : xLV} {st : List Value} {S : xS} {r : xO} : XL SK MT d 158 (0, lv, st, S) r ↔ xA (xlook lv 0) (fun x => XL SK MT d 158 (1, lv, .ref x :: st, S) r) := X_ldA rfl rfl (fun _ => rfl) rfl rfl rfl rfl
theorem riX6_replace_1 {d : Nat} {lv : xLV} {st : List Value} {S : xS} {r : xO} {x : Int32} : XL SK MT d 158 (1, lv, .int x :: st, S) r ↔ XL SK MT d 158 (2, lv, .int x :: .int x :: st, S) r := X_pure rfl rfl rfl
theorem rX6_replace_1 {d : Nat} {lv : xLV} {st : List Value} {S : xS} {r : xO} {x : Nat} : XL SK MT d 158 (1, lv, .ref x :: st, S) r ↔ XL SK MT d 158 (2, lv, .ref x :: .ref x :: st, S) r := X_pure rfl rfl rfl
theorem rX6_replace_2 {d : Nat} {lv : xLV} {st : List Value} {S : xS} {r : xO} : XL SK MT d 158 (2, lv, .ref 7 :: st, S) r ↔ XL SK MT d 158 (5, lv, .int (S.1 7 4) :: st, S) r := X_heap rfl rfl rfl rfl rfl
theorem rX6_replace_5 {d : Nat} {lv : xLV} {st : List Value} {S : xS} {r : xO} : XL SK MT d 158 (5, lv, st, S) r ↔ xI (xlook lv 1) (fun x => XL SK MT d 158 (6, lv, .int x :: st, S) r) := X_ldI rfl rfl (fun _ => rfl) rfl rfl rfl rfl
theorem rX6_replace_6 {d : Nat} {lv : xLV} {st : List Value} {S : xS} {r : xO} : XL SK MT d 158 (6, lv, st, S) r ↔ XL SK MT d 158 (7, lv, .int 1 :: st, S) r := X_pure rfl rfl rfl
theorem rX6_replace_7 {d : Nat} {lv : xLV} {st : List Value} {S : xS} {r : xO} {x z : Int32} : XL SK MT d 158 (7, lv, .int z :: .int x :: st, S) r ↔ XL SK MT d 158 (8, lv, .int (x - z) :: st, S) r := X_pure rfl rfl rfl
theorem rX6_replace_8 {d : Nat} {lv : xLV} {st : List Value} {S : xS} {r : xO} {x z : Int32} : XL SK MT d 158 (8, lv, .int z :: .int x :: st, S) r ↔ XL SK MT d 158 (9, lv, .int (x - z) :: st, S) r := X_pure rfl rfl rfl
theorem rX6_replace_9 {d : Nat} {lv : xLV} {st : List Value} {S : xS} {r : xO} {x : Int32} : XL SK MT d 158 (9, lv, .int x :: .ref 7 :: st, S) r ↔ XL SK MT d 158 (12, lv, st, (xsetI S 7 4 x)) r := X_heap rfl rfl rfl rfl rfl
theorem rX6_replace_12 {d : Nat} {lv : xLV} {st : List Value} {S : xS} {r : xO} : XL SK MT d 158 (12, lv, st, S) r ↔ xA (xlook lv 0) (fun x => XL SK MT d 158 (13, lv, .ref x :: st, S) r) := X_ldA rfl rfl (fun _ => rfl) rfl rfl rfl rfl
theorem rX6_replace_13 {d : Nat} {lv : xLV} {st : List Value} {S : xS} {r : xO} : XL SK MT d 158 (13, lv, .ref 7 :: st, S) r ↔ XL SK MT d 158 (16, lv, .ref 14 :: st, S) r := X_heap rfl rfl rfl rfl rfl
theorem rX6_replace_16 {d : Nat} {lv : xLV} {st : List Value} {S : xS} {r : xO} : XL SK MT d 158 (16, lv, st, S) r ↔ xA (xlook lv 0) (fun x => XL SK MT d 158 (17, lv, .ref x :: st, S) r) := X_ldA rfl rfl (fun _ => rfl) rfl rfl rfl rfl
theorem rX6_replace_17 {d : Nat} {lv : xLV} {st : List Value} {S : xS} {r : xO} : XL SK MT d 158 (17, lv, .ref 7 :: st, S) r ↔ XL SK MT d 158 (20, lv, .int (S.1 7 4) :: st, S) r := X_heap rfl rfl rfl rfl rfl
theorem rX6_replace_20 {d : Nat} {lv : xLV} {st : List Value} {S : xS} {r : xO} : XL SK MT d 158 (20, lv, st, S) r ↔ XL SK MT d 158 (21, lv, .int 1 :: st, S) r := X_pure rfl rfl rfl
theorem rX6_replace_21 {d : Nat} {lv : xLV} {st : List Value} {S : xS} {r : xO} {x z : Int32} : XL SK MT d 158 (21, lv, .int z :: .int x :: st, S) r ↔ XL SK MT d 158 (22, lv, .int (x - z) :: st, S) r := X_pure rfl rfl rfl
theorem rX6_replace_22 {d : Nat} {lv : xLV} {st : List Value} {S : xS} {r : xO} : XL SK MT d 158 (22, lv, st, S) r ↔ xI (xlook lv 2) (fun x => XL SK MT d 158 (23, lv, .int x :: st, S) r) := X_ldI rfl rfl (fun _ => rfl) rfl rfl rfl rfl
theorem rX6_replace_23 {d : Nat} {lv : xLV} {S : xS} {r : xO} {x1 : Nat} {x2 : Int32} {x3 : Int32} : XL SK MT d 158 (23, lv, [.int x3, .int x2, .ref x1], S) r ↔ xK (XC SK MT d 304 [.ref x1, .int x2, .int x3] S) (fun v S => XL SK MT d 158 (26, lv, v.toList ++ [], S) r) := X_inv (n := 3) (kd := 1) (st0 := [.int x3, .int x2, .ref x1]) rfl (Or.inl ⟨rfl, rfl⟩) rfl (Nat.le_of_ble_eq_true rfl) (Nat.le_of_ble_eq_true rfl) (by decide) rfl
theorem rX6_replace_26 {d : Nat} {lv : xLV} {S : xS} {r : xO} : XL SK MT d 158 (26, lv, [], S) r ↔ (none, S) = r := X_ret rfl rfl rfl rfl rfl rfl

/-! Machine: its pile. -/
/-- where the machine is: the next order, the pile, the innermost handle -/
def MC (S : xS) (nx : Nat) (ws : List Int32) (tr : Nat) : Prop := S.1 7 3 = nI nx ∧ S.1 7 4 = nI (5632 + ws.length) ∧ S.1 7 5 = nI 5632 ∧ S.1 7 10 = nI tr ∧ (S.1 7 14 = -1 ∧ S.1 7 13 = 0 ∧ S.1 7 16 = 0 ∧ S.1 7 17 = 0 ∧ S.1 7 6 = S.1 7 8) ∧ ws.length ≤ 1000 ∧ ∀ i w, ws[i]? = some w → S.1 14 (5632 + i) = w
/-- what running leaves as it is -/
def FrM (S S1 : xS) : Prop := S1.2 = S.2 ∧ (∀ a, ¬ a = 7 → ¬ a = 14 → S1.1 a = S.1 a) ∧ ∀ j, j < 5632 → S1.1 14 j = S.1 14 j
theorem FrM.refl {S : xS} : FrM S S := ⟨rfl, fun _ _ _ => rfl, fun _ _ => rfl⟩
theorem FrM.trans {S S1 S2 : xS} (h : FrM S S1) (h2 : FrM S1 S2) : FrM S S2 := ⟨h2.1.trans h.1, fun a q r => (h2.2.1 a q r).trans (h.2.1 a q r), fun j hj => (h2.2.2 j hj).trans (h.2.2 j hj)⟩
theorem FrM_7 {S : xS} {k : Nat} {x : Int32} : FrM S (xsetI S 7 k x) := ⟨rfl, fun a q _ => by rw [xsR q], fun j _ => by rw [xsR (by decide)]⟩
theorem FrM_m {S : xS} {k : Nat} {x : Int32} (h : 5632 ≤ k) : FrM S (xsetI S 14 k x) := ⟨rfl, fun a _ q => by rw [xsR q], fun j hj => by rw [xsI, if_neg (by omega)]⟩
theorem MC.most {S : xS} {nx tr : Nat} {ws : List Int32} {x : Int32} (h : MC S nx ws tr) : MC (xsetI S 7 18 x) nx ws tr := h
theorem MC.next {S : xS} {nx nx' tr : Nat} {ws : List Int32} (h : MC S nx ws tr) : MC (xsetI S 7 3 (nI nx')) nx' ws tr := ⟨rfl, h.2⟩
/-- a word in the pile's place -/
theorem MC.word {S : xS} {nx tr : Nat} {ws : List Int32} {w : Int32} (h : MC S nx ws tr) (hn : ws.length < 1000) : MC (xsetI (xsetI S 14 (5632 + ws.length) w) 7 4 (nI (5632 + ws.length + 1))) nx (ws ++ [w]) tr := by
  obtain ⟨h1, h2, h3, h4, h5, h6, h7⟩ := h
  refine ⟨h1, ?_, h3, h4, h5, by rw [List.length_append, List.length_singleton]; omega, fun i x hx => ?_⟩
  · rw [xsI, if_pos ⟨rfl, rfl⟩, List.length_append, List.length_singleton, Nat.add_assoc]
  · rcases Nat.lt_or_ge i ws.length with z | z
    · rw [List.getElem?_append_left z] at hx
      rw [xsR (by decide), xsI, if_neg (by omega)]
      exact h7 i x hx
    · rw [List.getElem?_append_right z] at hx
      have hi : i = ws.length := by have := (List.getElem?_eq_some_iff.mp hx).1; rw [List.length_singleton] at this; omega
      subst hi
      rw [Nat.sub_self] at hx
      obtain rfl : w = x := Option.some.inj hx
      rw [xsR (by decide), xsI, if_pos ⟨rfl, rfl⟩]
/-- words fall off the pile -/
theorem MC.fall {S : xS} {nx tr : Nat} {ws vs : List Int32} (h : MC S nx (ws ++ vs) tr) : MC (xsetI S 7 4 (nI (5632 + ws.length))) nx ws tr := by
  obtain ⟨h1, h2, h3, h4, h5, h6, h7⟩ := h
  rw [List.length_append] at h6
  exact ⟨h1, rfl, h3, h4, h5, by omega, fun i x hx => h7 i x (by rw [List.getElem?_append_left (List.getElem?_eq_some_iff.mp hx).1]; exact hx)⟩
section
variable {d : Nat} {S : xS} {nx tr : Nat} {ws : List Int32}
set_option maxHeartbeats 4000000 in
set_option maxRecDepth 100000 in
theorem m_push (h : MC S nx ws tr) (hn : ws.length < 1000) (w : Int32) : ∃ S1, XC SK MT (d + 2) 157 [.ref 7, .int w] S = some (none, S1) ∧ MC S1 nx (ws ++ [w]) tr ∧ FrM S S1 := by
  have hp := h.2.1
  have n1 : nI (5632 + ws.length) < (11632 : Int32) := nI_lt (b := 11632) (by omega) (by decide)
  have e1 : nI (5632 + ws.length) + 1 = nI (5632 + ws.length + 1) := nA1
  have c1 := h.word (w := w) hn
  have f1 : FrM S (xsetI (xsetI S 14 (5632 + ws.length) w) 7 4 (nI (5632 + ws.length + 1))) := (FrM_m (by omega)).trans FrM_7
  have m1 : (xsetI (xsetI S 14 (5632 + ws.length) w) 7 4 (nI (5632 + ws.length + 1))).1 7 18 = S.1 7 18 := rfl
  by_cases q : nI (5632 + ws.length + 1) ≤ S.1 7 18
  · refine ⟨_, ?_, c1, f1⟩
    rw [XC_iff]
    refine ⟨Nat.le_of_ble_eq_true rfl, ?_⟩
    show XL SK MT (d + 1) 157 (0, [some (.ref 7), some (.int w)], [], S) _
    simp (config := { decide := true }) only [rX6_push_0, rX6_push_1, rX6_push_4, rX6_push_7, rX6_push_10, rX6_push_11, rX6_push_12, rX6_push_15, rX6_push_16, rX6_push_17, rX6_push_20, rX6_push_21, rX6_push_24, rX6_push_25, rX6_push_28, riX6_push_29, rX6_push_29, rX6_push_30, rX6_push_33, rX6_push_34, rX6_push_35, rX6_push_38, rX6_push_39, rX6_push_42, rX6_push_43, rX6_push_46, rX6_push_49, rX6_push_50, rX6_push_51, rX6_push_54, rX6_push_57, ↓reduceIte, m1_le, m1_lt, m1_eq, ofInt_m1, ex_ret, Int32.reduceAdd, Int32.reduceSub, Int32.reduceMul, Int32.reduceLT, Int32.reduceLE, xsI, Nat.reduceEqDiff, and_false, false_and, and_true, true_and, if_true, if_false, ite_true, ite_false, xlook_0, xlook_s, xI_int, xA_ref, xJ_long, xK_some, xRow_row, xTo_some, xst1, xclr, List.set_cons_zero, List.set_cons_succ, xsum_nil, xsum_int, xsum_ref, xsum_long, Option.toList_some, Option.toList_none, List.nil_append, List.cons_append, hp, n1, ← Int32.not_lt, not_true, not_false_iff, s_at (show SK[14]? = some (.inl (0, 281984)) from rfl) (by decide : 281984 < 2 ^ 31), s_put (show SK[14]? = some (.inl (0, 281984)) from rfl) (by decide : 281984 < 2 ^ 31), xput_in, show 5632 + ws.length < 281984 by omega, e1]
    simp only [Int32.not_lt, q, if_true]
  · refine ⟨_, ?_, c1.most (x := nI (5632 + ws.length + 1)), f1.trans FrM_7⟩
    rw [XC_iff]
    refine ⟨Nat.le_of_ble_eq_true rfl, ?_⟩
    show XL SK MT (d + 1) 157 (0, [some (.ref 7), some (.int w)], [], S) _
    simp (config := { decide := true }) only [rX6_push_0, rX6_push_1, rX6_push_4, rX6_push_7, rX6_push_10, rX6_push_11, rX6_push_12, rX6_push_15, rX6_push_16, rX6_push_17, rX6_push_20, rX6_push_21, rX6_push_24, rX6_push_25, rX6_push_28, riX6_push_29, rX6_push_29, rX6_push_30, rX6_push_33, rX6_push_34, rX6_push_35, rX6_push_38, rX6_push_39, rX6_push_42, rX6_push_43, rX6_push_46, rX6_push_49, rX6_push_50, rX6_push_51, rX6_push_54, rX6_push_57, ↓reduceIte, m1_le, m1_lt, m1_eq, ofInt_m1, ex_ret, Int32.reduceAdd, Int32.reduceSub, Int32.reduceMul, Int32.reduceLT, Int32.reduceLE, xsI, Nat.reduceEqDiff, and_false, false_and, and_true, true_and, if_true, if_false, ite_true, ite_false, xlook_0, xlook_s, xI_int, xA_ref, xJ_long, xK_some, xRow_row, xTo_some, xst1, xclr, List.set_cons_zero, List.set_cons_succ, xsum_nil, xsum_int, xsum_ref, xsum_long, Option.toList_some, Option.toList_none, List.nil_append, List.cons_append, hp, n1, ← Int32.not_lt, not_true, not_false_iff, s_at (show SK[14]? = some (.inl (0, 281984)) from rfl) (by decide : 281984 < 2 ^ 31), s_put (show SK[14]? = some (.inl (0, 281984)) from rfl) (by decide : 281984 < 2 ^ 31), xput_in, show 5632 + ws.length < 281984 by omega, e1]
    simp only [Int32.not_lt, q, if_false]
theorem m_top {w : Int32} (h : MC S nx (ws ++ [w]) tr) : XC SK MT (d + 2) 159 [.ref 7, .int 1] S = some (some (.int w), S) := by
  have hp := h.2.1
  have hl := h.2.2.2.2.2.1
  have hw := h.2.2.2.2.2.2 ws.length w (by rw [List.getElem?_append_right (Nat.le_refl _), Nat.sub_self]; rfl)
  rw [List.length_append, List.length_singleton] at hp hl
  have e1 : nI (5632 + (ws.length + 1)) - 1 = nI (5632 + ws.length) := nS1
  rw [XC_iff]
  refine ⟨Nat.le_of_ble_eq_true rfl, ?_⟩
  show XL SK MT (d + 1) 159 (0, [some (.ref 7), some (.int 1)], [], S) _
  simp (config := { decide := true }) only [rX6_top_0, rX6_top_1, rX6_top_4, rX6_top_5, rX6_top_8, rX6_top_9, rX6_top_10, rX6_top_13, ↓reduceIte, m1_le, m1_lt, m1_eq, ofInt_m1, ex_ret, Int32.reduceAdd, Int32.reduceSub, Int32.reduceMul, Int32.reduceLT, Int32.reduceLE, xsI, Nat.reduceEqDiff, and_false, false_and, and_true, true_and, if_true, if_false, ite_true, ite_false, xlook_0, xlook_s, xI_int, xA_ref, xJ_long, xK_some, xRow_row, xTo_some, xst1, xclr, List.set_cons_zero, List.set_cons_succ, xsum_nil, xsum_int, xsum_ref, xsum_long, Option.toList_some, Option.toList_none, List.nil_append, List.cons_append, hp, e1, s_at (show SK[14]? = some (.inl (0, 281984)) from rfl) (by decide : 281984 < 2 ^ 31), s_put (show SK[14]? = some (.inl (0, 281984)) from rfl) (by decide : 281984 < 2 ^ 31), xat_in, show 5632 + ws.length < 281984 by omega, hw]
theorem m_top2 {v w : Int32} (h : MC S nx ((ws ++ [v]) ++ [w]) tr) : XC SK MT (d + 2) 159 [.ref 7, .int 2] S = some (some (.int v), S) := by
  have hp := h.2.1
  have hl := h.2.2.2.2.2.1
  have hw := h.2.2.2.2.2.2 ws.length v (by rw [List.append_assoc, List.getElem?_append_right (Nat.le_refl _), Nat.sub_self]; rfl)
  rw [List.length_append, List.length_append, List.length_singleton, List.length_singleton] at hp hl
  have e1 : nI (5632 + (ws.length + 1 + 1)) - 2 = nI (5632 + ws.length) := nS2
  rw [XC_iff]
  refine ⟨Nat.le_of_ble_eq_true rfl, ?_⟩
  show XL SK MT (d + 1) 159 (0, [some (.ref 7), some (.int 2)], [], S) _
  simp (config := { decide := true }) only [rX6_top_0, rX6_top_1, rX6_top_4, rX6_top_5, rX6_top_8, rX6_top_9, rX6_top_10, rX6_top_13, ↓reduceIte, m1_le, m1_lt, m1_eq, ofInt_m1, ex_ret, Int32.reduceAdd, Int32.reduceSub, Int32.reduceMul, Int32.reduceLT, Int32.reduceLE, xsI, Nat.reduceEqDiff, and_false, false_and, and_true, true_and, if_true, if_false, ite_true, ite_false, xlook_0, xlook_s, xI_int, xA_ref, xJ_long, xK_some, xRow_row, xTo_some, xst1, xclr, List.set_cons_zero, List.set_cons_succ, xsum_nil, xsum_int, xsum_ref, xsum_long, Option.toList_some, Option.toList_none, List.nil_append, List.cons_append, hp, e1, s_at (show SK[14]? = some (.inl (0, 281984)) from rfl) (by decide : 281984 < 2 ^ 31), s_put (show SK[14]? = some (.inl (0, 281984)) from rfl) (by decide : 281984 < 2 ^ 31), xat_in, show 5632 + ws.length < 281984 by omega, hw]
set_option maxHeartbeats 4000000 in
set_option maxRecDepth 100000 in
theorem m_replace {v w x : Int32} (h : MC S nx ((ws ++ [v]) ++ [w]) tr) : ∃ S1, XC SK MT (d + 2) 158 [.ref 7, .int 2, .int x] S = some (none, S1) ∧ MC S1 nx (ws ++ [x]) tr ∧ FrM S S1 := by
  have hp := h.2.1
  have hl := h.2.2.2.2.2.1
  rw [List.length_append, List.length_append, List.length_singleton, List.length_singleton] at hp hl
  have e1 : nI (5632 + (ws.length + 1 + 1)) - 1 = nI (5632 + ws.length + 1) := nS1
  have e2 : nI (5632 + ws.length + 1) - 1 = nI (5632 + ws.length) := nS1
  have h9 : MC S nx (ws ++ ([v] ++ [w])) tr := by rw [← List.append_assoc]; exact h
  have c1 := h9.fall.word (w := x) (by omega)
  have c2 : MC (xsetI (xsetI S 7 4 (nI (5632 + ws.length + 1))) 14 (5632 + ws.length) x) nx (ws ++ [x]) tr := by
    obtain ⟨g1, g2, g3, g4, g5, g6, g7⟩ := c1
    exact ⟨g1, by rw [List.length_append, List.length_singleton]; rfl, g3, g4, g5, g6, g7⟩
  refine ⟨_, ?_, c2, FrM_7.trans (FrM_m (by omega))⟩
  rw [XC_iff]
  refine ⟨Nat.le_of_ble_eq_true rfl, ?_⟩
  show XL SK MT (d + 1) 158 (0, [some (.ref 7), some (.int 2), some (.int x)], [], S) _
  simp (config := { decide := true }) only [rX6_replace_0, riX6_replace_1, rX6_replace_1, rX6_replace_2, rX6_replace_5, rX6_replace_6, rX6_replace_7, rX6_replace_8, rX6_replace_9, rX6_replace_12, rX6_replace_13, rX6_replace_16, rX6_replace_17, rX6_replace_20, rX6_replace_21, rX6_replace_22, rX6_replace_23, rX6_replace_26, ↓reduceIte, m1_le, m1_lt, m1_eq, ofInt_m1, ex_ret, Int32.reduceAdd, Int32.reduceSub, Int32.reduceMul, Int32.reduceLT, Int32.reduceLE, xsI, Nat.reduceEqDiff, and_false, false_and, and_true, true_and, if_true, if_false, ite_true, ite_false, xlook_0, xlook_s, xI_int, xA_ref, xJ_long, xK_some, xRow_row, xTo_some, xst1, xclr, List.set_cons_zero, List.set_cons_succ, xsum_nil, xsum_int, xsum_ref, xsum_long, Option.toList_some, Option.toList_none, List.nil_append, List.cons_append, hp, e1, e2, s_at (show SK[14]? = some (.inl (0, 281984)) from rfl) (by decide : 281984 < 2 ^ 31), s_put (show SK[14]? = some (.inl (0, 281984)) from rfl) (by decide : 281984 < 2 ^ 31), xput_in, show 5632 + ws.length < 281984 by omega]
end
/-- the loop of go -/
def GoAt (d n : Nat) (a b : Int32) (S : xS) (r : xO) : Prop := ∀ l6 l7 l8, XL SK MT d 156 (110, [some (.ref 7), some (.int a), some (.int b), some (.ref 15), some (.long (lN n)), none, l6, l7, l8], [], S) r
theorem go_lt {n : Nat} (h : n < 100000) : lg_cmp (lN n) 1099511627776 = -1 := lgc_lt (b := 1099511627776) (by omega) (by decide) (by omega)
