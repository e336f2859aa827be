/-! XF: rows, then what is proved of them. -/
theorem rX12_end_0 {d : Nat} {lv : xLV} {st : List Value} {S : xS} {r : xO} : XL SK MT d 309 (0, lv, st, S) r ↔ xI (xlook lv 1) (fun x => XL SK MT d 309 (1, lv, .int x :: st, S) r) := X_ldI rfl rfl (fun _ => rfl) rfl rfl rfl rfl
theorem rX12_end_1 {d : Nat} {lv : xLV} {st : List Value} {S : xS} {r : xO} {x : Int32} : XL SK MT d 309 (1, lv, .int x :: st, S) r ↔ if x < 0 then XL SK MT d 309 (18, lv, st, S) r else XL SK MT d 309 (4, lv, st, S) r := (X_if rfl rfl).trans xc_lt
theorem rX12_end_4 {d : Nat} {lv : xLV} {st : List Value} {S : xS} {r : xO} : XL SK MT d 309 (4, lv, st, S) r ↔ xI (xlook lv 1) (fun x => XL SK MT d 309 (5, lv, .int x :: st, S) r) := X_ldI rfl rfl (fun _ => rfl) rfl rfl rfl rfl
theorem rX12_end_5 {d : Nat} {lv : xLV} {st : List Value} {S : xS} {r : xO} : XL SK MT d 309 (5, lv, st, S) r ↔ XL SK MT d 309 (7, lv, .int 19 :: st, S) r := X_pure rfl rfl rfl
theorem rX12_end_7 {d : Nat} {lv : xLV} {st : List Value} {S : xS} {r : xO} {x z : Int32} : XL SK MT d 309 (7, lv, .int z :: .int x :: st, S) r ↔ if z < x then XL SK MT d 309 (18, lv, st, S) r else XL SK MT d 309 (10, lv, st, S) r := (X_icmp rfl rfl).trans xc_gt
theorem rX12_end_10 {d : Nat} {lv : xLV} {st : List Value} {S : xS} {r : xO} : XL SK MT d 309 (10, lv, st, S) r ↔ xI (xlook lv 1) (fun x => XL SK MT d 309 (11, lv, .int x :: st, S) r) := X_ldI rfl rfl (fun _ => rfl) rfl rfl rfl rfl
theorem rX12_end_11 {d : Nat} {lv : xLV} {st : List Value} {S : xS} {r : xO} : XL SK MT d 309 (11, lv, st, S) r ↔ xA (xlook lv 0) (fun x => XL SK MT d 309 (12, lv, .ref x :: st, S) r) := X_ldA rfl rfl (fun _ => rfl) rfl rfl rfl rfl
theorem rX12_end_12 {d : Nat} {lv : xLV} {st : List Value} {S : xS} {r : xO} : XL SK MT d 309 (12, lv, .ref 0 :: st, S) r ↔ XL SK MT d 309 (15, lv, .int (S.1 0 12) :: st, S) r := X_heap rfl rfl rfl rfl rfl
theorem rX12_end_15 {d : Nat} {lv : xLV} {st : List Value} {S : xS} {r : xO} {x z : Int32} : XL SK MT d 309 (15, lv, .int z :: .int x :: st, S) r ↔ if x ≤ z then XL SK MT d 309 (28, lv, st, S) r else XL SK MT d 309 (18, lv, st, S) r := (X_icmp rfl rfl).trans xc_le
theorem riX12_end_21 {d : Nat} {lv : xLV} {st : List Value} {S : xS} {r : xO} {x : Int32} : XL SK MT d 309 (21, lv, .int x :: st, S) r ↔ XL SK MT d 309 (22, lv, .int x :: .int x :: st, S) r := X_pure rfl rfl rfl
theorem rX12_end_21 {d : Nat} {lv : xLV} {st : List Value} {S : xS} {r : xO} {x : Nat} : XL SK MT d 309 (21, lv, .ref x :: st, S) r ↔ XL SK MT d 309 (22, lv, .ref x :: .ref x :: st, S) r := X_pure rfl rfl rfl
theorem rX12_end_28 {d : Nat} {lv : xLV} {st : List Value} {S : xS} {r : xO} : XL SK MT d 309 (28, lv, st, S) r ↔ xA (xlook lv 0) (fun x => XL SK MT d 309 (29, lv, .ref x :: st, S) r) := X_ldA rfl rfl (fun _ => rfl) rfl rfl rfl rfl
theorem riX12_end_29 {d : Nat} {lv : xLV} {st : List Value} {S : xS} {r : xO} {x : Int32} : XL SK MT d 309 (29, lv, .int x :: st, S) r ↔ XL SK MT d 309 (30, lv, .int x :: .int x :: st, S) r := X_pure rfl rfl rfl
theorem rX12_end_29 {d : Nat} {lv : xLV} {st : List Value} {S : xS} {r : xO} {x : Nat} : XL SK MT d 309 (29, lv, .ref x :: st, S) r ↔ XL SK MT d 309 (30, lv, .ref x :: .ref x :: st, S) r := X_pure rfl rfl rfl
theorem rX12_end_30 {d : Nat} {lv : xLV} {st : List Value} {S : xS} {r : xO} : XL SK MT d 309 (30, lv, .ref 0 :: st, S) r ↔ XL SK MT d 309 (33, lv, .int (S.1 0 12) :: st, S) r := X_heap rfl rfl rfl rfl rfl
theorem rX12_end_33 {d : Nat} {lv : xLV} {st : List Value} {S : xS} {r : xO} : XL SK MT d 309 (33, lv, st, S) r ↔ xI (xlook lv 1) (fun x => XL SK MT d 309 (34, lv, .int x :: st, S) r) := X_ldI rfl rfl (fun _ => rfl) rfl rfl rfl rfl
theorem rX12_end_34 {d : Nat} {lv : xLV} {st : List Value} {S : xS} {r : xO} {x z : Int32} : XL SK MT d 309 (34, lv, .int z :: .int x :: st, S) r ↔ XL SK MT d 309 (35, lv, .int (x - z) :: st, S) r := X_pure rfl rfl rfl
theorem rX12_end_35 {d : Nat} {lv : xLV} {st : List Value} {S : xS} {r : xO} {x : Int32} : XL SK MT d 309 (35, lv, .int x :: .ref 0 :: st, S) r ↔ XL SK MT d 309 (38, lv, st, (xsetI S 0 12 x)) r := X_heap rfl rfl rfl rfl rfl
theorem rX12_end_38 {d : Nat} {lv : xLV} {st : List Value} {S : xS} {r : xO} : XL SK MT d 309 (38, lv, st, S) r ↔ xA (xlook lv 0) (fun x => XL SK MT d 309 (39, lv, .ref x :: st, S) r) := X_ldA rfl rfl (fun _ => rfl) rfl rfl rfl rfl
theorem rX12_end_39 {d : Nat} {lv : xLV} {st : List Value} {S : xS} {r : xO} : XL SK MT d 309 (39, lv, .ref 0 :: st, S) r ↔ XL SK MT d 309 (42, lv, .int (S.1 0 12) :: st, S) r := X_heap rfl rfl rfl rfl rfl
theorem rX12_end_42 {d : Nat} {lv : xLV} {S : xS} {r : xO} {x : Int32} : XL SK MT d 309 (42, lv, [.int x], S) r ↔ (some (.int x), S) = r := X_ret rfl rfl rfl rfl rfl rfl

theorem rL_cut_0 {d : Nat} {lv : xLV} {st : List Value} {S : xS} {r : xO} : XL SK MT d 323 (0, lv, st, S) r ↔ xA (xlook lv 0) (fun x => XL SK MT d 323 (1, lv, .ref x :: st, S) r) := X_ldA rfl rfl (fun _ => rfl) rfl rfl rfl rfl
theorem rL_cut_1 {d : Nat} {lv : xLV} {st : List Value} {S : xS} {r : xO} : XL SK MT d 323 (1, lv, st, S) r ↔ xI (xlook lv 1) (fun x => XL SK MT d 323 (2, lv, .int x :: st, S) r) := X_ldI rfl rfl (fun _ => rfl) rfl rfl rfl rfl
theorem rL_cut_2 {d : Nat} {lv : xLV} {S : xS} {r : xO} {x1 : Int32} : XL SK MT d 323 (2, lv, [.int x1, .ref 0], S) r ↔ xK (XC SK MT d 309 [.ref 0, .int x1] S) (fun v S => XL SK MT d 323 (5, lv, v.toList ++ [], S) r) := X_inv (n := 2) (kd := 14) (st0 := [.int x1, .ref 0]) rfl (Or.inr ⟨rfl, rfl⟩) rfl (Nat.le_of_ble_eq_true rfl) (Nat.le_of_ble_eq_true rfl) (by decide) rfl
theorem rL_cut_5 {d : Nat} {lv : xLV} {st : List Value} {S : xS} {r : xO} {x : Int32} : XL SK MT d 323 (5, lv, .int x :: st, S) r ↔ XL SK MT d 323 (6, lv, st, S) r := X_pure rfl rfl rfl
theorem rL_cut_6 {d : Nat} {lv : xLV} {st : List Value} {S : xS} {r : xO} : XL SK MT d 323 (6, lv, st, S) r ↔ XL SK MT d 323 (11, lv, st, S) r := X_jump rfl rfl rfl
theorem rL_cut_9 {d : Nat} {lv : xLV} {st : List Value} {S : xS} {r : xO} {x : Nat} : XL SK MT d 323 (9, lv, .ref x :: st, S) r ↔ XL SK MT d 323 (10, xst1 lv 2 (.ref x), st, S) r := X_pure rfl rfl rfl
theorem rL_cut_10 {d : Nat} {lv : xLV} {S : xS} {r : xO} : XL SK MT d 323 (10, lv, [], S) r ↔ (none, S) = r := X_ret rfl rfl rfl rfl rfl rfl
theorem rL_cut_11 {d : Nat} {lv : xLV} {S : xS} {r : xO} : XL SK MT d 323 (11, lv, [], S) r ↔ (none, S) = r := X_ret rfl rfl rfl rfl rfl rfl

theorem rL_read_0 {d : Nat} {lv : xLV} {st : List Value} {S : xS} {r : xO} : XL SK MT d 322 (0, lv, st, S) r ↔ XL SK MT d 322 (1, lv, .int 0 :: st, S) r := X_pure rfl rfl rfl
theorem rL_read_1 {d : Nat} {lv : xLV} {st : List Value} {S : xS} {r : xO} {x : Int32} : XL SK MT d 322 (1, lv, .int x :: st, S) r ↔ XL SK MT d 322 (2, xst1 lv 2 (.int x), st, S) r := X_pure rfl rfl rfl
theorem rL_read_2 {d : Nat} {lv : xLV} {st : List Value} {S : xS} {r : xO} : XL SK MT d 322 (2, lv, st, S) r ↔ xA (xlook lv 1) (fun x => XL SK MT d 322 (3, lv, .ref x :: st, S) r) := X_ldA rfl rfl (fun _ => rfl) rfl rfl rfl rfl
theorem rL_read_3 {d : Nat} {lv : xLV} {st : List Value} {S : xS} {r : xO} : XL SK MT d 322 (3, lv, st, S) r ↔ XL SK MT d 322 (4, lv, .int 0 :: st, S) r := X_pure rfl rfl rfl
theorem rL_read_4 {d : Nat} {lv : xLV} {st : List Value} {S : xS} {r : xO} {a n : Nat} {j : Int32} (hs : SK[a]? = some (.inl (2, n))) : XL SK MT d 322 (4, lv, .int j :: .ref a :: st, S) r ↔ xin j n = true ∧ XL SK MT d 322 (5, lv, .long (S.2 a j.toNatClampNeg) :: st, S) r := X_lald rfl hs
theorem rL_read_5 {d : Nat} {lv : xLV} {st : List Value} {S : xS} {r : xO} : XL SK MT d 322 (5, lv, st, S) r ↔ XL SK MT d 322 (6, lv, .long 0 :: st, S) r := X_pure rfl rfl rfl
theorem rL_read_6 {d : Nat} {lv : xLV} {st : List Value} {S : xS} {r : xO} {x z : Int64} : XL SK MT d 322 (6, lv, .long z :: .long x :: st, S) r ↔ XL SK MT d 322 (7, lv, .int (lg_cmp x z) :: st, S) r := X_pure rfl rfl rfl
theorem rL_read_7 {d : Nat} {lv : xLV} {st : List Value} {S : xS} {r : xO} {x : Int32} : XL SK MT d 322 (7, lv, .int x :: st, S) r ↔ if x ≤ 0 then XL SK MT d 322 (25, lv, st, S) r else XL SK MT d 322 (10, lv, st, S) r := (X_if rfl rfl).trans xc_le
theorem rL_read_10 {d : Nat} {lv : xLV} {st : List Value} {S : xS} {r : xO} : XL SK MT d 322 (10, lv, st, S) r ↔ xA (xlook lv 0) (fun x => XL SK MT d 322 (11, lv, .ref x :: st, S) r) := X_ldA rfl rfl (fun _ => rfl) rfl rfl rfl rfl
theorem rL_read_11 {d : Nat} {lv : xLV} {st : List Value} {S : xS} {r : xO} : XL SK MT d 322 (11, lv, st, S) r ↔ XL SK MT d 322 (14, lv, .long 32 :: st, S) r := X_pure rfl rfl rfl
theorem rL_read_14 {d : Nat} {lv : xLV} {st : List Value} {S : xS} {r : xO} : XL SK MT d 322 (14, lv, st, S) r ↔ XL SK MT d 322 (15, lv, .int 1 :: st, S) r := X_pure rfl rfl rfl
theorem rL_read_15 {d : Nat} {lv : xLV} {st : List Value} {S : xS} {r : xO} : XL SK MT d 322 (15, lv, st, S) r ↔ xA (xlook lv 1) (fun x => XL SK MT d 322 (16, lv, .ref x :: st, S) r) := X_ldA rfl rfl (fun _ => rfl) rfl rfl rfl rfl
theorem rL_read_16 {d : Nat} {lv : xLV} {S : xS} {r : xO} {x1 : Nat} {x2 : Int64} {x3 : Int32} {x4 : Nat} : XL SK MT d 322 (16, lv, [.ref x4, .int x3, .long x2, .ref x1], S) r ↔ xK (XC SK MT d 321 [.ref x1, .long x2, .int x3, .ref x4] S) (fun v S => XL SK MT d 322 (19, lv, v.toList ++ [], S) r) := X_inv (n := 4) (kd := 0) (st0 := [.ref x4, .int x3, .long x2, .ref x1]) rfl (Or.inl ⟨rfl, rfl⟩) rfl (Nat.le_of_ble_eq_true rfl) (Nat.le_of_ble_eq_true rfl) (by decide) rfl
theorem rL_read_19 {d : Nat} {lv : xLV} {st : List Value} {S : xS} {r : xO} : XL SK MT d 322 (19, lv, st, S) r ↔ xI (xlook lv 2) (fun x => XL SK MT d 322 (22, xst1 lv 2 (.int (x + 1)), st, S) r) := X_inc (i := 2) (n := 1) rfl (Nat.le_of_ble_eq_true rfl)
theorem rL_read_22 {d : Nat} {lv : xLV} {st : List Value} {S : xS} {r : xO} : XL SK MT d 322 (22, lv, st, S) r ↔ XL SK MT d 322 (2, lv, st, S) r := X_jump rfl rfl rfl
theorem rL_read_25 {d : Nat} {lv : xLV} {st : List Value} {S : xS} {r : xO} : XL SK MT d 322 (25, lv, st, S) r ↔ xI (xlook lv 2) (fun x => XL SK MT d 322 (26, lv, .int x :: st, S) r) := X_ldI rfl rfl (fun _ => rfl) rfl rfl rfl rfl
theorem rL_read_26 {d : Nat} {lv : xLV} {st : List Value} {S : xS} {r : xO} {x : Int32} : XL SK MT d 322 (26, lv, .int x :: st, S) r ↔ if x ≤ 0 then XL SK MT d 322 (34, lv, st, S) r else XL SK MT d 322 (29, lv, st, S) r := (X_if rfl rfl).trans xc_le
theorem rL_read_29 {d : Nat} {lv : xLV} {st : List Value} {S : xS} {r : xO} : XL SK MT d 322 (29, lv, st, S) r ↔ xA (xlook lv 0) (fun x => XL SK MT d 322 (30, lv, .ref x :: st, S) r) := X_ldA rfl rfl (fun _ => rfl) rfl rfl rfl rfl
theorem rL_read_30 {d : Nat} {lv : xLV} {st : List Value} {S : xS} {r : xO} : XL SK MT d 322 (30, lv, st, S) r ↔ xI (xlook lv 2) (fun x => XL SK MT d 322 (31, lv, .int x :: st, S) r) := X_ldI rfl rfl (fun _ => rfl) rfl rfl rfl rfl
theorem rL_read_31 {d : Nat} {lv : xLV} {S : xS} {r : xO} {x1 : Nat} {x2 : Int32} : XL SK MT d 322 (31, lv, [.int x2, .ref x1], S) r ↔ xK (XC SK MT d 323 [.ref x1, .int x2] S) (fun v S => XL SK MT d 322 (34, lv, v.toList ++ [], S) r) := X_inv (n := 2) (kd := 0) (st0 := [.int x2, .ref x1]) rfl (Or.inl ⟨rfl, rfl⟩) rfl (Nat.le_of_ble_eq_true rfl) (Nat.le_of_ble_eq_true rfl) (by decide) rfl
theorem rL_read_34 {d : Nat} {lv : xLV} {st : List Value} {S : xS} {r : xO} : XL SK MT d 322 (34, lv, st, S) r ↔ xA (xlook lv 0) (fun x => XL SK MT d 322 (35, lv, .ref x :: st, S) r) := X_ldA rfl rfl (fun _ => rfl) rfl rfl rfl rfl
theorem rL_read_35 {d : Nat} {lv : xLV} {S : xS} {r : xO} : XL SK MT d 322 (35, lv, [.ref 0], S) r ↔ xK (XC SK MT d 310 [.ref 0] S) (fun v S => XL SK MT d 322 (38, lv, v.toList ++ [], S) r) := X_inv (n := 1) (kd := 14) (st0 := [.ref 0]) rfl (Or.inr ⟨rfl, rfl⟩) rfl (Nat.le_of_ble_eq_true rfl) (Nat.le_of_ble_eq_true rfl) (by decide) rfl
theorem r0L_read_38 {d : Nat} {lv : xLV} {S : xS} {r : xO} : XL SK MT d 322 (38, lv, [.int 0], S) r ↔ (some (.int 0), S) = r := X_ret rfl rfl rfl rfl rfl rfl
theorem r1L_read_38 {d : Nat} {lv : xLV} {S : xS} {r : xO} : XL SK MT d 322 (38, lv, [.int 1], S) r ↔ (some (.int 1), S) = r := X_ret rfl rfl rfl rfl rfl rfl
theorem rL_read_38 {d : Nat} {lv : xLV} {S : xS} {r : xO} {x : Int32} (hz : x = 0 ∨ x = 1) : XL SK MT d 322 (38, lv, [.int x], S) r ↔ (some (.int x), S) = r := X_ret rfl rfl rfl rfl rfl (if_pos (Or.inr ⟨rfl, hz⟩))

/-! The law: what waits is fed, and all read. -/
set_option maxHeartbeats 4000000 in
set_option maxRecDepth 100000 in
theorem s_end {d ts n : Nat} {S : xS} (hs : S.1 0 12 = nI ts) (hn : n ≤ 19) (hz : n ≤ ts) (ht : ts < 10000) : XC SK MT (d + 1) 309 [.ref 0, .int (nI n)] S = some (some (.int (nI (ts - n))), xsetI S 0 12 (nI (ts - n))) := by
  have h1 : ¬ nI n < 0 := nI_pos (by omega)
  have h2 : ¬ 19 < nI n := Int32.not_lt.mpr (nI_le (b := 19) hn (by decide))
  have h3 : nI n ≤ nI ts := nI_le hz (by omega)
  have h4 : nI ts - nI n = nI (ts - n) := by
    have e : nI ts = nI (ts - n) + nI n := by rw [nI_add, Nat.sub_add_cancel hz]
    rw [e, Int32.add_sub_cancel]
  rw [XC_iff]
  refine ⟨Nat.le_of_ble_eq_true rfl, ?_⟩
  show XL SK MT d 309 (0, [some (.ref 0), some (.int (nI n))], [], S) _
  simp (config := { decide := true }) only [rX12_end_0, rX12_end_1, rX12_end_4, rX12_end_5, rX12_end_7, rX12_end_10, rX12_end_11, rX12_end_12, rX12_end_15, riX12_end_21, rX12_end_21, rX12_end_28, riX12_end_29, rX12_end_29, rX12_end_30, rX12_end_33, rX12_end_34, rX12_end_35, rX12_end_38, rX12_end_39, rX12_end_42, ↓reduceIte, m1_le, m1_lt, m1_eq, ofInt_m1, ex_ret, Int32.reduceAdd, Int32.reduceSub, Int32.reduceMul, Int32.reduceLT, Int32.reduceLE, xsI, Nat.reduceEqDiff, and_false, false_and, and_true, true_and, if_true, if_false, ite_true, ite_false, xlook_0, xlook_s, xI_int, xA_ref, xJ_long, xK_some, xRow_row, xTo_some, xst1, xclr, List.set_cons_zero, List.set_cons_succ, xsum_nil, xsum_int, xsum_ref, xsum_long, Option.toList_some, Option.toList_none, List.nil_append, List.cons_append, hs, h1, h2, h3, h4]
set_option maxHeartbeats 4000000 in
set_option maxRecDepth 100000 in
theorem s_cut {d ts n : Nat} {S : xS} (hs : S.1 0 12 = nI ts) (hn : n ≤ 19) (hz : n ≤ ts) (ht : ts < 10000) : XC SK MT (d + 2) 323 [.ref 0, .int (nI n)] S = some (none, xsetI S 0 12 (nI (ts - n))) := by
  have e := s_end (d := d) hs hn hz ht
  rw [XC_iff]
  refine ⟨Nat.le_of_ble_eq_true rfl, ?_⟩
  show XL SK MT (d + 1) 323 (0, [some (.ref 0), some (.int (nI n)), none], [], S) _
  simp (config := { decide := true }) only [rL_cut_0, rL_cut_1, rL_cut_2, rL_cut_5, rL_cut_6, rL_cut_9, rL_cut_10, rL_cut_11, ↓reduceIte, m1_le, m1_lt, m1_eq, ofInt_m1, ex_ret, Int32.reduceAdd, Int32.reduceSub, Int32.reduceMul, Int32.reduceLT, Int32.reduceLE, xsI, Nat.reduceEqDiff, and_false, false_and, and_true, true_and, if_true, if_false, ite_true, ite_false, xlook_0, xlook_s, xI_int, xA_ref, xJ_long, xK_some, xRow_row, xTo_some, xst1, xclr, List.set_cons_zero, List.set_cons_succ, xsum_nil, xsum_int, xsum_ref, xsum_long, Option.toList_some, Option.toList_none, List.nil_append, List.cons_append, e]
/-- all is fed, with blanks behind -/
def FdT (S : xS) (bs : List Nat) : Prop := S.1 0 12 = nI bs.length ∧ ∀ j b, bs[j]? = some b → S.1 13 j = nI b ∧ b < 128
def FrLr (S S' : xS) : Prop := (∀ a, ¬ a = 0 → ¬ a = 13 → S'.1 a = S.1 a) ∧ (∀ j, ¬ (0, j) = (0, 12) → S'.1 0 j = S.1 0 j)
theorem Sd.cnt {S : xS} {bs : List Nat} (h : Sd S bs) : S.2 69 0 = lN (bs.length % 20) := by
  obtain ⟨q, l, rfl, hl, hw, -, hq, -, -⟩ := h
  rw [hw.1, List.length_append, show (q.length + l.length) % 20 = l.length by omega]
theorem Sd.all {S : xS} {bs : List Nat} (h : Sd S bs) (hz : bs.length % 20 = 0) : S.1 0 12 = nI bs.length ∧ ∀ j b, bs[j]? = some b → S.1 13 j = nI b ∧ b < 128 := by
  obtain ⟨q, l, rfl, hl, hw, ht, hq, hx, hb⟩ := h
  rw [List.length_append] at hz
  obtain rfl : l = [] := List.length_eq_zero_iff.mp (by omega)
  rw [List.append_nil] at *
  exact ⟨ht, fun j b hj => ⟨hx j b hj, hb b (List.mem_of_getElem? hj)⟩⟩
set_option maxHeartbeats 4000000 in
set_option maxRecDepth 100000 in
theorem lr_loop {d : Nat} : ∀ (m n : Nat) (S : xS) (bs : List Nat), (bs.length + m) % 20 = 0 → m < 20 → Sd S bs → bs.length + m < 7000 → n + m < 100 →
    ∃ S', Sd S' (bs ++ List.replicate m 32) ∧ FrSy S S' ∧ ∀ r, XL SK MT (d + 6) 322 (2, [some (.ref 0), some (.ref 69), some (.int (nI n))], [], S) r ↔ XL SK MT (d + 6) 322 (25, [some (.ref 0), some (.ref 69), some (.int (nI (n + m)))], [], S') r := by
  intro m
  induction m with
  | zero =>
    intro n S bs h1 h2 h3 h4 h5
    have hc := h3.cnt
    rw [show bs.length % 20 = 0 by omega] at hc
    have l00 : lg_cmp (lN 0) (lN 0) ≤ 0 := by rw [lgc_eq]; decide
    refine ⟨S, by rw [List.replicate_zero, List.append_nil]; exact h3, FrSy.rf, fun r => ?_⟩
    rw [rL_read_2]
    simp (config := { decide := true }) only [rL_read_0, rL_read_1, rL_read_3, rL_read_5, rL_read_6, rL_read_7, rL_read_10, rL_read_11, rL_read_14, rL_read_15, rL_read_16, rL_read_19, rL_read_22, rL_read_26, rL_read_29, rL_read_30, rL_read_31, rL_read_34, rL_read_35, r0L_read_38, r1L_read_38, rL_read_38, rL_read_4 sk69, ↓reduceIte, m1_le, m1_lt, m1_eq, ofInt_m1, ex_ret, Int32.reduceAdd, Int32.reduceSub, Int32.reduceMul, Int32.reduceLT, Int32.reduceLE, xsI, Nat.reduceEqDiff, and_false, false_and, and_true, true_and, if_true, if_false, ite_true, ite_false, xlook_0, xlook_s, xI_int, xA_ref, xJ_long, xK_some, xRow_row, xTo_some, xst1, xclr, List.set_cons_zero, List.set_cons_succ, xsum_nil, xsum_int, xsum_ref, xsum_long, Option.toList_some, Option.toList_none, List.nil_append, List.cons_append, Int32.reduceToNatClampNeg, xin_w0, hc, l0N, l00, Nat.add_zero]
  | succ m ih =>
    intro n S bs h1 h2 h3 h4 h5
    have hc := h3.cnt
    have l01 : ¬ lg_cmp (lN (bs.length % 20)) (lN 0) ≤ 0 := fun z => absurd ((lgc_le (by omega) (by decide)).mp z) (by omega)
    obtain ⟨S1, g1, g2, g3⟩ := s_say (d := d + 1) (sg := 32) (n := 1) h3 (by decide) (by decide) (by decide) (by omega)
    have g1' : XC SK MT (d + 6) 321 [.ref 0, .long (lN 32), .int 1, .ref 69] S = some (none, S1) := g1
    obtain ⟨S2, k1, k2, k3⟩ := ih (n + 1) S1 (bs ++ [32]) (by rw [List.length_append]; show (_ + 1 + _) % 20 = 0; omega) (by omega) g2 (by rw [List.length_append]; show _ + 1 + _ < _; omega) (by omega)
    refine ⟨S2, ?_, g3.tr k2, fun r => ?_⟩
    · rw [List.append_assoc] at k1; exact k1
    · rw [show n + (m + 1) = n + 1 + m by omega, ← k3 r, rL_read_2]
      simp (config := { decide := true }) only [rL_read_0, rL_read_1, rL_read_3, rL_read_5, rL_read_6, rL_read_7, rL_read_10, rL_read_11, rL_read_14, rL_read_15, rL_read_16, rL_read_19, rL_read_22, rL_read_26, rL_read_29, rL_read_30, rL_read_31, rL_read_34, rL_read_35, r0L_read_38, r1L_read_38, rL_read_38, rL_read_4 sk69, ↓reduceIte, m1_le, m1_lt, m1_eq, ofInt_m1, ex_ret, Int32.reduceAdd, Int32.reduceSub, Int32.reduceMul, Int32.reduceLT, Int32.reduceLE, xsI, Nat.reduceEqDiff, and_false, false_and, and_true, true_and, if_true, if_false, ite_true, ite_false, xlook_0, xlook_s, xI_int, xA_ref, xJ_long, xK_some, xRow_row, xTo_some, xst1, xclr, List.set_cons_zero, List.set_cons_succ, xsum_nil, xsum_int, xsum_ref, xsum_long, Option.toList_some, Option.toList_none, List.nil_append, List.cons_append, Int32.reduceToNatClampNeg, xin_w0, hc, l0N, l01, l32N, g1', nI_1]
set_option maxHeartbeats 4000000 in
set_option maxRecDepth 100000 in
/-- all is fed and read; what House.read does with it is given -/
theorem s_lread {d : Nat} {S : xS} {bs : List Nat} {Q : xS → Prop} (h : Sd S bs) (hz : bs.length < 6900) (hr : ∀ S1, FdT S1 bs → FrLr S S1 → ∃ S2, XC SK MT (d + 6) 310 [.ref 0] S1 = some (some (.int 1), S2) ∧ Q S2) :
    ∃ S2, XC SK MT (d + 7) 322 [.ref 0, .ref 69] S = some (some (.int 1), S2) ∧ Q S2 := by
  obtain ⟨m, hm, hm2⟩ : ∃ m, (bs.length + m) % 20 = 0 ∧ m < 20 := ⟨(20 - bs.length % 20) % 20, by omega, by omega⟩
  obtain ⟨S1, g1, g2, g3⟩ := lr_loop (d := d) m 0 S bs hm hm2 h (by omega) (by omega)
  rw [Nat.zero_add] at g3
  have hl : (bs ++ List.replicate m 32).length = bs.length + m := by rw [List.length_append, List.length_replicate]
  obtain ⟨a1, a2⟩ := g1.all (by rw [hl]; exact hm)
  rw [hl] at a1
  have hbs : ∀ j b, bs[j]? = some b → S1.1 13 j = nI b ∧ b < 128 := fun j b hj => a2 j b (by rw [List.getElem?_append_left (List.getElem?_eq_some_iff.mp hj).1]; exact hj)
  by_cases h0 : m = 0
  · subst h0
    obtain ⟨S2, r1, r2⟩ := hr S1 ⟨a1, hbs⟩ ⟨g2.1, g2.2.1⟩
    refine ⟨S2, ?_, r2⟩
    rw [XC_iff]
    refine ⟨Nat.le_of_ble_eq_true rfl, ?_⟩
    show XL SK MT (d + 6) 322 (0, [some (.ref 0), some (.ref 69), none], [], S) _
    simp (config := { decide := true }) only [rL_read_0, rL_read_1, ↓reduceIte, m1_le, m1_lt, m1_eq, ofInt_m1, ex_ret, Int32.reduceAdd, Int32.reduceSub, Int32.reduceMul, Int32.reduceLT, Int32.reduceLE, xsI, Nat.reduceEqDiff, and_false, false_and, and_true, true_and, if_true, if_false, ite_true, ite_false, xlook_0, xlook_s, xI_int, xA_ref, xJ_long, xK_some, xRow_row, xTo_some, xst1, xclr, List.set_cons_zero, List.set_cons_succ, xsum_nil, xsum_int, xsum_ref, xsum_long, Option.toList_some, Option.toList_none, List.nil_append, List.cons_append]
    refine (g3 _).mpr ?_
    rw [rL_read_25, show nI 0 = (0 : Int32) from rfl]
    simp (config := { decide := true }) only [rL_read_0, rL_read_1, rL_read_3, rL_read_5, rL_read_6, rL_read_7, rL_read_10, rL_read_11, rL_read_14, rL_read_15, rL_read_16, rL_read_19, rL_read_22, rL_read_26, rL_read_29, rL_read_30, rL_read_31, rL_read_34, rL_read_35, r0L_read_38, r1L_read_38, rL_read_38, ↓reduceIte, m1_le, m1_lt, m1_eq, ofInt_m1, ex_ret, Int32.reduceAdd, Int32.reduceSub, Int32.reduceMul, Int32.reduceLT, Int32.reduceLE, xsI, Nat.reduceEqDiff, and_false, false_and, and_true, true_and, if_true, if_false, ite_true, ite_false, xlook_0, xlook_s, xI_int, xA_ref, xJ_long, xK_some, xRow_row, xTo_some, xst1, xclr, List.set_cons_zero, List.set_cons_succ, xsum_nil, xsum_int, xsum_ref, xsum_long, Option.toList_some, Option.toList_none, List.nil_append, List.cons_append, Int32.le_refl, r1]
  · have hc := s_cut (d := d + 4) a1 (show m ≤ 19 by omega) (by omega) (by omega)
    rw [show bs.length + m - m = bs.length by omega] at hc
    have fr : FrLr S (xsetI S1 0 12 (nI bs.length)) := ⟨fun a x y => by rw [xsR x]; exact g2.1 a x y, fun j x => by rw [xsI, if_neg (fun z => x (by rw [z.2]))]; exact g2.2.1 j x⟩
    obtain ⟨S2, r1, r2⟩ := hr (xsetI S1 0 12 (nI bs.length)) ⟨by rw [xsI, if_pos ⟨rfl, rfl⟩], fun j b hj => by rw [xsR (by decide)]; exact hbs j b hj⟩ fr
    have np : ¬ nI m ≤ 0 := nI_ge (a := 0) (by omega) (by omega)
    refine ⟨S2, ?_, r2⟩
    rw [XC_iff]
    refine ⟨Nat.le_of_ble_eq_true rfl, ?_⟩
    show XL SK MT (d + 6) 322 (0, [some (.ref 0), some (.ref 69), none], [], S) _
    simp (config := { decide := true }) only [rL_read_0, rL_read_1, ↓reduceIte, m1_le, m1_lt, m1_eq, ofInt_m1, ex_ret, Int32.reduceAdd, Int32.reduceSub, Int32.reduceMul, Int32.reduceLT, Int32.reduceLE, xsI, Nat.reduceEqDiff, and_false, false_and, and_true, true_and, if_true, if_false, ite_true, ite_false, xlook_0, xlook_s, xI_int, xA_ref, xJ_long, xK_some, xRow_row, xTo_some, xst1, xclr, List.set_cons_zero, List.set_cons_succ, xsum_nil, xsum_int, xsum_ref, xsum_long, Option.toList_some, Option.toList_none, List.nil_append, List.cons_append]
    refine (g3 _).mpr ?_
    rw [rL_read_25]
    simp (config := { decide := true }) only [rL_read_0, rL_read_1, rL_read_3, rL_read_5, rL_read_6, rL_read_7, rL_read_10, rL_read_11, rL_read_14, rL_read_15, rL_read_16, rL_read_19, rL_read_22, rL_read_26, rL_read_29, rL_read_30, rL_read_31, rL_read_34, rL_read_35, r0L_read_38, r1L_read_38, rL_read_38, ↓reduceIte, m1_le, m1_lt, m1_eq, ofInt_m1, ex_ret, Int32.reduceAdd, Int32.reduceSub, Int32.reduceMul, Int32.reduceLT, Int32.reduceLE, xsI, Nat.reduceEqDiff, and_false, false_and, and_true, true_and, if_true, if_false, ite_true, ite_false, xlook_0, xlook_s, xI_int, xA_ref, xJ_long, xK_some, xRow_row, xTo_some, xst1, xclr, List.set_cons_zero, List.set_cons_succ, xsum_nil, xsum_int, xsum_ref, xsum_long, Option.toList_some, Option.toList_none, List.nil_append, List.cons_append, np, hc, r1]
