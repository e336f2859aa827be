/-! XF: rows, then what is proved of them. -/
theorem rX12_addBytes_0 {d : Nat} {lv : xLV} {st : List Value} {S : xS} {r : xO} : XL SK MT d 308 (0, lv, st, S) r ↔ XL SK MT d 308 (2, lv, .int 24 :: st, S) r := X_pure rfl rfl rfl
theorem rX12_addBytes_2 {d : Nat} {lv : xLV} {st : List Value} {S : xS} {r : xO} {x : Int32} : XL SK MT d 308 (2, lv, .int x :: st, S) r ↔ XL SK MT d 308 (3, xst1 lv 2 (.int x), st, S) r := X_pure rfl rfl rfl
theorem rX12_addBytes_3 {d : Nat} {lv : xLV} {st : List Value} {S : xS} {r : xO} : XL SK MT d 308 (3, lv, st, S) r ↔ xI (xlook lv 2) (fun x => XL SK MT d 308 (4, lv, .int x :: st, S) r) := X_ldI rfl rfl (fun _ => rfl) rfl rfl rfl rfl
theorem rX12_addBytes_4 {d : Nat} {lv : xLV} {st : List Value} {S : xS} {r : xO} {x : Int32} : XL SK MT d 308 (4, lv, .int x :: st, S) r ↔ if x < 0 then XL SK MT d 308 (37, lv, st, S) r else XL SK MT d 308 (7, lv, st, S) r := (X_if rfl rfl).trans xc_lt
theorem rX12_addBytes_7 {d : Nat} {lv : xLV} {st : List Value} {S : xS} {r : xO} : XL SK MT d 308 (7, lv, st, S) r ↔ xA (xlook lv 0) (fun x => XL SK MT d 308 (8, lv, .ref x :: st, S) r) := X_ldA rfl rfl (fun _ => rfl) rfl rfl rfl rfl
theorem rX12_addBytes_8 {d : Nat} {lv : xLV} {st : List Value} {S : xS} {r : xO} : XL SK MT d 308 (8, lv, .ref 0 :: st, S) r ↔ XL SK MT d 308 (11, lv, .ref 13 :: st, S) r := X_heap rfl rfl rfl rfl rfl
theorem rX12_addBytes_11 {d : Nat} {lv : xLV} {st : List Value} {S : xS} {r : xO} : XL SK MT d 308 (11, lv, st, S) r ↔ xA (xlook lv 0) (fun x => XL SK MT d 308 (12, lv, .ref x :: st, S) r) := X_ldA rfl rfl (fun _ => rfl) rfl rfl rfl rfl
theorem rX12_addBytes_12 {d : Nat} {lv : xLV} {st : List Value} {S : xS} {r : xO} : XL SK MT d 308 (12, lv, .ref 0 :: st, S) r ↔ XL SK MT d 308 (15, lv, .int (S.1 0 12) :: st, S) r := X_heap rfl rfl rfl rfl rfl
theorem rX12_addBytes_15 {d : Nat} {lv : xLV} {st : List Value} {S : xS} {r : xO} : XL SK MT d 308 (15, lv, st, S) r ↔ xI (xlook lv 1) (fun x => XL SK MT d 308 (16, lv, .int x :: st, S) r) := X_ldI rfl rfl (fun _ => rfl) rfl rfl rfl rfl
theorem rX12_addBytes_16 {d : Nat} {lv : xLV} {st : List Value} {S : xS} {r : xO} : XL SK MT d 308 (16, lv, st, S) r ↔ xI (xlook lv 2) (fun x => XL SK MT d 308 (17, lv, .int x :: st, S) r) := X_ldI rfl rfl (fun _ => rfl) rfl rfl rfl rfl
theorem rX12_addBytes_17 {d : Nat} {lv : xLV} {st : List Value} {S : xS} {r : xO} {x z : Int32} : XL SK MT d 308 (17, lv, .int z :: .int x :: st, S) r ↔ XL SK MT d 308 (18, lv, .int (x >>> (z &&& 31)) :: st, S) r := X_pure rfl rfl rfl
theorem rX12_addBytes_18 {d : Nat} {lv : xLV} {S : xS} {r : xO} {x1 : Nat} {x2 : Int32} {x3 : Int32} : XL SK MT d 308 (18, lv, [.int x3, .int x2, .ref x1], S) r ↔ xK (XC SK MT d 306 [.ref x1, .int x2, .int x3] S) (fun v S => XL SK MT d 308 (21, lv, v.toList ++ [], S) r) := X_inv (n := 3) (kd := 0) (st0 := [.int x3, .int x2, .ref x1]) rfl (Or.inl ⟨rfl, rfl⟩) rfl (Nat.le_of_ble_eq_true rfl) (Nat.le_of_ble_eq_true rfl) (by decide) rfl
theorem rX12_addBytes_21 {d : Nat} {lv : xLV} {st : List Value} {S : xS} {r : xO} : XL SK MT d 308 (21, lv, st, S) r ↔ xA (xlook lv 0) (fun x => XL SK MT d 308 (22, lv, .ref x :: st, S) r) := X_ldA rfl rfl (fun _ => rfl) rfl rfl rfl rfl
theorem riX12_addBytes_22 {d : Nat} {lv : xLV} {st : List Value} {S : xS} {r : xO} {x : Int32} : XL SK MT d 308 (22, lv, .int x :: st, S) r ↔ XL SK MT d 308 (23, lv, .int x :: .int x :: st, S) r := X_pure rfl rfl rfl
theorem rX12_addBytes_22 {d : Nat} {lv : xLV} {st : List Value} {S : xS} {r : xO} {x : Nat} : XL SK MT d 308 (22, lv, .ref x :: st, S) r ↔ XL SK MT d 308 (23, lv, .ref x :: .ref x :: st, S) r := X_pure rfl rfl rfl
theorem rX12_addBytes_23 {d : Nat} {lv : xLV} {st : List Value} {S : xS} {r : xO} : XL SK MT d 308 (23, lv, .ref 0 :: st, S) r ↔ XL SK MT d 308 (26, lv, .int (S.1 0 12) :: st, S) r := X_heap rfl rfl rfl rfl rfl
theorem rX12_addBytes_26 {d : Nat} {lv : xLV} {st : List Value} {S : xS} {r : xO} : XL SK MT d 308 (26, lv, st, S) r ↔ XL SK MT d 308 (27, lv, .int 1 :: st, S) r := X_pure rfl rfl rfl
theorem rX12_addBytes_27 {d : Nat} {lv : xLV} {st : List Value} {S : xS} {r : xO} {x z : Int32} : XL SK MT d 308 (27, lv, .int z :: .int x :: st, S) r ↔ XL SK MT d 308 (28, lv, .int (x + z) :: st, S) r := X_pure rfl rfl rfl
theorem rX12_addBytes_28 {d : Nat} {lv : xLV} {st : List Value} {S : xS} {r : xO} {x : Int32} : XL SK MT d 308 (28, lv, .int x :: .ref 0 :: st, S) r ↔ XL SK MT d 308 (31, lv, st, (xsetI S 0 12 x)) r := X_heap rfl rfl rfl rfl rfl
theorem rX12_addBytes_31 {d : Nat} {lv : xLV} {st : List Value} {S : xS} {r : xO} : XL SK MT d 308 (31, lv, st, S) r ↔ xI (xlook lv 2) (fun x => XL SK MT d 308 (34, xst1 lv 2 (.int (x + Int32.ofInt (-8))), st, S) r) := X_inc (i := 2) (n := (-8)) rfl (Nat.le_of_ble_eq_true rfl)
theorem rX12_addBytes_34 {d : Nat} {lv : xLV} {st : List Value} {S : xS} {r : xO} : XL SK MT d 308 (34, lv, st, S) r ↔ XL SK MT d 308 (3, lv, st, S) r := X_jump rfl rfl rfl
theorem rX12_addBytes_37 {d : Nat} {lv : xLV} {S : xS} {r : xO} : XL SK MT d 308 (37, lv, [], S) r ↔ (none, S) = r := X_ret rfl rfl rfl rfl rfl rfl

theorem rX12_feed_0 {d : Nat} {lv : xLV} {st : List Value} {S : xS} {r : xO} : XL SK MT d 307 (0, lv, st, S) r ↔ xA (xlook lv 0) (fun x => XL SK MT d 307 (1, lv, .ref x :: st, S) r) := X_ldA rfl rfl (fun _ => rfl) rfl rfl rfl rfl
theorem rX12_feed_1 {d : Nat} {lv : xLV} {st : List Value} {S : xS} {r : xO} : XL SK MT d 307 (1, lv, .ref 0 :: st, S) r ↔ XL SK MT d 307 (4, lv, .int (S.1 0 12) :: st, S) r := X_heap rfl rfl rfl rfl rfl
theorem rX12_feed_4 {d : Nat} {lv : xLV} {st : List Value} {S : xS} {r : xO} : XL SK MT d 307 (4, lv, st, S) r ↔ XL SK MT d 307 (6, lv, .int 20 :: st, S) r := X_pure rfl rfl rfl
theorem rX12_feed_6 {d : Nat} {lv : xLV} {st : List Value} {S : xS} {r : xO} {x z : Int32} : XL SK MT d 307 (6, lv, .int z :: .int x :: st, S) r ↔ XL SK MT d 307 (7, lv, .int (x + z) :: st, S) r := X_pure rfl rfl rfl
theorem rX12_feed_7 {d : Nat} {lv : xLV} {st : List Value} {S : xS} {r : xO} : XL SK MT d 307 (7, lv, st, S) r ↔ XL SK MT d 307 (10, lv, .int 8192 :: st, S) r := X_pure rfl rfl rfl
theorem rX12_feed_10 {d : Nat} {lv : xLV} {st : List Value} {S : xS} {r : xO} {x z : Int32} : XL SK MT d 307 (10, lv, .int z :: .int x :: st, S) r ↔ if x ≤ z then XL SK MT d 307 (23, lv, st, S) r else XL SK MT d 307 (13, lv, st, S) r := (X_icmp rfl rfl).trans xc_le
theorem riX12_feed_16 {d : Nat} {lv : xLV} {st : List Value} {S : xS} {r : xO} {x : Int32} : XL SK MT d 307 (16, lv, .int x :: st, S) r ↔ XL SK MT d 307 (17, lv, .int x :: .int x :: st, S) r := X_pure rfl rfl rfl
theorem rX12_feed_16 {d : Nat} {lv : xLV} {st : List Value} {S : xS} {r : xO} {x : Nat} : XL SK MT d 307 (16, lv, .ref x :: st, S) r ↔ XL SK MT d 307 (17, lv, .ref x :: .ref x :: st, S) r := X_pure rfl rfl rfl
theorem rX12_feed_23 {d : Nat} {lv : xLV} {st : List Value} {S : xS} {r : xO} : XL SK MT d 307 (23, lv, st, S) r ↔ xA (xlook lv 0) (fun x => XL SK MT d 307 (24, lv, .ref x :: st, S) r) := X_ldA rfl rfl (fun _ => rfl) rfl rfl rfl rfl
theorem rX12_feed_24 {d : Nat} {lv : xLV} {st : List Value} {S : xS} {r : xO} : XL SK MT d 307 (24, lv, st, S) r ↔ xI (xlook lv 1) (fun x => XL SK MT d 307 (25, lv, .int x :: st, S) r) := X_ldI rfl rfl (fun _ => rfl) rfl rfl rfl rfl
theorem rX12_feed_25 {d : Nat} {lv : xLV} {S : xS} {r : xO} {x1 : Int32} : XL SK MT d 307 (25, lv, [.int x1, .ref 0], S) r ↔ xK (XC SK MT d 308 [.ref 0, .int x1] S) (fun v S => XL SK MT d 307 (28, lv, v.toList ++ [], S) r) := X_inv (n := 2) (kd := 14) (st0 := [.int x1, .ref 0]) rfl (Or.inr ⟨rfl, rfl⟩) rfl (Nat.le_of_ble_eq_true rfl) (Nat.le_of_ble_eq_true rfl) (by decide) rfl
theorem rX12_feed_28 {d : Nat} {lv : xLV} {st : List Value} {S : xS} {r : xO} : XL SK MT d 307 (28, lv, st, S) r ↔ xA (xlook lv 0) (fun x => XL SK MT d 307 (29, lv, .ref x :: st, S) r) := X_ldA rfl rfl (fun _ => rfl) rfl rfl rfl rfl
theorem rX12_feed_29 {d : Nat} {lv : xLV} {st : List Value} {S : xS} {r : xO} : XL SK MT d 307 (29, lv, st, S) r ↔ xI (xlook lv 2) (fun x => XL SK MT d 307 (30, lv, .int x :: st, S) r) := X_ldI rfl rfl (fun _ => rfl) rfl rfl rfl rfl
theorem rX12_feed_30 {d : Nat} {lv : xLV} {S : xS} {r : xO} {x1 : Int32} : XL SK MT d 307 (30, lv, [.int x1, .ref 0], S) r ↔ xK (XC SK MT d 308 [.ref 0, .int x1] S) (fun v S => XL SK MT d 307 (33, lv, v.toList ++ [], S) r) := X_inv (n := 2) (kd := 14) (st0 := [.int x1, .ref 0]) rfl (Or.inr ⟨rfl, rfl⟩) rfl (Nat.le_of_ble_eq_true rfl) (Nat.le_of_ble_eq_true rfl) (by decide) rfl
theorem rX12_feed_33 {d : Nat} {lv : xLV} {st : List Value} {S : xS} {r : xO} : XL SK MT d 307 (33, lv, st, S) r ↔ xA (xlook lv 0) (fun x => XL SK MT d 307 (34, lv, .ref x :: st, S) r) := X_ldA rfl rfl (fun _ => rfl) rfl rfl rfl rfl
theorem rX12_feed_34 {d : Nat} {lv : xLV} {st : List Value} {S : xS} {r : xO} : XL SK MT d 307 (34, lv, st, S) r ↔ xI (xlook lv 3) (fun x => XL SK MT d 307 (35, lv, .int x :: st, S) r) := X_ldI rfl rfl (fun _ => rfl) rfl rfl rfl rfl
theorem rX12_feed_35 {d : Nat} {lv : xLV} {S : xS} {r : xO} {x1 : Int32} : XL SK MT d 307 (35, lv, [.int x1, .ref 0], S) r ↔ xK (XC SK MT d 308 [.ref 0, .int x1] S) (fun v S => XL SK MT d 307 (38, lv, v.toList ++ [], S) r) := X_inv (n := 2) (kd := 14) (st0 := [.int x1, .ref 0]) rfl (Or.inr ⟨rfl, rfl⟩) rfl (Nat.le_of_ble_eq_true rfl) (Nat.le_of_ble_eq_true rfl) (by decide) rfl
theorem rX12_feed_38 {d : Nat} {lv : xLV} {st : List Value} {S : xS} {r : xO} : XL SK MT d 307 (38, lv, st, S) r ↔ xA (xlook lv 0) (fun x => XL SK MT d 307 (39, lv, .ref x :: st, S) r) := X_ldA rfl rfl (fun _ => rfl) rfl rfl rfl rfl
theorem rX12_feed_39 {d : Nat} {lv : xLV} {st : List Value} {S : xS} {r : xO} : XL SK MT d 307 (39, lv, st, S) r ↔ xI (xlook lv 4) (fun x => XL SK MT d 307 (41, lv, .int x :: st, S) r) := X_ldI rfl rfl (fun _ => rfl) rfl rfl rfl rfl
theorem rX12_feed_41 {d : Nat} {lv : xLV} {S : xS} {r : xO} {x1 : Int32} : XL SK MT d 307 (41, lv, [.int x1, .ref 0], S) r ↔ xK (XC SK MT d 308 [.ref 0, .int x1] S) (fun v S => XL SK MT d 307 (44, lv, v.toList ++ [], S) r) := X_inv (n := 2) (kd := 14) (st0 := [.int x1, .ref 0]) rfl (Or.inr ⟨rfl, rfl⟩) rfl (Nat.le_of_ble_eq_true rfl) (Nat.le_of_ble_eq_true rfl) (by decide) rfl
theorem rX12_feed_44 {d : Nat} {lv : xLV} {st : List Value} {S : xS} {r : xO} : XL SK MT d 307 (44, lv, st, S) r ↔ xA (xlook lv 0) (fun x => XL SK MT d 307 (45, lv, .ref x :: st, S) r) := X_ldA rfl rfl (fun _ => rfl) rfl rfl rfl rfl
theorem rX12_feed_45 {d : Nat} {lv : xLV} {st : List Value} {S : xS} {r : xO} : XL SK MT d 307 (45, lv, st, S) r ↔ xI (xlook lv 5) (fun x => XL SK MT d 307 (47, lv, .int x :: st, S) r) := X_ldI rfl rfl (fun _ => rfl) rfl rfl rfl rfl
theorem rX12_feed_47 {d : Nat} {lv : xLV} {S : xS} {r : xO} {x1 : Int32} : XL SK MT d 307 (47, lv, [.int x1, .ref 0], S) r ↔ xK (XC SK MT d 308 [.ref 0, .int x1] S) (fun v S => XL SK MT d 307 (50, lv, v.toList ++ [], S) r) := X_inv (n := 2) (kd := 14) (st0 := [.int x1, .ref 0]) rfl (Or.inr ⟨rfl, rfl⟩) rfl (Nat.le_of_ble_eq_true rfl) (Nat.le_of_ble_eq_true rfl) (by decide) rfl
theorem rX12_feed_50 {d : Nat} {lv : xLV} {st : List Value} {S : xS} {r : xO} : XL SK MT d 307 (50, lv, st, S) r ↔ xA (xlook lv 0) (fun x => XL SK MT d 307 (51, lv, .ref x :: st, S) r) := X_ldA rfl rfl (fun _ => rfl) rfl rfl rfl rfl
theorem rX12_feed_51 {d : Nat} {lv : xLV} {st : List Value} {S : xS} {r : xO} : XL SK MT d 307 (51, lv, .ref 0 :: st, S) r ↔ XL SK MT d 307 (54, lv, .int (S.1 0 12) :: st, S) r := X_heap rfl rfl rfl rfl rfl
theorem rX12_feed_54 {d : Nat} {lv : xLV} {S : xS} {r : xO} {x : Int32} : XL SK MT d 307 (54, lv, [.int x], S) r ↔ (some (.int x), S) = r := X_ret rfl rfl rfl rfl rfl rfl

/-! The House: bytes fed. -/
/-- bytes behind the text -/
def fdS (S : xS) (ts : Nat) (l : List Nat) : xS := (fun a b => if a = 13 ∧ ts ≤ b ∧ b < ts + l.length then nI (l.getD (b - ts) 0) else if (a, b) = (0, 12) then nI (ts + l.length) else S.1 a b, S.2)
theorem fdS_0 {S : xS} {ts : Nat} (h : S.1 0 12 = nI ts) : fdS S ts [] = S := by
  unfold fdS
  refine Prod.ext ?_ rfl
  funext a b
  show (if a = 13 ∧ ts ≤ b ∧ b < ts + 0 then nI ([].getD (b - ts) 0) else if (a, b) = (0, 12) then nI (ts + 0) else S.1 a b) = S.1 a b
  rw [if_neg (by omega)]
  split
  · rename_i q
    obtain ⟨rfl, rfl⟩ := Prod.mk.inj q
    exact h.symm
  · rfl
theorem fdS_size {S : xS} {ts : Nat} {l : List Nat} : (fdS S ts l).1 0 12 = nI (ts + l.length) := by
  unfold fdS
  dsimp only
  rw [if_neg (by omega), if_pos rfl]
theorem fdS_s {S : xS} {ts b : Nat} {l : List Nat} : xsetI (xsetI (fdS S ts l) 13 (ts + l.length) (nI b)) 0 12 (nI (ts + l.length + 1)) = fdS S ts (l ++ [b]) := by
  refine Prod.ext ?_ rfl
  funext x y
  have hl : (l ++ [b]).length = l.length + 1 := by rw [List.length_append]; rfl
  show (if x = 0 ∧ y = _ then nI (ts + l.length + 1) else if x = 13 ∧ y = ts + l.length then nI b else if x = 13 ∧ ts ≤ y ∧ y < ts + l.length then nI (l.getD (y - ts) 0) else if (x, y) = (0, 12) then nI (ts + l.length) else S.1 x y) = if x = 13 ∧ ts ≤ y ∧ y < ts + (l ++ [b]).length then nI ((l ++ [b]).getD (y - ts) 0) else if (x, y) = (0, 12) then nI (ts + (l ++ [b]).length) else S.1 x y
  rw [hl]
  by_cases h1 : x = 13
  · subst h1
    rw [if_neg (fun z => absurd z.1 (by decide))]
    by_cases h2 : y = ts + l.length
    · subst h2
      rw [if_pos ⟨rfl, rfl⟩, if_pos ⟨rfl, by omega⟩, Nat.add_sub_cancel_left, List.getD_eq_getElem?_getD, List.getElem?_append_right (Nat.le_refl _), Nat.sub_self]
      rfl
    · rw [if_neg (fun z => h2 z.2)]
      by_cases h3 : ts ≤ y ∧ y < ts + l.length
      · rw [if_pos ⟨rfl, h3⟩, if_pos ⟨rfl, h3.1, by omega⟩, List.getD_eq_getElem?_getD, List.getD_eq_getElem?_getD, List.getElem?_append_left (by omega)]
      · have hn : ¬ ((13, y) = (0, 12)) := fun z => absurd (Prod.mk.inj z).1 (by decide)
        rw [if_neg (fun z => h3 z.2), if_neg hn, if_neg (by omega), if_neg hn]
  · by_cases h4 : (x, y) = (0, 12)
    · obtain ⟨rfl, rfl⟩ := Prod.mk.inj h4
      rw [if_pos ⟨rfl, rfl⟩, if_neg (by omega), if_pos rfl]
      rfl
    · rw [if_neg (fun z => h4 (by rw [z.1, z.2])), if_neg (fun z => h1 z.1), if_neg (fun z => h1 z.1), if_neg h4, if_neg (fun z => h1 z.1), if_neg h4]
theorem xputb_v {S : xS} {a n m : Nat} {x : Int32} (h : m < n) (hn : n < 2 ^ 31) : xputb S a n (nI m) x = xsetI S a m (vp_nar .byte x.toInt8.toInt32) := by
  unfold xputb
  rw [if_neg (nI_pos (by omega)), if_neg (nI_ge h hn), nI_clamp (by omega)]
set_option maxHeartbeats 4000000 in
set_option maxRecDepth 100000 in
theorem ab_turn {d ts b : Nat} {S : xS} {v i : Int32} {l : List Nat} {r : xO} (h0 : ¬ i < 0) (hb : vp_nar .byte (v >>> (i &&& 31)).toInt8.toInt32 = nI b) (h : ts + l.length < 8192) : XL SK MT (d + 1) 308 (3, [some (.ref 0), some (.int v), some (.int i)], [], fdS S ts l) r ↔ XL SK MT (d + 1) 308 (3, [some (.ref 0), some (.int v), some (.int (i + Int32.ofInt (-8)))], [], fdS S ts (l ++ [b])) r := by
  rw [rX12_addBytes_3]
  simp (config := { decide := true }) only [rX12_addBytes_0, rX12_addBytes_2, rX12_addBytes_4, rX12_addBytes_7, rX12_addBytes_8, rX12_addBytes_11, rX12_addBytes_12, rX12_addBytes_15, rX12_addBytes_16, rX12_addBytes_17, rX12_addBytes_18, rX12_addBytes_21, riX12_addBytes_22, rX12_addBytes_22, rX12_addBytes_23, rX12_addBytes_26, rX12_addBytes_27, rX12_addBytes_28, rX12_addBytes_31, rX12_addBytes_34, rX12_addBytes_37, ↓reduceIte, m1_le, m1_lt, m1_eq, ofInt_m1, ex_ret, Int32.reduceAdd, Int32.reduceSub, Int32.reduceMul, Int32.reduceLT, Int32.reduceLE, xsI, Nat.reduceEqDiff, and_false, false_and, and_true, true_and, if_true, if_false, ite_true, ite_false, xlook_0, xlook_s, xI_int, xA_ref, xJ_long, xK_some, xRow_row, xTo_some, xst1, xclr, List.set_cons_zero, List.set_cons_succ, xsum_nil, xsum_int, xsum_ref, xsum_long, Option.toList_some, Option.toList_none, List.nil_append, List.cons_append, h0, fdS_size, s_byteIn (show SK[13]? = some (.inl (1, 8192)) from rfl) (by decide : 8192 < 2 ^ 31), s_putByte (show SK[13]? = some (.inl (1, 8192)) from rfl) (by decide : 8192 < 2 ^ 31), xputb_v h (by decide : 8192 < 2 ^ 31), hb, nI_1]
  rw [fdS_s]
def Fb4 (v : Int32) (b0 b1 b2 b3 : Nat) : Prop := v.toBitVec.toNat = ((b0 * 256 + b1) * 256 + b2) * 256 + b3 ∧ b0 < 128 ∧ b1 < 128 ∧ b2 < 128 ∧ b3 < 128
set_option maxHeartbeats 4000000 in
set_option maxRecDepth 100000 in
theorem s_addBytes {d ts b0 b1 b2 b3 : Nat} {S : xS} {v : Int32} {l : List Nat} (h : Fb4 v b0 b1 b2 b3) (hl : ts + l.length + 4 ≤ 8192) : XC SK MT (d + 2) 308 [.ref 0, .int v] (fdS S ts l) = some (none, fdS S ts (l ++ [b0, b1, b2, b3])) := by
  obtain ⟨h1, h2, h3, h4, h5⟩ := h
  rw [XC_iff]
  refine ⟨Nat.le_of_ble_eq_true rfl, ?_⟩
  show XL SK MT (d + 1) 308 (0, [some (.ref 0), some (.int v), none], [], fdS S ts l) _
  simp (config := { decide := true }) only [rX12_addBytes_0, rX12_addBytes_2, ↓reduceIte, m1_le, m1_lt, m1_eq, ofInt_m1, ex_ret, Int32.reduceAdd, Int32.reduceSub, Int32.reduceMul, Int32.reduceLT, Int32.reduceLE, xsI, Nat.reduceEqDiff, and_false, false_and, and_true, true_and, if_true, if_false, ite_true, ite_false, xlook_0, xlook_s, xI_int, xA_ref, xJ_long, xK_some, xRow_row, xTo_some, xst1, xclr, List.set_cons_zero, List.set_cons_succ, xsum_nil, xsum_int, xsum_ref, xsum_long, Option.toList_some, Option.toList_none, List.nil_append, List.cons_append]
  rw [ab_turn (b := b0) (by decide) (byt24 (by omega) h2) (by omega), show (24 : Int32) + Int32.ofInt (-8) = 16 from by decide]
  rw [ab_turn (b := b1) (by decide) (byt16 (by omega) h3) (by simp only [List.length_append, List.length_cons, List.length_nil]; omega), show (16 : Int32) + Int32.ofInt (-8) = 8 from by decide]
  rw [ab_turn (b := b2) (by decide) (byt8 (by omega) h4) (by simp only [List.length_append, List.length_cons, List.length_nil]; omega), show (8 : Int32) + Int32.ofInt (-8) = 0 from by decide]
  rw [ab_turn (b := b3) (by decide) (byt0 (by omega) h5) (by simp only [List.length_append, List.length_cons, List.length_nil]; omega), show (0 : Int32) + Int32.ofInt (-8) = -8 from by decide]
  rw [rX12_addBytes_3]
  have e : l ++ [b0] ++ [b1] ++ [b2] ++ [b3] = l ++ [b0, b1, b2, b3] := by simp only [List.append_assoc, List.cons_append, List.nil_append]
  rw [e]
  simp (config := { decide := true }) only [rX12_addBytes_4, rX12_addBytes_37, ↓reduceIte, m1_le, m1_lt, m1_eq, ofInt_m1, ex_ret, Int32.reduceAdd, Int32.reduceSub, Int32.reduceMul, Int32.reduceLT, Int32.reduceLE, xsI, Nat.reduceEqDiff, and_false, false_and, and_true, true_and, if_true, if_false, ite_true, ite_false, xlook_0, xlook_s, xI_int, xA_ref, xJ_long, xK_some, xRow_row, xTo_some, xst1, xclr, List.set_cons_zero, List.set_cons_succ, xsum_nil, xsum_int, xsum_ref, xsum_long, Option.toList_some, Option.toList_none, List.nil_append, List.cons_append]
theorem len20 {l : List Nat} (h : l.length = 20) : ∃ a0 a1 a2 a3 a4 a5 a6 a7 a8 a9 a10 a11 a12 a13 a14 a15 a16 a17 a18 a19, l = [a0, a1, a2, a3, a4, a5, a6, a7, a8, a9, a10, a11, a12, a13, a14, a15, a16, a17, a18, a19] :=
  match l, h with
  | [a0, a1, a2, a3, a4, a5, a6, a7, a8, a9, a10, a11, a12, a13, a14, a15, a16, a17, a18, a19], _ => ⟨a0, a1, a2, a3, a4, a5, a6, a7, a8, a9, a10, a11, a12, a13, a14, a15, a16, a17, a18, a19, rfl⟩
set_option maxHeartbeats 4000000 in
set_option maxRecDepth 100000 in
theorem s_feed {d ts a0 a1 a2 a3 a4 a5 a6 a7 a8 a9 a10 a11 a12 a13 a14 a15 a16 a17 a18 a19 : Nat} {S : xS} {v1 v2 v3 v4 v5 : Int32} (hs : S.1 0 12 = nI ts) (ht : ts + 20 ≤ 8192) (h1 : Fb4 v1 a0 a1 a2 a3) (h2 : Fb4 v2 a4 a5 a6 a7) (h3 : Fb4 v3 a8 a9 a10 a11) (h4 : Fb4 v4 a12 a13 a14 a15) (h5 : Fb4 v5 a16 a17 a18 a19) :
    XC SK MT (d + 3) 307 [.ref 0, .int v1, .int v2, .int v3, .int v4, .int v5] S = some (some (.int (nI (ts + 20))), fdS S ts [a0, a1, a2, a3, a4, a5, a6, a7, a8, a9, a10, a11, a12, a13, a14, a15, a16, a17, a18, a19]) := by
  have e0 := fdS_0 hs
  have c1 := s_addBytes (d := d) (S := S) (ts := ts) (l := []) h1 (by show ts + 0 + 4 ≤ _; omega)
  have c2 := s_addBytes (d := d) (S := S) (ts := ts) (l := [a0, a1, a2, a3]) h2 (by show ts + 4 + 4 ≤ _; omega)
  have c3 := s_addBytes (d := d) (S := S) (ts := ts) (l := [a0, a1, a2, a3, a4, a5, a6, a7]) h3 (by show ts + 8 + 4 ≤ _; omega)
  have c4 := s_addBytes (d := d) (S := S) (ts := ts) (l := [a0, a1, a2, a3, a4, a5, a6, a7, a8, a9, a10, a11]) h4 (by show ts + 12 + 4 ≤ _; omega)
  have c5 := s_addBytes (d := d) (S := S) (ts := ts) (l := [a0, a1, a2, a3, a4, a5, a6, a7, a8, a9, a10, a11, a12, a13, a14, a15]) h5 (by show ts + 16 + 4 ≤ _; omega)
  rw [e0] at c1
  simp only [List.cons_append, List.nil_append] at c1 c2 c3 c4 c5
  have e9 : (fdS S ts [a0, a1, a2, a3, a4, a5, a6, a7, a8, a9, a10, a11, a12, a13, a14, a15, a16, a17, a18, a19]).1 0 12 = nI (ts + 20) := fdS_size
  have g : nI ts + 20 ≤ 8192 := by show nI ts + nI 20 ≤ nI 8192; rw [nI_add]; exact nI_le ht (by decide)
  rw [XC_iff]
  refine ⟨Nat.le_of_ble_eq_true rfl, ?_⟩
  show XL SK MT (d + 2) 307 (0, [some (.ref 0), some (.int v1), some (.int v2), some (.int v3), some (.int v4), some (.int v5)], [], S) _
  simp (config := { decide := true }) only [rX12_feed_0, rX12_feed_1, rX12_feed_4, rX12_feed_6, rX12_feed_7, rX12_feed_10, riX12_feed_16, rX12_feed_16, rX12_feed_23, rX12_feed_24, rX12_feed_25, rX12_feed_28, rX12_feed_29, rX12_feed_30, rX12_feed_33, rX12_feed_34, rX12_feed_35, rX12_feed_38, rX12_feed_39, rX12_feed_41, rX12_feed_44, rX12_feed_45, rX12_feed_47, rX12_feed_50, rX12_feed_51, rX12_feed_54, ↓reduceIte, m1_le, m1_lt, m1_eq, ofInt_m1, ex_ret, Int32.reduceAdd, Int32.reduceSub, Int32.reduceMul, Int32.reduceLT, Int32.reduceLE, xsI, Nat.reduceEqDiff, and_false, false_and, and_true, true_and, if_true, if_false, ite_true, ite_false, xlook_0, xlook_s, xI_int, xA_ref, xJ_long, xK_some, xRow_row, xTo_some, xst1, xclr, List.set_cons_zero, List.set_cons_succ, xsum_nil, xsum_int, xsum_ref, xsum_long, Option.toList_some, Option.toList_none, List.nil_append, List.cons_append, hs, g, c1, c2, c3, c4, c5, e9]
