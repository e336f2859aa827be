/-! XF: rows, then what is proved of them. -/
theorem rL_say_0 {d : Nat} {lv : xLV} {st : List Value} {S : xS} {r : xO} : XL SK MT d 321 (0, lv, st, S) r ↔ XL SK MT d 321 (1, lv, .int 0 :: st, S) r := X_pure rfl rfl rfl
theorem rL_say_1 {d : Nat} {lv : xLV} {st : List Value} {S : xS} {r : xO} {x : Int32} : XL SK MT d 321 (1, lv, .int x :: st, S) r ↔ XL SK MT d 321 (3, xst1 lv 5 (.int x), st, S) r := X_pure rfl rfl rfl
theorem rL_say_3 {d : Nat} {lv : xLV} {st : List Value} {S : xS} {r : xO} : XL SK MT d 321 (3, lv, st, S) r ↔ xI (xlook lv 5) (fun x => XL SK MT d 321 (5, lv, .int x :: st, S) r) := X_ldI rfl rfl (fun _ => rfl) rfl rfl rfl rfl
theorem rL_say_5 {d : Nat} {lv : xLV} {st : List Value} {S : xS} {r : xO} : XL SK MT d 321 (5, lv, st, S) r ↔ xI (xlook lv 3) (fun x => XL SK MT d 321 (6, lv, .int x :: st, S) r) := X_ldI rfl rfl (fun _ => rfl) rfl rfl rfl rfl
theorem rL_say_6 {d : Nat} {lv : xLV} {st : List Value} {S : xS} {r : xO} {x z : Int32} : XL SK MT d 321 (6, lv, .int z :: .int x :: st, S) r ↔ if z ≤ x then XL SK MT d 321 (98, lv, st, S) r else XL SK MT d 321 (9, lv, st, S) r := (X_icmp rfl rfl).trans xc_ge
theorem rL_say_9 {d : Nat} {lv : xLV} {st : List Value} {S : xS} {r : xO} : XL SK MT d 321 (9, lv, st, S) r ↔ xA (xlook lv 4) (fun x => XL SK MT d 321 (11, lv, .ref x :: st, S) r) := X_ldA rfl rfl (fun _ => rfl) rfl rfl rfl rfl
theorem rL_say_11 {d : Nat} {lv : xLV} {st : List Value} {S : xS} {r : xO} : XL SK MT d 321 (11, lv, st, S) r ↔ XL SK MT d 321 (12, lv, .int 0 :: st, S) r := X_pure rfl rfl rfl
theorem rL_say_12 {d : Nat} {lv : xLV} {st : List Value} {S : xS} {r : xO} {a n : Nat} {j : Int32} (hs : SK[a]? = some (.inl (2, n))) : XL SK MT d 321 (12, lv, .int j :: .ref a :: st, S) r ↔ xin j n = true ∧ XL SK MT d 321 (13, lv, .long (S.2 a j.toNatClampNeg) :: st, S) r := X_lald rfl hs
theorem rL_say_13 {d : Nat} {lv : xLV} {st : List Value} {S : xS} {r : xO} : XL SK MT d 321 (13, lv, st, S) r ↔ XL SK MT d 321 (16, lv, .long 8 :: st, S) r := X_pure rfl rfl rfl
theorem rL_say_16 {d : Nat} {lv : xLV} {st : List Value} {S : xS} {r : xO} {x z : Int64} : XL SK MT d 321 (16, lv, .long z :: .long x :: st, S) r ↔ XL SK MT d 321 (17, lv, .int (lg_cmp x z) :: st, S) r := X_pure rfl rfl rfl
theorem rL_say_17 {d : Nat} {lv : xLV} {st : List Value} {S : xS} {r : xO} {x : Int32} : XL SK MT d 321 (17, lv, .int x :: st, S) r ↔ if 0 ≤ x then XL SK MT d 321 (24, lv, st, S) r else XL SK MT d 321 (20, lv, st, S) r := (X_if rfl rfl).trans xc_ge
theorem rL_say_20 {d : Nat} {lv : xLV} {st : List Value} {S : xS} {r : xO} : XL SK MT d 321 (20, lv, st, S) r ↔ XL SK MT d 321 (21, lv, .int 1 :: st, S) r := X_pure rfl rfl rfl
theorem rL_say_21 {d : Nat} {lv : xLV} {st : List Value} {S : xS} {r : xO} : XL SK MT d 321 (21, lv, st, S) r ↔ XL SK MT d 321 (40, lv, st, S) r := X_jump rfl rfl rfl
theorem rL_say_24 {d : Nat} {lv : xLV} {st : List Value} {S : xS} {r : xO} : XL SK MT d 321 (24, lv, st, S) r ↔ xA (xlook lv 4) (fun x => XL SK MT d 321 (26, lv, .ref x :: st, S) r) := X_ldA rfl rfl (fun _ => rfl) rfl rfl rfl rfl
theorem rL_say_26 {d : Nat} {lv : xLV} {st : List Value} {S : xS} {r : xO} : XL SK MT d 321 (26, lv, st, S) r ↔ XL SK MT d 321 (27, lv, .int 0 :: st, S) r := X_pure rfl rfl rfl
theorem rL_say_27 {d : Nat} {lv : xLV} {st : List Value} {S : xS} {r : xO} {a n : Nat} {j : Int32} (hs : SK[a]? = some (.inl (2, n))) : XL SK MT d 321 (27, lv, .int j :: .ref a :: st, S) r ↔ xin j n = true ∧ XL SK MT d 321 (28, lv, .long (S.2 a j.toNatClampNeg) :: st, S) r := X_lald rfl hs
theorem rL_say_28 {d : Nat} {lv : xLV} {st : List Value} {S : xS} {r : xO} : XL SK MT d 321 (28, lv, st, S) r ↔ XL SK MT d 321 (31, lv, .long 16 :: st, S) r := X_pure rfl rfl rfl
theorem rL_say_31 {d : Nat} {lv : xLV} {st : List Value} {S : xS} {r : xO} {x z : Int64} : XL SK MT d 321 (31, lv, .long z :: .long x :: st, S) r ↔ XL SK MT d 321 (32, lv, .int (lg_cmp x z) :: st, S) r := X_pure rfl rfl rfl
theorem rL_say_32 {d : Nat} {lv : xLV} {st : List Value} {S : xS} {r : xO} {x : Int32} : XL SK MT d 321 (32, lv, .int x :: st, S) r ↔ if 0 ≤ x then XL SK MT d 321 (39, lv, st, S) r else XL SK MT d 321 (35, lv, st, S) r := (X_if rfl rfl).trans xc_ge
theorem rL_say_35 {d : Nat} {lv : xLV} {st : List Value} {S : xS} {r : xO} : XL SK MT d 321 (35, lv, st, S) r ↔ XL SK MT d 321 (36, lv, .int 2 :: st, S) r := X_pure rfl rfl rfl
theorem rL_say_36 {d : Nat} {lv : xLV} {st : List Value} {S : xS} {r : xO} : XL SK MT d 321 (36, lv, st, S) r ↔ XL SK MT d 321 (40, lv, st, S) r := X_jump rfl rfl rfl
theorem rL_say_39 {d : Nat} {lv : xLV} {st : List Value} {S : xS} {r : xO} : XL SK MT d 321 (39, lv, st, S) r ↔ XL SK MT d 321 (40, lv, .int 3 :: st, S) r := X_pure rfl rfl rfl
theorem rL_say_40 {d : Nat} {lv : xLV} {st : List Value} {S : xS} {r : xO} {x : Int32} : XL SK MT d 321 (40, lv, .int x :: st, S) r ↔ XL SK MT d 321 (42, xst1 lv 6 (.int x), st, S) r := X_pure rfl rfl rfl
theorem rL_say_42 {d : Nat} {lv : xLV} {st : List Value} {S : xS} {r : xO} : XL SK MT d 321 (42, lv, st, S) r ↔ xA (xlook lv 4) (fun x => XL SK MT d 321 (44, lv, .ref x :: st, S) r) := X_ldA rfl rfl (fun _ => rfl) rfl rfl rfl rfl
theorem rL_say_44 {d : Nat} {lv : xLV} {st : List Value} {S : xS} {r : xO} : XL SK MT d 321 (44, lv, st, S) r ↔ xI (xlook lv 6) (fun x => XL SK MT d 321 (46, lv, .int x :: st, S) r) := X_ldI rfl rfl (fun _ => rfl) rfl rfl rfl rfl
theorem rL_say_46 {d : Nat} {lv : xLV} {st : List Value} {S : xS} {r : xO} : XL SK MT d 321 (46, lv, st, S) r ↔ xA (xlook lv 4) (fun x => XL SK MT d 321 (48, lv, .ref x :: st, S) r) := X_ldA rfl rfl (fun _ => rfl) rfl rfl rfl rfl
theorem rL_say_48 {d : Nat} {lv : xLV} {st : List Value} {S : xS} {r : xO} : XL SK MT d 321 (48, lv, st, S) r ↔ xI (xlook lv 6) (fun x => XL SK MT d 321 (50, lv, .int x :: st, S) r) := X_ldI rfl rfl (fun _ => rfl) rfl rfl rfl rfl
theorem rL_say_50 {d : Nat} {lv : xLV} {st : List Value} {S : xS} {r : xO} {a n : Nat} {j : Int32} (hs : SK[a]? = some (.inl (2, n))) : XL SK MT d 321 (50, lv, .int j :: .ref a :: st, S) r ↔ xin j n = true ∧ XL SK MT d 321 (51, lv, .long (S.2 a j.toNatClampNeg) :: st, S) r := X_lald rfl hs
theorem rL_say_51 {d : Nat} {lv : xLV} {st : List Value} {S : xS} {r : xO} : XL SK MT d 321 (51, lv, st, S) r ↔ XL SK MT d 321 (53, lv, .int 8 :: st, S) r := X_pure rfl rfl rfl
theorem rL_say_53 {d : Nat} {lv : xLV} {st : List Value} {S : xS} {r : xO} {x : Int64} {z : Int32} : XL SK MT d 321 (53, lv, .int z :: .long x :: st, S) r ↔ XL SK MT d 321 (54, lv, .long (x <<< (z.toInt64 &&& 63)) :: st, S) r := X_pure rfl rfl rfl
theorem rL_say_54 {d : Nat} {lv : xLV} {st : List Value} {S : xS} {r : xO} : XL SK MT d 321 (54, lv, st, S) r ↔ xJ (xlook lv 1) (fun x => XL SK MT d 321 (55, lv, .long x :: st, S) r) := X_ldL rfl rfl (fun _ => rfl) rfl rfl rfl rfl
theorem rL_say_55 {d : Nat} {lv : xLV} {st : List Value} {S : xS} {r : xO} : XL SK MT d 321 (55, lv, st, S) r ↔ XL SK MT d 321 (57, lv, .int 8 :: st, S) r := X_pure rfl rfl rfl
theorem rL_say_57 {d : Nat} {lv : xLV} {st : List Value} {S : xS} {r : xO} : XL SK MT d 321 (57, lv, st, S) r ↔ xI (xlook lv 5) (fun x => XL SK MT d 321 (59, lv, .int x :: st, S) r) := X_ldI rfl rfl (fun _ => rfl) rfl rfl rfl rfl
theorem rL_say_59 {d : Nat} {lv : xLV} {st : List Value} {S : xS} {r : xO} {x z : Int32} : XL SK MT d 321 (59, lv, .int z :: .int x :: st, S) r ↔ XL SK MT d 321 (60, lv, .int (x * z) :: st, S) r := X_pure rfl rfl rfl
theorem rL_say_60 {d : Nat} {lv : xLV} {st : List Value} {S : xS} {r : xO} {x : Int64} {z : Int32} : XL SK MT d 321 (60, lv, .int z :: .long x :: st, S) r ↔ XL SK MT d 321 (61, lv, .long (x >>> (z.toInt64 &&& 63)) :: st, S) r := X_pure rfl rfl rfl
theorem rL_say_61 {d : Nat} {lv : xLV} {st : List Value} {S : xS} {r : xO} : XL SK MT d 321 (61, lv, st, S) r ↔ XL SK MT d 321 (64, lv, .long 255 :: st, S) r := X_pure rfl rfl rfl
theorem rL_say_64 {d : Nat} {lv : xLV} {st : List Value} {S : xS} {r : xO} {x z : Int64} : XL SK MT d 321 (64, lv, .long z :: .long x :: st, S) r ↔ XL SK MT d 321 (65, lv, .long (x &&& z) :: st, S) r := X_pure rfl rfl rfl
theorem rL_say_65 {d : Nat} {lv : xLV} {st : List Value} {S : xS} {r : xO} {x z : Int64} : XL SK MT d 321 (65, lv, .long z :: .long x :: st, S) r ↔ XL SK MT d 321 (66, lv, .long (x ||| z) :: st, S) r := X_pure rfl rfl rfl
theorem rL_say_66 {d : Nat} {lv : xLV} {st : List Value} {S : xS} {r : xO} {a n : Nat} {j : Int32} {x : Int64} (hs : SK[a]? = some (.inl (2, n))) : XL SK MT d 321 (66, lv, .long x :: .int j :: .ref a :: st, S) r ↔ xin j n = true ∧ XL SK MT d 321 (67, lv, st, (xsetL S a j.toNatClampNeg x)) r := X_last rfl hs
theorem rL_say_67 {d : Nat} {lv : xLV} {st : List Value} {S : xS} {r : xO} : XL SK MT d 321 (67, lv, st, S) r ↔ xA (xlook lv 4) (fun x => XL SK MT d 321 (69, lv, .ref x :: st, S) r) := X_ldA rfl rfl (fun _ => rfl) rfl rfl rfl rfl
theorem rL_say_69 {d : Nat} {lv : xLV} {st : List Value} {S : xS} {r : xO} : XL SK MT d 321 (69, lv, st, S) r ↔ XL SK MT d 321 (70, lv, .int 0 :: st, S) r := X_pure rfl rfl rfl
theorem rL_say_70 {d : Nat} {lv : xLV} {st : List Value} {S : xS} {r : xO} {x : Int32} {z : Nat} : XL SK MT d 321 (70, lv, .int x :: .ref z :: st, S) r ↔ XL SK MT d 321 (71, lv, .int x :: .ref z :: .int x :: .ref z :: st, S) r := X_pure rfl rfl rfl
theorem rL_say_71 {d : Nat} {lv : xLV} {st : List Value} {S : xS} {r : xO} {a n : Nat} {j : Int32} (hs : SK[a]? = some (.inl (2, n))) : XL SK MT d 321 (71, lv, .int j :: .ref a :: st, S) r ↔ xin j n = true ∧ XL SK MT d 321 (72, lv, .long (S.2 a j.toNatClampNeg) :: st, S) r := X_lald rfl hs
theorem rL_say_72 {d : Nat} {lv : xLV} {st : List Value} {S : xS} {r : xO} : XL SK MT d 321 (72, lv, st, S) r ↔ XL SK MT d 321 (73, lv, .long 1 :: st, S) r := X_pure rfl rfl rfl
theorem rL_say_73 {d : Nat} {lv : xLV} {st : List Value} {S : xS} {r : xO} {x z : Int64} : XL SK MT d 321 (73, lv, .long z :: .long x :: st, S) r ↔ XL SK MT d 321 (74, lv, .long (x + z) :: st, S) r := X_pure rfl rfl rfl
theorem rL_say_74 {d : Nat} {lv : xLV} {st : List Value} {S : xS} {r : xO} {a n : Nat} {j : Int32} {x : Int64} (hs : SK[a]? = some (.inl (2, n))) : XL SK MT d 321 (74, lv, .long x :: .int j :: .ref a :: st, S) r ↔ xin j n = true ∧ XL SK MT d 321 (75, lv, st, (xsetL S a j.toNatClampNeg x)) r := X_last rfl hs
theorem rL_say_75 {d : Nat} {lv : xLV} {st : List Value} {S : xS} {r : xO} : XL SK MT d 321 (75, lv, st, S) r ↔ xA (xlook lv 4) (fun x => XL SK MT d 321 (77, lv, .ref x :: st, S) r) := X_ldA rfl rfl (fun _ => rfl) rfl rfl rfl rfl
theorem rL_say_77 {d : Nat} {lv : xLV} {st : List Value} {S : xS} {r : xO} : XL SK MT d 321 (77, lv, st, S) r ↔ XL SK MT d 321 (78, lv, .int 0 :: st, S) r := X_pure rfl rfl rfl
theorem rL_say_78 {d : Nat} {lv : xLV} {st : List Value} {S : xS} {r : xO} {a n : Nat} {j : Int32} (hs : SK[a]? = some (.inl (2, n))) : XL SK MT d 321 (78, lv, .int j :: .ref a :: st, S) r ↔ xin j n = true ∧ XL SK MT d 321 (79, lv, .long (S.2 a j.toNatClampNeg) :: st, S) r := X_lald rfl hs
theorem rL_say_79 {d : Nat} {lv : xLV} {st : List Value} {S : xS} {r : xO} : XL SK MT d 321 (79, lv, st, S) r ↔ XL SK MT d 321 (82, lv, .long 20 :: st, S) r := X_pure rfl rfl rfl
theorem rL_say_82 {d : Nat} {lv : xLV} {st : List Value} {S : xS} {r : xO} {x z : Int64} : XL SK MT d 321 (82, lv, .long z :: .long x :: st, S) r ↔ XL SK MT d 321 (83, lv, .int (lg_cmp x z) :: st, S) r := X_pure rfl rfl rfl
theorem rL_say_83 {d : Nat} {lv : xLV} {st : List Value} {S : xS} {r : xO} {x : Int32} : XL SK MT d 321 (83, lv, .int x :: st, S) r ↔ if ¬ x = 0 then XL SK MT d 321 (92, lv, st, S) r else XL SK MT d 321 (86, lv, st, S) r := (X_if rfl rfl).trans xc_ne
theorem rL_say_86 {d : Nat} {lv : xLV} {st : List Value} {S : xS} {r : xO} : XL SK MT d 321 (86, lv, st, S) r ↔ xA (xlook lv 0) (fun x => XL SK MT d 321 (87, lv, .ref x :: st, S) r) := X_ldA rfl rfl (fun _ => rfl) rfl rfl rfl rfl
theorem rL_say_87 {d : Nat} {lv : xLV} {st : List Value} {S : xS} {r : xO} : XL SK MT d 321 (87, lv, st, S) r ↔ xA (xlook lv 4) (fun x => XL SK MT d 321 (89, lv, .ref x :: st, S) r) := X_ldA rfl rfl (fun _ => rfl) rfl rfl rfl rfl
theorem rL_say_89 {d : Nat} {lv : xLV} {S : xS} {r : xO} {x1 : Nat} {x2 : Nat} : XL SK MT d 321 (89, lv, [.ref x2, .ref x1], S) r ↔ xK (XC SK MT d 320 [.ref x1, .ref x2] S) (fun v S => XL SK MT d 321 (92, lv, v.toList ++ [], S) r) := X_inv (n := 2) (kd := 0) (st0 := [.ref x2, .ref x1]) rfl (Or.inl ⟨rfl, rfl⟩) rfl (Nat.le_of_ble_eq_true rfl) (Nat.le_of_ble_eq_true rfl) (by decide) rfl
theorem rL_say_92 {d : Nat} {lv : xLV} {st : List Value} {S : xS} {r : xO} : XL SK MT d 321 (92, lv, st, S) r ↔ xI (xlook lv 5) (fun x => XL SK MT d 321 (95, xst1 lv 5 (.int (x + 1)), st, S) r) := X_inc (i := 5) (n := 1) rfl (Nat.le_of_ble_eq_true rfl)
theorem rL_say_95 {d : Nat} {lv : xLV} {st : List Value} {S : xS} {r : xO} : XL SK MT d 321 (95, lv, st, S) r ↔ XL SK MT d 321 (3, lv, st, S) r := X_jump rfl rfl rfl
theorem rL_say_98 {d : Nat} {lv : xLV} {S : xS} {r : xO} : XL SK MT d 321 (98, lv, [], S) r ↔ (none, S) = r := X_ret rfl rfl rfl rfl rfl rfl

/-! The law: say. -/
/-- so much is said: what is fed, and what waits -/
def Sd (S : xS) (bs : List Nat) : Prop := ∃ q l, bs = q ++ l ∧ l.length < 20 ∧ Wt S l ∧ S.1 0 12 = nI q.length ∧ q.length % 20 = 0 ∧ (∀ j b, q[j]? = some b → S.1 13 j = nI b) ∧ ∀ b ∈ bs, b < 128
/-- what saying leaves as it is -/
def FrSy (S S' : xS) : Prop := (∀ a, ¬ a = 0 → ¬ a = 13 → S'.1 a = S.1 a) ∧ (∀ j, ¬ (0, j) = (0, 12) → S'.1 0 j = S.1 0 j) ∧ ∀ a, ¬ a = 69 → S'.2 a = S.2 a
theorem FrSy.rf {S : xS} : FrSy S S := ⟨fun _ _ _ => rfl, fun _ _ => rfl, fun _ _ => rfl⟩
theorem FrSy.tr {S S1 S2 : xS} (h : FrSy S S1) (g : FrSy S1 S2) : FrSy S S2 := ⟨fun a x y => (g.1 a x y).trans (h.1 a x y), fun j x => (g.2.1 j x).trans (h.2.1 j x), fun a x => (g.2.2 a x).trans (h.2.2 a x)⟩
theorem FrSy.wt {S : xS} {c b : Nat} : FrSy S (wtJ S c b) := ⟨fun _ _ _ => rfl, fun _ _ => rfl, fun a h => by funext k; unfold wtJ; rw [xsL2, if_neg (fun z => h z.1), xsL2, if_neg (fun z => h z.1)]⟩
theorem FrSy.wr {S : xS} {ts : Nat} {l : List Nat} : FrSy S (xsetL (fdS S ts l) 69 0 0) := by
  refine ⟨fun a h1 h2 => ?_, fun j h => ?_, fun a h => ?_⟩
  · funext k
    show (if a = 13 ∧ ts ≤ k ∧ k < ts + l.length then nI (l.getD (k - ts) 0) else if (a, k) = (0, 12) then nI (ts + l.length) else S.1 a k) = _
    rw [if_neg (fun z => h2 z.1), if_neg (fun z => h1 (Prod.mk.inj z).1)]
  · show (if 0 = 13 ∧ ts ≤ j ∧ j < ts + l.length then nI (l.getD (j - ts) 0) else if (0, j) = (0, 12) then nI (ts + l.length) else S.1 0 j) = _
    rw [if_neg (fun z => absurd z.1 (by decide)), if_neg h]
  · funext k
    rw [xsL2, if_neg (fun z => h z.1)]
    rfl
/-- byte k of a word of signs -/
def byK (sg k : Nat) : Nat := sg / 2 ^ (8 * k) % 256
theorem lgc_ge {a b : Nat} (ha : a < 2 ^ 63) (hb : b < 2 ^ 63) : (0 ≤ lg_cmp (lN a) (lN b)) ↔ b ≤ a := by
  rcases Nat.lt_trichotomy a b with h | h | h
  · rw [lgc_lt ha hb h]
    exact ⟨fun z => absurd z (by decide), fun z => absurd z (by omega)⟩
  · subst h
    rw [lgc_eq]
    exact ⟨fun _ => Nat.le_refl _, fun _ => by decide⟩
  · have e : lg_cmp (lN a) (lN b) = 1 := by
      unfold lg_cmp
      rw [if_pos ((pk_lLT hb ha).mpr h)]
    rw [e]
    exact ⟨fun _ => by omega, fun _ => by decide⟩
theorem lgc_ne {a b : Nat} (ha : a < 2 ^ 63) (hb : b < 2 ^ 63) : (lg_cmp (lN a) (lN b) = 0) ↔ a = b := by
  rcases Nat.lt_trichotomy a b with h | h | h
  · rw [lgc_lt ha hb h]
    exact ⟨fun z => absurd z (by decide), fun z => absurd z (by omega)⟩
  · subst h
    rw [lgc_eq]
    exact ⟨fun _ => rfl, fun _ => rfl⟩
  · have e : lg_cmp (lN a) (lN b) = 1 := by
      unfold lg_cmp
      rw [if_pos ((pk_lLT hb ha).mpr h)]
    rw [e]
    exact ⟨fun z => absurd z (by decide), fun z => absurd z (by omega)⟩
theorem xin_w0 : xin 0 4 = true := by decide
theorem xin_w1 : xin 1 4 = true := by decide
theorem xin_w2 : xin 2 4 = true := by decide
theorem xin_w3 : xin 3 4 = true := by decide
theorem l8N : (8 : Int64) = lN 8 := rfl
theorem l16N : (16 : Int64) = lN 16 := rfl
theorem l20N : (20 : Int64) = lN 20 := rfl
theorem l1N : (1 : Int64) = lN 1 := rfl
theorem l0N : (0 : Int64) = lN 0 := rfl
theorem sk69 : SK[69]? = some (.inl (2, 4)) := rfl
theorem sayb {sg k : Nat} (hs : sg < 2 ^ 63) (hk : k < 8) : lN sg >>> (((8 : Int32) * nI k).toInt64 &&& 63) &&& 255 = lN (byK sg k) := by
  have e : (8 : Int32) * nI k = nI (8 * k) := by show Int32.ofNat 8 * Int32.ofNat k = Int32.ofNat (8 * k); rw [Int32.ofNat_mul]
  rw [e, asr_n hs (by omega), and255l (Nat.lt_of_le_of_lt (Nat.div_le_self _ _) (by omega))]
  rfl
set_option maxHeartbeats 4000000 in
set_option maxRecDepth 100000 in
theorem say_put {d c sg k n : Nat} {S : xS} {p6 : Option Value} {r : xO} (h0 : S.2 69 0 = lN c) (hc : c < 20) (hs : sg < 2 ^ 63) (hk : k < n) (h8 : n ≤ 8) :
    XL SK MT (d + 4) 321 (3, [some (.ref 0), some (.long (lN sg)), none, some (.int (nI n)), some (.ref 69), some (.int (nI k)), p6], [], S) r ↔ XL SK MT (d + 4) 321 (75, [some (.ref 0), some (.long (lN sg)), none, some (.int (nI n)), some (.ref 69), some (.int (nI k)), some (.int (nI (ptOf c)))], [], wtJ S c (byK sg k)) r := by
  have hn : ¬ nI n ≤ nI k := nI_ge hk (by omega)
  have hb := sayb (k := k) hs (by omega)
  have c8 := lgc_ge (a := c) (b := 8) (by omega) (by decide)
  have c16 := lgc_ge (a := c) (b := 16) (by omega) (by decide)
  unfold wtJ ptOf
  by_cases q8 : c < 8
  · have e8 : ¬ 0 ≤ lg_cmp (lN c) (lN 8) := fun z => absurd (c8.mp z) (by omega)
    rw [if_pos q8, rL_say_3]
    simp (config := { decide := true }) only [rL_say_0, rL_say_1, rL_say_5, rL_say_6, rL_say_9, rL_say_11, rL_say_13, rL_say_16, rL_say_17, rL_say_20, rL_say_21, rL_say_24, rL_say_26, rL_say_28, rL_say_31, rL_say_32, rL_say_35, rL_say_36, rL_say_39, rL_say_40, rL_say_42, rL_say_44, rL_say_46, rL_say_48, rL_say_51, rL_say_53, rL_say_54, rL_say_55, rL_say_57, rL_say_59, rL_say_60, rL_say_61, rL_say_64, rL_say_65, rL_say_67, rL_say_69, rL_say_70, rL_say_72, rL_say_73, rL_say_77, rL_say_78, rL_say_79, rL_say_82, rL_say_83, rL_say_86, rL_say_87, rL_say_89, rL_say_92, rL_say_95, rL_say_98, rL_say_12 sk69, rL_say_27 sk69, rL_say_50 sk69, rL_say_66 sk69, rL_say_71 sk69, rL_say_74 sk69, ↓reduceIte, m1_le, m1_lt, m1_eq, ofInt_m1, ex_ret, Int32.reduceAdd, Int32.reduceSub, Int32.reduceMul, Int32.reduceLT, Int32.reduceLE, xsI, Nat.reduceEqDiff, and_false, false_and, and_true, true_and, if_true, if_false, ite_true, ite_false, xlook_0, xlook_s, xI_int, xA_ref, xJ_long, xK_some, xRow_row, xTo_some, xst1, xclr, List.set_cons_zero, List.set_cons_succ, xsum_nil, xsum_int, xsum_ref, xsum_long, Option.toList_some, Option.toList_none, List.nil_append, List.cons_append, Int32.reduceToNatClampNeg, hn, h0, l8N, e8, xin_w0, xin_w1, hb, xsL2, l1N, lN_add]
    exact Iff.rfl
  · have e8 : 0 ≤ lg_cmp (lN c) (lN 8) := c8.mpr (by omega)
    rw [if_neg q8]
    by_cases q16 : c < 16
    · have e16 : ¬ 0 ≤ lg_cmp (lN c) (lN 16) := fun z => absurd (c16.mp z) (by omega)
      rw [if_pos q16, rL_say_3]
      simp (config := { decide := true }) only [rL_say_0, rL_say_1, rL_say_5, rL_say_6, rL_say_9, rL_say_11, rL_say_13, rL_say_16, rL_say_17, rL_say_20, rL_say_21, rL_say_24, rL_say_26, rL_say_28, rL_say_31, rL_say_32, rL_say_35, rL_say_36, rL_say_39, rL_say_40, rL_say_42, rL_say_44, rL_say_46, rL_say_48, rL_say_51, rL_say_53, rL_say_54, rL_say_55, rL_say_57, rL_say_59, rL_say_60, rL_say_61, rL_say_64, rL_say_65, rL_say_67, rL_say_69, rL_say_70, rL_say_72, rL_say_73, rL_say_77, rL_say_78, rL_say_79, rL_say_82, rL_say_83, rL_say_86, rL_say_87, rL_say_89, rL_say_92, rL_say_95, rL_say_98, rL_say_12 sk69, rL_say_27 sk69, rL_say_50 sk69, rL_say_66 sk69, rL_say_71 sk69, rL_say_74 sk69, ↓reduceIte, m1_le, m1_lt, m1_eq, ofInt_m1, ex_ret, Int32.reduceAdd, Int32.reduceSub, Int32.reduceMul, Int32.reduceLT, Int32.reduceLE, xsI, Nat.reduceEqDiff, and_false, false_and, and_true, true_and, if_true, if_false, ite_true, ite_false, xlook_0, xlook_s, xI_int, xA_ref, xJ_long, xK_some, xRow_row, xTo_some, xst1, xclr, List.set_cons_zero, List.set_cons_succ, xsum_nil, xsum_int, xsum_ref, xsum_long, Option.toList_some, Option.toList_none, List.nil_append, List.cons_append, Int32.reduceToNatClampNeg, hn, h0, l8N, l16N, e8, e16, xin_w0, xin_w2, hb, xsL2, l1N, lN_add]
      exact Iff.rfl
    · have e16 : 0 ≤ lg_cmp (lN c) (lN 16) := c16.mpr (by omega)
      rw [if_neg q16, rL_say_3]
      simp (config := { decide := true }) only [rL_say_0, rL_say_1, rL_say_5, rL_say_6, rL_say_9, rL_say_11, rL_say_13, rL_say_16, rL_say_17, rL_say_20, rL_say_21, rL_say_24, rL_say_26, rL_say_28, rL_say_31, rL_say_32, rL_say_35, rL_say_36, rL_say_39, rL_say_40, rL_say_42, rL_say_44, rL_say_46, rL_say_48, rL_say_51, rL_say_53, rL_say_54, rL_say_55, rL_say_57, rL_say_59, rL_say_60, rL_say_61, rL_say_64, rL_say_65, rL_say_67, rL_say_69, rL_say_70, rL_say_72, rL_say_73, rL_say_77, rL_say_78, rL_say_79, rL_say_82, rL_say_83, rL_say_86, rL_say_87, rL_say_89, rL_say_92, rL_say_95, rL_say_98, rL_say_12 sk69, rL_say_27 sk69, rL_say_50 sk69, rL_say_66 sk69, rL_say_71 sk69, rL_say_74 sk69, ↓reduceIte, m1_le, m1_lt, m1_eq, ofInt_m1, ex_ret, Int32.reduceAdd, Int32.reduceSub, Int32.reduceMul, Int32.reduceLT, Int32.reduceLE, xsI, Nat.reduceEqDiff, and_false, false_and, and_true, true_and, if_true, if_false, ite_true, ite_false, xlook_0, xlook_s, xI_int, xA_ref, xJ_long, xK_some, xRow_row, xTo_some, xst1, xclr, List.set_cons_zero, List.set_cons_succ, xsum_nil, xsum_int, xsum_ref, xsum_long, Option.toList_some, Option.toList_none, List.nil_append, List.cons_append, Int32.reduceToNatClampNeg, hn, h0, l8N, l16N, e8, e16, xin_w0, xin_w3, hb, xsL2, l1N, lN_add]
      exact Iff.rfl
set_option maxHeartbeats 4000000 in
set_option maxRecDepth 100000 in
theorem say_turn {d sg k n : Nat} {S : xS} {bs : List Nat} {p6 : Option Value} (h : Sd S bs) (hs : sg < 2 ^ 63) (hk : k < n) (h8 : n ≤ 8) (hb : byK sg k < 128) (hz : bs.length < 8000) :
    ∃ S' p7, Sd S' (bs ++ [byK sg k]) ∧ FrSy S S' ∧ ∀ r, XL SK MT (d + 4) 321 (3, [some (.ref 0), some (.long (lN sg)), none, some (.int (nI n)), some (.ref 69), some (.int (nI k)), p6], [], S) r ↔ XL SK MT (d + 4) 321 (3, [some (.ref 0), some (.long (lN sg)), none, some (.int (nI n)), some (.ref 69), some (.int (nI (k + 1))), p7], [], S') r := by
  obtain ⟨q, l, rfl, hl, hw, ht, hq, hx, hbb⟩ := h
  have hw2 := Wt_add hw hl (show byK sg k < 256 by omega)
  have hlen : (l ++ [byK sg k]).length = l.length + 1 := by rw [List.length_append]; rfl
  have hbl : ∀ b ∈ q ++ l ++ [byK sg k], b < 128 := by
    intro b hm
    rcases List.mem_append.mp hm with hm | hm
    · exact hbb b hm
    · rw [List.mem_singleton.mp hm]; exact hb
  have z0 : (wtJ S l.length (byK sg k)).2 69 0 = lN (l.length + 1) := by rw [← hlen]; exact hw2.1
  have lq : (q ++ l).length = q.length + l.length := List.length_append
  by_cases hf : l.length + 1 = 20
  · have ht2 : (wtJ S l.length (byK sg k)).1 0 12 = nI q.length := ht
    have e := s_lfeed (d := d) hw2 (hlen.trans hf) (fun b hm => hbl b (by rw [List.append_assoc]; exact List.mem_append_right _ hm)) ht2 (by omega)
    have fr : FrSy S (xsetL (fdS (wtJ S l.length (byK sg k)) q.length (l ++ [byK sg k])) 69 0 0) := FrSy.wt.tr FrSy.wr
    have eq0 : lg_cmp (lN (l.length + 1)) (lN 20) = 0 := (lgc_ne (by omega) (by decide)).mpr hf
    refine ⟨_, some (.int (nI (ptOf l.length))), ?_, fr, fun r => ?_⟩
    · refine ⟨q ++ l ++ [byK sg k], [], by rw [List.append_nil], by decide, ⟨by rw [xsL2, if_pos ⟨rfl, rfl⟩]; rfl, ?_, ?_, ?_⟩, ?_, ?_, fun j b hj => ?_, hbl⟩
      · show _ % 1 = _; rw [Nat.mod_one]; rfl
      · show _ % 1 = _; rw [Nat.mod_one]; rfl
      · show _ % 1 = _; rw [Nat.mod_one]; rfl
      · rw [xsL1, fdS_size, List.append_assoc, List.length_append (as := q)]
      · rw [List.append_assoc, List.length_append, hlen]; omega
      · rw [xsL1]
        show (if 13 = 13 ∧ q.length ≤ j ∧ j < q.length + (l ++ [byK sg k]).length then nI ((l ++ [byK sg k]).getD (j - q.length) 0) else if (13, j) = (0, 12) then nI (q.length + (l ++ [byK sg k]).length) else S.1 13 j) = _
        rw [List.append_assoc] at hj
        by_cases hjq : j < q.length
        · rw [if_neg (by omega), if_neg (fun z => absurd (Prod.mk.inj z).1 (by decide))]
          rw [List.getElem?_append_left hjq] at hj
          exact hx j b hj
        · have hj2 := (List.getElem?_eq_some_iff.mp hj).1
          rw [List.length_append] at hj2
          rw [if_pos ⟨rfl, by omega, by omega⟩]
          rw [List.getElem?_append_right (by omega)] at hj
          rw [List.getD_eq_getElem?_getD, hj]
          rfl
    · rw [say_put hw.1 hl hs hk h8]
      simp (config := { decide := true }) only [rL_say_0, rL_say_1, rL_say_5, rL_say_6, rL_say_9, rL_say_11, rL_say_13, rL_say_16, rL_say_17, rL_say_20, rL_say_21, rL_say_24, rL_say_26, rL_say_28, rL_say_31, rL_say_32, rL_say_35, rL_say_36, rL_say_39, rL_say_40, rL_say_42, rL_say_44, rL_say_46, rL_say_48, rL_say_51, rL_say_53, rL_say_54, rL_say_55, rL_say_57, rL_say_59, rL_say_60, rL_say_61, rL_say_64, rL_say_65, rL_say_67, rL_say_69, rL_say_70, rL_say_72, rL_say_73, rL_say_75, rL_say_77, rL_say_79, rL_say_82, rL_say_83, rL_say_86, rL_say_87, rL_say_89, rL_say_92, rL_say_95, rL_say_98, rL_say_78 sk69, ↓reduceIte, m1_le, m1_lt, m1_eq, ofInt_m1, ex_ret, Int32.reduceAdd, Int32.reduceSub, Int32.reduceMul, Int32.reduceLT, Int32.reduceLE, xsI, Nat.reduceEqDiff, and_false, false_and, and_true, true_and, if_true, if_false, ite_true, ite_false, xlook_0, xlook_s, xI_int, xA_ref, xJ_long, xK_some, xRow_row, xTo_some, xst1, xclr, List.set_cons_zero, List.set_cons_succ, xsum_nil, xsum_int, xsum_ref, xsum_long, Option.toList_some, Option.toList_none, List.nil_append, List.cons_append, Int32.reduceToNatClampNeg, z0, l20N, eq0, xin_w0, e, nI_1]
  · have ne0 : ¬ lg_cmp (lN (l.length + 1)) (lN 20) = 0 := fun z => hf ((lgc_ne (by omega) (by decide)).mp z)
    refine ⟨wtJ S l.length (byK sg k), some (.int (nI (ptOf l.length))), ⟨q, l ++ [byK sg k], by rw [List.append_assoc], by omega, hw2, ht, hq, hx, hbl⟩, FrSy.wt, fun r => ?_⟩
    rw [say_put hw.1 hl hs hk h8]
    simp (config := { decide := true }) only [rL_say_0, rL_say_1, rL_say_5, rL_say_6, rL_say_9, rL_say_11, rL_say_13, rL_say_16, rL_say_17, rL_say_20, rL_say_21, rL_say_24, rL_say_26, rL_say_28, rL_say_31, rL_say_32, rL_say_35, rL_say_36, rL_say_39, rL_say_40, rL_say_42, rL_say_44, rL_say_46, rL_say_48, rL_say_51, rL_say_53, rL_say_54, rL_say_55, rL_say_57, rL_say_59, rL_say_60, rL_say_61, rL_say_64, rL_say_65, rL_say_67, rL_say_69, rL_say_70, rL_say_72, rL_say_73, rL_say_75, rL_say_77, rL_say_79, rL_say_82, rL_say_83, rL_say_86, rL_say_87, rL_say_89, rL_say_92, rL_say_95, rL_say_98, rL_say_78 sk69, ↓reduceIte, m1_le, m1_lt, m1_eq, ofInt_m1, ex_ret, Int32.reduceAdd, Int32.reduceSub, Int32.reduceMul, Int32.reduceLT, Int32.reduceLE, xsI, Nat.reduceEqDiff, and_false, false_and, and_true, true_and, if_true, if_false, ite_true, ite_false, xlook_0, xlook_s, xI_int, xA_ref, xJ_long, xK_some, xRow_row, xTo_some, xst1, xclr, List.set_cons_zero, List.set_cons_succ, xsum_nil, xsum_int, xsum_ref, xsum_long, Option.toList_some, Option.toList_none, List.nil_append, List.cons_append, Int32.reduceToNatClampNeg, z0, l20N, ne0, xin_w0, nI_1, not_false_eq_true]
/-- the bytes k .. n - 1 of a word of signs -/
def byL (sg : Nat) : Nat → Nat → List Nat
  | _, 0 => []
  | k, m + 1 => byK sg k :: byL sg (k + 1) m
theorem byL_len (sg : Nat) : ∀ m k, (byL sg k m).length = m
  | 0, _ => rfl
  | m + 1, k => by show (byL sg (k + 1) m).length + 1 = _; rw [byL_len sg m]
set_option maxHeartbeats 4000000 in
set_option maxRecDepth 100000 in
theorem s_say {d sg n : Nat} {S : xS} {bs : List Nat} (h : Sd S bs) (hs : sg < 2 ^ 63) (h8 : n ≤ 8) (hb : ∀ b ∈ byL sg 0 n, b < 128) (hz : bs.length + n < 8000) :
    ∃ S', XC SK MT (d + 5) 321 [.ref 0, .long (lN sg), .int (nI n), .ref 69] S = some (none, S') ∧ Sd S' (bs ++ byL sg 0 n) ∧ FrSy S S' := by
  have loop : ∀ m k (S1 : xS) (b1 : List Nat) (p6 : Option Value), k + m = n → (∀ b ∈ byL sg k m, b < 128) → Sd S1 b1 → b1.length + m < 8000 → ∃ S', Sd S' (b1 ++ byL sg k m) ∧ FrSy S1 S' ∧ ∀ r, XL SK MT (d + 4) 321 (3, [some (.ref 0), some (.long (lN sg)), none, some (.int (nI n)), some (.ref 69), some (.int (nI k)), p6], [], S1) r ↔ (none, S') = r := by
    intro m
    induction m with
    | zero =>
      intro k S1 b1 p6 hk hb1 h1 _
      obtain rfl : k = n := hk
      refine ⟨S1, by show Sd S1 (b1 ++ []); rw [List.append_nil]; exact h1, FrSy.rf, fun r => ?_⟩
      rw [rL_say_3]
      simp (config := { decide := true }) only [rL_say_5, rL_say_6, rL_say_98, ↓reduceIte, m1_le, m1_lt, m1_eq, ofInt_m1, ex_ret, Int32.reduceAdd, Int32.reduceSub, Int32.reduceMul, Int32.reduceLT, Int32.reduceLE, xsI, Nat.reduceEqDiff, and_false, false_and, and_true, true_and, if_true, if_false, ite_true, ite_false, xlook_0, xlook_s, xI_int, xA_ref, xJ_long, xK_some, xRow_row, xTo_some, xst1, xclr, List.set_cons_zero, List.set_cons_succ, xsum_nil, xsum_int, xsum_ref, xsum_long, Option.toList_some, Option.toList_none, List.nil_append, List.cons_append, Int32.le_refl]
    | succ m ih =>
      intro k S1 b1 p6 hk hb1 h1 hz1
      obtain ⟨S2, p7, g1, g2, g3⟩ := say_turn (d := d) (p6 := p6) h1 hs (show k < n by omega) h8 (hb1 _ List.mem_cons_self) (by omega)
      obtain ⟨S3, k1, k2, k3⟩ := ih (k + 1) S2 (b1 ++ [byK sg k]) p7 (by omega) (fun b hm => hb1 b (List.mem_cons_of_mem _ hm)) g1 (by rw [List.length_append]; show _ + 1 + _ < _; omega)
      refine ⟨S3, ?_, g2.tr k2, fun r => (g3 r).trans (k3 r)⟩
      rw [List.append_assoc] at k1
      exact k1
  obtain ⟨S', g1, g2, g3⟩ := loop n 0 S bs none (by omega) hb h hz
  refine ⟨S', ?_, g1, g2⟩
  rw [XC_iff]
  refine ⟨Nat.le_of_ble_eq_true rfl, ?_⟩
  show XL SK MT (d + 4) 321 (0, [some (.ref 0), some (.long (lN sg)), none, some (.int (nI n)), some (.ref 69), none, none], [], S) _
  simp (config := { decide := true }) only [rL_say_0, rL_say_1, ↓reduceIte, m1_le, m1_lt, m1_eq, ofInt_m1, ex_ret, Int32.reduceAdd, Int32.reduceSub, Int32.reduceMul, Int32.reduceLT, Int32.reduceLE, xsI, Nat.reduceEqDiff, and_false, false_and, and_true, true_and, if_true, if_false, ite_true, ite_false, xlook_0, xlook_s, xI_int, xA_ref, xJ_long, xK_some, xRow_row, xTo_some, xst1, xclr, List.set_cons_zero, List.set_cons_succ, xsum_nil, xsum_int, xsum_ref, xsum_long, Option.toList_some, Option.toList_none, List.nil_append, List.cons_append]
  exact (g3 _).mpr rfl
