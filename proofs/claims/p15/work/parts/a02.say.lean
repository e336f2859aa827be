/-! XF: rows, then what is proved of them. -/
theorem rL_feed_0 {d : Nat} {lv : xLV} {st : List Value} {S : xS} {r : xO} : XL SK MT d 320 (0, lv, st, S) r ↔ xA (xlook lv 0) (fun x => XL SK MT d 320 (1, lv, .ref x :: st, S) r) := X_ldA rfl rfl (fun _ => rfl) rfl rfl rfl rfl
theorem rL_feed_1 {d : Nat} {lv : xLV} {st : List Value} {S : xS} {r : xO} : XL SK MT d 320 (1, lv, st, S) r ↔ xA (xlook lv 1) (fun x => XL SK MT d 320 (2, lv, .ref x :: st, S) r) := X_ldA rfl rfl (fun _ => rfl) rfl rfl rfl rfl
theorem rL_feed_2 {d : Nat} {lv : xLV} {st : List Value} {S : xS} {r : xO} : XL SK MT d 320 (2, lv, st, S) r ↔ XL SK MT d 320 (3, lv, .int 1 :: st, S) r := X_pure rfl rfl rfl
theorem rL_feed_3 {d : Nat} {lv : xLV} {st : List Value} {S : xS} {r : xO} {a n : Nat} {j : Int32} (hs : SK[a]? = some (.inl (2, n))) : XL SK MT d 320 (3, lv, .int j :: .ref a :: st, S) r ↔ xin j n = true ∧ XL SK MT d 320 (4, lv, .long (S.2 a j.toNatClampNeg) :: st, S) r := X_lald rfl hs
theorem rL_feed_4 {d : Nat} {lv : xLV} {st : List Value} {S : xS} {r : xO} : XL SK MT d 320 (4, lv, st, S) r ↔ XL SK MT d 320 (6, lv, .int 32 :: st, S) r := X_pure rfl rfl rfl
theorem rL_feed_6 {d : Nat} {lv : xLV} {st : List Value} {S : xS} {r : xO} {x : Int64} {z : Int32} : XL SK MT d 320 (6, lv, .int z :: .long x :: st, S) r ↔ XL SK MT d 320 (7, lv, .long (x >>> (z.toInt64 &&& 63)) :: st, S) r := X_pure rfl rfl rfl
theorem rL_feed_7 {d : Nat} {lv : xLV} {st : List Value} {S : xS} {r : xO} {x : Int64} : XL SK MT d 320 (7, lv, .long x :: st, S) r ↔ XL SK MT d 320 (8, lv, .int x.toInt32 :: st, S) r := X_pure rfl rfl rfl
theorem rL_feed_8 {d : Nat} {lv : xLV} {st : List Value} {S : xS} {r : xO} : XL SK MT d 320 (8, lv, st, S) r ↔ xA (xlook lv 1) (fun x => XL SK MT d 320 (9, lv, .ref x :: st, S) r) := X_ldA rfl rfl (fun _ => rfl) rfl rfl rfl rfl
theorem rL_feed_9 {d : Nat} {lv : xLV} {st : List Value} {S : xS} {r : xO} : XL SK MT d 320 (9, lv, st, S) r ↔ XL SK MT d 320 (10, lv, .int 1 :: st, S) r := X_pure rfl rfl rfl
theorem rL_feed_10 {d : Nat} {lv : xLV} {st : List Value} {S : xS} {r : xO} {a n : Nat} {j : Int32} (hs : SK[a]? = some (.inl (2, n))) : XL SK MT d 320 (10, lv, .int j :: .ref a :: st, S) r ↔ xin j n = true ∧ XL SK MT d 320 (11, lv, .long (S.2 a j.toNatClampNeg) :: st, S) r := X_lald rfl hs
theorem rL_feed_11 {d : Nat} {lv : xLV} {st : List Value} {S : xS} {r : xO} {x : Int64} : XL SK MT d 320 (11, lv, .long x :: st, S) r ↔ XL SK MT d 320 (12, lv, .int x.toInt32 :: st, S) r := X_pure rfl rfl rfl
theorem rL_feed_12 {d : Nat} {lv : xLV} {st : List Value} {S : xS} {r : xO} : XL SK MT d 320 (12, lv, st, S) r ↔ xA (xlook lv 1) (fun x => XL SK MT d 320 (13, lv, .ref x :: st, S) r) := X_ldA rfl rfl (fun _ => rfl) rfl rfl rfl rfl
theorem rL_feed_13 {d : Nat} {lv : xLV} {st : List Value} {S : xS} {r : xO} : XL SK MT d 320 (13, lv, st, S) r ↔ XL SK MT d 320 (14, lv, .int 2 :: st, S) r := X_pure rfl rfl rfl
theorem rL_feed_14 {d : Nat} {lv : xLV} {st : List Value} {S : xS} {r : xO} {a n : Nat} {j : Int32} (hs : SK[a]? = some (.inl (2, n))) : XL SK MT d 320 (14, lv, .int j :: .ref a :: st, S) r ↔ xin j n = true ∧ XL SK MT d 320 (15, lv, .long (S.2 a j.toNatClampNeg) :: st, S) r := X_lald rfl hs
theorem rL_feed_15 {d : Nat} {lv : xLV} {st : List Value} {S : xS} {r : xO} : XL SK MT d 320 (15, lv, st, S) r ↔ XL SK MT d 320 (17, lv, .int 32 :: st, S) r := X_pure rfl rfl rfl
theorem rL_feed_17 {d : Nat} {lv : xLV} {st : List Value} {S : xS} {r : xO} {x : Int64} {z : Int32} : XL SK MT d 320 (17, lv, .int z :: .long x :: st, S) r ↔ XL SK MT d 320 (18, lv, .long (x >>> (z.toInt64 &&& 63)) :: st, S) r := X_pure rfl rfl rfl
theorem rL_feed_18 {d : Nat} {lv : xLV} {st : List Value} {S : xS} {r : xO} {x : Int64} : XL SK MT d 320 (18, lv, .long x :: st, S) r ↔ XL SK MT d 320 (19, lv, .int x.toInt32 :: st, S) r := X_pure rfl rfl rfl
theorem rL_feed_19 {d : Nat} {lv : xLV} {st : List Value} {S : xS} {r : xO} : XL SK MT d 320 (19, lv, st, S) r ↔ xA (xlook lv 1) (fun x => XL SK MT d 320 (20, lv, .ref x :: st, S) r) := X_ldA rfl rfl (fun _ => rfl) rfl rfl rfl rfl
theorem rL_feed_20 {d : Nat} {lv : xLV} {st : List Value} {S : xS} {r : xO} : XL SK MT d 320 (20, lv, st, S) r ↔ XL SK MT d 320 (21, lv, .int 2 :: st, S) r := X_pure rfl rfl rfl
theorem rL_feed_21 {d : Nat} {lv : xLV} {st : List Value} {S : xS} {r : xO} {a n : Nat} {j : Int32} (hs : SK[a]? = some (.inl (2, n))) : XL SK MT d 320 (21, lv, .int j :: .ref a :: st, S) r ↔ xin j n = true ∧ XL SK MT d 320 (22, lv, .long (S.2 a j.toNatClampNeg) :: st, S) r := X_lald rfl hs
theorem rL_feed_22 {d : Nat} {lv : xLV} {st : List Value} {S : xS} {r : xO} {x : Int64} : XL SK MT d 320 (22, lv, .long x :: st, S) r ↔ XL SK MT d 320 (23, lv, .int x.toInt32 :: st, S) r := X_pure rfl rfl rfl
theorem rL_feed_23 {d : Nat} {lv : xLV} {st : List Value} {S : xS} {r : xO} : XL SK MT d 320 (23, lv, st, S) r ↔ xA (xlook lv 1) (fun x => XL SK MT d 320 (24, lv, .ref x :: st, S) r) := X_ldA rfl rfl (fun _ => rfl) rfl rfl rfl rfl
theorem rL_feed_24 {d : Nat} {lv : xLV} {st : List Value} {S : xS} {r : xO} : XL SK MT d 320 (24, lv, st, S) r ↔ XL SK MT d 320 (25, lv, .int 3 :: st, S) r := X_pure rfl rfl rfl
theorem rL_feed_25 {d : Nat} {lv : xLV} {st : List Value} {S : xS} {r : xO} {a n : Nat} {j : Int32} (hs : SK[a]? = some (.inl (2, n))) : XL SK MT d 320 (25, lv, .int j :: .ref a :: st, S) r ↔ xin j n = true ∧ XL SK MT d 320 (26, lv, .long (S.2 a j.toNatClampNeg) :: st, S) r := X_lald rfl hs
theorem rL_feed_26 {d : Nat} {lv : xLV} {st : List Value} {S : xS} {r : xO} {x : Int64} : XL SK MT d 320 (26, lv, .long x :: st, S) r ↔ XL SK MT d 320 (27, lv, .int x.toInt32 :: st, S) r := X_pure rfl rfl rfl
theorem rL_feed_27 {d : Nat} {lv : xLV} {S : xS} {r : xO} {x1 : Int32} {x2 : Int32} {x3 : Int32} {x4 : Int32} {x5 : Int32} : XL SK MT d 320 (27, lv, [.int x5, .int x4, .int x3, .int x2, .int x1, .ref 0], S) r ↔ xK (XC SK MT d 307 [.ref 0, .int x1, .int x2, .int x3, .int x4, .int x5] S) (fun v S => XL SK MT d 320 (30, lv, v.toList ++ [], S) r) := X_inv (n := 6) (kd := 14) (st0 := [.int x5, .int x4, .int x3, .int x2, .int x1, .ref 0]) rfl (Or.inr ⟨rfl, rfl⟩) rfl (Nat.le_of_ble_eq_true rfl) (Nat.le_of_ble_eq_true rfl) (by decide) rfl
theorem rL_feed_30 {d : Nat} {lv : xLV} {st : List Value} {S : xS} {r : xO} {x : Int32} : XL SK MT d 320 (30, lv, .int x :: st, S) r ↔ XL SK MT d 320 (31, lv, st, S) r := X_pure rfl rfl rfl
theorem rL_feed_31 {d : Nat} {lv : xLV} {st : List Value} {S : xS} {r : xO} : XL SK MT d 320 (31, lv, st, S) r ↔ XL SK MT d 320 (39, lv, st, S) r := X_jump rfl rfl rfl
theorem rL_feed_34 {d : Nat} {lv : xLV} {st : List Value} {S : xS} {r : xO} {x : Nat} : XL SK MT d 320 (34, lv, .ref x :: st, S) r ↔ XL SK MT d 320 (35, xst1 lv 2 (.ref x), st, S) r := X_pure rfl rfl rfl
theorem rL_feed_35 {d : Nat} {lv : xLV} {st : List Value} {S : xS} {r : xO} : XL SK MT d 320 (35, lv, st, S) r ↔ xA (xlook lv 1) (fun x => XL SK MT d 320 (36, lv, .ref x :: st, S) r) := X_ldA rfl rfl (fun _ => rfl) rfl rfl rfl rfl
theorem rL_feed_36 {d : Nat} {lv : xLV} {st : List Value} {S : xS} {r : xO} : XL SK MT d 320 (36, lv, st, S) r ↔ XL SK MT d 320 (37, lv, .int 0 :: st, S) r := X_pure rfl rfl rfl
theorem rL_feed_37 {d : Nat} {lv : xLV} {st : List Value} {S : xS} {r : xO} : XL SK MT d 320 (37, lv, st, S) r ↔ XL SK MT d 320 (38, lv, .long 0 :: st, S) r := X_pure rfl rfl rfl
theorem rL_feed_38 {d : Nat} {lv : xLV} {st : List Value} {S : xS} {r : xO} {a n : Nat} {j : Int32} {x : Int64} (hs : SK[a]? = some (.inl (2, n))) : XL SK MT d 320 (38, lv, .long x :: .int j :: .ref a :: st, S) r ↔ xin j n = true ∧ XL SK MT d 320 (39, lv, st, (xsetL S a j.toNatClampNeg x)) r := X_last rfl hs
theorem rL_feed_39 {d : Nat} {lv : xLV} {st : List Value} {S : xS} {r : xO} : XL SK MT d 320 (39, lv, st, S) r ↔ xA (xlook lv 1) (fun x => XL SK MT d 320 (40, lv, .ref x :: st, S) r) := X_ldA rfl rfl (fun _ => rfl) rfl rfl rfl rfl
theorem rL_feed_40 {d : Nat} {lv : xLV} {st : List Value} {S : xS} {r : xO} : XL SK MT d 320 (40, lv, st, S) r ↔ XL SK MT d 320 (41, lv, .int 0 :: st, S) r := X_pure rfl rfl rfl
theorem rL_feed_41 {d : Nat} {lv : xLV} {st : List Value} {S : xS} {r : xO} : XL SK MT d 320 (41, lv, st, S) r ↔ XL SK MT d 320 (42, lv, .long 0 :: st, S) r := X_pure rfl rfl rfl
theorem rL_feed_42 {d : Nat} {lv : xLV} {st : List Value} {S : xS} {r : xO} {a n : Nat} {j : Int32} {x : Int64} (hs : SK[a]? = some (.inl (2, n))) : XL SK MT d 320 (42, lv, .long x :: .int j :: .ref a :: st, S) r ↔ xin j n = true ∧ XL SK MT d 320 (43, lv, st, (xsetL S a j.toNatClampNeg x)) r := X_last rfl hs
theorem rL_feed_43 {d : Nat} {lv : xLV} {S : xS} {r : xO} : XL SK MT d 320 (43, lv, [], S) r ↔ (none, S) = r := X_ret rfl rfl rfl rfl rfl rfl

/-! The law: signs said. -/
def Pk (l : List Nat) : Nat := l.foldl (fun a b => a * 256 + b) 0
theorem Pk_s (l : List Nat) (b : Nat) : Pk (l ++ [b]) = Pk l * 256 + b := by
  unfold Pk
  rw [List.foldl_append]
  rfl
theorem pk_step {n b j P : Nat} (hj : j ≤ 7) (hb : b < 256) (h : n % 256 ^ j = P) : (n % 72057594037927936 * 256 + b) % 256 ^ (j + 1) = P * 256 + b := by
  have e : (72057594037927936 : Nat) = 256 ^ j * 256 ^ (7 - j) := by rw [← Nat.pow_add, show j + (7 - j) = 7 by omega]
  have d1 : n % 72057594037927936 % 256 ^ j = P := by rw [e, Nat.mod_mul_right_mod, h]
  rw [Nat.pow_succ, Nat.mul_comm (256 ^ j) 256, Nat.mod_mul]
  rw [show (n % 72057594037927936 * 256 + b) % 256 = b by omega, show (n % 72057594037927936 * 256 + b) / 256 = n % 72057594037927936 by omega, d1]
  omega
abbrev w64 (x : Int64) : Nat := x.toBitVec.toNat
/-- what waits to be fed -/
def Wt (S : xS) (l : List Nat) : Prop := S.2 69 0 = lN l.length ∧ w64 (S.2 69 1) % 256 ^ min l.length 8 = Pk (l.take 8) ∧ w64 (S.2 69 2) % 256 ^ min (l.length - 8) 8 = Pk ((l.drop 8).take 8) ∧ w64 (S.2 69 3) % 256 ^ min (l.length - 16) 8 = Pk (l.drop 16)
theorem xsL2 {S : xS} {i k a b : Nat} {x : Int64} : (xsetL S i k x).2 a b = if a = i ∧ b = k then x else S.2 a b := rfl
theorem xsL1 {S : xS} {i k : Nat} {x : Int64} : (xsetL S i k x).1 = S.1 := rfl
theorem xsI2 {S : xS} {i k : Nat} {x : Int32} : (xsetI S i k x).2 = S.2 := rfl
def ptOf (c : Nat) : Nat := if c < 8 then 1 else if c < 16 then 2 else 3
/-- one more that waits -/
def wtJ (S : xS) (c b : Nat) : xS := xsetL (xsetL S 69 (ptOf c) (S.2 69 (ptOf c) <<< ((8 : Int32).toInt64 &&& 63) ||| lN b)) 69 0 (lN (c + 1))
theorem take_a {l : List Nat} {b n : Nat} (h : n ≤ l.length) : (l ++ [b]).take n = l.take n := by rw [List.take_append_of_le_length h]
theorem drop_a {l : List Nat} {b n : Nat} (h : n ≤ l.length) : (l ++ [b]).drop n = l.drop n ++ [b] := by rw [List.drop_append_of_le_length h]
theorem Wt_add {S : xS} {l : List Nat} {b : Nat} (h : Wt S l) (hl : l.length < 20) (hb : b < 256) : Wt (wtJ S l.length b) (l ++ [b]) := by
  obtain ⟨h0, h1, h2, h3⟩ := h
  have hlen : (l ++ [b]).length = l.length + 1 := by rw [List.length_append]; rfl
  have z0 : (wtJ S l.length b).2 69 0 = lN (l.length + 1) := by unfold wtJ; rw [xsL2, if_pos ⟨rfl, rfl⟩]
  have zp : ∀ k, ¬ k = 0 → (wtJ S l.length b).2 69 k = if k = ptOf l.length then S.2 69 k <<< ((8 : Int32).toInt64 &&& 63) ||| lN b else S.2 69 k := by
    intro k hk
    unfold wtJ
    rw [xsL2, if_neg (fun z => hk z.2), xsL2]
    by_cases hq : k = ptOf l.length
    · subst hq
      rw [if_pos ⟨rfl, rfl⟩, if_pos rfl]
    · rw [if_neg (fun z => hq z.2), if_neg hq]
  unfold Wt
  rw [hlen, z0, zp 1 (by decide), zp 2 (by decide), zp 3 (by decide)]
  refine ⟨rfl, ?_⟩
  unfold ptOf
  by_cases c8 : l.length < 8
  · rw [if_pos c8, if_pos rfl, if_neg (by decide), if_neg (by decide)]
    rw [show min (l.length + 1) 8 = l.length + 1 by omega, show min (l.length + 1 - 8) 8 = 0 by omega, show min (l.length + 1 - 16) 8 = 0 by omega]
    rw [show min l.length 8 = l.length by omega, List.take_of_length_le (by omega)] at h1
    refine ⟨?_, ?_, ?_⟩
    · rw [List.take_of_length_le (by omega), Pk_s]
      show (_ : Int64).toBitVec.toNat % _ = _
      rw [shb _ hb]
      exact pk_step (by omega) hb h1
    · rw [Nat.pow_zero, Nat.mod_one, List.drop_eq_nil_of_le (by omega)]; rfl
    · rw [Nat.pow_zero, Nat.mod_one, List.drop_eq_nil_of_le (by omega)]; rfl
  · rw [if_neg c8]
    by_cases c16 : l.length < 16
    · rw [if_pos c16, if_neg (by decide), if_pos rfl, if_neg (by decide)]
      rw [show min (l.length + 1) 8 = min l.length 8 by omega, show min (l.length + 1 - 8) 8 = l.length - 8 + 1 by omega, show min (l.length + 1 - 16) 8 = 0 by omega]
      rw [show min (l.length - 8) 8 = l.length - 8 by omega, List.take_of_length_le (by rw [List.length_drop]; omega)] at h2
      refine ⟨?_, ?_, ?_⟩
      · rw [take_a (by omega)]; exact h1
      · rw [drop_a (by omega), List.take_of_length_le (by rw [List.length_append, List.length_drop]; show _ + 1 ≤ 8; omega), Pk_s]
        show (_ : Int64).toBitVec.toNat % _ = _
        rw [shb _ hb]
        exact pk_step (by omega) hb h2
      · rw [Nat.pow_zero, Nat.mod_one, List.drop_eq_nil_of_le (by omega)]; rfl
    · rw [if_neg c16, if_neg (by decide), if_neg (by decide), if_pos rfl]
      rw [show min (l.length + 1) 8 = min l.length 8 by omega, show min (l.length + 1 - 8) 8 = min (l.length - 8) 8 by omega, show min (l.length + 1 - 16) 8 = l.length - 16 + 1 by omega]
      rw [show min (l.length - 16) 8 = l.length - 16 by omega] at h3
      refine ⟨?_, ?_, ?_⟩
      · rw [take_a (by omega)]; exact h1
      · rw [drop_a (by omega), take_a (by rw [List.length_drop]; omega)]; exact h2
      · rw [drop_a (by omega), Pk_s]
        show (_ : Int64).toBitVec.toNat % _ = _
        rw [shb _ hb]
        exact pk_step (by omega) hb h3
set_option maxHeartbeats 4000000 in
set_option maxRecDepth 100000 in
/-- the words that are fed -/
theorem Wt_words {S : xS} {a0 a1 a2 a3 a4 a5 a6 a7 a8 a9 a10 a11 a12 a13 a14 a15 a16 a17 a18 a19 : Nat} (h : Wt S [a0, a1, a2, a3, a4, a5, a6, a7, a8, a9, a10, a11, a12, a13, a14, a15, a16, a17, a18, a19]) (hb : ∀ b ∈ [a0, a1, a2, a3, a4, a5, a6, a7, a8, a9, a10, a11, a12, a13, a14, a15, a16, a17, a18, a19], b < 128) :
    Fb4 (S.2 69 1 >>> ((32 : Int32).toInt64 &&& 63)).toInt32 a0 a1 a2 a3 ∧ Fb4 (S.2 69 1).toInt32 a4 a5 a6 a7 ∧ Fb4 (S.2 69 2 >>> ((32 : Int32).toInt64 &&& 63)).toInt32 a8 a9 a10 a11 ∧ Fb4 (S.2 69 2).toInt32 a12 a13 a14 a15 ∧ Fb4 (S.2 69 3).toInt32 a16 a17 a18 a19 := by
  simp only [List.forall_mem_cons] at hb
  obtain ⟨b0, b1, b2, b3, b4, b5, b6, b7, b8, b9, b10, b11, b12, b13, b14, b15, b16, b17, b18, b19, -⟩ := hb
  obtain ⟨-, h1, h2, h3⟩ := h
  have h1 : w64 (S.2 69 1) % 18446744073709551616 = (((((((0 * 256 + a0) * 256 + a1) * 256 + a2) * 256 + a3) * 256 + a4) * 256 + a5) * 256 + a6) * 256 + a7 := h1
  have h2 : w64 (S.2 69 2) % 18446744073709551616 = (((((((0 * 256 + a8) * 256 + a9) * 256 + a10) * 256 + a11) * 256 + a12) * 256 + a13) * 256 + a14) * 256 + a15 := h2
  have h3 : w64 (S.2 69 3) % 256 ^ 4 = (((0 * 256 + a16) * 256 + a17) * 256 + a18) * 256 + a19 := h3
  rw [show (256 : Nat) ^ 4 = 4294967296 from rfl] at h3
  have l1 := (S.2 69 1).toBitVec.isLt
  have l2 := (S.2 69 2).toBitVec.isLt
  unfold w64 at h1 h2 h3
  unfold Fb4
  rw [hi32, hi32, lo32, lo32, lo32]
  generalize (S.2 69 1).toBitVec.toNat = y1 at *
  generalize (S.2 69 2).toBitVec.toNat = y2 at *
  generalize (S.2 69 3).toBitVec.toNat = y3 at *
  refine ⟨⟨?_, b0, b1, b2, b3⟩, ⟨?_, b4, b5, b6, b7⟩, ⟨?_, b8, b9, b10, b11⟩, ⟨?_, b12, b13, b14, b15⟩, ⟨?_, b16, b17, b18, b19⟩⟩
  · omega
  · omega
  · omega
  · omega
  · omega
set_option maxHeartbeats 4000000 in
set_option maxRecDepth 100000 in
/-- the law's own feed -/
theorem s_lfeed {d ts : Nat} {S : xS} {l : List Nat} (h : Wt S l) (hl : l.length = 20) (hb : ∀ b ∈ l, b < 128) (hs : S.1 0 12 = nI ts) (ht : ts + 20 ≤ 8192) : XC SK MT (d + 4) 320 [.ref 0, .ref 69] S = some (none, xsetL (fdS S ts l) 69 0 0) := by
  obtain ⟨a0, a1, a2, a3, a4, a5, a6, a7, a8, a9, a10, a11, a12, a13, a14, a15, a16, a17, a18, a19, rfl⟩ := len20 hl
  obtain ⟨p1, p2, p3, p4, p5⟩ := Wt_words h hb
  have e := s_feed (d := d) hs ht p1 p2 p3 p4 p5
  have sk : SK[69]? = some (.inl (2, 4)) := rfl
  rw [XC_iff]
  refine ⟨Nat.le_of_ble_eq_true rfl, ?_⟩
  show XL SK MT (d + 3) 320 (0, [some (.ref 0), some (.ref 69), none], [], S) _
  simp (config := { decide := true }) only [rL_feed_0, rL_feed_1, rL_feed_2, rL_feed_4, rL_feed_6, rL_feed_7, rL_feed_8, rL_feed_9, rL_feed_11, rL_feed_12, rL_feed_13, rL_feed_15, rL_feed_17, rL_feed_18, rL_feed_19, rL_feed_20, rL_feed_22, rL_feed_23, rL_feed_24, rL_feed_26, rL_feed_27, rL_feed_30, rL_feed_31, rL_feed_34, rL_feed_35, rL_feed_36, rL_feed_37, rL_feed_39, rL_feed_40, rL_feed_41, rL_feed_43, rL_feed_3 sk, rL_feed_10 sk, rL_feed_14 sk, rL_feed_21 sk, rL_feed_25 sk, rL_feed_42 sk, ↓reduceIte, m1_le, m1_lt, m1_eq, ofInt_m1, ex_ret, Int32.reduceAdd, Int32.reduceSub, Int32.reduceMul, Int32.reduceLT, Int32.reduceLE, xsI, Nat.reduceEqDiff, and_false, false_and, and_true, true_and, if_true, if_false, ite_true, ite_false, xlook_0, xlook_s, xI_int, xA_ref, xJ_long, xK_some, xRow_row, xTo_some, xst1, xclr, List.set_cons_zero, List.set_cons_succ, xsum_nil, xsum_int, xsum_ref, xsum_long, Option.toList_some, Option.toList_none, List.nil_append, List.cons_append, Int32.reduceToNatClampNeg, e]
