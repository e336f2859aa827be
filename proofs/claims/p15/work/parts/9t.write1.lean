/-! XF: rows, then what is proved of them. -/
theorem rX11_sign_0 {d : Nat} {lv : xLV} {st : List Value} {S : xS} {r : xO} : XL SK MT d 284 (0, lv, st, S) r ↔ xA (xlook lv 0) (fun x => XL SK MT d 284 (1, lv, .ref x :: st, S) r) := X_ldA rfl rfl (fun _ => rfl) rfl rfl rfl rfl
theorem rX11_sign_1 {d : Nat} {lv : xLV} {st : List Value} {S : xS} {r : xO} : XL SK MT d 284 (1, lv, .ref 12 :: st, S) r ↔ XL SK MT d 284 (4, lv, .int (S.1 12 8) :: st, S) r := X_heap rfl rfl rfl rfl rfl
theorem rX11_sign_4 {d : Nat} {lv : xLV} {st : List Value} {S : xS} {r : xO} : XL SK MT d 284 (4, lv, st, S) r ↔ XL SK MT d 284 (7, lv, .int 1900 :: st, S) r := X_pure rfl rfl rfl
theorem rX11_sign_7 {d : Nat} {lv : xLV} {st : List Value} {S : xS} {r : xO} {x z : Int32} : XL SK MT d 284 (7, lv, .int z :: .int x :: st, S) r ↔ if z ≤ x then XL SK MT d 284 (35, lv, st, S) r else XL SK MT d 284 (10, lv, st, S) r := (X_icmp rfl rfl).trans xc_ge
theorem rX11_sign_10 {d : Nat} {lv : xLV} {st : List Value} {S : xS} {r : xO} : XL SK MT d 284 (10, lv, st, S) r ↔ xA (xlook lv 0) (fun x => XL SK MT d 284 (11, lv, .ref x :: st, S) r) := X_ldA rfl rfl (fun _ => rfl) rfl rfl rfl rfl
theorem rX11_sign_11 {d : Nat} {lv : xLV} {st : List Value} {S : xS} {r : xO} : XL SK MT d 284 (11, lv, .ref 12 :: st, S) r ↔ XL SK MT d 284 (14, lv, .ref 67 :: st, S) r := X_heap rfl rfl rfl rfl rfl
theorem rX11_sign_14 {d : Nat} {lv : xLV} {st : List Value} {S : xS} {r : xO} : XL SK MT d 284 (14, lv, st, S) r ↔ xA (xlook lv 0) (fun x => XL SK MT d 284 (15, lv, .ref x :: st, S) r) := X_ldA rfl rfl (fun _ => rfl) rfl rfl rfl rfl
theorem rX11_sign_15 {d : Nat} {lv : xLV} {st : List Value} {S : xS} {r : xO} : XL SK MT d 284 (15, lv, .ref 12 :: st, S) r ↔ XL SK MT d 284 (18, lv, .int (S.1 12 8) :: st, S) r := X_heap rfl rfl rfl rfl rfl
theorem rX11_sign_18 {d : Nat} {lv : xLV} {st : List Value} {S : xS} {r : xO} : XL SK MT d 284 (18, lv, st, S) r ↔ xI (xlook lv 1) (fun x => XL SK MT d 284 (19, lv, .int x :: st, S) r) := X_ldI rfl rfl (fun _ => rfl) rfl rfl rfl rfl
theorem rX11_sign_19 {d : Nat} {lv : xLV} {S : xS} {r : xO} {x1 : Nat} {x2 : Int32} {x3 : Int32} : XL SK MT d 284 (19, lv, [.int x3, .int x2, .ref x1], S) r ↔ xK (XC SK MT d 306 [.ref x1, .int x2, .int x3] S) (fun v S => XL SK MT d 284 (22, lv, v.toList ++ [], S) r) := X_inv (n := 3) (kd := 1) (st0 := [.int x3, .int x2, .ref x1]) rfl (Or.inl ⟨rfl, rfl⟩) rfl (Nat.le_of_ble_eq_true rfl) (Nat.le_of_ble_eq_true rfl) (by decide) rfl
theorem rX11_sign_22 {d : Nat} {lv : xLV} {st : List Value} {S : xS} {r : xO} : XL SK MT d 284 (22, lv, st, S) r ↔ xA (xlook lv 0) (fun x => XL SK MT d 284 (23, lv, .ref x :: st, S) r) := X_ldA rfl rfl (fun _ => rfl) rfl rfl rfl rfl
theorem riX11_sign_23 {d : Nat} {lv : xLV} {st : List Value} {S : xS} {r : xO} {x : Int32} : XL SK MT d 284 (23, lv, .int x :: st, S) r ↔ XL SK MT d 284 (24, lv, .int x :: .int x :: st, S) r := X_pure rfl rfl rfl
theorem rX11_sign_23 {d : Nat} {lv : xLV} {st : List Value} {S : xS} {r : xO} {x : Nat} : XL SK MT d 284 (23, lv, .ref x :: st, S) r ↔ XL SK MT d 284 (24, lv, .ref x :: .ref x :: st, S) r := X_pure rfl rfl rfl
theorem rX11_sign_24 {d : Nat} {lv : xLV} {st : List Value} {S : xS} {r : xO} : XL SK MT d 284 (24, lv, .ref 12 :: st, S) r ↔ XL SK MT d 284 (27, lv, .int (S.1 12 8) :: st, S) r := X_heap rfl rfl rfl rfl rfl
theorem rX11_sign_27 {d : Nat} {lv : xLV} {st : List Value} {S : xS} {r : xO} : XL SK MT d 284 (27, lv, st, S) r ↔ XL SK MT d 284 (28, lv, .int 1 :: st, S) r := X_pure rfl rfl rfl
theorem rX11_sign_28 {d : Nat} {lv : xLV} {st : List Value} {S : xS} {r : xO} {x z : Int32} : XL SK MT d 284 (28, lv, .int z :: .int x :: st, S) r ↔ XL SK MT d 284 (29, lv, .int (x + z) :: st, S) r := X_pure rfl rfl rfl
theorem rX11_sign_29 {d : Nat} {lv : xLV} {st : List Value} {S : xS} {r : xO} {x : Int32} : XL SK MT d 284 (29, lv, .int x :: .ref 12 :: st, S) r ↔ XL SK MT d 284 (32, lv, st, (xsetI S 12 8 x)) r := X_heap rfl rfl rfl rfl rfl
theorem rX11_sign_32 {d : Nat} {lv : xLV} {st : List Value} {S : xS} {r : xO} : XL SK MT d 284 (32, lv, st, S) r ↔ XL SK MT d 284 (40, lv, st, S) r := X_jump rfl rfl rfl
theorem rX11_sign_35 {d : Nat} {lv : xLV} {st : List Value} {S : xS} {r : xO} : XL SK MT d 284 (35, lv, st, S) r ↔ xA (xlook lv 0) (fun x => XL SK MT d 284 (36, lv, .ref x :: st, S) r) := X_ldA rfl rfl (fun _ => rfl) rfl rfl rfl rfl
theorem rX11_sign_36 {d : Nat} {lv : xLV} {st : List Value} {S : xS} {r : xO} : XL SK MT d 284 (36, lv, st, S) r ↔ XL SK MT d 284 (37, lv, .int 1 :: st, S) r := X_pure rfl rfl rfl
theorem r0X11_sign_37 {d : Nat} {lv : xLV} {st : List Value} {S : xS} {r : xO} : XL SK MT d 284 (37, lv, .int 0 :: .ref 12 :: st, S) r ↔ XL SK MT d 284 (40, lv, st, (xsetI S 12 9 0)) r := X_heap rfl rfl rfl rfl rfl
theorem r1X11_sign_37 {d : Nat} {lv : xLV} {st : List Value} {S : xS} {r : xO} : XL SK MT d 284 (37, lv, .int 1 :: .ref 12 :: st, S) r ↔ XL SK MT d 284 (40, lv, st, (xsetI S 12 9 1)) r := X_heap rfl rfl rfl rfl rfl
theorem rX11_sign_37 {d : Nat} {lv : xLV} {st : List Value} {S : xS} {r : xO} {x : Int32} (hz : x = 0 ∨ x = 1) : XL SK MT d 284 (37, lv, .int x :: .ref 12 :: st, S) r ↔ XL SK MT d 284 (40, lv, st, (xsetI S 12 9 x)) r := X_heap rfl rfl rfl rfl (if_pos ⟨rfl, rfl, Or.inr ⟨rfl, hz⟩⟩)
theorem rX11_sign_40 {d : Nat} {lv : xLV} {S : xS} {r : xO} : XL SK MT d 284 (40, lv, [], S) r ↔ (none, S) = r := X_ret rfl rfl rfl rfl rfl rfl

/-! Writer: signs and numbers. -/
/-- what has been written -/
def WSt (S : xS) (bs : List Nat) : Prop := S.1 12 8 = nI bs.length ∧ S.1 12 9 = 0 ∧ bs.length ≤ 1000 ∧ ∀ j b, bs[j]? = some b → S.1 67 j = nI b ∧ b < 128
def FrWr (S S1 : xS) : Prop := S1.2 = S.2 ∧ S1.1 12 6 = S.1 12 6 ∧ ∀ a, ¬ a = 12 → ¬ a = 67 → S1.1 a = S.1 a
theorem FrWr.trans {S S1 S2 : xS} (h : FrWr S S1) (h2 : FrWr S1 S2) : FrWr S S2 := ⟨h2.1.trans h.1, h2.2.1.trans h.2.1, fun a q r => (h2.2.2 a q r).trans (h.2.2 a q r)⟩
theorem s_sign {d b : Nat} {S : xS} {bs : List Nat} (h : WSt S bs) (hn : bs.length < 1000) (hb : b < 128) : ∃ S1, XC SK MT (d + 2) 284 [.ref 12, .int (nI b)] S = some (none, S1) ∧ WSt S1 (bs ++ [b]) ∧ FrWr S S1 := by
  obtain ⟨h1, h2, h3, h4⟩ := h
  have n1 : ¬ (1900 : Int32) ≤ nI bs.length := nI_ge (b := 1900) (by omega) (by decide)
  have e1 : nI bs.length + 1 = nI (bs.length + 1) := nA1
  have e2 : ∀ v : Int32, xputb S 67 1902 (nI bs.length) v = xsetI S 67 bs.length (vp_nar .byte v.toInt8.toInt32) := fun v => by
    unfold xputb
    rw [if_neg (nI_pos (by omega)), if_neg (nI_ge (by omega) (by decide)), nI_clamp (by omega)]
  refine ⟨xsetI (xsetI S 67 bs.length (nI b)) 12 8 (nI (bs.length + 1)), ?_, ⟨?_, h2, by rw [List.length_append, List.length_singleton]; omega, fun j x hx => ?_⟩, rfl, rfl, fun a q r => by rw [xsR q, xsR r]⟩
  · rw [XC_iff]
    refine ⟨Nat.le_of_ble_eq_true rfl, ?_⟩
    show XL SK MT (d + 1) 284 (0, [some (.ref 12), some (.int (nI b))], [], S) _
    simp (config := { decide := true }) only [rX11_sign_0, rX11_sign_1, rX11_sign_4, rX11_sign_7, rX11_sign_10, rX11_sign_11, rX11_sign_14, rX11_sign_15, rX11_sign_18, rX11_sign_19, rX11_sign_22, riX11_sign_23, rX11_sign_23, rX11_sign_24, rX11_sign_27, rX11_sign_28, rX11_sign_29, rX11_sign_32, rX11_sign_35, rX11_sign_36, r0X11_sign_37, r1X11_sign_37, rX11_sign_37, rX11_sign_40, ↓reduceIte, m1_le, m1_lt, m1_eq, ofInt_m1, ex_ret, Int32.reduceAdd, Int32.reduceSub, Int32.reduceMul, Int32.reduceLT, Int32.reduceLE, xsI, Nat.reduceEqDiff, and_false, false_and, and_true, true_and, if_true, if_false, ite_true, ite_false, xlook_0, xlook_s, xI_int, xA_ref, xJ_long, xK_some, xRow_row, xTo_some, xst1, xclr, List.set_cons_zero, List.set_cons_succ, xsum_nil, xsum_int, xsum_ref, xsum_long, Option.toList_some, Option.toList_none, List.nil_append, List.cons_append, h1, n1, s_byteIn (show SK[67]? = some (.inl (1, 1902)) from rfl) (by decide : 1902 < 2 ^ 31), s_putByte (show SK[67]? = some (.inl (1, 1902)) from rfl) (by decide : 1902 < 2 ^ 31), e2, nar_b b hb, e1]
  · rw [xsI, if_pos ⟨rfl, rfl⟩, List.length_append, List.length_singleton]
  · rcases Nat.lt_or_ge j bs.length with z | z
    · rw [List.getElem?_append_left z] at hx
      rw [xsR (by decide), xsI, if_neg (by omega)]
      exact h4 j x hx
    · rw [List.getElem?_append_right z] at hx
      have hj : j = bs.length := by have := (List.getElem?_eq_some_iff.mp hx).1; rw [List.length_singleton] at this; omega
      subst hj
      rw [Nat.sub_self] at hx
      obtain rfl : b = x := Option.some.inj hx
      rw [xsR (by decide), xsI, if_pos ⟨rfl, rfl⟩]
      exact ⟨rfl, hb⟩
