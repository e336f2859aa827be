/-! Parser: marks. -/
theorem xat_in {S : xS} {a n m : Nat} (h : m < n) (hn : n < 2 ^ 31) : xat S a n (nI m) = S.1 a m := by
  unfold xat
  rw [if_neg (nI_pos (by omega)), if_neg (nI_ge h hn), nI_clamp (by omega)]
theorem xput_in {S : xS} {a n m : Nat} {v : Int32} (h : m < n) (hn : n < 2 ^ 31) : xput S a n (nI m) v = xsetI S a m v := by
  unfold xput
  rw [if_neg (nI_pos (by omega)), if_neg (nI_ge h hn), nI_clamp (by omega)]
def pAdd (S : xS) (m : Nat) (kind say place : Int32) : xS := xsetI (xsetI (xsetI (xsetI (xsetI (xsetI S 22 m kind) 23 m say) 24 m place) 25 m (-1)) 26 m (-1)) 2 5 (nI (m + 1))
theorem s_add {d m : Nat} {S : xS} {a b c : Int32} (hm : S.1 2 5 = nI m) (h : m < 10240) : XC SK MT (d + 2) 183 [.ref 2, .int a, .int b, .int c] S = some (some (.int (nI m)), pAdd S m a b c) := by
  rw [XC_iff]
  refine ⟨Nat.le_of_ble_eq_true rfl, ?_⟩
  show XL SK MT (d + 1) 183 (0, [some (.ref 2), some (.int a), some (.int b), some (.int c), none], [], S) _
  have h1 : nI m < (10240 : Int32) := nI_lt (b := 10240) h (by decide)
  simp only [rX7_add_0, rX7_add_1, rX7_add_4, rX7_add_6, rX7_add_8, rX7_add_11, rX7_add_14, rX7_add_16, rX7_add_17, rX7_add_18, rX7_add_21, rX7_add_23, rX7_add_24, rX7_add_27, rX7_add_28, rX7_add_31, rX7_add_33, rX7_add_34, rX7_add_37, rX7_add_38, rX7_add_41, rX7_add_43, rX7_add_44, rX7_add_47, rX7_add_48, rX7_add_51, rX7_add_53, rX7_add_54, rX7_add_57, rX7_add_58, rX7_add_61, rX7_add_63, rX7_add_64, rX7_add_67, riX7_add_68, rX7_add_68, rX7_add_69, rX7_add_72, rX7_add_73, rX7_add_74, rX7_add_77, rX7_add_79, ↓reduceIte, m1_le, m1_lt, m1_eq, ofInt_m1, ex_ret, Int32.reduceAdd, Int32.reduceSub, Int32.reduceMul, Int32.reduceLT, Int32.reduceLE, xsI, Nat.reduceEqDiff, and_false, false_and, and_true, true_and, if_true, if_false, ite_true, ite_false, xlook_0, xlook_s, xI_int, xA_ref, xJ_long, xK_some, xRow_row, xTo_some, xst1, xclr, List.set_cons_zero, List.set_cons_succ, xsum_nil, xsum_int, xsum_ref, xsum_long, Option.toList_some, Option.toList_none, List.nil_append, List.cons_append, hm, h1, s_put (show SK[22]? = some (.inl (0, 10240)) from rfl) (by decide : 10240 < 2 ^ 31), s_put (show SK[23]? = some (.inl (0, 10240)) from rfl) (by decide : 10240 < 2 ^ 31), s_put (show SK[24]? = some (.inl (0, 10240)) from rfl) (by decide : 10240 < 2 ^ 31), s_put (show SK[25]? = some (.inl (0, 10240)) from rfl) (by decide : 10240 < 2 ^ 31), s_put (show SK[26]? = some (.inl (0, 10240)) from rfl) (by decide : 10240 < 2 ^ 31), xput_in h (by decide : 10240 < 2 ^ 31), nI_1]
  rfl
