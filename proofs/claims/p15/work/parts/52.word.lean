/-! Lexer: a name into the scratch row. -/
theorem nar_b : ∀ b, b < 128 → vp_nar .byte (nI b).toInt8.toInt32 = nI b := by decide +kernel
theorem xputb_in {S : xS} {a n m b : Nat} (h : m < n) (hn : n < 2 ^ 31) (hb : b < 128) : xputb S a n (nI m) (nI b) = xsetI S a m (nI b) := by
  unfold xputb
  rw [if_neg (nI_pos (by omega)), if_neg (nI_ge h hn), nI_clamp (by omega), nar_b b hb]
def isPart (b : Nat) : Bool := lPart (nI b)
/-- so many bytes of the name have come -/
def wS (S : xS) (p : Nat) (w : List Nat) (i : Nat) : xS := (fun a b => if a = 17 ∧ b < i then nI (w.getD b 0) else if a = 1 ∧ b = 11 then nI (p + i) else S.1 a b, S.2)
theorem wS_0 {S : xS} {p : Nat} {w : List Nat} (hh : S.1 1 11 = nI p) : wS S p w 0 = S := by
  unfold wS
  refine Prod.ext ?_ rfl
  funext a b
  dsimp only
  rw [if_neg (fun h => absurd h.2 (Nat.not_lt_zero _))]
  split
  · rename_i h; rw [h.1, h.2]; exact hh.symm
  · rfl
theorem wS_s {S : xS} {p i x : Nat} {w : List Nat} (hw : w[i]? = some x) : xsetI (xsetI (wS S p w i) 17 i (nI x)) 1 11 (nI (p + i + 1)) = wS S p w (i + 1) := by
  refine Prod.ext ?_ rfl
  funext a b
  show (if a = 1 ∧ b = 11 then nI (p + i + 1) else if a = 17 ∧ b = i then nI x else if a = 17 ∧ b < i then nI (w.getD b 0) else if a = 1 ∧ b = 11 then nI (p + i) else S.1 a b) = if a = 17 ∧ b < i + 1 then nI (w.getD b 0) else if a = 1 ∧ b = 11 then nI (p + (i + 1)) else S.1 a b
  by_cases h1 : a = 17
  · subst h1
    rw [if_neg (by omega)]
    by_cases h2 : b = i
    · subst h2
      rw [if_pos ⟨rfl, rfl⟩, if_pos ⟨rfl, by omega⟩, List.getD_eq_getElem?_getD, hw]
      rfl
    · rw [if_neg (fun z => h2 z.2)]
      by_cases h3 : b < i
      · rw [if_pos ⟨rfl, h3⟩, if_pos ⟨rfl, by omega⟩]
      · rw [if_neg (fun z => h3 z.2), if_neg (by omega), if_neg (by omega), if_neg (by omega)]
  · by_cases h2 : a = 1 ∧ b = 11
    · rw [if_pos h2, if_neg (fun z => h1 z.1), if_pos h2]
      rfl
    · rw [if_neg h2, if_neg (fun z => h1 z.1), if_neg (fun z => h1 z.1), if_neg h2, if_neg (fun z => h1 z.1), if_neg h2]
theorem wS_row {S : xS} {p i a : Nat} {w : List Nat} (h1 : ¬ a = 17) (h2 : ¬ a = 1) : (wS S p w i).1 a = S.1 a := by
  funext b
  unfold wS
  dsimp only
  rw [if_neg (fun z => h1 z.1), if_neg (fun z => h2 z.1)]
theorem wS_at {S : xS} {p i b : Nat} {w : List Nat} (h2 : ¬ b = 11) : (wS S p w i).1 1 b = S.1 1 b := by
  unfold wS
  dsimp only
  rw [if_neg (fun z => absurd z.1 (by decide)), if_neg (fun z => h2 z.2)]
theorem wS_here {S : xS} {p i : Nat} {w : List Nat} : (wS S p w i).1 1 11 = nI (p + i) := by
  unfold wS
  dsimp only
  rw [if_neg (fun z => absurd z.1 (by decide)), if_pos ⟨rfl, rfl⟩]
set_option maxHeartbeats 4000000 in
set_option maxRecDepth 100000 in
theorem word_loop {d : Nat} {S : xS} {p : Nat} {w rest : List Nat} {x y : Int32} {r : xO} (h : TX S p (w ++ rest)) (hw : ∀ b ∈ w, isPart b = true) (hc : lPart (hdI rest) = false) (hl : w.length ≤ 200) :
    ∀ k i, i + k = w.length → (XL SK MT (d + 1) 127 (46, [some (.ref 1), some (.int x), some (.int (nI i)), some (.int y), some (.int (nI i))], [], wS S p w i) r ↔ XL SK MT (d + 1) 127 (103, [some (.ref 1), some (.int x), some (.int (nI w.length)), some (.int y), some (.int (nI w.length))], [], wS S p w w.length) r) := by
  intro k
  induction k with
  | zero =>
    intro i hi
    obtain rfl : i = w.length := hi
    have e1 : lpk (S.1 1 10) (S.1 13) (nI (p + w.length)) = hdI rest := TX_next h
    have h9 : ¬ (8192 : Int32) < nI w.length := Int32.not_lt.mpr (nI_le (b := 8192) (by omega) (by decide))
    rw [rX4_word_46]
    simp (config := { decide := true }) only [h9, rX4_word_0, rX4_word_1, rX4_word_2, rX4_word_5, rX4_word_6, rX4_word_8, rX4_word_11, riX4_word_12, rX4_word_12, rX4_word_13, rX4_word_16, rX4_word_17, rX4_word_18, rX4_word_21, rX4_word_22, rX4_word_23, rX4_word_24, rX4_word_25, rX4_word_28, rX4_word_31, rX4_word_34, rX4_word_37, rX4_word_38, rX4_word_41, rX4_word_42, rX4_word_43, rX4_word_44, rX4_word_48, rX4_word_51, rX4_word_54, rX4_word_55, rX4_word_56, rX4_word_59, rX4_word_62, rX4_word_65, rX4_word_68, rX4_word_69, rX4_word_72, rX4_word_73, rX4_word_74, rX4_word_75, rX4_word_78, rX4_word_81, rX4_word_84, rX4_word_87, riX4_word_88, rX4_word_88, rX4_word_89, rX4_word_92, rX4_word_93, rX4_word_94, rX4_word_97, rX4_word_100, rX4_word_104, rX4_word_107, rX4_word_108, rX4_word_110, rX4_word_113, rX4_word_114, rX4_word_115, rX4_word_118, rX4_word_121, rX4_word_122, rX4_word_123, rX4_word_126, ↓reduceIte, m1_le, m1_lt, m1_eq, ofInt_m1, ex_ret, Int32.reduceAdd, Int32.reduceSub, Int32.reduceMul, Int32.reduceLT, Int32.reduceLE, xsI, Nat.reduceEqDiff, and_false, false_and, and_true, true_and, if_true, if_false, ite_true, ite_false, xlook_0, xlook_s, xI_int, xA_ref, xJ_long, xK_some, xRow_row, xTo_some, xst1, xclr, List.set_cons_zero, List.set_cons_succ, xsum_nil, xsum_int, xsum_ref, xsum_long, Option.toList_some, Option.toList_none, List.nil_append, List.cons_append, s_peek, s_isNamePart, wS_row, wS_at, wS_here, e1, hc, xb01]
  | succ k ih =>
    intro i hi
    have hlt : i < w.length := by omega
    have hx : w[i]? = some w[i] := List.getElem?_eq_getElem hlt
    have hx2 : (w ++ rest)[i]? = some w[i] := by rw [List.getElem?_append_left hlt]; exact hx
    have e1 : lpk (S.1 1 10) (S.1 13) (nI (p + i)) = nI w[i] := TX_peek h hx2
    have hb : w[i] < 128 := (h.1 i w[i] hx2).2
    have h9 : ¬ (8192 : Int32) < nI i := Int32.not_lt.mpr (nI_le (b := 8192) (by omega) (by decide))
    have hp : lPart (nI w[i]) = true := hw _ (List.getElem_mem hlt)
    rw [rX4_word_46]
    simp (config := { decide := true }) only [h9, rX4_word_0, rX4_word_1, rX4_word_2, rX4_word_5, rX4_word_6, rX4_word_8, rX4_word_11, riX4_word_12, rX4_word_12, rX4_word_13, rX4_word_16, rX4_word_17, rX4_word_18, rX4_word_21, rX4_word_22, rX4_word_23, rX4_word_24, rX4_word_25, rX4_word_28, rX4_word_31, rX4_word_34, rX4_word_37, rX4_word_38, rX4_word_41, rX4_word_42, rX4_word_43, rX4_word_44, rX4_word_48, rX4_word_51, rX4_word_54, rX4_word_55, rX4_word_56, rX4_word_59, rX4_word_62, rX4_word_65, rX4_word_68, rX4_word_69, rX4_word_72, rX4_word_73, rX4_word_74, rX4_word_75, rX4_word_78, rX4_word_81, rX4_word_84, rX4_word_87, riX4_word_88, rX4_word_88, rX4_word_89, rX4_word_92, rX4_word_93, rX4_word_94, rX4_word_97, rX4_word_100, rX4_word_104, rX4_word_107, rX4_word_108, rX4_word_110, rX4_word_113, rX4_word_114, rX4_word_115, rX4_word_118, rX4_word_121, rX4_word_122, rX4_word_123, rX4_word_126, ↓reduceIte, m1_le, m1_lt, m1_eq, ofInt_m1, ex_ret, Int32.reduceAdd, Int32.reduceSub, Int32.reduceMul, Int32.reduceLT, Int32.reduceLE, xsI, Nat.reduceEqDiff, and_false, false_and, and_true, true_and, if_true, if_false, ite_true, ite_false, xlook_0, xlook_s, xI_int, xA_ref, xJ_long, xK_some, xRow_row, xTo_some, xst1, xclr, List.set_cons_zero, List.set_cons_succ, xsum_nil, xsum_int, xsum_ref, xsum_long, Option.toList_some, Option.toList_none, List.nil_append, List.cons_append, s_peek, s_isNamePart, wS_row, wS_at, wS_here, e1, hp, xb01, s_putByte (show SK[17]? = some (.inl (1, 201)) from rfl) (by decide : 201 < 2 ^ 31), xputb_in (show i < 201 by omega) (by decide : 201 < 2 ^ 31) hb, nI_1]
    rw [← ih (i + 1) (by omega), wS_s hx]
