/-! XF over the little skeleton: rows, then what is proved of them. -/
def soX4_init (pc : Nat) : Bool := pc == 91 || pc == 153
theorem zhX4_init_63 {d : Nat} {lv : xLV} {st : List Value} {S : xS} {r : xF} : XH skL MT d 333 soX4_init (63, lv, st, S) r ↔ XH skL MT d 333 soX4_init (64, lv, .int 0 :: st, S) r := H_pure rfl rfl rfl rfl
theorem zhX4_init_64 {d : Nat} {lv : xLV} {st : List Value} {S : xS} {r : xF} {x : Int32} : XH skL MT d 333 soX4_init (64, lv, .int x :: st, S) r ↔ XH skL MT d 333 soX4_init (65, xst1 lv 2 (.int x), st, S) r := H_pure rfl rfl rfl rfl
theorem zhX4_init_65 {d : Nat} {lv : xLV} {st : List Value} {S : xS} {r : xF} : XH skL MT d 333 soX4_init (65, lv, st, S) r ↔ xI (xlook lv 2) (fun x => XH skL MT d 333 soX4_init (66, lv, .int x :: st, S) r) := H_ldI rfl rfl rfl (fun _ => rfl) rfl rfl rfl rfl
theorem zhX4_init_66 {d : Nat} {lv : xLV} {st : List Value} {S : xS} {r : xF} : XH skL MT d 333 soX4_init (66, lv, st, S) r ↔ XH skL MT d 333 soX4_init (69, lv, .int 512 :: st, S) r := H_pure rfl rfl rfl rfl
theorem zhX4_init_69 {d : Nat} {lv : xLV} {st : List Value} {S : xS} {r : xF} {x z : Int32} : XH skL MT d 333 soX4_init (69, lv, .int z :: .int x :: st, S) r ↔ if z ≤ x then XH skL MT d 333 soX4_init (87, lv, st, S) r else XH skL MT d 333 soX4_init (72, lv, st, S) r := (H_icmp rfl rfl rfl).trans xc_ge
theorem zhX4_init_72 {d : Nat} {lv : xLV} {st : List Value} {S : xS} {r : xF} : XH skL MT d 333 soX4_init (72, lv, st, S) r ↔ xA (xlook lv 0) (fun x => XH skL MT d 333 soX4_init (73, lv, .ref x :: st, S) r) := H_ldA rfl rfl rfl (fun _ => rfl) rfl rfl rfl rfl
theorem zhX4_init_73 {d : Nat} {lv : xLV} {st : List Value} {S : xS} {r : xF} : XH skL MT d 333 soX4_init (73, lv, .ref 0 :: st, S) r ↔ XH skL MT d 333 soX4_init (76, lv, .ref 5 :: st, S) r := H_heap rfl rfl rfl rfl rfl rfl
theorem zhX4_init_76 {d : Nat} {lv : xLV} {st : List Value} {S : xS} {r : xF} : XH skL MT d 333 soX4_init (76, lv, st, S) r ↔ xI (xlook lv 2) (fun x => XH skL MT d 333 soX4_init (77, lv, .int x :: st, S) r) := H_ldI rfl rfl rfl (fun _ => rfl) rfl rfl rfl rfl
theorem zhX4_init_77 {d : Nat} {lv : xLV} {st : List Value} {S : xS} {r : xF} : XH skL MT d 333 soX4_init (77, lv, st, S) r ↔ XH skL MT d 333 soX4_init (78, lv, .int (-1) :: st, S) r := H_pure rfl rfl rfl rfl
theorem zhX4_init_78 {d : Nat} {lv : xLV} {S : xS} {r : xF} {x1 : Nat} {x2 : Int32} {x3 : Int32} : XH skL MT d 333 soX4_init (78, lv, [.int x3, .int x2, .ref x1], S) r ↔ xK (XC skL MT d 304 [.ref x1, .int x2, .int x3] S) (fun v S => XH skL MT d 333 soX4_init (81, lv, v.toList ++ [], S) r) := H_inv rfl (n := 3) (kd := 1) (st0 := [.int x3, .int x2, .ref x1]) rfl (Or.inl ⟨rfl, rfl⟩) rfl (Nat.le_of_ble_eq_true rfl) (Nat.le_of_ble_eq_true rfl) (by decide) rfl
theorem zhX4_init_81 {d : Nat} {lv : xLV} {st : List Value} {S : xS} {r : xF} : XH skL MT d 333 soX4_init (81, lv, st, S) r ↔ xI (xlook lv 2) (fun x => XH skL MT d 333 soX4_init (84, xst1 lv 2 (.int (x + 1)), st, S) r) := H_inc rfl (i := 2) (n := 1) rfl (Nat.le_of_ble_eq_true rfl)
theorem zhX4_init_84 {d : Nat} {lv : xLV} {st : List Value} {S : xS} {r : xF} : XH skL MT d 333 soX4_init (84, lv, st, S) r ↔ XH skL MT d 333 soX4_init (65, lv, st, S) r := H_jump rfl rfl rfl rfl
theorem zhX4_init_87 {d : Nat} {lv : xLV} {st : List Value} {S : xS} {r : xF} : XH skL MT d 333 soX4_init (87, lv, st, S) r ↔ XH skL MT d 333 soX4_init (88, lv, .int 0 :: st, S) r := H_pure rfl rfl rfl rfl
theorem zhX4_init_88 {d : Nat} {lv : xLV} {st : List Value} {S : xS} {r : xF} {x : Int32} : XH skL MT d 333 soX4_init (88, lv, .int x :: st, S) r ↔ XH skL MT d 333 soX4_init (89, xst1 lv 2 (.int x), st, S) r := H_pure rfl rfl rfl rfl
theorem zhX4_init_89 {d : Nat} {lv : xLV} {st : List Value} {S : xS} {r : xF} : XH skL MT d 333 soX4_init (89, lv, st, S) r ↔ XH skL MT d 333 soX4_init (90, lv, .int 0 :: st, S) r := H_pure rfl rfl rfl rfl
theorem zhX4_init_90 {d : Nat} {lv : xLV} {st : List Value} {S : xS} {r : xF} {x : Int32} : XH skL MT d 333 soX4_init (90, lv, .int x :: st, S) r ↔ XH skL MT d 333 soX4_init (91, xst1 lv 3 (.int x), st, S) r := H_pure rfl rfl rfl rfl
theorem zhX4_init_97 {d : Nat} {lv : xLV} {st : List Value} {S : xS} {r : xF} {x z : Int32} : XH skL MT d 333 soX4_init (97, lv, .int z :: .int x :: st, S) r ↔ if z ≤ x then XH skL MT d 333 soX4_init (145, lv, st, S) r else XH skL MT d 333 soX4_init (100, lv, st, S) r := (H_icmp rfl rfl rfl).trans xc_ge
theorem zhX4_init_102 {d : Nat} {lv : xLV} {st : List Value} {S : xS} {r : xF} : XH skL MT d 333 soX4_init (102, lv, st, S) r ↔ xI (xlook lv 3) (fun x => XH skL MT d 333 soX4_init (103, lv, .int x :: st, S) r) := H_ldI rfl rfl rfl (fun _ => rfl) rfl rfl rfl rfl
theorem zhX4_init_106 {d : Nat} {lv : xLV} {st : List Value} {S : xS} {r : xF} {x : Int32} : XH skL MT d 333 soX4_init (106, lv, .int x :: st, S) r ↔ XH skL MT d 333 soX4_init (108, xst1 lv 4 (.int x), st, S) r := H_pure rfl rfl rfl rfl
theorem zhX4_init_108 {d : Nat} {lv : xLV} {st : List Value} {S : xS} {r : xF} : XH skL MT d 333 soX4_init (108, lv, st, S) r ↔ xI (xlook lv 4) (fun x => XH skL MT d 333 soX4_init (110, lv, .int x :: st, S) r) := H_ldI rfl rfl rfl (fun _ => rfl) rfl rfl rfl rfl
theorem zhX4_init_110 {d : Nat} {lv : xLV} {st : List Value} {S : xS} {r : xF} : XH skL MT d 333 soX4_init (110, lv, st, S) r ↔ XH skL MT d 333 soX4_init (112, lv, .int 32 :: st, S) r := H_pure rfl rfl rfl rfl
theorem zhX4_init_112 {d : Nat} {lv : xLV} {st : List Value} {S : xS} {r : xF} {x z : Int32} : XH skL MT d 333 soX4_init (112, lv, .int z :: .int x :: st, S) r ↔ if x = z then XH skL MT d 333 soX4_init (131, lv, st, S) r else XH skL MT d 333 soX4_init (115, lv, st, S) r := (H_icmp rfl rfl rfl).trans xc_eq
theorem zhX4_init_115 {d : Nat} {lv : xLV} {st : List Value} {S : xS} {r : xF} : XH skL MT d 333 soX4_init (115, lv, st, S) r ↔ xA (xlook lv 0) (fun x => XH skL MT d 333 soX4_init (116, lv, .ref x :: st, S) r) := H_ldA rfl rfl rfl (fun _ => rfl) rfl rfl rfl rfl
theorem zhX4_init_116 {d : Nat} {lv : xLV} {st : List Value} {S : xS} {r : xF} : XH skL MT d 333 soX4_init (116, lv, .ref 0 :: st, S) r ↔ XH skL MT d 333 soX4_init (119, lv, .ref 2 :: st, S) r := H_heap rfl rfl rfl rfl rfl rfl
theorem zhX4_init_119 {d : Nat} {lv : xLV} {st : List Value} {S : xS} {r : xF} : XH skL MT d 333 soX4_init (119, lv, st, S) r ↔ xI (xlook lv 2) (fun x => XH skL MT d 333 soX4_init (120, lv, .int x :: st, S) r) := H_ldI rfl rfl rfl (fun _ => rfl) rfl rfl rfl rfl
theorem zhX4_init_120 {d : Nat} {lv : xLV} {st : List Value} {S : xS} {r : xF} : XH skL MT d 333 soX4_init (120, lv, st, S) r ↔ xI (xlook lv 2) (fun x => XH skL MT d 333 soX4_init (123, xst1 lv 2 (.int (x + 1)), st, S) r) := H_inc rfl (i := 2) (n := 1) rfl (Nat.le_of_ble_eq_true rfl)
theorem zhX4_init_123 {d : Nat} {lv : xLV} {st : List Value} {S : xS} {r : xF} : XH skL MT d 333 soX4_init (123, lv, st, S) r ↔ xI (xlook lv 4) (fun x => XH skL MT d 333 soX4_init (125, lv, .int x :: st, S) r) := H_ldI rfl rfl rfl (fun _ => rfl) rfl rfl rfl rfl
theorem zhX4_init_125 {d : Nat} {lv : xLV} {S : xS} {r : xF} {x1 : Nat} {x2 : Int32} {x3 : Int32} : XH skL MT d 333 soX4_init (125, lv, [.int x3, .int x2, .ref x1], S) r ↔ xK (XC skL MT d 306 [.ref x1, .int x2, .int x3] S) (fun v S => XH skL MT d 333 soX4_init (128, lv, v.toList ++ [], S) r) := H_inv rfl (n := 3) (kd := 1) (st0 := [.int x3, .int x2, .ref x1]) rfl (Or.inl ⟨rfl, rfl⟩) rfl (Nat.le_of_ble_eq_true rfl) (Nat.le_of_ble_eq_true rfl) (by decide) rfl
theorem zhX4_init_128 {d : Nat} {lv : xLV} {st : List Value} {S : xS} {r : xF} : XH skL MT d 333 soX4_init (128, lv, st, S) r ↔ XH skL MT d 333 soX4_init (139, lv, st, S) r := H_jump rfl rfl rfl rfl
theorem zhX4_init_131 {d : Nat} {lv : xLV} {st : List Value} {S : xS} {r : xF} : XH skL MT d 333 soX4_init (131, lv, st, S) r ↔ xA (xlook lv 0) (fun x => XH skL MT d 333 soX4_init (132, lv, .ref x :: st, S) r) := H_ldA rfl rfl rfl (fun _ => rfl) rfl rfl rfl rfl
theorem zhX4_init_132 {d : Nat} {lv : xLV} {st : List Value} {S : xS} {r : xF} : XH skL MT d 333 soX4_init (132, lv, st, S) r ↔ xI (xlook lv 2) (fun x => XH skL MT d 333 soX4_init (133, lv, .int x :: st, S) r) := H_ldI rfl rfl rfl (fun _ => rfl) rfl rfl rfl rfl
theorem zhX4_init_133 {d : Nat} {lv : xLV} {S : xS} {r : xF} {x1 : Int32} : XH skL MT d 333 soX4_init (133, lv, [.int x1, .ref 0], S) r ↔ xK (XC skL MT d 119 [.ref 0, .int x1] S) (fun v S => XH skL MT d 333 soX4_init (136, lv, v.toList ++ [], S) r) := H_inv rfl (n := 2) (kd := 6) (st0 := [.int x1, .ref 0]) rfl (Or.inr ⟨rfl, rfl⟩) rfl (Nat.le_of_ble_eq_true rfl) (Nat.le_of_ble_eq_true rfl) (by decide) rfl
theorem zhX4_init_136 {d : Nat} {lv : xLV} {st : List Value} {S : xS} {r : xF} {x : Int32} : XH skL MT d 333 soX4_init (136, lv, .int x :: st, S) r ↔ XH skL MT d 333 soX4_init (137, lv, st, S) r := H_pure rfl rfl rfl rfl
theorem zhX4_init_137 {d : Nat} {lv : xLV} {st : List Value} {S : xS} {r : xF} : XH skL MT d 333 soX4_init (137, lv, st, S) r ↔ XH skL MT d 333 soX4_init (138, lv, .int 0 :: st, S) r := H_pure rfl rfl rfl rfl
theorem zhX4_init_138 {d : Nat} {lv : xLV} {st : List Value} {S : xS} {r : xF} {x : Int32} : XH skL MT d 333 soX4_init (138, lv, .int x :: st, S) r ↔ XH skL MT d 333 soX4_init (139, xst1 lv 2 (.int x), st, S) r := H_pure rfl rfl rfl rfl
theorem zhX4_init_139 {d : Nat} {lv : xLV} {st : List Value} {S : xS} {r : xF} : XH skL MT d 333 soX4_init (139, lv, st, S) r ↔ xI (xlook lv 3) (fun x => XH skL MT d 333 soX4_init (142, xst1 lv 3 (.int (x + 1)), st, S) r) := H_inc rfl (i := 3) (n := 1) rfl (Nat.le_of_ble_eq_true rfl)
theorem zhX4_init_142 {d : Nat} {lv : xLV} {st : List Value} {S : xS} {r : xF} : XH skL MT d 333 soX4_init (142, lv, st, S) r ↔ XH skL MT d 333 soX4_init (91, lv, st, S) r := H_jump rfl rfl rfl rfl
theorem zhX4_init_145 {d : Nat} {lv : xLV} {st : List Value} {S : xS} {r : xF} : XH skL MT d 333 soX4_init (145, lv, st, S) r ↔ xA (xlook lv 0) (fun x => XH skL MT d 333 soX4_init (146, lv, .ref x :: st, S) r) := H_ldA rfl rfl rfl (fun _ => rfl) rfl rfl rfl rfl
theorem zhX4_init_146 {d : Nat} {lv : xLV} {st : List Value} {S : xS} {r : xF} : XH skL MT d 333 soX4_init (146, lv, st, S) r ↔ xA (xlook lv 0) (fun x => XH skL MT d 333 soX4_init (147, lv, .ref x :: st, S) r) := H_ldA rfl rfl rfl (fun _ => rfl) rfl rfl rfl rfl
theorem zhX4_init_147 {d : Nat} {lv : xLV} {st : List Value} {S : xS} {r : xF} : XH skL MT d 333 soX4_init (147, lv, .ref 0 :: st, S) r ↔ XH skL MT d 333 soX4_init (150, lv, .int (S.1 0 8) :: st, S) r := H_heap rfl rfl rfl rfl rfl rfl
theorem zhX4_init_150 {d : Nat} {lv : xLV} {st : List Value} {S : xS} {r : xF} {x : Int32} : XH skL MT d 333 soX4_init (150, lv, .int x :: .ref 0 :: st, S) r ↔ XH skL MT d 333 soX4_init (153, lv, st, (xsetI S 0 9 x)) r := H_heap rfl rfl rfl rfl rfl rfl
theorem zhX4_init_91 {d : Nat} {lv : xLV} {st : List Value} {S : xS} {r : xF} : XH skL MT d 333 soX4_init (91, lv, st, S) r ↔ (91, lv, st, S) = r := H_at rfl
theorem zhX4_init_153 {d : Nat} {lv : xLV} {st : List Value} {S : xS} {r : xF} : XH skL MT d 333 soX4_init (153, lv, st, S) r ↔ (153, lv, st, S) = r := H_at rfl

/-! The Lexer's constructor: the known names are put in. -/
/-- the known names as they are written -/
def kT : List Nat := [97, 110, 100, 32, 97, 110, 100, 97, 108, 115, 111, 32, 97, 115, 32, 99, 97, 115, 101, 32, 100, 97, 116, 97, 116, 121, 112, 101, 32, 100, 105, 118, 32, 100, 111, 32, 101, 108, 115, 101, 32, 101, 110, 100, 32, 101, 120, 99, 101, 112, 116, 105, 111, 110, 32, 102, 110, 32, 102, 117, 110, 32, 104, 97, 110, 100, 108, 101, 32, 105, 102, 32, 105, 110, 32, 108, 101, 116, 32, 109, 111, 100, 32, 111, 102, 32, 111, 114, 101, 108, 115, 101, 32, 114, 97, 105, 115, 101, 32, 114, 101, 99, 32, 114, 101, 102, 32, 116, 104, 101, 110, 32, 118, 97, 108, 32, 119, 104, 105, 108, 101, 32, 105, 110, 116, 32, 98, 111, 111, 108, 32, 117, 110, 105, 116, 32, 115, 116, 114, 105, 110, 103, 32, 101, 120, 110, 32, 108, 105, 115, 116, 32, 116, 114, 117, 101, 32, 102, 97, 108, 115, 101, 32, 110, 105, 108, 32, 58, 58, 32, 77, 97, 116, 99, 104, 32, 66, 105, 110, 100, 32, 68, 105, 118, 32, 83, 117, 98, 115, 99, 114, 105, 112, 116, 32, 67, 104, 114, 32, 126, 32, 33, 32, 110, 111, 116, 32, 112, 114, 105, 110, 116, 32, 112, 117, 116, 32, 115, 116, 114, 32, 99, 104, 114, 32, 115, 105, 122, 101, 32, 115, 117, 98, 32, 103, 105, 118, 101, 110, 32, 109, 97, 110, 121, 32]
def kStep (s : List (List Nat) × List Nat) (b : Nat) : List (List Nat) × List Nat := if b = 32 then (s.1 ++ [s.2], []) else (s.1, s.2 ++ [b])
def kSt (k : Nat) : List (List Nat) × List Nat := (kT.take k).foldl kStep ([], [])
theorem kSt_s {k b : Nat} (h : kT[k]? = some b) : kSt (k + 1) = kStep (kSt k) b := by
  unfold kSt
  rw [List.take_succ, h, List.foldl_append]
  rfl
theorem kT_len : kT.length = 245 := by decide +kernel
theorem kT_b : ∀ b ∈ kT, b < 128 := by decide +kernel
theorem kSt_ok : ∀ k, k < 245 → ((kSt k).2.length ≤ 30 ∧ (kSt k).1.length ≤ 60 ∧ (kSt k).1.flatten.length ≤ 300 ∧ ∀ m, m < (kSt k).1.length → kT.getD k 0 = 32 → ¬ (kSt k).1.getD m [] = (kSt k).2) ∧ ∀ b ∈ (kSt k).2, b < 128 := by decide +kernel
/-- the table and the word that is under way -/
def LI (S : xS) (s : List (List Nat) × List Nat) : Prop := NmT S s.1 ∧ zScr S s.2
/-- the heads filled, so many -/
def fiS (S : xS) (k : Nat) : xS := (fun a b => if a = 5 ∧ b < k then -1 else S.1 a b, S.2)
theorem fiS_0 {S : xS} : fiS S 0 = S := by
  unfold fiS
  refine Prod.ext ?_ rfl
  funext a b
  dsimp only
  rw [if_neg (fun z => absurd z.2 (Nat.not_lt_zero _))]
theorem fiS_s {S : xS} {k : Nat} : xsetI (fiS S k) 5 k (-1) = fiS S (k + 1) := by
  refine Prod.ext ?_ rfl
  funext a b
  show (if a = 5 ∧ b = k then -1 else if a = 5 ∧ b < k then -1 else S.1 a b) = if a = 5 ∧ b < k + 1 then -1 else S.1 a b
  by_cases h : a = 5
  · by_cases h2 : b = k
    · rw [if_pos ⟨h, h2⟩, if_pos ⟨h, by omega⟩]
    · rw [if_neg (fun z => h2 z.2)]
      by_cases h3 : b < k
      · rw [if_pos ⟨h, h3⟩, if_pos ⟨h, by omega⟩]
      · rw [if_neg (fun z => h3 z.2), if_neg (fun z => h3 (by have := z.2; omega))]
  · rw [if_neg (fun z => h z.1), if_neg (fun z => h z.1), if_neg (fun z => h z.1)]
set_option maxHeartbeats 8000000 in
set_option maxRecDepth 100000 in
theorem zfill {d : Nat} {S : xS} {p3 p4 : Option Value} {r : xF} : ∀ m k, k + m = 512 → (XH skL MT (d + 1) 333 soX4_init (65, [some (.ref 0), some (.ref 7), some (.int (nI k)), p3, p4], [], fiS S k) r ↔ XH skL MT (d + 1) 333 soX4_init (87, [some (.ref 0), some (.ref 7), some (.int (nI 512)), p3, p4], [], fiS S 512) r) := by
  intro m
  induction m with
  | zero =>
    intro k hk
    obtain rfl : k = 512 := hk
    rw [zhX4_init_65, show nI 512 = (512 : Int32) from rfl]
    simp (config := { decide := true }) only [zhX4_init_63, zhX4_init_64, zhX4_init_66, zhX4_init_69, zhX4_init_72, zhX4_init_73, zhX4_init_76, zhX4_init_77, zhX4_init_78, zhX4_init_81, zhX4_init_84, zhX4_init_88, zhX4_init_89, zhX4_init_90, zhX4_init_97, zhX4_init_102, zhX4_init_106, zhX4_init_108, zhX4_init_110, zhX4_init_112, zhX4_init_115, zhX4_init_116, zhX4_init_119, zhX4_init_120, zhX4_init_123, zhX4_init_125, zhX4_init_128, zhX4_init_131, zhX4_init_132, zhX4_init_133, zhX4_init_136, zhX4_init_137, zhX4_init_138, zhX4_init_139, zhX4_init_142, zhX4_init_145, zhX4_init_146, zhX4_init_147, zhX4_init_150, zhX4_init_91, zhX4_init_153, ↓reduceIte, m1_le, m1_lt, m1_eq, ofInt_m1, ex_ret, Int32.reduceAdd, Int32.reduceSub, Int32.reduceMul, Int32.reduceLT, Int32.reduceLE, xsI, Nat.reduceEqDiff, and_false, false_and, and_true, true_and, if_true, if_false, ite_true, ite_false, xlook_0, xlook_s, xI_int, xA_ref, xJ_long, xK_some, xRow_row, xTo_some, xst1, xclr, List.set_cons_zero, List.set_cons_succ, xsum_nil, xsum_int, xsum_ref, xsum_long, Option.toList_some, Option.toList_none, List.nil_append, List.cons_append, Int32.le_refl]
  | succ m ih =>
    intro k hk
    have h1 : ¬ 512 ≤ nI k := nI_ge (b := 512) (by omega) (by decide)
    rw [← ih (k + 1) (by omega), ← fiS_s, zhX4_init_65]
    simp (config := { decide := true }) only [zhX4_init_63, zhX4_init_64, zhX4_init_66, zhX4_init_69, zhX4_init_72, zhX4_init_73, zhX4_init_76, zhX4_init_77, zhX4_init_78, zhX4_init_81, zhX4_init_84, zhX4_init_88, zhX4_init_89, zhX4_init_90, zhX4_init_97, zhX4_init_102, zhX4_init_106, zhX4_init_108, zhX4_init_110, zhX4_init_112, zhX4_init_115, zhX4_init_116, zhX4_init_119, zhX4_init_120, zhX4_init_123, zhX4_init_125, zhX4_init_128, zhX4_init_131, zhX4_init_132, zhX4_init_133, zhX4_init_136, zhX4_init_137, zhX4_init_138, zhX4_init_139, zhX4_init_142, zhX4_init_145, zhX4_init_146, zhX4_init_147, zhX4_init_150, zhX4_init_91, zhX4_init_153, ↓reduceIte, m1_le, m1_lt, m1_eq, ofInt_m1, ex_ret, Int32.reduceAdd, Int32.reduceSub, Int32.reduceMul, Int32.reduceLT, Int32.reduceLE, xsI, Nat.reduceEqDiff, and_false, false_and, and_true, true_and, if_true, if_false, ite_true, ite_false, xlook_0, xlook_s, xI_int, xA_ref, xJ_long, xK_some, xRow_row, xTo_some, xst1, xclr, List.set_cons_zero, List.set_cons_succ, xsum_nil, xsum_int, xsum_ref, xsum_long, Option.toList_some, Option.toList_none, List.nil_append, List.cons_append, h1, zs_put (show skL[5]? = some (.inl (0, 512)) from rfl) (by decide : 512 < 2 ^ 31), xput_in (show k < 512 by omega) (by decide : 512 < 2 ^ 31), nI_1]
set_option maxHeartbeats 8000000 in
set_option maxRecDepth 100000 in
theorem z_fill {d : Nat} {S : xS} : XH skL MT (d + 1) 333 soX4_init (63, [some (.ref 0), some (.ref 7), none, none, none], [], S) (91, [some (.ref 0), some (.ref 7), some (.int (nI 0)), some (.int (nI 0)), none], [], fiS S 512) := by
  have e := zfill (d := d) (S := S) (p3 := none) (p4 := none) (r := (91, [some (.ref 0), some (.ref 7), some (.int (nI 0)), some (.int (nI 0)), none], [], fiS S 512)) 512 0 rfl
  rw [fiS_0] at e
  have z0 : (0 : Int32) = nI 0 := rfl
  simp (config := { decide := true }) only [zhX4_init_63, zhX4_init_64, zhX4_init_66, zhX4_init_69, zhX4_init_72, zhX4_init_73, zhX4_init_76, zhX4_init_77, zhX4_init_78, zhX4_init_81, zhX4_init_84, zhX4_init_88, zhX4_init_89, zhX4_init_90, zhX4_init_97, zhX4_init_102, zhX4_init_106, zhX4_init_108, zhX4_init_110, zhX4_init_112, zhX4_init_115, zhX4_init_116, zhX4_init_119, zhX4_init_120, zhX4_init_123, zhX4_init_125, zhX4_init_128, zhX4_init_131, zhX4_init_132, zhX4_init_133, zhX4_init_136, zhX4_init_137, zhX4_init_138, zhX4_init_139, zhX4_init_142, zhX4_init_145, zhX4_init_146, zhX4_init_147, zhX4_init_150, zhX4_init_153, ↓reduceIte, m1_le, m1_lt, m1_eq, ofInt_m1, ex_ret, Int32.reduceAdd, Int32.reduceSub, Int32.reduceMul, Int32.reduceLT, Int32.reduceLE, xsI, Nat.reduceEqDiff, and_false, false_and, and_true, true_and, if_true, if_false, ite_true, ite_false, xlook_0, xlook_s, xI_int, xA_ref, xJ_long, xK_some, xRow_row, xTo_some, xst1, xclr, List.set_cons_zero, List.set_cons_succ, xsum_nil, xsum_int, xsum_ref, xsum_long, Option.toList_some, Option.toList_none, List.nil_append, List.cons_append]
  rw [z0]
  refine e.mpr ?_
  rw [zhX4_init_87]
  simp (config := { decide := true }) only [zhX4_init_63, zhX4_init_64, zhX4_init_66, zhX4_init_69, zhX4_init_72, zhX4_init_73, zhX4_init_76, zhX4_init_77, zhX4_init_78, zhX4_init_81, zhX4_init_84, zhX4_init_88, zhX4_init_89, zhX4_init_90, zhX4_init_97, zhX4_init_102, zhX4_init_106, zhX4_init_108, zhX4_init_110, zhX4_init_112, zhX4_init_115, zhX4_init_116, zhX4_init_119, zhX4_init_120, zhX4_init_123, zhX4_init_125, zhX4_init_128, zhX4_init_131, zhX4_init_132, zhX4_init_133, zhX4_init_136, zhX4_init_137, zhX4_init_138, zhX4_init_139, zhX4_init_142, zhX4_init_145, zhX4_init_146, zhX4_init_147, zhX4_init_150, zhX4_init_153, ↓reduceIte, m1_le, m1_lt, m1_eq, ofInt_m1, ex_ret, Int32.reduceAdd, Int32.reduceSub, Int32.reduceMul, Int32.reduceLT, Int32.reduceLE, xsI, Nat.reduceEqDiff, and_false, false_and, and_true, true_and, if_true, if_false, ite_true, ite_false, xlook_0, xlook_s, xI_int, xA_ref, xJ_long, xK_some, xRow_row, xTo_some, xst1, xclr, List.set_cons_zero, List.set_cons_succ, xsum_nil, xsum_int, xsum_ref, xsum_long, Option.toList_some, Option.toList_none, List.nil_append, List.cons_append]
  exact (H_at rfl).mpr rfl
theorem LI_0 {S : xS} (h : ∀ a b, S.1 a b = 0) : LI (fiS S 512) ([], []) := by
  refine ⟨⟨?_, ?_, fun j b hj => (by cases hj), fun m hm => absurd hm (Nat.not_lt_zero _), fun q hq => ?_⟩, fun j b hj => (by cases hj)⟩
  · show (if 0 = 5 ∧ 7 < 512 then (-1 : Int32) else S.1 0 7) = _
    rw [if_neg (by omega), h]; rfl
  · show (if 0 = 5 ∧ 8 < 512 then (-1 : Int32) else S.1 0 8) = _
    rw [if_neg (by omega), h]; rfl
  · show (if 5 = 5 ∧ q < 512 then (-1 : Int32) else S.1 5 q) = encO none
    rw [if_pos ⟨rfl, hq⟩]; rfl
set_option maxHeartbeats 8000000 in
set_option maxRecDepth 100000 in
/-- one sign of the known names -/
theorem z_sign {d k b : Nat} {S : xS} {p4 : Option Value} (hk : k < 245) (hb : kT[k]? = some b) (h : LI S (kSt k)) : ∃ S' p4', LI S' (kSt (k + 1)) ∧ S'.2 = S.2 ∧ XH skL MT (d + 2) 333 soX4_init (106, [some (.ref 0), some (.ref 7), some (.int (nI (kSt k).2.length)), some (.int (nI k)), p4], [.int (nI b)], S) (91, [some (.ref 0), some (.ref 7), some (.int (nI (kSt (k + 1)).2.length)), some (.int (nI (k + 1))), p4'], [], S') := by
  obtain ⟨⟨o1, o2, o3, o4⟩, o5⟩ := kSt_ok k hk
  obtain ⟨hT, hs⟩ := h
  have hg : kT.getD k 0 = b := by rw [List.getD_eq_getElem?_getD, hb]; rfl
  have hlt : b < 128 := kT_b b (List.mem_of_getElem? hb)
  rw [hg] at o4
  rw [kSt_s hb]
  unfold kStep
  by_cases h32 : b = 32
  · subst h32
    have e := z_intern (d := d) hT hs (by omega) (fun m hm => o4 m hm rfl) (by omega) (by omega)
    rw [if_pos rfl]
    refine ⟨_, some (.int (nI 32)), ⟨NmT_nw hT o5, fun j c hj => (by cases hj)⟩, ?_, ?_⟩
    · rfl
    · simp (config := { decide := true }) only [zhX4_init_63, zhX4_init_64, zhX4_init_65, zhX4_init_66, zhX4_init_69, zhX4_init_72, zhX4_init_73, zhX4_init_76, zhX4_init_77, zhX4_init_78, zhX4_init_81, zhX4_init_84, zhX4_init_87, zhX4_init_88, zhX4_init_89, zhX4_init_90, zhX4_init_97, zhX4_init_102, zhX4_init_106, zhX4_init_108, zhX4_init_110, zhX4_init_112, zhX4_init_115, zhX4_init_116, zhX4_init_119, zhX4_init_120, zhX4_init_123, zhX4_init_125, zhX4_init_128, zhX4_init_131, zhX4_init_132, zhX4_init_133, zhX4_init_136, zhX4_init_137, zhX4_init_138, zhX4_init_139, zhX4_init_142, zhX4_init_145, zhX4_init_146, zhX4_init_147, zhX4_init_150, zhX4_init_153, ↓reduceIte, m1_le, m1_lt, m1_eq, ofInt_m1, ex_ret, Int32.reduceAdd, Int32.reduceSub, Int32.reduceMul, Int32.reduceLT, Int32.reduceLE, xsI, Nat.reduceEqDiff, and_false, false_and, and_true, true_and, if_true, if_false, ite_true, ite_false, xlook_0, xlook_s, xI_int, xA_ref, xJ_long, xK_some, xRow_row, xTo_some, xst1, xclr, List.set_cons_zero, List.set_cons_succ, xsum_nil, xsum_int, xsum_ref, xsum_long, Option.toList_some, Option.toList_none, List.nil_append, List.cons_append, show nI 32 = (32 : Int32) from rfl, e, nI_1]
      exact (H_at rfl).mpr rfl
  · have n32 : ¬ nI b = 32 := fun z => h32 ((nI_eq (b := 32) (by omega) (by decide)).mp z)
    rw [if_neg h32]
    have pb : xputb S 2 201 (nI (kSt k).2.length) (nI b) = xsetI S 2 (kSt k).2.length (nI b) := xputb_in (by omega) (by decide) hlt
    have hl : ((kSt k).2 ++ [b]).length = (kSt k).2.length + 1 := by rw [List.length_append]; rfl
    refine ⟨xsetI S 2 (kSt k).2.length (nI b), some (.int (nI b)), ⟨?_, fun j c hj => ?_⟩, rfl, ?_⟩
    · obtain ⟨t1, t2, t3, t4, t5⟩ := hT
      have r : ∀ a, ¬ a = 2 → (xsetI S 2 (kSt k).2.length (nI b)).1 a = S.1 a := fun a ha => xsR ha
      exact ⟨by rw [r 0 (by decide)]; exact t1, by rw [r 0 (by decide)]; exact t2, by rw [r 1 (by decide)]; exact t3, by rw [r 3 (by decide), r 4 (by decide), r 6 (by decide)]; exact t4, by rw [r 5 (by decide)]; exact t5⟩
    · rw [xsI]
      by_cases hq : j = (kSt k).2.length
      · subst hq
        rw [List.getElem?_append_right (Nat.le_refl _), Nat.sub_self] at hj
        obtain rfl : b = c := Option.some.inj hj
        rw [if_pos ⟨rfl, rfl⟩]
        exact ⟨rfl, hlt⟩
      · have hj2 : j < ((kSt k).2 ++ [b]).length := (List.getElem?_eq_some_iff.mp hj).1
        rw [List.getElem?_append_left (by omega)] at hj
        rw [if_neg (fun z => hq z.2)]
        exact hs j c hj
    · simp (config := { decide := true }) only [zhX4_init_63, zhX4_init_64, zhX4_init_65, zhX4_init_66, zhX4_init_69, zhX4_init_72, zhX4_init_73, zhX4_init_76, zhX4_init_77, zhX4_init_78, zhX4_init_81, zhX4_init_84, zhX4_init_87, zhX4_init_88, zhX4_init_89, zhX4_init_90, zhX4_init_97, zhX4_init_102, zhX4_init_106, zhX4_init_108, zhX4_init_110, zhX4_init_112, zhX4_init_115, zhX4_init_116, zhX4_init_119, zhX4_init_120, zhX4_init_123, zhX4_init_125, zhX4_init_128, zhX4_init_131, zhX4_init_132, zhX4_init_133, zhX4_init_136, zhX4_init_137, zhX4_init_138, zhX4_init_139, zhX4_init_142, zhX4_init_145, zhX4_init_146, zhX4_init_147, zhX4_init_150, zhX4_init_153, ↓reduceIte, m1_le, m1_lt, m1_eq, ofInt_m1, ex_ret, Int32.reduceAdd, Int32.reduceSub, Int32.reduceMul, Int32.reduceLT, Int32.reduceLE, xsI, Nat.reduceEqDiff, and_false, false_and, and_true, true_and, if_true, if_false, ite_true, ite_false, xlook_0, xlook_s, xI_int, xA_ref, xJ_long, xK_some, xRow_row, xTo_some, xst1, xclr, List.set_cons_zero, List.set_cons_succ, xsum_nil, xsum_int, xsum_ref, xsum_long, Option.toList_some, Option.toList_none, List.nil_append, List.cons_append, n32, zs_putByte (show skL[2]? = some (.inl (1, 201)) from rfl) (by decide : 201 < 2 ^ 31), pb, nI_1, hl]
      exact (H_at rfl).mpr rfl
set_option maxHeartbeats 8000000 in
set_option maxRecDepth 100000 in
theorem z_last {d : Nat} {S : xS} {p2 p3 p4 : Option Value} : XH skL MT (d + 2) 333 soX4_init (145, [some (.ref 0), some (.ref 7), p2, p3, p4], [], S) (153, [some (.ref 0), some (.ref 7), p2, p3, p4], [], xsetI S 0 9 (S.1 0 8)) := by
  simp (config := { decide := true }) only [zhX4_init_63, zhX4_init_64, zhX4_init_65, zhX4_init_66, zhX4_init_69, zhX4_init_72, zhX4_init_73, zhX4_init_76, zhX4_init_77, zhX4_init_78, zhX4_init_81, zhX4_init_84, zhX4_init_87, zhX4_init_88, zhX4_init_89, zhX4_init_90, zhX4_init_97, zhX4_init_102, zhX4_init_106, zhX4_init_108, zhX4_init_110, zhX4_init_112, zhX4_init_115, zhX4_init_116, zhX4_init_119, zhX4_init_120, zhX4_init_123, zhX4_init_125, zhX4_init_128, zhX4_init_131, zhX4_init_132, zhX4_init_133, zhX4_init_136, zhX4_init_137, zhX4_init_138, zhX4_init_139, zhX4_init_142, zhX4_init_145, zhX4_init_146, zhX4_init_147, zhX4_init_150, zhX4_init_91, zhX4_init_153, ↓reduceIte, m1_le, m1_lt, m1_eq, ofInt_m1, ex_ret, Int32.reduceAdd, Int32.reduceSub, Int32.reduceMul, Int32.reduceLT, Int32.reduceLE, xsI, Nat.reduceEqDiff, and_false, false_and, and_true, true_and, if_true, if_false, ite_true, ite_false, xlook_0, xlook_s, xI_int, xA_ref, xJ_long, xK_some, xRow_row, xTo_some, xst1, xclr, List.set_cons_zero, List.set_cons_succ, xsum_nil, xsum_int, xsum_ref, xsum_long, Option.toList_some, Option.toList_none, List.nil_append, List.cons_append]
