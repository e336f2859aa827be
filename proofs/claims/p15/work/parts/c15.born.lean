/-! The law from its entry. -/
def bS0 (zS : xS) (f : Nat → Int32) : xS := (fun a => match a with
  | 0 => fun k => if k = 15 then (-1) else if k = 16 then (-1) else 0
  | 1 => zS.1 0
  | 5 => fun k => if k = 13 then 2 else 0
  | 16 => zS.1 1
  | 17 => zS.1 2
  | 18 => zS.1 3
  | 19 => zS.1 4
  | 20 => zS.1 5
  | 21 => zS.1 6
  | 37 => f
  | _ => fun _ => 0, fun _ _ => 0)
theorem k_arr {s : State} {args : Array Value} {ty : FieldType} (hw : (Cond.arrayClass ty).before args s = true) (ho : ty = .int ∨ ty = .byte ∨ ty = .long) : ∃ c, ArrOfT s c ty ∧ va_RA s c ty := by
  obtain ⟨c, kA, comp, h1, h2, h3⟩ := Cond.arrayClass_spec (args := args) (first := s) (o := none) (s := s) (idx := []) hw
  exact ⟨c, fun n z => ⟨fun k h => (by cases h), kA, h2, comp, h3⟩, by rcases ho with rfl | rfl | rfl <;> exact h1⟩
theorem k_arrs {D : va_G} {cl : List vw_C} {s : State} {args : Array Value} (hK : ∀ (k : Nat) (q : vw_C), cl[k]? = some q → u_Kn s q.1 q.2.1 q.2.2 (D.1 k) (D.2 k)) (h0 : (Cond.arrayClass .int).before args s = true) (h1 : (Cond.arrayClass .byte).before args s = true) (h2 : (Cond.arrayClass .long).before args s = true) : ∃ cI : Nat → ClassId, va_K D cl [(cI 0, .int), (cI 1, .byte), (cI 2, .long)] s := by
  obtain ⟨c0, a0, b0⟩ := k_arr h0 (Or.inl rfl)
  obtain ⟨c1, a1, b1⟩ := k_arr h1 (Or.inr (Or.inl rfl))
  obtain ⟨c2, a2, b2⟩ := k_arr h2 (Or.inr (Or.inr rfl))
  refine ⟨fun k => match k with | 0 => c0 | 1 => c1 | _ => c2, hK, fun k q hq => ?_⟩
  match k, hq with
  | 0, hq => cases hq; exact ⟨a0, b0⟩
  | 1, hq => cases hq; exact ⟨a1, b1⟩
  | 2, hq => cases hq; exact ⟨a2, b2⟩
  | k + 3, hq => cases hq
theorem Ini_0 {zS : xS} {f : Nat → Int32} (h : LI zS (kSt 245)) (h9 : zS.1 0 9 = zS.1 0 8) (hf : ∀ j, j < 2176 → f j = -1) : Ini (bS0 zS f) :=
  ⟨KnC_of (S := zS) ⟨rfl, rfl, rfl, rfl, rfl, rfl, h9⟩ h.1, rfl, rfl, hf 51 (by decide), hf 52 (by decide)⟩
set_option maxRecDepth 100000 in
theorem zg_all : zsX12_init.all goodWord = true := by
  unfold zsX12_init
  rw [List.all_cons, List.all_append, zgC]
  decide +kernel
theorem g_init : GoodIn lw_tbl zsX12_init := goodIn_sub zsC_in zg_all
set_option maxHeartbeats 8000000 in
set_option maxRecDepth 100000 in
theorem sk_w {ad : Nat → Nat} {cI : Nat → ClassId} {S : xS} : xW ad cI S SK = [(ad 0, .inr (12, [.ref (ad 13), .ref (ad 14), .ref (ad 15), .ref (ad 1), .ref (ad 2), .ref (ad 3), .ref (ad 4), .ref (ad 6), .ref (ad 7), .ref (ad 8), .ref (ad 11), .ref (ad 12), .int (S.1 0 12), .int (S.1 0 13), .int (S.1 0 14), .int (S.1 0 15), .int (S.1 0 16), .int (S.1 0 17), .int (S.1 0 18), .int (S.1 0 19)])), (ad 1, .inr (4, [.ref (ad 13), .ref (ad 16), .ref (ad 17), .ref (ad 18), .ref (ad 19), .ref (ad 20), .ref (ad 21), .int (S.1 1 7), .int (S.1 1 8), .int (S.1 1 9), .int (S.1 1 10), .int (S.1 1 11), .int (S.1 1 12), .int (S.1 1 13), .int (S.1 1 14), .int (S.1 1 15), .int (S.1 1 16), .int (S.1 1 17)])), (ad 2, .inr (7, [.ref (ad 22), .ref (ad 23), .ref (ad 24), .ref (ad 25), .ref (ad 26), .int (S.1 2 5), .ref (ad 1), .ref (ad 27), .ref (ad 28), .int (S.1 2 9), .int (S.1 2 10), .int (S.1 2 11), .int (S.1 2 12)])), (ad 3, .inr (1, [.ref (ad 2), .ref (ad 5), .ref (ad 4), .ref (ad 29), .ref (ad 30), .ref (ad 31), .ref (ad 32), .ref (ad 33), .int (S.1 3 8), .int (S.1 3 9), .int (S.1 3 10), .int (S.1 3 11), .int (S.1 3 12), .int (S.1 3 13), .int (S.1 3 14), .int (S.1 3 15), .int (S.1 3 16), .int (S.1 3 17), .int (S.1 3 18)])), (ad 4, .inr (9, [.ref (ad 5), .ref (ad 34), .ref (ad 35), .ref (ad 36), .ref (ad 37), .ref (ad 38), .ref (ad 39), .ref (ad 40), .ref (ad 41), .int (S.1 4 9), .int (S.1 4 10), .int (S.1 4 11), .int (S.1 4 12), .int (S.1 4 13), .int (S.1 4 14), .int (S.1 4 15), .int (S.1 4 16)])), (ad 5, .inr (10, [.ref (ad 42), .ref (ad 43), .ref (ad 44), .ref (ad 45), .ref (ad 46), .ref (ad 47), .ref (ad 48), .ref (ad 49), .ref (ad 50), .ref (ad 51), .ref (ad 52), .int (S.1 5 11), .int (S.1 5 12), .int (S.1 5 13), .int (S.1 5 14), .int (S.1 5 15)])), (ad 6, .inr (2, [.ref (ad 53), .ref (ad 54), .ref (ad 55), .int (S.1 6 3), .ref (ad 2), .ref (ad 4), .ref (ad 1), .ref (ad 14), .ref (ad 56), .ref (ad 57), .ref (ad 58), .ref (ad 59), .ref (ad 60), .int (S.1 6 13), .int (S.1 6 14), .int (S.1 6 15), .int (S.1 6 16), .int (S.1 6 17), .int (S.1 6 18), .int (S.1 6 19)])), (ad 7, .inr (6, [.ref (ad 14), .ref (ad 6), .ref (ad 61), .int (S.1 7 3), .int (S.1 7 4), .int (S.1 7 5), .int (S.1 7 6), .int (S.1 7 7), .int (S.1 7 8), .int (S.1 7 9), .int (S.1 7 10), .int (S.1 7 11), .int (S.1 7 12), .int (S.1 7 13), .int (S.1 7 14), .int (S.1 7 15), .int (S.1 7 16), .int (S.1 7 17), .int (S.1 7 18)])), (ad 8, .inr (3, [.ref (ad 6), .ref (ad 9), .ref (ad 10), .ref (ad 62)])), (ad 9, .inr (0, [.ref (ad 14), .ref (ad 63), .ref (ad 64), .ref (ad 65), .int (S.1 9 4), .int (S.1 9 5), .int (S.1 9 6), .int (S.1 9 7), .int (S.1 9 8), .int (S.1 9 9)])), (ad 10, .inr (5, [.ref (ad 9)])), (ad 11, .inr (8, [.ref (ad 14), .ref (ad 66), .int (S.1 11 2), .int (S.1 11 3), .int (S.1 11 4), .int (S.1 11 5), .int (S.1 11 6), .int (S.1 11 7), .int (S.1 11 8), .int (S.1 11 9)])), (ad 12, .inr (11, [.ref (ad 5), .ref (ad 4), .ref (ad 1), .ref (ad 14), .ref (ad 67), .ref (ad 68), .int (S.1 12 6), .int (S.1 12 7), .int (S.1 12 8), .int (S.1 12 9), .int (S.1 12 10)])), (ad 13, .inl (cI 1, 8192, .inl (S.1 13))), (ad 14, .inl (cI 0, 281984, .inl (S.1 14))), (ad 15, .inl (cI 0, 6, .inl (S.1 15))), (ad 16, .inl (cI 1, 12288, .inl (S.1 16))), (ad 17, .inl (cI 1, 201, .inl (S.1 17))), (ad 18, .inl (cI 0, 2176, .inl (S.1 18))), (ad 19, .inl (cI 0, 2176, .inl (S.1 19))), (ad 20, .inl (cI 0, 512, .inl (S.1 20))), (ad 21, .inl (cI 0, 2176, .inl (S.1 21))), (ad 22, .inl (cI 0, 10240, .inl (S.1 22))), (ad 23, .inl (cI 0, 10240, .inl (S.1 23))), (ad 24, .inl (cI 0, 10240, .inl (S.1 24))), (ad 25, .inl (cI 0, 10240, .inl (S.1 25))), (ad 26, .inl (cI 0, 10240, .inl (S.1 26))), (ad 27, .inl (cI 0, 1024, .inl (S.1 27))), (ad 28, .inl (cI 0, 1024, .inl (S.1 28))), (ad 29, .inl (cI 0, 16384, .inl (S.1 29))), (ad 30, .inl (cI 0, 16384, .inl (S.1 30))), (ad 31, .inl (cI 0, 16384, .inl (S.1 31))), (ad 32, .inl (cI 0, 2176, .inl (S.1 32))), (ad 33, .inl (cI 0, 2176, .inl (S.1 33))), (ad 34, .inl (cI 0, 49152, .inl (S.1 34))), (ad 35, .inl (cI 0, 24576, .inl (S.1 35))), (ad 36, .inl (cI 0, 350, .inl (S.1 36))), (ad 37, .inl (cI 0, 2176, .inl (S.1 37))), (ad 38, .inl (cI 0, 40, .inl (S.1 38))), (ad 39, .inl (cI 0, 5120, .inl (S.1 39))), (ad 40, .inl (cI 0, 81920, .inl (S.1 40))), (ad 41, .inl (cI 0, 82, .inl (S.1 41))), (ad 42, .inl (cI 0, 212992, .inl (S.1 42))), (ad 43, .inl (cI 0, 212992, .inl (S.1 43))), (ad 44, .inl (cI 0, 212992, .inl (S.1 44))), (ad 45, .inl (cI 0, 212992, .inl (S.1 45))), (ad 46, .inl (cI 0, 212992, .inl (S.1 46))), (ad 47, .inl (cI 0, 212992, .inl (S.1 47))), (ad 48, .inl (cI 0, 212992, .inl (S.1 48))), (ad 49, .inl (cI 0, 212992, .inl (S.1 49))), (ad 50, .inl (cI 0, 95, .inl (S.1 50))), (ad 51, .inl (cI 0, 101, .inl (S.1 51))), (ad 52, .inl (cI 0, 101, .inl (S.1 52))), (ad 53, .inl (cI 0, 65536, .inl (S.1 53))), (ad 54, .inl (cI 0, 65536, .inl (S.1 54))), (ad 55, .inl (cI 0, 65536, .inl (S.1 55))), (ad 56, .inl (cI 0, 2176, .inl (S.1 56))), (ad 57, .inl (cI 0, 16384, .inl (S.1 57))), (ad 58, .inl (cI 0, 10240, .inl (S.1 58))), (ad 59, .inl (cI 0, 10240, .inl (S.1 59))), (ad 60, .inl (cI 0, 101, .inl (S.1 60))), (ad 61, .inl (cI 1, 16, .inl (S.1 61))), (ad 62, .inl (cI 0, 65536, .inl (S.1 62))), (ad 63, .inl (cI 0, 66048, .inl (S.1 63))), (ad 64, .inl (cI 0, 65536, .inl (S.1 64))), (ad 65, .inl (cI 0, 65536, .inl (S.1 65))), (ad 66, .inl (cI 0, 32, .inl (S.1 66))), (ad 67, .inl (cI 1, 1902, .inl (S.1 67))), (ad 68, .inl (cI 0, 2048, .inl (S.1 68))), (ad 69, .inl (cI 2, 4, .inr (.inl (S.2 69))))] := by
  unfold xW SK
  simp (config := { decide := true }) only [List.mapIdx_cons, List.mapIdx_nil, xcell, xfs, xfv, Nat.zero_add, Nat.reduceAdd, ↓reduceIte]
def adX (w_house w_lexer w_parser w_checker w_scope w_types w_coder w_machine w_compiler q_asm q_lib w_processor w_writer w_text w_memory w_counts x_pool x_scratch x_nameAt x_nameSize x_heads x_nexts k_op k_says k_places k_link k_home k_waiting k_waitingAt d_stack d_flags d_held d_variableNode d_variableStamp l_variables l_schemes l_cons l_conOf l_typeNames l_functions l_held l_around i_left i_right i_kind i_says i_parts i_mark i_path i_turn i_arity i_general i_row e_op e_one e_two e_literal e_holds e_owner e_where e_bound f_figures c_landing qa_labels qa_fixAt qa_fixTo g_register j_bytes j_variables w_w b : Nat) : Nat → Nat := fun i => match i with
  | 0 => w_house
  | 1 => w_lexer
  | 2 => w_parser
  | 3 => w_checker
  | 4 => w_scope
  | 5 => w_types
  | 6 => w_coder
  | 7 => w_machine
  | 8 => w_compiler
  | 9 => q_asm
  | 10 => q_lib
  | 11 => w_processor
  | 12 => w_writer
  | 13 => w_text
  | 14 => w_memory
  | 15 => w_counts
  | 16 => x_pool
  | 17 => x_scratch
  | 18 => x_nameAt
  | 19 => x_nameSize
  | 20 => x_heads
  | 21 => x_nexts
  | 22 => k_op
  | 23 => k_says
  | 24 => k_places
  | 25 => k_link
  | 26 => k_home
  | 27 => k_waiting
  | 28 => k_waitingAt
  | 29 => d_stack
  | 30 => d_flags
  | 31 => d_held
  | 32 => d_variableNode
  | 33 => d_variableStamp
  | 34 => l_variables
  | 35 => l_schemes
  | 36 => l_cons
  | 37 => l_conOf
  | 38 => l_typeNames
  | 39 => l_functions
  | 40 => l_held
  | 41 => l_around
  | 42 => i_left
  | 43 => i_right
  | 44 => i_kind
  | 45 => i_says
  | 46 => i_parts
  | 47 => i_mark
  | 48 => i_path
  | 49 => i_turn
  | 50 => i_arity
  | 51 => i_general
  | 52 => i_row
  | 53 => e_op
  | 54 => e_one
  | 55 => e_two
  | 56 => e_literal
  | 57 => e_holds
  | 58 => e_owner
  | 59 => e_where
  | 60 => e_bound
  | 61 => f_figures
  | 62 => c_landing
  | 63 => qa_labels
  | 64 => qa_fixAt
  | 65 => qa_fixTo
  | 66 => g_register
  | 67 => j_bytes
  | 68 => j_variables
  | 69 => w_w
  | _ => b
