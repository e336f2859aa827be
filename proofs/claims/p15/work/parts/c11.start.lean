/-! What the law stands on at its start: classes, nest links, the String constants, what a throw needs. -/
section LWS
variable {b : Nat} {s : State} {A : Nat → Prop}
set_option maxRecDepth 100000 in
theorem nest_in : ∀ q ∈ nestM, Cond.methodLinkNest q.1 q.2.1 q.2.2.1 q.2.2.2 ∈ lw_tbl := by decide +kernel
theorem lw_nests (hts : ∀ w ∈ lw_tbl, w.before #[Value.ref b] s = true) : NW nestM s := fun q hq => va_Nw.of rfl (hts _ (nest_in q hq))
set_option maxRecDepth 100000 in
set_option maxHeartbeats 4000000 in
theorem lw_known (hts : ∀ w ∈ lw_tbl, w.before #[Value.ref b] s = true) : ∃ (dC : Nat → ClassId) (dI : Nat → Nat → Nat), ∀ (k : Nat) (q : vw_C), vwCl[k]? = some q → u_Kn s q.1 q.2.1 q.2.2 (dC k) (dI k) := by
  obtain ⟨c0, i0, h0⟩ := u_known (C := RX0) (T := TX0) (N := 10) (n := 10) hts cin0 (hts (.instantiable RX0 10) (by decide +kernel))
  obtain ⟨c1, i1, h1⟩ := u_known (C := RX1) (T := TX1) (N := 19) (n := 19) hts cin1 (hts (.instantiable RX1 19) (by decide +kernel))
  obtain ⟨c2, i2, h2⟩ := u_known (C := RX2) (T := TX2) (N := 20) (n := 20) hts cin2 (hts (.instantiable RX2 20) (by decide +kernel))
  obtain ⟨c3, i3, h3⟩ := u_known (C := RX3) (T := TX3) (N := 4) (n := 4) hts cin3 (hts (.instantiable RX3 4) (by decide +kernel))
  obtain ⟨c4, i4, h4⟩ := u_known (C := RX4) (T := TX4) (N := 18) (n := 18) hts cin4 (hts (.instantiable RX4 18) (by decide +kernel))
  obtain ⟨c5, i5, h5⟩ := u_known (C := RX5) (T := TX5) (N := 1) (n := 1) hts cin5 (hts (.instantiable RX5 1) (by decide +kernel))
  obtain ⟨c6, i6, h6⟩ := u_known (C := RX6) (T := TX6) (N := 19) (n := 19) hts cin6 (hts (.instantiable RX6 19) (by decide +kernel))
  obtain ⟨c7, i7, h7⟩ := u_known (C := RX7) (T := TX7) (N := 13) (n := 13) hts cin7 (hts (.instantiable RX7 13) (by decide +kernel))
  obtain ⟨c8, i8, h8⟩ := u_known (C := RX8) (T := TX8) (N := 10) (n := 10) hts cin8 (hts (.instantiable RX8 10) (by decide +kernel))
  obtain ⟨c9, i9, h9⟩ := u_known (C := RX9) (T := TX9) (N := 17) (n := 17) hts cin9 (hts (.instantiable RX9 17) (by decide +kernel))
  obtain ⟨c10, i10, h10⟩ := u_known (C := RX10) (T := TX10) (N := 16) (n := 16) hts cin10 (hts (.instantiable RX10 16) (by decide +kernel))
  obtain ⟨c11, i11, h11⟩ := u_known (C := RX11) (T := TX11) (N := 11) (n := 11) hts cin11 (hts (.instantiable RX11 11) (by decide +kernel))
  obtain ⟨c12, i12, h12⟩ := u_known (C := RX12) (T := TX12) (N := 20) (n := 20) hts cin12 (hts (.instantiable RX12 20) (by decide +kernel))
  refine ⟨fun k => [c0, c1, c2, c3, c4, c5, c6, c7, c8, c9, c10, c11, c12].getD k c0, fun k => [i0, i1, i2, i3, i4, i5, i6, i7, i8, i9, i10, i11, i12].getD k i0, ?_⟩
  intro k q hq
  match k, hq with
  | 0, hq => cases hq; exact h0
  | 1, hq => cases hq; exact h1
  | 2, hq => cases hq; exact h2
  | 3, hq => cases hq; exact h3
  | 4, hq => cases hq; exact h4
  | 5, hq => cases hq; exact h5
  | 6, hq => cases hq; exact h6
  | 7, hq => cases hq; exact h7
  | 8, hq => cases hq; exact h8
  | 9, hq => cases hq; exact h9
  | 10, hq => cases hq; exact h10
  | 11, hq => cases hq; exact h11
  | 12, hq => cases hq; exact h12
  | k + 13, hq => simp [vwCl] at hq
def knB : List Int32 := [97, 110, 100, 32, 97, 110, 100, 97, 108, 115, 111, 32, 97, 115, 32, 99, 97, 115, 101, 32, 100, 97, 116, 97, 116, 121, 112, 101, 32, 100, 105, 118, 32, 100, 111, 32, 101, 108, 115, 101, 32, 101, 110, 100, 32, 101, 120, 99, 101, 112, 116, 105, 111, 110, 32, 102, 110, 32, 102, 117, 110, 32, 104, 97, 110, 100, 108, 101, 32, 105, 102, 32, 105, 110, 32, 108, 101, 116, 32, 109, 111, 100, 32, 111, 102, 32, 111, 114, 101, 108, 115, 101, 32, 114, 97, 105, 115, 101, 32, 114, 101, 99, 32, 114, 101, 102, 32, 116, 104, 101, 110, 32, 118, 97, 108, 32, 119, 104, 105, 108, 101, 32, 105, 110, 116, 32, 98, 111, 111, 108, 32, 117, 110, 105, 116, 32, 115, 116, 114, 105, 110, 103, 32, 101, 120, 110, 32, 108, 105, 115, 116, 32, 116, 114, 117, 101, 32, 102, 97, 108, 115, 101, 32, 110, 105, 108, 32, 58, 58, 32, 77, 97, 116, 99, 104, 32, 66, 105, 110, 100, 32, 68, 105, 118, 32, 83, 117, 98, 115, 99, 114, 105, 112, 116, 32, 67, 104, 114, 32, 126, 32, 33, 32, 110, 111, 116, 32, 112, 114, 105, 110, 116, 32, 112, 117, 116, 32, 115, 116, 114, 32, 99, 104, 114, 32, 115, 105, 122, 101, 32, 115, 117, 98, 32, 103, 105, 118, 101, 110, 32, 109, 97, 110, 121, 32]
set_option maxRecDepth 100000 in
theorem kn_at : ∀ j, j < 245 → (flatC (Cond.and given_1 narrow_1))[60 + j]? = some (Cond.eq (.elem (.field (.string "LeanHouse$Lexer" 38) "java/lang/String" "value" "[B") (.int (Int32.ofNat j))) (.int (knB.getD j 0))) := by decide +kernel
theorem kn_el : ∀ j, j < 245 → Cond.eq (.elem (.field (.string "LeanHouse$Lexer" 38) "java/lang/String" "value" "[B") (.int (Int32.ofNat j))) (.int (knB.getD j 0)) ∈ flatC (Cond.and given_1 narrow_1) := fun j h => List.mem_of_getElem? (kn_at j h)
theorem kn_map : knB = kT.map nI := by decide +kernel
theorem kn_b : ∀ j b, kT[j]? = some b → knB.getD j 0 = nI b := fun j b h => by rw [kn_map, List.getD_eq_getElem?_getD, List.getElem?_map, h]; rfl
set_option maxRecDepth 100000 in
set_option maxHeartbeats 4000000 in
theorem lw_strings (hts : ∀ w ∈ lw_tbl, w.before #[Value.ref b] s = true) (hgv : (Jvm.Cond.and given_1 narrow_1).before #[Value.ref b] s = true) (hA : ∀ q : Nat, q < s.heap.size → ¬ A q) : ∃ (tx : String) (Ls : Nat) (byt : Nat → Int32) (ks vs : Nat), Ls = 245 ∧ (∀ j b, kT[j]? = some b → byt j = nI b) ∧ SW tx Ls byt ks vs A s s.heap := by
  have hs := flat_of_before _ hgv
  have e0 : ∀ i : Nat, i < 1 → i = 0 := fun i h => by omega
  have g1 : ∀ i : Nat, i < 1 → ([245] : List Nat).getD i 0 < 2 ^ 31 := fun i hi => by rw [e0 i hi]; decide
  have g2 : ∀ i : Nat, i < 1 → (Cond.eq (.length (.field (.string "LeanHouse$Lexer" 38) "java/lang/String" "value" "[B")) (.int (Int32.ofNat (([245] : List Nat).getD i 0)))).before #[Value.ref b] s = true := fun i hi => by rw [e0 i hi]; exact hs _ (by decide +kernel)
  have g3 : ∀ i : Nat, i < 1 → ∀ j : Nat, j < ([245] : List Nat).getD i 0 → (Cond.eq (.elem (.field (.string "LeanHouse$Lexer" 38) "java/lang/String" "value" "[B") (.int (Int32.ofNat j))) (.int ((([knB] : List (List Int32)).getD i []).getD j 0))).before #[Value.ref b] s = true := fun i hi j hj => by
    have e := e0 i hi
    subst e
    exact hs _ (kn_el j hj)
  have g4 : ∀ i : Nat, i < 1 → (Cond.exactly (.string "LeanHouse$Lexer" 38) "java/lang/String").before #[Value.ref b] s = true := fun i hi => hs _ (by decide +kernel)
  have g5 : ∀ i : Nat, i < 1 → (Cond.eq (.field (.string "LeanHouse$Lexer" 38) "java/lang/String" "coder" "B") (.int 0)).before #[Value.ref b] s = true := fun i hi => hs _ (by decide +kernel)
  have g6 : ∀ i : Nat, i < 1 → (Cond.arrayOf (.field (.string "LeanHouse$Lexer" 38) "java/lang/String" "value" "[B") .byte).before #[Value.ref b] s = true := fun i hi => hs _ (by decide +kernel)
  obtain ⟨adK, adV, hSt, hev⟩ := vk_Sof (args := #[Value.ref b]) (s := s) (N := 1) (tm := fun _ => .string "LeanHouse$Lexer" 38) (len := [245]) (byt := [knB]) (A := A) g1 g4 g5 g6 g2 g3 (fun i j hi hj h => absurd ((e0 i hi).trans (e0 j hj).symm) h) hA
  have h0 := hSt.1 0 (by decide)
  exact ⟨"and andalso as case datatype div do else end exception fn fun handle if in let mod of orelse raise rec ref then val while int bool unit string exn list true false nil :: Match Bind Div Subscript Chr ~ ! not print put str chr size sub given many ", 245, fun j => knB.getD j 0, adK 0, adV 0, rfl, kn_b, h0.1, h0.2.1, h0.2.2.1, h0.2.2.2, va_Zof (hts (.laysStatic "java/lang/String" "COMPACT_STRINGS" "Z") (by decide +kernel)) (hts (.initialized "java/lang/String") (by decide +kernel)) (va_eqt (hs (.eq (.static "java/lang/String" "COMPACT_STRINGS" "Z") (.int 1)) (by decide +kernel))) hA, va_Zqof (hts (.laysStatic "jdk/internal/util/Preconditions" "SIOOBE_FORMATTER" "Ljava/util/function/BiFunction;") (by decide +kernel)) (hts (.initialized "jdk/internal/util/Preconditions") (by decide +kernel)) (hs (.isRef (.static "jdk/internal/util/Preconditions" "SIOOBE_FORMATTER" "Ljava/util/function/BiFunction;")) (by decide +kernel)) hA, vk_R.of (hts (.stringRef "LeanHouse$Lexer" 38 "and andalso as case datatype div do else end exception fn fun handle if in let mod of orelse raise rec ref then val while int bool unit string exn list true false nil :: Match Bind Div Subscript Chr ~ ! not print put str chr size sub given many ") (by decide +kernel)) (hev 0 (by decide))⟩
set_option maxRecDepth 100000 in
theorem str_in : ∀ q ∈ strL, Cond.stringRef q.1 q.2.1 q.2.2 ∈ lw_tbl ∧ Cond.exactly (.string q.1 q.2.1) "java/lang/String" ∈ flatC (Cond.and given_1 narrow_1) := by decide +kernel
set_option maxRecDepth 100000 in
theorem cast_in : ∀ x ∈ castL, Cond.castable x x ∈ lw_tbl := by decide +kernel
set_option maxRecDepth 100000 in
theorem decl_in : ∀ x ∈ decL, Cond.declares x ∈ lw_tbl := by decide +kernel
set_option maxRecDepth 100000 in
set_option maxHeartbeats 4000000 in
theorem lw_throws (hts : ∀ w ∈ lw_tbl, w.before #[Value.ref b] s = true) (hgv : (Jvm.Cond.and given_1 narrow_1).before #[Value.ref b] s = true) (hA : ∀ q : Nat, q < s.heap.size → ¬ A q) : TW strL A s s.heap := by
  have hs := flat_of_before _ hgv
  refine ⟨vx_Zqof (hts _ (by decide +kernel)) (hts _ (by decide +kernel)) (hs _ (by decide +kernel)) hA, vx_Zqof (hts _ (by decide +kernel)) (hts _ (by decide +kernel)) (hs _ (by decide +kernel)) hA, ?_, fun x hx => va_Nw.of rfl (hts _ (cast_in x hx)), ⟨va_Nc.of (hs _ (by decide +kernel)), va_Nc.of (hs _ (by decide +kernel))⟩, fun x hx => va_Nw.of rfl (hts _ (decl_in x hx))⟩
  intro q hq
  obtain ⟨h1, h2⟩ := str_in q hq
  obtain ⟨a, c, cA, kA, e1, -⟩ := Cond.exactly_spec (args := #[Value.ref b]) (first := s) (o := none) (s := s) (idx := []) (t := .string q.1 q.2.1) (cls := "java/lang/String") (hs _ h2)
  exact ⟨a, vk_R.of (hts _ h1) e1⟩
end LWS
