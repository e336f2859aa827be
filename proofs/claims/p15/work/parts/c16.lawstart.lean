/-! The law: from its first cells to its loop. -/
theorem xlv_LW {ad : Nat → Nat} {x y n ra k : Int32} : xlv ad (LW x y n ra k none none none none none none none none none) = [(0, .ref (ad 70)), (1, .ref (ad 0)), (2, .ref (ad 69)), (3, .int x), (4, .int y), (5, .int n), (6, .int ra), (7, .int k)] := rfl
theorem xlv_5 {ad : Nat → Nat} {x y : Int32} : xlv ad [some (.ref 70), some (.ref 0), some (.ref 69), some (.int x), some (.int y), none, none, none, none, none, none, none, none, none, none, none, none] = [(0, .ref (ad 70)), (1, .ref (ad 0)), (2, .ref (ad 69)), (3, .int x), (4, .int y)] := rfl
theorem Sd_0 {S : xS} (h1 : S.1 0 12 = 0) (h2 : S.2 69 0 = 0) : Sd S [] := ⟨[], [], rfl, by decide, ⟨h2, Nat.mod_one _, Nat.mod_one _, Nat.mod_one _⟩, h1, rfl, fun j b h => (by cases h), fun b h => (by cases h)⟩
section LGS
variable {p : Program} {l : Launch} {e : Env} {s : State} {m : MethodId} {below : List Frame} {meth : Method} {c : Code} {L : Nat} {xs : Nat → Int32} {dC : Nat → ClassId} {dI : Nat → Nat → Nat} {cI : Nat → ClassId} {ad : Nat → Nat} {A : Nat → Prop}
set_option maxHeartbeats 8000000 in
set_option maxRecDepth 100000 in
theorem lg_85 (C : LwC p l s m meth c L xs dC dI cI ad A) {k0 n0 : Nat} (hk : k0 + 4 ≤ 600086) (hn0 : n0 + 24 ≤ 7301442) {x0 y0 : Int32} (h0 : inR x0.toInt) (h1 : inR y0.toInt) {nn : Nat} (hn : nn ≤ 50) (hnL : nn ≤ L) {S : xS} (hs : Sd S (hdB x0 y0)) (hi : Ini S) {H : Heap} {locs : List Loc} {ls : Array Slot} (hP : va_P (dC, dI) vwCl (xW ad cI S SK) H) (hD : va_D A (xW ad cI S SK)) (hS : va_S A s.heap H locs) (hl : lv_has ls 17 [(0, .ref (ad 70)), (1, .ref (ad 0)), (2, .ref (ad 69)), (3, .int x0), (4, .int y0)]) : W p l e room_1 s m #[Value.ref (ad 70)] below meth c H locs k0 n0 (lw_Z below #[Value.ref (ad 70)] s) (F0 m 85 ls [.int (nI nn)]) := by
  obtain ⟨hst, ⟨hx, hb, hr, hml, hown0, hts0, hX, hbl, hlocks, hgv⟩, hAd, hK, hN, hT, hL⟩ := id C
  refine lv_istore (lv' := [(5, .int (nI nn)), (0, .ref (ad 70)), (1, .ref (ad 0)), (2, .ref (ad 69)), (3, .int x0), (4, .int y0)]) hx hb dL_law_85 hl (by decide) rfl ?_
  clear hl
  intro ls hl
  refine lv_iconst (v := 0) hx hb dL_law_87 (by decide) ?_
  refine lv_istore (lv' := [(6, .int 0), (5, .int (nI nn)), (0, .ref (ad 70)), (1, .ref (ad 0)), (2, .ref (ad 69)), (3, .int x0), (4, .int y0)]) hx hb dL_law_88 hl (by decide) rfl ?_
  clear hl
  intro ls hl
  refine lv_iconst (v := nI 2) hx hb dL_law_90 (by decide) ?_
  refine lv_istore (lv' := [(7, .int (nI 2)), (6, .int 0), (5, .int (nI nn)), (0, .ref (ad 70)), (1, .ref (ad 0)), (2, .ref (ad 69)), (3, .int x0), (4, .int y0)]) hx hb dL_law_91 hl (by decide) rfl ?_
  clear hl
  intro ls hl
  have hI : LInv x0 y0 [] x0 y0 false S := by
    refine ⟨?_, hi, ?_, fun z hz => absurd hz List.not_mem_nil⟩
    · show Sd S (hdB x0 y0 ++ [])
      rw [List.append_nil]
      exact hs
    · show evL _ _ _ = _ ∧ c31 x0 = x0 ∧ c31 y0 = y0
      exact ⟨rfl, c31_R h0, c31_R h1⟩
  refine lg_loop C hk hn0 h0 h1 hn hnL 48 2 (by omega) (by decide) (by decide) x0 y0 false [] S none none none none none none none none none rfl hI H locs ls ⟨hP, hD, hS, lv_less hl ?_⟩
  show ∀ q ∈ xlv ad (LW x0 y0 (nI nn) 0 (nI 2) none none none none none none none none none), q ∈ _
  rw [xlv_LW]
  exact List.forall_mem_cons.mpr ⟨List.mem_of_getElem? (i := 3) rfl, List.forall_mem_cons.mpr ⟨List.mem_of_getElem? (i := 4) rfl, List.forall_mem_cons.mpr ⟨List.mem_of_getElem? (i := 5) rfl, List.forall_mem_cons.mpr ⟨List.mem_of_getElem? (i := 6) rfl, List.forall_mem_cons.mpr ⟨List.mem_of_getElem? (i := 7) rfl, List.forall_mem_cons.mpr ⟨List.mem_of_getElem? (i := 2) rfl, List.forall_mem_cons.mpr ⟨List.mem_of_getElem? (i := 1) rfl, List.forall_mem_cons.mpr ⟨List.mem_of_getElem? (i := 0) rfl, fun _ h => absurd h List.not_mem_nil⟩⟩⟩⟩⟩⟩⟩⟩
set_option maxHeartbeats 8000000 in
set_option maxRecDepth 100000 in
theorem lg_start (C : LwC p l s m meth c L xs dC dI cI ad A) {k0 n0 : Nat} (hk : k0 + 4 ≤ 600086) (hn0 : n0 + 24 ≤ 7301442) {S0 : xS} (hi : Ini S0) (hs : Sd S0 []) {H : Heap} {locs : List Loc} {ls : Array Slot} (hP : va_P (dC, dI) vwCl (xW ad cI S0 SK) H) (hD : va_D A (xW ad cI S0 SK)) (hS : va_S A s.heap H locs) (hl : lv_has ls 17 [(2, .ref (ad 69)), (1, .ref (ad 0)), (0, .ref (ad 70))]) : W p l e room_1 s m #[Value.ref (ad 70)] below meth c H locs k0 n0 (lw_Z below #[Value.ref (ad 70)] s) (F0 m 12 ls []) := by
  obtain ⟨hst, ⟨hx, hb, hr, hml, hown0, hts0, hX, hbl, hlocks, hgv⟩, hAd, hK, hN, hT, hL⟩ := id C
  have hown : s.vm.findClass RL = some m.cls := hown0
  have hA : ∀ q : Nat, s.heap.size ≤ q → A q := by rw [hAd]; exact fun _ h => h
  have hbA : ¬ A (ad 70) := by rw [hAd]; exact Nat.not_le.mpr hbl
  refine lv_aload_n hx hb dL_law_12 rfl (lv_at hl 2 rfl) ?_
  refine lv_iconst (v := nI 0) hx hb dL_law_13 (by decide) ?_
  refine aft_k (va_runS (As := [.ref (ad 70), .int (nI 0)]) (rest := []) ⟨hx, hb, hml, hown, hts0⟩ (c_cell l (b := ad 70) (L := L) (j := 0) (sz := H.size) (xs := xs) (Nat.lt_of_lt_of_le hbl hS.1) (by omega) (by decide)) (va_cwS 2 hts0 g_cell rfl rfl rfl (by decide +kernel) ⟨Nat.le_of_ble_eq_true rfl, Nat.le_of_ble_eq_true rfl⟩) (Pcell.preS hX hbl hbA hS) rfl rfl hl.1 rfl (lv_room (Nat.le_of_ble_eq_true rfl)) dL_law_14 ⟨(by omega : k0 + 0 ≤ 600086), (by omega : n0 + 0 ≤ 7301442)⟩) hP hS hA ?_
  clear hP hS
  intro r0 u0 H locs _ hP hS
  refine lv_iconst (v := 1) hx hb dL_law_17 (by decide) ?_
  refine lv_ishr hx hb dL_law_18 ?_
  have h0 := shr_1 r0
  generalize r0 >>> ((1 : Int32) &&& 31) = x0 at h0 ⊢
  refine lv_istore_n (lv' := [(3, .int x0), (2, .ref (ad 69)), (1, .ref (ad 0)), (0, .ref (ad 70))]) hx hb dL_law_19 rfl hl (by decide) rfl ?_
  clear hl
  intro ls hl
  refine lv_aload_n hx hb dL_law_20 rfl (lv_at hl 3 rfl) ?_
  refine lv_iconst (v := nI 1) hx hb dL_law_21 (by decide) ?_
  refine aft_k (va_runS (As := [.ref (ad 70), .int (nI 1)]) (rest := []) ⟨hx, hb, hml, hown, hts0⟩ (c_cell l (b := ad 70) (L := L) (j := 1) (sz := H.size) (xs := xs) (Nat.lt_of_lt_of_le hbl hS.1) (by omega) (by decide)) (va_cwS 2 hts0 g_cell rfl rfl rfl (by decide +kernel) ⟨Nat.le_of_ble_eq_true rfl, Nat.le_of_ble_eq_true rfl⟩) (Pcell.preS hX hbl hbA hS) rfl rfl hl.1 rfl (lv_room (Nat.le_of_ble_eq_true rfl)) dL_law_22 ⟨(by omega : k0 + 0 ≤ 600086), (by omega : n0 + 0 ≤ 7301442)⟩) hP hS hA ?_
  clear hP hS
  intro r1 u1 H locs _ hP hS
  refine lv_iconst (v := 1) hx hb dL_law_25 (by decide) ?_
  refine lv_ishr hx hb dL_law_26 ?_
  have h1 := shr_1 r1
  generalize r1 >>> ((1 : Int32) &&& 31) = y0 at h1 ⊢
  refine lv_istore (lv' := [(4, .int y0), (3, .int x0), (2, .ref (ad 69)), (1, .ref (ad 0)), (0, .ref (ad 70))]) hx hb dL_law_27 hl (by decide) rfl ?_
  clear hl
  intro ls hl
  obtain ⟨S1, s1, s2, s3⟩ := lw_head (d := 13) (x := x0) (y := y0) hs
  have hl9 : ∀ q ∈ xlv ad [some (.ref 70), some (.ref 0), some (.ref 69), some (.int x0), some (.int y0), none, none, none, none, none, none, none, none, none, none, none, none], q ∈ ([(4, .int y0), (3, .int x0), (2, .ref (ad 69)), (1, .ref (ad 0)), (0, .ref (ad 70))] : List (Nat × Value)) := by
    rw [xlv_5]
    exact List.forall_mem_cons.mpr ⟨List.mem_of_getElem? (i := 4) rfl, List.forall_mem_cons.mpr ⟨List.mem_of_getElem? (i := 3) rfl, List.forall_mem_cons.mpr ⟨List.mem_of_getElem? (i := 2) rfl, List.forall_mem_cons.mpr ⟨List.mem_of_getElem? (i := 1) rfl, List.forall_mem_cons.mpr ⟨List.mem_of_getElem? (i := 0) rfl, fun _ h => absurd h List.not_mem_nil⟩⟩⟩⟩⟩
  have i1 : Ini S1 := hi.of (fun a a0 a1 => s2.1 a a0 a1)
  refine lg_go C (by omega) (by omega) s3 ?_ H locs ls ⟨hP, hD, hS, lv_less hl hl9⟩
  clear hP hS hl hD
  intro H locs ls ⟨hP, hD, hS, hl⟩
  have hl : lv_has ls 17 [(0, .ref (ad 70)), (1, .ref (ad 0)), (2, .ref (ad 69)), (3, .int x0), (4, .int y0)] := hl
  show W _ _ _ _ _ _ _ _ _ _ _ _ _ _ _ (F0 m 71 ls [])
  refine lv_aload_n hx hb dL_law_71 rfl (lv_at hl 0 rfl) ?_
  refine va_slen hx hb hX hbl hbA hS dL_law_72 ?_
  refine lv_bipush (v := nI 50) hx hb dL_law_73 (by decide) ?_
  refine lv_icmp_ge (tgt := 83) hx hb dL_law_75 (by decide) (fun c_1 => ?_) (fun c_1 => ?_)
  · have h5 : 50 ≤ L := (nI_leI (by decide) (by omega)).mp c_1
    refine lv_bipush (v := nI 50) hx hb dL_law_83 (by decide) ?_
    exact lg_85 C hk hn0 h0 h1 (nn := 50) (by decide) h5 s1 i1 hP hD hS hl
  · have h5 : L < 50 := Nat.not_le.mp (fun h => c_1 ((nI_leI (by decide) (by omega)).mpr h))
    refine lv_aload_n hx hb dL_law_78 rfl (lv_at hl 0 rfl) ?_
    refine va_slen hx hb hX hbl hbA hS dL_law_79 ?_
    refine lv_goto (tgt := 85) hx hb dL_law_80 (by decide) ?_
    exact lg_85 C hk hn0 h0 h1 (nn := L) (by omega) (Nat.le_refl _) s1 i1 hP hD hS hl
end LGS
