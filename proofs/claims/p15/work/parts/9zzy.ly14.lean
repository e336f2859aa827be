/-! What the compiler leaves: the code in memory. -/
section
variable {w : Int32} {v0 v1 : Int} {ls : List Ln}
/-- compile, for a program -/
theorem cp_prog {d : Nat} {S : xS} (hw : w = 1 ∨ w = 2) (hls : ls.length ≤ 60) (hc : CO S (prO v0 v1 ls)) : ∃ S', XC SK MT (d + 7) 104 [.ref 8, .int w] S = some (none, memS S' (clM (prA w v0 v1 ls).lb (prA w v0 v1 ls).fx.reverse (fun p => S'.1 14 (19840 + p)))) ∧ AS (laS S (prO v0 v1 ls)) S' (prA w v0 v1 ls) := by
  have e : cmA S w (prO v0 v1 ls) = prA w v0 v1 ls := cmA_prog hw hls
  have hn : (prO v0 v1 ls).length < 60000 := by
    have h2 := (TB_lns (ls.map lnD) 1 3 8 4 (lnD_Xs ls) (by rw [List.length_map]; omega)).2
    rw [List.length_map] at h2
    unfold prO
    rw [List.length_append, List.length_append, List.length_append, ln_len0, ln_len0]
    show 4 + 4 + (lnsO 1 3 8 4 (ls.map lnD)).length + 2 < 60000
    omega
  obtain ⟨f1, f2⟩ := pr_fx (v0 := v0) (v1 := v1) (ls := ls) hw hls
  have h := s_compile (d := d) (S := S) (w := w) (os := prO v0 v1 ls) hw hc hn ok_pr (by rw [e]; exact f1) (by rw [e]; exact f2)
  rw [e] at h
  exact h
/-- the label's place -/
def adP (w : Int32) (v0 v1 : Int) (ls : List Ln) : Int32 → Int32 := adL (prA w v0 v1 ls).lb
/-- a unit's words in the code -/
theorem code_unit {S0 S : xS} {U1 U2 : List Un} {u : Un} (h : AS S0 S (prA w v0 v1 ls)) (hw : w = 1 ∨ w = 2) (hu : uPr w v0 v1 (ls.map lnD) = U1 ++ u :: U2) {i : Nat} {x : Int32} (hi : u.1[i]? = some x) : codeF S (prA w v0 v1 ls) (19840 + (unN U1 (lNh w) + i)) = clu (adP w v0 v1 ls) (unN U1 (lNh w)) u.2 i x := by
  obtain ⟨l1, _, l3⟩ := lF_ok hw
  have hl : i < u.1.length := (List.getElem?_eq_some_iff.mp hi).1
  have ho : ∀ v ∈ U1 ++ u :: U2, unO v := by
    rw [← hu]
    exact fun v hv => unG_o (uPr_g v hv)
  obtain ⟨j, j1, j2⟩ := un_at (U1 := U1) (U2 := U2) (ws0 := lWh w) hi l3
  rw [← hu] at j1 j2
  have hM : S.1 14 (19840 + (unN U1 (lNh w) + i)) = x := by
    have := h.me j x j1
    rw [← j2]
    exact this
  unfold codeF
  rw [show 19840 + (unN U1 (lNh w) + i) - 19840 = unN U1 (lNh w) + i from by omega]
  have e : (prA w v0 v1 ls).fx = unF (U1 ++ u :: U2) (lNh w) (lFh w) := by rw [← hu]; rfl
  rw [e, cl_unit (fun f hf => (l1 f hf).1) ho _ hl, hM]
  rfl
theorem LCh_len (h : Nat) (hh : h = 1 ∨ h = 2) : (LCh h).length = lNh (nI h) := by
  rcases hh with rfl | rfl <;> decide +kernel
/-- the Library's words in the code -/
theorem code_lib {S0 S : xS} {h : Nat} (hh : h = 1 ∨ h = 2) (hA : AS S0 S (prA (nI h) v0 v1 ls)) (hls : ls.length ≤ 60) : CMl (LCh h) (codeF S (prA (nI h) v0 v1 ls)) := by
  have hw : nI h = 1 ∨ nI h = 2 := by rcases hh with rfl | rfl; exact Or.inl rfl; exact Or.inr rfl
  have hm : (ls.map lnD).length ≤ 60 := by rw [List.length_map]; exact hls
  have hX := lnD_Xs ls
  obtain ⟨l1, l2, l3⟩ := lF_ok hw
  intro i c hc
  have hi : i < lNh (nI h) := by
    have := (List.getElem?_eq_some_iff.mp hc).1
    rw [LCh_len h hh] at this
    exact this
  unfold codeF
  rw [show 19840 + i - 19840 = i from by omega]
  have e : (prA (nI h) v0 v1 ls).fx = unF (uPr (nI h) v0 v1 (ls.map lnD)) (lNh (nI h)) (lFh (nI h)) := rfl
  rw [e, cl_ahead (fun v hv => unG_o (uPr_g v hv)) _ hi]
  have e2 : clM (prA (nI h) v0 v1 ls).lb (lFh (nI h)).reverse (fun p => S.1 14 (19840 + p)) = clM ((0, lNh (nI h)) :: lLh (nI h)) (lFh (nI h)).reverse (fun p => S.1 14 (19840 + p)) := by
    refine clM_lb _ _ (fun f hf => ?_)
    rcases (l1 f (List.mem_reverse.mp hf)).2 with q | ⟨q1, q2, q3⟩
    · rw [q]
      unfold adL
      have z1 : lkL (prA (nI h) v0 v1 ls).lb 0 = some (lNh (nI h)) := lab_0 hX hm
      have z2 : lkL ((0, lNh (nI h)) :: lLh (nI h)) 0 = some (lNh (nI h)) := if_pos rfl
      rw [z1, z2]
    · obtain ⟨k, ek, k1, k2⟩ := big_l q1 q2
      unfold adL
      have z1 : lkL (prA (nI h) v0 v1 ls).lb f.2 = lkL (lLh (nI h)) f.2 := by rw [ek]; exact lib_lab hX hm k1 (by omega)
      have z2 : lkL ((0, lNh (nI h)) :: lLh (nI h)) f.2 = lkL (lLh (nI h)) f.2 := if_neg (fun z => by
        rw [ek] at z
        have := (nI_eq (a := 0) (b := k) (by decide) (by omega)).mp z
        omega)
      rw [z1, z2]
  have e3 := clM_clu ((0, lNh (nI h)) :: lLh (nI h)) 0 i (lFh (nI h)).reverse (fun p => S.1 14 (19840 + p))
  rw [unA_0, Nat.zero_add] at e3
  rw [e2, e3]
  have key : ∀ x, (lWh (nI h)).reverse[i]? = some x → S.1 14 (19840 + i) = x := by
    intro x hx
    have hl : i < (lWh (nI h)).length := by rw [l3]; exact hi
    rw [List.getElem?_reverse hl, l3] at hx
    have e4 : (prA (nI h) v0 v1 ls).ws = unW (uPr (nI h) v0 v1 (ls.map lnD)) [] ++ lWh (nI h) := unW_nil _ _
    have e5 : (prA (nI h) v0 v1 ls).n = lNh (nI h) + (unW (uPr (nI h) v0 v1 (ls.map lnD)) []).length := unW_len _ _
    have := hA.me ((unW (uPr (nI h) v0 v1 (ls.map lnD)) []).length + (lNh (nI h) - 1 - i)) x (by
      rw [e4, List.getElem?_append_right (by omega), Nat.add_sub_cancel_left]
      exact hx)
    have e6 : (prA (nI h) v0 v1 ls).n - 1 - ((unW (uPr (nI h) v0 v1 (ls.map lnD)) []).length + (lNh (nI h) - 1 - i)) = i := by
      generalize (prA (nI h) v0 v1 ls).n = N at e5
      omega
    rw [e6] at this
    exact this
  rcases hh with rfl | rfl
  · obtain ⟨x, x1, x2⟩ := chk_at _ _ 0 chk_1 i c hc
    rw [Nat.zero_add] at x2
    have := key x x1
    show clu (adL ((0, 674) :: lL18_1)) 0 lF18_1.reverse i (S.1 14 (19840 + i)) = c
    rw [this]
    exact x2
  · obtain ⟨x, x1, x2⟩ := chk_at _ _ 0 chk_2 i c hc
    rw [Nat.zero_add] at x2
    have := key x x1
    show clu (adL ((0, 556) :: lL18_2)) 0 lF18_2.reverse i (S.1 14 (19840 + i)) = c
    rw [this]
    exact x2
end
