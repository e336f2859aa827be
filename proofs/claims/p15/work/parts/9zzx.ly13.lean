/-! What the compiler leaves: all together. -/
section
variable {px py b dep : Nat}
theorem ok_at (q : Int32 × Int32) : okO (atO px py q) := by
  unfold atO
  split
  · exact Or.inl rfl
  split <;> exact Or.inr (Or.inl rfl)
theorem ok_7 {k : Int32} (hk : kCal k) : okO (7, k, 0) := by
  have : k = 5 ∨ k = 16 ∨ k = 41 ∨ k = 42 ∨ k = 43 := kC hk
  unfold okO
  simp only [this, and_self, or_true]
theorem ok_oa : ∀ (cs : List Oa) (k : Int32), kCal k → OaV cs → ∀ o ∈ oaO px py k cs, okO o
  | [], k, hk, _, o, ho => by
    obtain rfl := List.mem_singleton.mp ho
    exact ok_7 hk
  | c :: cs, k, hk, hv, o, ho => by
    rcases List.mem_cons.mp ho with rfl | ho
    · exact ok_7 hk
    rcases List.mem_cons.mp ho with rfl | ho
    · exact ok_at _
    · exact ok_oa cs c.1.1 (hv c (List.mem_cons_self ..)).1 (fun d hd => hv d (List.mem_cons_of_mem _ hd)) o ho
theorem ok_exE (q : Int32 × Int32) (cs : List Oa) (hv : OaV cs) : ∀ o ∈ exE px py q cs, okO o := fun o ho => by
  rcases List.mem_cons.mp ho with rfl | ho
  · exact ok_at _
  cases cs with
  | nil => cases ho
  | cons c cs =>
    rcases List.mem_cons.mp ho with rfl | ho
    · exact ok_at _
    · exact ok_oa cs c.1.1 (hv c (List.mem_cons_self ..)).1 (fun d hd => hv d (List.mem_cons_of_mem _ hd)) o ho
theorem ok_end : ∀ o ∈ [(25, nI dep, 0), (30, 0, 0), ((31, 1, 0) : Or3)], okO o := fun o ho => by
  rcases List.mem_cons.mp ho with rfl | ho
  · simp (config := { decide := true }) only [okO, or_true, true_or]
  rcases List.mem_cons.mp ho with rfl | ho
  · simp (config := { decide := true }) only [okO, or_true, true_or]
  obtain rfl := List.mem_singleton.mp ho
  simp (config := { decide := true }) only [okO, or_true, true_or]
theorem ok_ha {n e : Nat} : ∀ o ∈ haO n e dep py, okO o := fun o ho => by
  unfold haO at ho
  rcases List.mem_cons.mp ho with rfl | ho
  · simp (config := { decide := true }) only [okO, or_true, true_or]
  rcases List.mem_cons.mp ho with rfl | ho
  · simp (config := { decide := true }) only [okO, or_true, true_or]
  rcases List.mem_cons.mp ho with rfl | ho
  · simp (config := { decide := true }) only [okO, or_true, true_or]
  rcases List.mem_cons.mp ho with rfl | ho
  · simp (config := { decide := true }) only [okO, or_true, true_or]
  rcases List.mem_cons.mp ho with rfl | ho
  · simp (config := { decide := true }) only [okO, or_true, true_or]
  rcases List.mem_cons.mp ho with rfl | ho
  · simp (config := { decide := true }) only [okO, or_true, true_or, and_self]
  rcases List.mem_cons.mp ho with rfl | ho
  · simp (config := { decide := true }) only [okO, or_true, true_or]
  obtain rfl := List.mem_singleton.mp ho
  simp (config := { decide := true }) only [okO, or_true, true_or]
theorem ok_ln : ∀ (e : Ex), ExL e → ∀ o ∈ lnO px py b dep e, okO o
  | .inl a, _, o, ho => by
    rcases List.mem_append.mp ho with ho | ho
    · obtain rfl := List.mem_singleton.mp ho
      exact ok_at _
    · exact ok_end o ho
  | .inr (q, cs, none), he, o, ho => by
    rcases List.mem_append.mp ho with ho | ho
    · exact ok_exE q cs he.1 o ho
    · exact ok_end o ho
  | .inr (q, cs, some _), he, o, ho => by
    rcases List.mem_append.mp ho with ho | ho
    · rcases List.mem_cons.mp ho with rfl | ho
      · simp (config := { decide := true }) only [okO, or_true, true_or]
      rcases List.mem_append.mp ho with ho | ho
      · exact ok_exE q cs he.1 o ho
      · exact ok_ha o ho
    · exact ok_end o ho
end
theorem ok_lns : ∀ (cs : List De) (px py b dep : Nat), (∀ c ∈ cs, ExL c.2) → ∀ o ∈ lnsO px py b dep cs, okO o
  | [], _, _, _, _, _, o, ho => by cases ho
  | c :: cs, px, py, b, dep, he, o, ho => by
    rcases List.mem_append.mp ho with ho | ho
    · exact ok_ln c.2 (he c (List.mem_cons_self ..)) o ho
    · exact ok_lns cs _ _ _ _ (fun d hd => he d (List.mem_cons_of_mem _ hd)) o ho
theorem ok_pr {v0 v1 : Int} {ls : List Ln} : ∀ o ∈ prO v0 v1 ls, okO o := fun o ho => by
  unfold prO at ho
  rcases List.mem_append.mp ho with ho | ho
  · rcases List.mem_append.mp ho with ho | ho
    · rcases List.mem_append.mp ho with ho | ho
      · exact ok_ln (.inl _) trivial o ho
      · exact ok_ln (.inl _) trivial o ho
    · exact ok_lns _ _ _ _ _ (lnD_Xs ls) o ho
  · rcases List.mem_cons.mp ho with rfl | ho
    · exact Or.inr (Or.inl rfl)
    obtain rfl := List.mem_singleton.mp ho
    simp (config := { decide := true }) only [okO, or_true, true_or]
theorem uLs_len {w : Int32} : ∀ (cs : List De) (px py b dep : Nat), (∀ c ∈ cs, ExL c.2) → (uLs w px py b dep cs).length ≤ 20 * cs.length
  | [], _, _, _, _, _ => Nat.le_refl _
  | c :: cs, px, py, b, dep, h => by
    have z1 := uLn_len (w := w) (px := px) (py := py) (b := b) (dep := dep) c.2 (h c (List.mem_cons_self ..))
    have z2 := uLs_len (w := w) cs (if c.1 = 51 then dep + 1 else px) (if c.1 = 51 then py else dep + 1) (b + (lnO px py b dep c.2).length) (dep + 2) (fun d hd => h d (List.mem_cons_of_mem _ hd))
    show (uLn w px py b dep c.2 ++ uLs w _ _ _ _ cs).length ≤ _
    rw [List.length_append, List.length_cons]
    omega
theorem uPr_len {w : Int32} {v0 v1 : Int} {ls : List De} (he : ∀ c ∈ ls, ExL c.2) (hl : ls.length ≤ 60) : (uPr w v0 v1 ls).length ≤ 1300 := by
  have h := uLs_len (w := w) ls 1 3 8 4 he
  unfold uPr
  simp only [List.length_append, List.length_cons, List.length_nil]
  omega
/-- the state and its labels, short -/
def prA (w : Int32) (v0 v1 : Int) (ls : List Ln) : PA := mkB w (unW (uPr w v0 v1 (ls.map lnD)) (lWh w)) (unN (uPr w v0 v1 (ls.map lnD)) (lNh w)) (unF (uPr w v0 v1 (ls.map lnD)) (lNh w) (lFh w)) (lPr w v0 v1 (ls.map lnD) (lNh w) ++ lLh w) 65616
section
variable {w : Int32} {v0 v1 : Int} {ls : List Ln}
theorem pr_n (hw : w = 1 ∨ w = 2) (hls : ls.length ≤ 60) : unN (uPr w v0 v1 (ls.map lnD)) (lNh w) ≤ 15000 := by
  have h1 := unN_le (uPr w v0 v1 (ls.map lnD)) (lNh w) uPr_g
  have h2 := uPr_len (w := w) (v0 := v0) (v1 := v1) (ls := ls.map lnD) (lnD_Xs ls) (by rw [List.length_map]; exact hls)
  have h3 : lNh w ≤ 674 := by rcases hw with rfl | rfl <;> decide
  omega
theorem lF_ok (hw : w = 1 ∨ w = 2) : (∀ f ∈ lFh w, f.1 < lNh w ∧ (f.2 = 0 ∨ (65536 ≤ f.2 ∧ f.2 < 66048 ∧ ∃ v, lkL (lLh w) f.2 = some v))) ∧ (lFh w).length ≤ 300 ∧ (lWh w).length = lNh w := by
  have key : ∀ w', (lFh w').all (okF (lLh w')) = true → (lFh w').all (fun f => Nat.blt f.1 (lNh w')) = true → ∀ f ∈ lFh w', f.1 < lNh w' ∧ (f.2 = 0 ∨ (65536 ≤ f.2 ∧ f.2 < 66048 ∧ ∃ v, lkL (lLh w') f.2 = some v)) := by
    intro w' h1 h2 f hf
    have h1 := List.all_eq_true.mp h1 f hf
    have h2 := List.all_eq_true.mp h2 f hf
    unfold okF at h1
    simp only [Bool.and_eq_true, Bool.or_eq_true, decide_eq_true_eq] at h1
    refine ⟨Nat.le_of_ble_eq_true h2, ?_⟩
    rcases h1.2 with q | q
    · exact Or.inl q
    · exact Or.inr ⟨q.1, q.2.1, Option.isSome_iff_exists.mp q.2.2⟩
  rcases hw with rfl | rfl
  · exact ⟨key 1 okF_1 (by decide +kernel), by decide +kernel, by decide +kernel⟩
  · exact ⟨key 2 okF_2 (by decide +kernel), by decide +kernel, by decide +kernel⟩
theorem big_l {l : Int32} (h1 : 65536 ≤ l) (h2 : l < 66048) : ∃ k, l = nI k ∧ 65536 ≤ k ∧ k < 66048 := by
  have h0 : ¬ l < 0 := fun q => by
    have a := Int32.lt_iff_toInt_lt.mp q
    have b := Int32.le_iff_toInt_le.mp h1
    have e1 : (0 : Int32).toInt = 0 := by decide
    have e2 : (65536 : Int32).toInt = 65536 := by decide
    omega
  obtain ⟨k, hk, rfl⟩ := nI_of h0
  refine ⟨k, rfl, (nI_leI (a := 65536) (by decide) hk).mp h1, (nI_ltI (b := 66048) hk (by decide)).mp h2⟩
theorem pr_fx (hw : w = 1 ∨ w = 2) (hls : ls.length ≤ 60) : (prA w v0 v1 ls).fx.length ≤ 65536 ∧ ∀ f ∈ (prA w v0 v1 ls).fx, fxO (prA w v0 v1 ls).lb f := by
  have hm : (ls.map lnD).length ≤ 60 := by rw [List.length_map]; exact hls
  have hX := lnD_Xs ls
  obtain ⟨l1, l2, l3⟩ := lF_ok hw
  have hn := pr_n (v0 := v0) (v1 := v1) hw hls
  have e : (prA w v0 v1 ls).fx = unF (uPr w v0 v1 (ls.map lnD)) (lNh w) [] ++ lFh w := unF_nil _ _ _
  rw [e]
  have hL := unF_len (uPr w v0 v1 (ls.map lnD)) (lNh w) (fun u hu => unG_f (uPr_g u hu))
  have hU := uPr_len (w := w) (v0 := v0) (v1 := v1) (ls := ls.map lnD) hX hm
  refine ⟨by rw [List.length_append]; omega, fun f hf => ?_⟩
  have lbo : LBo (prA w v0 v1 ls).lb := LBo_lib hw _
  have ok0 : ∀ {l : Int32}, okL (prA w v0 v1 ls).lb l → ∀ {p : Nat}, p < 262144 → fxO (prA w v0 v1 ls).lb (p, l) := fun h _ hp => ⟨hp, h.1, h.2.1, h.2.2⟩
  have keys : ∀ x ∈ lPr w v0 v1 (ls.map lnD) (lNh w), okL (prA w v0 v1 ls).lb x.1 := fun x hx => by
    obtain ⟨k, k1, k2, k3⟩ := lPr_K hX hm x hx
    refine ⟨by rw [k3]; exact nI_pos (by omega), by rw [k3]; exact nI_ge (by omega) (by decide), lkL_mem _ _ x.2 (List.mem_append_left _ hx)⟩
  rcases List.mem_append.mp hf with q | q
  · have h1 := unF_lab (uPr w v0 v1 (ls.map lnD)) (lNh w) (ul_pr lbo keys) f q
    have h2 := (unF_bd (uPr w v0 v1 (ls.map lnD)) (lNh w) (fun u hu => unG_o (uPr_g u hu)) f q).2
    exact ok0 h1 (by omega)
  · obtain ⟨h1, h2⟩ := l1 f q
    have h3 : lNh w ≤ 674 := by rcases hw with rfl | rfl <;> decide
    rcases h2 with h2 | ⟨h2, h4, h5⟩
    · refine ⟨by omega, by rw [h2]; decide, by rw [h2]; decide, ?_⟩
      rw [h2]
      exact ⟨_, lab_0 hX hm⟩
    · obtain ⟨k, rfl', k1, k2⟩ := big_l h2 h4
      refine ⟨by omega, by rw [rfl']; exact nI_pos (by omega), by rw [rfl']; exact nI_ge (by omega) (by decide), lkL_ex h5⟩
end
