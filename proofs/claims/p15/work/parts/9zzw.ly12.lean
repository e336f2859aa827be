/-! What the compiler leaves: the words of a program. -/
def codeF (S : xS) (a : PA) : Nat → Int32 := fun j => clM a.lb a.fx.reverse (fun p => S.1 14 (19840 + p)) (j - 19840)
def okL (lb : List (Int32 × Nat)) (l : Int32) : Prop := ¬ l < 0 ∧ ¬ nI 66048 ≤ l ∧ ∃ v, lkL lb l = some v
def UL (lb : List (Int32 × Nat)) (u : Un) : Prop := ∀ f ∈ u.2, okL lb f.2
def LBo (lb : List (Int32 × Nat)) : Prop := okL lb 65536 ∧ okL lb 65544 ∧ okL lb 65549 ∧ okL lb 65550 ∧ okL lb 65551 ∧ okL lb 65552 ∧ okL lb 65561
theorem LBo_lib {w : Int32} (hw : w = 1 ∨ w = 2) (A : List (Int32 × Nat)) : LBo (A ++ lLh w) := by
  have k : ∀ l : Int32, ¬ l < 0 → ¬ nI 66048 ≤ l → (lkL (lLh w) l).isSome = true → okL (A ++ lLh w) l := fun l h1 h2 h3 => ⟨h1, h2, lkL_ex (Option.isSome_iff_exists.mp h3)⟩
  rcases hw with rfl | rfl
  · exact ⟨k _ (by decide) (by decide) (by decide +kernel), k _ (by decide) (by decide) (by decide +kernel), k _ (by decide) (by decide) (by decide +kernel), k _ (by decide) (by decide) (by decide +kernel), k _ (by decide) (by decide) (by decide +kernel), k _ (by decide) (by decide) (by decide +kernel), k _ (by decide) (by decide) (by decide +kernel)⟩
  · exact ⟨k _ (by decide) (by decide) (by decide +kernel), k _ (by decide) (by decide) (by decide +kernel), k _ (by decide) (by decide) (by decide +kernel), k _ (by decide) (by decide) (by decide +kernel), k _ (by decide) (by decide) (by decide +kernel), k _ (by decide) (by decide) (by decide +kernel), k _ (by decide) (by decide) (by decide +kernel)⟩
section
variable {lb : List (Int32 × Nat)} {w k s a l : Int32} {p px py b dep n : Nat}
theorem UL1 {x : List Int32} {i : Nat} (h : okL lb l) : UL lb (x, [(i, l)]) := fun f hf => by
  obtain rfl := List.mem_singleton.mp hf
  exact h
theorem UL0 {x : List Int32} : UL lb (x, []) := fun f hf => by cases hf
theorem ul_1 (h : LBo lb) : UL lb (u1 w s) := by
  unfold u1
  split
  · split
    · split <;> exact UL1 h.1
    · split <;> exact UL1 h.1
  · split <;> exact UL1 h.1
theorem ul_3 (h : LBo lb) : UL lb (u3 w p) := by unfold u3; split <;> exact UL1 h.1
theorem ul_at (h : LBo lb) {q : Int32 × Int32} : UL lb (uAt w px py q) := by
  unfold uAt
  split
  · exact ul_1 h
  split <;> exact ul_3 h
theorem ul_dv (h : LBo lb) : UL lb (uDv w a) := by unfold uDv; split <;> exact UL1 h.2.2.1
theorem ul_op (h : LBo lb) : UL lb (uOp w k) := by
  unfold uOp
  split
  · exact ul_dv h
  split
  · exact ul_dv h
  split
  · unfold uMul; split <;> exact UL0
  split
  · unfold uAdd; split <;> exact UL0
  · unfold uSub; split <;> exact UL0
theorem ul_30 : UL lb u30 := UL0
theorem ul_25 : UL lb (u25 p) := UL0
theorem ul_31 (h : LBo lb) : UL lb (u31 w) := by unfold u31; split <;> exact UL1 h.2.1
theorem ul_20 (h : LBo lb) : UL lb (u20 w) := by unfold u20; split <;> exact UL1 h.2.2.2.1
theorem ul_23 (h : LBo lb) : UL lb (u23 w) := by unfold u23; split <;> exact UL1 h.2.2.2.2.2.2
theorem ul_29 (h : okL lb l) : UL lb (u29 w l) := by unfold u29; split <;> exact UL1 h
theorem ul_8 (h : okL lb l) : UL lb (u8 l) := UL1 h
theorem ul_19 (h : LBo lb) : UL lb u19 := UL1 h.2.2.2.2.2.1
theorem ul_18 (h : LBo lb) (h2 : okL lb l) : UL lb (u18 l) := fun f hf => by
  rcases List.mem_cons.mp hf with rfl | hf
  · exact h2
  rcases List.mem_cons.mp hf with rfl | hf
  · exact h2
  obtain rfl := List.mem_singleton.mp hf
  exact h.2.2.2.2.1
def ULs (lb : List (Int32 × Nat)) (us : List Un) : Prop := ∀ u ∈ us, UL lb u
theorem ULs.nil : ULs lb [] := fun u hu => by cases hu
theorem ULs.cons {u : Un} {us : List Un} (h : UL lb u) (h2 : ULs lb us) : ULs lb (u :: us) := fun v hv => by
  rcases List.mem_cons.mp hv with rfl | hv
  · exact h
  · exact h2 v hv
theorem ULs.one {u : Un} (h : UL lb u) : ULs lb [u] := ULs.cons h ULs.nil
theorem ULs.app {us vs : List Un} (h : ULs lb us) (h2 : ULs lb vs) : ULs lb (us ++ vs) := fun v hv => by
  rcases List.mem_append.mp hv with hv | hv
  · exact h v hv
  · exact h2 v hv
theorem ul_sj (h : okL lb l) : ULs lb (uSJ w l) := by
  unfold uSJ
  split
  · exact ULs.cons UL0 (ULs.one (ul_8 h))
  · exact ULs.one (UL1 h)
theorem ul_ot (h : LBo lb) : ULs lb (uOT w k) := by
  unfold uOT
  split
  · exact ULs.cons (ul_op h) (ULs.one (ul_19 h))
  split
  · exact ULs.cons (ul_dv h) (ULs.one (ul_19 h))
  split
  · exact ULs.cons (ul_dv h) (ULs.one (ul_19 h))
  split
  · exact ULs.one (UL1 h.2.2.2.2.2.1)
  split
  · exact ULs.one (UL1 h.2.2.2.2.2.1)
  · exact ULs.one (UL1 h.2.2.2.2.2.1)
theorem ul_oa (h : LBo lb) : ∀ (cs : List Oa) (k : Int32), ULs lb (uOa w px py k cs)
  | [], _ => ULs.nil
  | c :: cs, k => ULs.cons (ul_op h) (ULs.cons (ul_at h) (ul_oa h cs c.1.1))
theorem ul_end (h : LBo lb) : ULs lb [u25 dep, u30, u31 w] := ULs.cons ul_25 (ULs.cons ul_30 (ULs.one (ul_31 h)))
theorem ul_ln (h : LBo lb) : ∀ (e : Ex), (∀ x ∈ lLn w px py b dep n e, okL lb x.1) → ULs lb (uLn w px py b dep e)
  | .inl _, _ => (ULs.one (ul_at h)).app (ul_end h)
  | .inr (_, [], _), _ => ULs.nil
  | .inr (q, c :: cs, none), _ => (ULs.one (ul_at h)).app ((ULs.one (ul_at h)).app ((ul_oa h cs _).app (ULs.cons (ul_op h) (ul_end h))))
  | .inr (q, c :: cs, some _), hx => by
    have h9 := hx _ (List.mem_cons_self ..)
    have h8 := hx _ (List.mem_cons_of_mem _ (List.mem_cons_self ..))
    have h3 := hx _ (List.mem_cons_of_mem _ (List.mem_cons_of_mem _ (List.mem_cons_self ..)))
    exact ((ULs.one (ul_18 h h3)).app ((ULs.one (ul_at h)).app ((ULs.one (ul_at h)).app ((ul_oa h cs _).app ((ul_ot h).app (ULs.one (ul_8 h9))))))).app ((ULs.app (ULs.cons ul_25 (ULs.one (ul_29 h8))) ((ULs.one (ul_3 h)).app (ul_sj h9))).app ((ULs.one (ul_20 h)).app (ul_end h)))
end
theorem ul_ls {lb : List (Int32 × Nat)} {w : Int32} (h : LBo lb) : ∀ (cs : List De) (px py b dep n : Nat), (∀ x ∈ lLs w px py b dep n cs, okL lb x.1) → ULs lb (uLs w px py b dep cs)
  | [], _, _, _, _, _, _ => ULs.nil
  | c :: cs, px, py, b, dep, n, hx => (ul_ln (n := n) h c.2 (fun x q => hx x (List.mem_append_right _ q))).app (ul_ls h cs _ _ _ _ _ (fun x q => hx x (List.mem_append_left _ q)))
theorem ul_pr {lb : List (Int32 × Nat)} {w : Int32} {v0 v1 : Int} {ls : List De} {n : Nat} (h : LBo lb) (hx : ∀ x ∈ lPr w v0 v1 ls n, okL lb x.1) : ULs lb (uPr w v0 v1 ls) := (((ULs.one (ul_at h)).app (ul_end h)).app ((ULs.one (ul_at h)).app (ul_end h))).app ((ul_ls h ls _ _ _ _ _ (fun x q => hx x (List.mem_append_left _ q))).app ((ULs.one (ul_3 h)).app (ULs.one (ul_23 h))))
theorem unF_lab {lb : List (Int32 × Nat)} : ∀ (us : List Un) (n : Nat), ULs lb us → ∀ f ∈ unF us n [], okL lb f.2
  | [], _, _, f, hf => by cases hf
  | u :: us, n, h, f, hf => by
    have hf : f ∈ unF us (n + u.1.length) ((unA n u.2).reverse ++ []) := hf
    rw [unF_nil us, List.append_nil] at hf
    rcases List.mem_append.mp hf with q | q
    · exact unF_lab us _ (fun v hv => h v (List.mem_cons_of_mem _ hv)) f q
    · obtain ⟨g, hg, rfl⟩ := List.mem_map.mp (List.mem_reverse.mp q)
      exact h u (List.mem_cons_self ..) g hg
theorem unF_len : ∀ (us : List Un) (n : Nat), (∀ u ∈ us, u.2.length ≤ 3) → (unF us n []).length ≤ 3 * us.length
  | [], _, _ => Nat.le_refl _
  | u :: us, n, h => by
    have h1 := h u (List.mem_cons_self ..)
    have h2 := unF_len us (n + u.1.length) (fun v hv => h v (List.mem_cons_of_mem _ hv))
    show (unF us (n + u.1.length) ((unA n u.2).reverse ++ [])).length ≤ _
    rw [unF_nil us, List.append_nil, List.length_append, List.length_reverse]
    unfold unA
    rw [List.length_map, List.length_cons]
    omega
