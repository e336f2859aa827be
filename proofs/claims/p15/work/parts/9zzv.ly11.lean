/-! Where words are laid: labels found. -/
theorem lkL_app : ∀ (A B : List (Int32 × Nat)) (l : Int32), lkL (A ++ B) l = (match lkL A l with | some v => some v | none => lkL B l)
  | [], _, _ => rfl
  | (k, v) :: A, B, l => by
    show (if k = l then some v else lkL (A ++ B) l) = (match (if k = l then some v else lkL A l) with | some v => some v | none => lkL B l)
    by_cases h : k = l
    · rw [if_pos h, if_pos h]
    · rw [if_neg h, if_neg h, lkL_app A B l]
theorem lkL_no : ∀ (A : List (Int32 × Nat)) (l : Int32), (∀ e ∈ A, e.1 ≠ l) → lkL A l = none
  | [], _, _ => rfl
  | (k, v) :: A, l, h => by
    show (if k = l then some v else lkL A l) = none
    rw [if_neg (h (k, v) (List.mem_cons_self ..))]
    exact lkL_no A l (fun e he => h e (List.mem_cons_of_mem _ he))
theorem lkL_none {A B : List (Int32 × Nat)} {l : Int32} (h : ∀ e ∈ A, e.1 ≠ l) : lkL (A ++ B) l = lkL B l := by
  rw [lkL_app, lkL_no A l h]
theorem lkL_ex {A B : List (Int32 × Nat)} {l : Int32} (h : ∃ v, lkL B l = some v) : ∃ v, lkL (A ++ B) l = some v := by
  rw [lkL_app]
  cases hA : lkL A l with
  | some v => exact ⟨v, rfl⟩
  | none => exact h
theorem lkL_mem : ∀ (A : List (Int32 × Nat)) (l : Int32) (v : Nat), (l, v) ∈ A → ∃ v, lkL A l = some v
  | (k, u) :: A, l, v, h => by
    show ∃ v, (if k = l then some u else lkL A l) = some v
    by_cases q : k = l
    · exact ⟨u, if_pos q⟩
    · rw [if_neg q]
      rcases List.mem_cons.mp h with h | h
      · exact absurd (Prod.mk.inj h).1.symm q
      · exact lkL_mem A l v h
/-- keys within -/
def KR (lo hi : Nat) (A : List (Int32 × Nat)) : Prop := ∀ e ∈ A, ∃ k, lo ≤ k ∧ k < hi ∧ e.1 = nI k
theorem KR.app {lo hi : Nat} {A B : List (Int32 × Nat)} (h : KR lo hi A) (h2 : KR lo hi B) : KR lo hi (A ++ B) := fun e he => by
  rcases List.mem_append.mp he with he | he
  · exact h e he
  · exact h2 e he
theorem KR.mono {lo hi lo' hi' : Nat} {A : List (Int32 × Nat)} (h : KR lo hi A) (h1 : lo' ≤ lo) (h2 : hi ≤ hi') : KR lo' hi' A := fun e he => by
  obtain ⟨k, k1, k2, k3⟩ := h e he
  exact ⟨k, by omega, by omega, k3⟩
theorem KR.ne {lo hi k : Nat} {A : List (Int32 × Nat)} (h : KR lo hi A) (hh : hi < 2 ^ 31) (hk : k < 2 ^ 31) (q : k < lo ∨ hi ≤ k) : ∀ e ∈ A, e.1 ≠ nI k := fun e he z => by
  obtain ⟨j, k1, k2, k3⟩ := h e he
  rw [k3] at z
  have := (nI_eq (by omega) hk).mp z
  omega
section
variable {w : Int32} {px py b dep n : Nat}
theorem lLn_K : ∀ (e : Ex), ExL e → KR b (b + (lnO px py b dep e).length) (lLn w px py b dep n e)
  | .inl _, _ => fun e he => by cases he
  | .inr (_, [], _), _ => fun e he => by cases he
  | .inr (_, _ :: _, none), _ => fun e he => by cases he
  | .inr (q, c :: cs, some x), he => by
    have hl := (mem_han (px := px) (py := py) (b := b) (dep := dep) q (c :: cs) x (exE_len (px := px) (py := py) (q := q) (c := c) (cs := cs))).2.2.2
    rw [hl]
    intro e he
    have he : e ∈ [(nI (b + (2 * cs.length + 3) + 9), unN (uH1 w px py b dep q c cs ++ (uH2 w py b dep cs ++ [u20 w])) n), (nI (b + (2 * cs.length + 3) + 8), unN (uH1 w px py b dep q c cs ++ uH2 w py b dep cs) n), (nI (b + (2 * cs.length + 3) + 3), unN (uH1 w px py b dep q c cs) n)] := he
    rcases List.mem_cons.mp he with rfl | he
    · exact ⟨_, by omega, by omega, rfl⟩
    rcases List.mem_cons.mp he with rfl | he
    · exact ⟨_, by omega, by omega, rfl⟩
    obtain rfl := List.mem_singleton.mp he
    exact ⟨_, by omega, by omega, rfl⟩
end
theorem lLs_K {w : Int32} : ∀ (cs : List De) (px py b dep n : Nat), (∀ c ∈ cs, ExL c.2) → KR b (b + (lnsO px py b dep cs).length) (lLs w px py b dep n cs)
  | [], _, _, _, _, _, _ => fun e he => by cases he
  | c :: cs, px, py, b, dep, n, he => by
    have h1 := lLn_K (w := w) (px := px) (py := py) (b := b) (dep := dep) (n := n) c.2 (he c (List.mem_cons_self ..))
    have h2 := lLs_K (w := w) cs (if c.1 = 51 then dep + 1 else px) (if c.1 = 51 then py else dep + 1) (b + (lnO px py b dep c.2).length) (dep + 2) (unN (uLn w px py b dep c.2) n) (fun d hd => he d (List.mem_cons_of_mem _ hd))
    have hL : (lnsO px py b dep (c :: cs)).length = (lnO px py b dep c.2).length + (lnsO (if c.1 = 51 then dep + 1 else px) (if c.1 = 51 then py else dep + 1) (b + (lnO px py b dep c.2).length) (dep + 2) cs).length := by
      show (lnO px py b dep c.2 ++ lnsO _ _ _ _ cs).length = _
      rw [List.length_append]
    rw [hL]
    exact KR.app (h2.mono (by omega) (by omega)) (h1.mono (Nat.le_refl _) (by omega))
theorem lPr_K {w : Int32} {v0 v1 : Int} {ls : List De} {n : Nat} (he : ∀ c ∈ ls, ExL c.2) (hl : ls.length ≤ 60) : KR 0 2000 (lPr w v0 v1 ls n) := by
  have h := lLs_K (w := w) ls 1 3 8 4 (unN (([uAt w 0 0 (27, Int32.ofInt v0)] ++ [u25 0, u30, u31 w]) ++ ([uAt w 0 0 (27, Int32.ofInt v1)] ++ [u25 2, u30, u31 w])) n) he
  have h2 := (TB_lns ls 1 3 8 4 he (by omega)).2
  refine KR.app (h.mono (by omega) (by omega)) (fun e he => ?_)
  obtain rfl := List.mem_singleton.mp he
  exact ⟨0, by omega, by omega, rfl⟩
/-- a label of the Library -/
theorem lib_lab {w : Int32} {v0 v1 : Int} {ls : List De} {n k : Nat} (he : ∀ c ∈ ls, ExL c.2) (hl : ls.length ≤ 60) (hk : 65536 ≤ k) (hk2 : k < 100000) : lkL (lPr w v0 v1 ls n ++ lLh w) (nI k) = lkL (lLh w) (nI k) := lkL_none ((lPr_K he hl).ne (by decide) (by omega) (Or.inr (by omega)))
theorem lab_0 {w : Int32} {v0 v1 : Int} {ls : List De} {n : Nat} (he : ∀ c ∈ ls, ExL c.2) (hl : ls.length ≤ 60) : lkL (lPr w v0 v1 ls n ++ lLh w) (nI 0) = some n := by
  have h := lLs_K (w := w) ls 1 3 8 4 (unN (([uAt w 0 0 (27, Int32.ofInt v0)] ++ [u25 0, u30, u31 w]) ++ ([uAt w 0 0 (27, Int32.ofInt v1)] ++ [u25 2, u30, u31 w])) n) he
  have h2 := (TB_lns ls 1 3 8 4 he (by omega)).2
  unfold lPr
  rw [List.append_assoc, lkL_none (h.ne (by omega) (by decide) (Or.inl (by omega)))]
  exact if_pos rfl
/-- the fixes of the Library -/
def okF (L : List (Int32 × Nat)) (f : Nat × Int32) : Bool := Nat.blt f.1 262144 && (decide (f.2 = 0) || (decide (65536 ≤ f.2) && (decide (f.2 < 66048) && (lkL L f.2).isSome)))
theorem okF_1 : (lFh 1).all (okF (lLh 1)) = true := by decide +kernel
theorem okF_2 : (lFh 2).all (okF (lLh 2)) = true := by decide +kernel
/-- the Library's words, closed -/
def chk (ad : Int32 → Int32) (F : List (Nat × Int32)) : Nat → List Int32 → List Int32 → Bool
  | _, [], [] => true
  | i, w :: ws, c :: cs => decide (clu ad 0 F i w = c) && chk ad F (i + 1) ws cs
  | _, _, _ => false
theorem chk_at {ad : Int32 → Int32} {F : List (Nat × Int32)} : ∀ (ws cs : List Int32) (j : Nat), chk ad F j ws cs = true → ∀ i c, cs[i]? = some c → ∃ w, ws[i]? = some w ∧ clu ad 0 F (j + i) w = c
  | [], [], _, _, i, c, hc => by cases hc
  | [], _ :: _, _, h, _, _, _ => by cases h
  | _ :: _, [], _, h, _, _, _ => by cases h
  | w :: ws, d :: cs, j, h, i, c, hc => by
    have h : (decide (clu ad 0 F j w = d) && chk ad F (j + 1) ws cs) = true := h
    rw [Bool.and_eq_true, decide_eq_true_eq] at h
    cases i with
    | zero =>
      have hc : d = c := Option.some.inj hc
      exact ⟨w, rfl, h.1.trans hc⟩
    | succ i =>
      obtain ⟨v, h1, h2⟩ := chk_at ws cs (j + 1) h.2 i c hc
      exact ⟨v, h1, by rw [show j + (i + 1) = j + 1 + i from by omega]; exact h2⟩
theorem chk_1 : chk (adL ((0, 674) :: lL18_1)) lF18_1.reverse 0 lW18_1.reverse LC1 = true := by decide +kernel
theorem chk_2 : chk (adL ((0, 556) :: lL18_2)) lF18_2.reverse 0 lW18_2.reverse LC2 = true := by decide +kernel
theorem unA_0 (F : List (Nat × Int32)) : unA 0 F = F := by
  unfold unA
  conv => rhs; rw [← List.map_id F]
  exact List.map_congr_left (fun f _ => by rw [Nat.zero_add]; rfl)
theorem clM_lb {lb lb' : List (Int32 × Nat)} : ∀ (F : List (Nat × Int32)) (M : Nat → Int32), (∀ f ∈ F, adL lb f.2 = adL lb' f.2) → clM lb F M = clM lb' F M
  | [], _, _ => rfl
  | f :: F, M, h => by
    show clM lb F (cl1 lb f M) = clM lb' F (cl1 lb' f M)
    have e : cl1 lb f M = cl1 lb' f M := by
      unfold cl1
      rw [h f (List.mem_cons_self ..)]
    rw [e]
    exact clM_lb F _ (fun g hg => h g (List.mem_cons_of_mem _ hg))
