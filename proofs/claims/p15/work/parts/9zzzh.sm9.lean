/-! Orders run from the code: a line's labels. -/
theorem adL_of {lb : List (Int32 × Nat)} {l : Int32} {v : Nat} (h : lkL lb l = some v) : adL lb l = nI (19840 + v) := by
  unfold adL
  rw [h]
theorem lkL_hd {k : Int32} {v : Nat} {r : List (Int32 × Nat)} : lkL ((k, v) :: r) k = some v := if_pos rfl
theorem lkL_tl {k l : Int32} {v : Nat} {r : List (Int32 × Nat)} (h : k ≠ l) : lkL ((k, v) :: r) l = lkL r l := if_neg h
theorem nI_ne {a b : Nat} (ha : a < 2 ^ 31) (hb : b < 2 ^ 31) (h : a ≠ b) : nI a ≠ nI b := fun z => h ((nI_eq ha hb).mp z)
theorem AL_of {w : Int32} {lb : List (Int32 × Nat)} : ∀ (cs : List De) (px py b dep n : Nat) (A B : List (Int32 × Nat)), (∀ c ∈ cs, ExL c.2) → b + 25 * cs.length < 800000 → lb = A ++ (lLs w px py b dep n cs ++ B) → KR (b + (lnsO px py b dep cs).length) 900000 A → n + 220 * cs.length < 900000 → ALs (adL lb) w px py b dep n cs
  | [], _, _, _, _, _, _, _, _, _, _, _, _ => trivial
  | c :: cs, px, py, b, dep, n, A, B, he, hb, hlb, hA, hn => by
    rw [List.length_cons] at hb hn
    have h0 := he c (List.mem_cons_self ..)
    have hX : ∀ d ∈ cs, ExL d.2 := fun d hd => he d (List.mem_cons_of_mem _ hd)
    have hL : (lnsO px py b dep (c :: cs)).length = (lnO px py b dep c.2).length + (lnsO (if c.1 = 51 then dep + 1 else px) (if c.1 = 51 then py else dep + 1) (b + (lnO px py b dep c.2).length) (dep + 2) cs).length := by
      show (lnO px py b dep c.2 ++ lnsO _ _ _ _ cs).length = _
      rw [List.length_append]
    rw [hL] at hA
    obtain ⟨_, l1⟩ := TB_ln (px := px) (py := py) (b := b) (dep := dep) c.2 h0 (by omega)
    obtain ⟨_, l2⟩ := TB_lns cs (if c.1 = 51 then dep + 1 else px) (if c.1 = 51 then py else dep + 1) (b + (lnO px py b dep c.2).length) (dep + 2) hX (by omega)
    have hK := lLs_K (w := w) cs (if c.1 = 51 then dep + 1 else px) (if c.1 = 51 then py else dep + 1) (b + (lnO px py b dep c.2).length) (dep + 2) (unN (uLn w px py b dep c.2) n) hX
    have b1 := unN_le (uLn w px py b dep c.2) n (uLn_g c.2)
    have b2 := uLn_len (w := w) (px := px) (py := py) (b := b) (dep := dep) c.2 h0
    have e1 : lb = A ++ (lLs w (if c.1 = 51 then dep + 1 else px) (if c.1 = 51 then py else dep + 1) (b + (lnO px py b dep c.2).length) (dep + 2) (unN (uLn w px py b dep c.2) n) cs ++ (lLn w px py b dep n c.2 ++ B)) := by
      rw [hlb]
      show A ++ ((lLs w _ _ _ _ _ cs ++ lLn w px py b dep n c.2) ++ B) = _
      rw [List.append_assoc]
    refine ⟨?_, AL_of cs _ _ _ _ _ A _ hX (by omega) e1 (hA.mono (by omega) (Nat.le_refl _)) (by omega)⟩
    have look : ∀ k, k < b + (lnO px py b dep c.2).length → lkL lb (nI k) = lkL (lLn w px py b dep n c.2 ++ B) (nI k) := fun k hk => by
      rw [e1, lkL_none (hA.ne (by omega) (by omega) (Or.inl (by omega))), lkL_none (hK.ne (by omega) (by omega) (Or.inl (by omega)))]
    generalize c.2 = e at *
    match e, h0 with
    | .inl _, _ => trivial
    | .inr (_, [], _), _ => trivial
    | .inr (_, _ :: _, none), _ => trivial
    | .inr (q, c' :: cs', some x), h0 =>
      have hl := (mem_han (px := px) (py := py) (b := b) (dep := dep) q (c' :: cs') x (exE_len (px := px) (py := py) (q := q) (c := c') (cs := cs'))).2.2.2
      rw [hl] at look l1
      have h3 : cs'.length ≤ 2 := by
        have : (c' :: cs').length ≤ 3 := h0.2.2
        rw [List.length_cons] at this
        omega
      have hln : lLn w px py b dep n (.inr (q, c' :: cs', some x)) ++ B = (nI (b + (2 * cs'.length + 3) + 9), unN (uH1 w px py b dep q c' cs' ++ (uH2 w py b dep cs' ++ [u20 w])) n) :: (nI (b + (2 * cs'.length + 3) + 8), unN (uH1 w px py b dep q c' cs' ++ uH2 w py b dep cs') n) :: (nI (b + (2 * cs'.length + 3) + 3), unN (uH1 w px py b dep q c' cs') n) :: B := rfl
      rw [hln] at look
      have x3 := look (b + (2 * cs'.length + 3) + 3) (by omega)
      have x8 := look (b + (2 * cs'.length + 3) + 8) (by omega)
      have x9 := look (b + (2 * cs'.length + 3) + 9) (by omega)
      rw [lkL_tl (nI_ne (by omega) (by omega) (by omega)), lkL_tl (nI_ne (by omega) (by omega) (by omega)), lkL_hd] at x3
      rw [lkL_tl (nI_ne (by omega) (by omega) (by omega)), lkL_hd] at x8
      rw [lkL_hd] at x9
      have n1 := unN_le (uH1 w px py b dep q c' cs' ++ uH2 w py b dep cs') n (g_H1.app g_H2)
      have n2 := H1_len (w := w) (px := px) (py := py) (b := b) (dep := dep) (q := q) (c := c') (cs := cs')
      have n3 := H2_len (w := w) (py := py) (b := b) (dep := dep) (cs := cs')
      rw [List.length_append] at n1
      exact ⟨adL_of x3, ⟨_, by omega, adL_of x8⟩, adL_of x9⟩
theorem AL_prog {w : Int32} {v0 v1 : Int} {ls : List Ln} (hw : w = 1 ∨ w = 2) (hls : ls.length ≤ 60) : ALs (adP w v0 v1 ls) w 1 3 8 4 (unN (([uAt w 0 0 (27, Int32.ofInt v0)] ++ [u25 0, u30, u31 w]) ++ ([uAt w 0 0 (27, Int32.ofInt v1)] ++ [u25 2, u30, u31 w])) (lNh w)) (ls.map lnD) := by
  have hm : (ls.map lnD).length ≤ 60 := by rw [List.length_map]; exact hls
  have b5 := unN_le (([uAt w 0 0 (27, Int32.ofInt v0)] ++ [u25 0, u30, u31 w]) ++ ([uAt w 0 0 (27, Int32.ofInt v1)] ++ [u25 2, u30, u31 w])) (lNh w) (((gU_1 g_at).app g_H3).app ((gU_1 g_at).app g_H3))
  have b6 : unN (([uAt w 0 0 (27, Int32.ofInt v0)] ++ [u25 0, u30, u31 w]) ++ ([uAt w 0 0 (27, Int32.ofInt v1)] ++ [u25 2, u30, u31 w])) (lNh w) ≤ lNh w + 88 := b5
  have h3 : lNh w ≤ 674 := by rcases hw with rfl | rfl <;> decide
  refine AL_of (ls.map lnD) 1 3 8 4 _ [] ([(nI 0, lNh w)] ++ lLh w) (lnD_Xs ls) (by omega) ?_ (fun e he => by cases he) (by omega)
  show lPr w v0 v1 (ls.map lnD) (lNh w) ++ lLh w = _
  unfold lPr
  rw [List.append_assoc]
  rfl
