/-! Where words are laid: a program. -/
/-- where jumps lead within a line -/
def LO (S0 : xS) (b : Nat) : Ex → Prop
  | .inl _ => NL S0 b 4
  | .inr (_, cs, none) => NL S0 b (2 * cs.length + 4)
  | .inr (_, cs, some _) => NL S0 b (2 * cs.length + 4) ∧ LD S0 (b + (2 * cs.length + 1) + 3) ∧ NL S0 (b + (2 * cs.length + 1) + 4) 4 ∧ LD S0 (b + (2 * cs.length + 1) + 8) ∧ LD S0 (b + (2 * cs.length + 1) + 9) ∧ NL S0 (b + (2 * cs.length + 1) + 10) 2
def uLn (w : Int32) (px py b dep : Nat) : Ex → List Un
  | .inl a => [uAt w px py a] ++ [u25 dep, u30, u31 w]
  | .inr (_, [], _) => []
  | .inr (q, c :: cs, none) => uPl w px py dep q c cs
  | .inr (q, c :: cs, some _) => uHa w px py b dep q c cs
def lLn (w : Int32) (px py b dep n : Nat) : Ex → List (Int32 × Nat)
  | .inr (q, c :: cs, some _) => [(nI (b + (2 * cs.length + 3) + 9), unN (uH1 w px py b dep q c cs ++ (uH2 w py b dep cs ++ [u20 w])) n), (nI (b + (2 * cs.length + 3) + 8), unN (uH1 w px py b dep q c cs ++ uH2 w py b dep cs) n), (nI (b + (2 * cs.length + 3) + 3), unN (uH1 w px py b dep q c cs) n)]
  | _ => []
/-- what a line's expression may be -/
def ExL : Ex → Prop
  | .inl _ => True
  | .inr b => OaV b.2.1 ∧ (∃ c cs, b.2.1 = c :: cs) ∧ b.2.1.length ≤ 3
def uLs (w : Int32) : Nat → Nat → Nat → Nat → List De → List Un
  | _, _, _, _, [] => []
  | px, py, b, dep, c :: cs => uLn w px py b dep c.2 ++ uLs w (if c.1 = 51 then dep + 1 else px) (if c.1 = 51 then py else dep + 1) (b + (lnO px py b dep c.2).length) (dep + 2) cs
def lLs (w : Int32) : Nat → Nat → Nat → Nat → Nat → List De → List (Int32 × Nat)
  | _, _, _, _, _, [] => []
  | px, py, b, dep, n, c :: cs => lLs w (if c.1 = 51 then dep + 1 else px) (if c.1 = 51 then py else dep + 1) (b + (lnO px py b dep c.2).length) (dep + 2) (unN (uLn w px py b dep c.2) n) cs ++ lLn w px py b dep n c.2
def LOs (S0 : xS) : Nat → Nat → Nat → Nat → List De → Prop
  | _, _, _, _, [] => True
  | px, py, b, dep, c :: cs => LO S0 b c.2 ∧ LOs S0 (if c.1 = 51 then dep + 1 else px) (if c.1 = 51 then py else dep + 1) (b + (lnO px py b dep c.2).length) (dep + 2) cs
theorem uLn_g {w : Int32} {px py b dep : Nat} : ∀ (e : Ex), gU (uLn w px py b dep e)
  | .inl _ => (gU_1 g_at).app g_H3
  | .inr (_, [], _) => gU.nil
  | .inr (_, _ :: _, none) => g_Pl
  | .inr (_, _ :: _, some _) => g_Ha
theorem uLs_g {w : Int32} : ∀ (cs : List De) (px py b dep : Nat), gU (uLs w px py b dep cs)
  | [], _, _, _, _ => gU.nil
  | c :: cs, _, _, _, _ => (uLn_g c.2).app (uLs_g cs _ _ _ _)
theorem uLn_len {w : Int32} {px py b dep : Nat} : ∀ (e : Ex), ExL e → (uLn w px py b dep e).length ≤ 20
  | .inl _, _ => Nat.le_of_ble_eq_true rfl
  | .inr (_, [], _), _ => Nat.zero_le _
  | .inr (q, c :: cs, none), h => by
    have : (c :: cs).length ≤ 3 := h.2.2
    rw [List.length_cons] at this
    show (uPl w px py dep q c cs).length ≤ 20
    rw [Pl_len]
    omega
  | .inr (q, c :: cs, some _), h => by
    have : (c :: cs).length ≤ 3 := h.2.2
    rw [List.length_cons] at this
    show (uHa w px py b dep q c cs).length ≤ 20
    have h1 := H1_len (w := w) (px := px) (py := py) (b := b) (dep := dep) (q := q) (c := c) (cs := cs)
    have h2 := H2_len (w := w) (py := py) (b := b) (dep := dep) (cs := cs)
    have h3 : (uH3 w dep).length = 3 := rfl
    unfold uHa
    simp only [List.length_append, List.length_cons, List.length_nil, h3]
    omega
section
variable {S0 : xS} {w o : Int32} {j n : Nat} {lb : List (Int32 × Nat)} {px py dep : Nat}
theorem sg_atL (hw : w = 1 ∨ w = 2) (hj : LD S0 j) (hn : n + 100 < 262144) (hpx : px < 8192) (hpy : py < 8192) (q : Int32 × Int32) : SG S0 w o j [atO px py q] [uAt w px py q] n lb ((nI j, n) :: lb) := fun ws fx => by
  show pOrd (pLo S0 (mkB w ws n fx lb o) j) (atO px py q) = _
  rw [pLo_1 hj]
  exact ln_at hw (Nat.le_refl _) (by omega) hpx hpy q
theorem ln_any (hw : w = 1 ∨ w = 2) : ∀ (e : Ex), ExL e → LO S0 j e → n + 1000 < 262144 → px < 8192 → py < 8192 → dep < 8192 → j < 900000 → SG S0 w o j (lnO px py j dep e) (uLn w px py j dep e) n lb (lLn w px py j dep n e ++ lb)
  | .inl a, _, hl, hn, hpx, hpy, hd, _ => by
    have hl : NL S0 j 4 := hl
    have b1 : unN [uAt w px py a] n ≤ n + 11 := unN_le _ n (gU_1 g_at)
    exact (sg_at hw (hl.sub (Nat.le_refl _) (by omega)) (by omega) hpx hpy a).app (sg_end hw (hl.sub (by show _ ≤ j + 1; omega) (by show j + 1 + 3 ≤ _; omega)) (by omega) hd)
  | .inr (_, [], _), h, _, _, _, _, _, _ => by
    obtain ⟨_, ⟨c, cs, h2⟩, _⟩ := h
    cases h2
  | .inr (q, c :: cs, none), h, hl, hn, hpx, hpy, hd, _ => by
    have h3 : (c :: cs).length ≤ 3 := h.2.2
    rw [List.length_cons] at h3
    have hl : NL S0 j (2 * (c :: cs).length + 4) := hl
    rw [List.length_cons] at hl
    exact ln_plain hw (hl.sub (Nat.le_refl _) (by omega)) (by omega) hpx hpy hd h.1
  | .inr (q, c :: cs, some x), h, hl, hn, hpx, hpy, hd, hj => by
    have h3 : (c :: cs).length ≤ 3 := h.2.2
    have hl : NL S0 j (2 * (c :: cs).length + 4) ∧ LD S0 (j + (2 * (c :: cs).length + 1) + 3) ∧ NL S0 (j + (2 * (c :: cs).length + 1) + 4) 4 ∧ LD S0 (j + (2 * (c :: cs).length + 1) + 8) ∧ LD S0 (j + (2 * (c :: cs).length + 1) + 9) ∧ NL S0 (j + (2 * (c :: cs).length + 1) + 10) 2 := hl
    rw [List.length_cons] at h3 hl
    rw [show 2 * (cs.length + 1) + 1 = 2 * cs.length + 3 from by omega] at hl
    obtain ⟨l1, l2, l3, l4, l5, l6⟩ := hl
    exact ln_handled hw rfl (l1.sub (Nat.le_refl _) (by omega)) l2 l3 l4 l5 l6 (by omega) hpx hpy hd hj (by omega) h.1 x
theorem ln_lines (hw : w = 1 ∨ w = 2) : ∀ (cs : List De) (px py j dep n : Nat) (lb : List (Int32 × Nat)), (∀ c ∈ cs, ExL c.2) → LOs S0 px py j dep cs → n + 220 * cs.length + 1000 < 262144 → px < 4000 → py < 4000 → dep + 2 * cs.length < 4000 → (∀ c ∈ cs, ∀ px py b dep, (lnO px py b dep c.2).length ≤ 100) → j + 100 * cs.length < 900000 → SG S0 w o j (lnsO px py j dep cs) (uLs w px py j dep cs) n lb (lLs w px py j dep n cs ++ lb)
  | [], _, _, _, _, _, _, _, _, _, _, _, _, _, _ => SG.nil
  | c :: cs, px, py, j, dep, n, lb, he, hl, hn, hpx, hpy, hd, hlen, hj => by
    rw [List.length_cons] at hn hd hj
    obtain ⟨hl1, hl2⟩ := hl
    have h0 := he c (List.mem_cons_self ..)
    have y1 := ln_any (S0 := S0) (o := o) (lb := lb) (j := j) (n := n) (px := px) (py := py) (dep := dep) hw c.2 h0 hl1 (by omega) (by omega) (by omega) (by omega) (by omega)
    have b1 := unN_le (uLn w px py j dep c.2) n (uLn_g c.2)
    have b2 := uLn_len (w := w) (px := px) (py := py) (b := j) (dep := dep) c.2 h0
    have b3 := hlen c (List.mem_cons_self ..) px py j dep
    have y2 := ln_lines hw cs (if c.1 = 51 then dep + 1 else px) (if c.1 = 51 then py else dep + 1) (j + (lnO px py j dep c.2).length) (dep + 2) (unN (uLn w px py j dep c.2) n) (lLn w px py j dep n c.2 ++ lb) (fun d hd => he d (List.mem_cons_of_mem _ hd)) hl2 (by omega) (by split <;> omega) (by split <;> omega) (by omega) (fun d hd => hlen d (List.mem_cons_of_mem _ hd)) (by omega)
    have y3 := y1.app y2
    rw [← List.append_assoc] at y3
    exact y3
/-- the units of a program, its labels -/
def uPr (w : Int32) (v0 v1 : Int) (ls : List De) : List Un := (([uAt w 0 0 (27, Int32.ofInt v0)] ++ [u25 0, u30, u31 w]) ++ ([uAt w 0 0 (27, Int32.ofInt v1)] ++ [u25 2, u30, u31 w])) ++ (uLs w 1 3 8 4 ls ++ ([u3 w (endP 1 3 4 ls).1] ++ [u23 w]))
def lPr (w : Int32) (v0 v1 : Int) (ls : List De) (n : Nat) : List (Int32 × Nat) := lLs w 1 3 8 4 (unN (([uAt w 0 0 (27, Int32.ofInt v0)] ++ [u25 0, u30, u31 w]) ++ ([uAt w 0 0 (27, Int32.ofInt v1)] ++ [u25 2, u30, u31 w])) n) ls ++ [(nI 0, n)]
theorem uPr_g {v0 v1 : Int} {ls : List De} : gU (uPr w v0 v1 ls) := (((gU_1 g_at).app g_H3).app ((gU_1 g_at).app g_H3)).app ((uLs_g ls _ _ _ _).app ((gU_1 g_3).app (gU_1 g_23)))
theorem ln_prog (hw : w = 1 ∨ w = 2) {v0 v1 : Int} {ls : List Ln} (hn : n < 1000) (hls : ls.length ≤ 60) (he : ∀ c ∈ ls.map lnD, ExL c.2) (hlen : ∀ c ∈ ls.map lnD, ∀ px py b dep, (lnO px py b dep c.2).length ≤ 100) (h0 : LD S0 0) (h1 : NL S0 1 7) (h2 : LOs S0 1 3 8 4 (ls.map lnD)) (h3 : NL S0 (8 + (lnsO 1 3 8 4 (ls.map lnD)).length) 2) (hE : (endP 1 3 4 (ls.map lnD)).1 < 4000) : SG S0 w o 0 (prO v0 v1 ls) (uPr w v0 v1 (ls.map lnD)) n lb (lPr w v0 v1 (ls.map lnD) n ++ lb) := by
  have hm : (ls.map lnD).length = ls.length := List.length_map _
  have y1 := sg_atL (S0 := S0) (o := o) (lb := lb) (n := n) (px := 0) (py := 0) hw h0 (by omega) (by decide) (by decide) (27, Int32.ofInt v0)
  have b1 : unN [uAt w 0 0 (27, Int32.ofInt v0)] n ≤ n + 11 := unN_le _ n (gU_1 g_at)
  have y2 := sg_end (S0 := S0) (j := 1) (o := o) (lb := (nI 0, n) :: lb) (n := unN [uAt w 0 0 (27, Int32.ofInt v0)] n) hw (h1.sub (by omega) (by omega)) (by omega) (dep := 0) (by decide)
  have y12 := y1.app y2
  have b2 := unN_le ([uAt w 0 0 (27, Int32.ofInt v0)] ++ [u25 0, u30, u31 w]) n ((gU_1 g_at).app g_H3)
  have b2 : unN ([uAt w 0 0 (27, Int32.ofInt v0)] ++ [u25 0, u30, u31 w]) n ≤ n + 44 := b2
  have y3 := sg_at (S0 := S0) (j := 4) (o := o) (lb := (nI 0, n) :: lb) (n := unN ([uAt w 0 0 (27, Int32.ofInt v0)] ++ [u25 0, u30, u31 w]) n) (px := 0) (py := 0) hw (h1.sub (by omega) (by omega)) (by omega) (by decide) (by decide) (27, Int32.ofInt v1)
  have b3 : unN [uAt w 0 0 (27, Int32.ofInt v1)] (unN ([uAt w 0 0 (27, Int32.ofInt v0)] ++ [u25 0, u30, u31 w]) n) ≤ unN ([uAt w 0 0 (27, Int32.ofInt v0)] ++ [u25 0, u30, u31 w]) n + 11 := unN_le _ _ (gU_1 g_at)
  have y4 := sg_end (S0 := S0) (j := 5) (o := o) (lb := (nI 0, n) :: lb) (n := unN [uAt w 0 0 (27, Int32.ofInt v1)] (unN ([uAt w 0 0 (27, Int32.ofInt v0)] ++ [u25 0, u30, u31 w]) n)) hw (h1.sub (by omega) (by omega)) (by omega) (dep := 2) (by decide)
  have y34 := y3.app y4
  have yA := y12.app y34
  have b5 := unN_le (([uAt w 0 0 (27, Int32.ofInt v0)] ++ [u25 0, u30, u31 w]) ++ ([uAt w 0 0 (27, Int32.ofInt v1)] ++ [u25 2, u30, u31 w])) n (((gU_1 g_at).app g_H3).app ((gU_1 g_at).app g_H3))
  have b5 : unN (([uAt w 0 0 (27, Int32.ofInt v0)] ++ [u25 0, u30, u31 w]) ++ ([uAt w 0 0 (27, Int32.ofInt v1)] ++ [u25 2, u30, u31 w])) n ≤ n + 88 := b5
  generalize hN : unN (([uAt w 0 0 (27, Int32.ofInt v0)] ++ [u25 0, u30, u31 w]) ++ ([uAt w 0 0 (27, Int32.ofInt v1)] ++ [u25 2, u30, u31 w])) n = N at b5
  have yB := ln_lines (S0 := S0) (o := o) hw (ls.map lnD) 1 3 8 4 N ((nI 0, n) :: lb) he h2 (by omega) (by decide) (by decide) (by omega) hlen (by omega)
  have b6 := unN_le (uLs w 1 3 8 4 (ls.map lnD)) N (uLs_g _ _ _ _ _)
  have b7 : (uLs w 1 3 8 4 (ls.map lnD)).length ≤ 20 * (ls.map lnD).length := by
    have key : ∀ (cs : List De) (px py b dep : Nat), (∀ c ∈ cs, ExL c.2) → (uLs w px py b dep cs).length ≤ 20 * cs.length := by
      intro cs
      induction cs with
      | nil => intro _ _ _ _ _; exact Nat.le_refl _
      | cons c cs ih =>
        intro px py b dep h
        have z1 := uLn_len (w := w) (px := px) (py := py) (b := b) (dep := dep) c.2 (h c (List.mem_cons_self ..))
        have z2 := ih (if c.1 = 51 then dep + 1 else px) (if c.1 = 51 then py else dep + 1) (b + (lnO px py b dep c.2).length) (dep + 2) (fun d hd => h d (List.mem_cons_of_mem _ hd))
        show (uLn w px py b dep c.2 ++ uLs w _ _ _ _ cs).length ≤ _
        rw [List.length_append, List.length_cons]
        omega
    exact key _ _ _ _ _ he
  have yC := sg_3 (S0 := S0) (o := o) (j := 8 + (lnsO 1 3 8 4 (ls.map lnD)).length) (lb := lLs w 1 3 8 4 N (ls.map lnD) ++ (nI 0, n) :: lb) (n := unN (uLs w 1 3 8 4 (ls.map lnD)) N) hw (h3.sub (Nat.le_refl _) (by omega)) (by omega) (p := (endP 1 3 4 (ls.map lnD)).1) (by omega)
  have b8 : unN [u3 w (endP 1 3 4 (ls.map lnD)).1] (unN (uLs w 1 3 8 4 (ls.map lnD)) N) ≤ unN (uLs w 1 3 8 4 (ls.map lnD)) N + 11 := unN_le _ _ (gU_1 g_3)
  have yD := sg_23 (S0 := S0) (o := o) (j := 8 + (lnsO 1 3 8 4 (ls.map lnD)).length + 1) (lb := lLs w 1 3 8 4 N (ls.map lnD) ++ (nI 0, n) :: lb) (n := unN [u3 w (endP 1 3 4 (ls.map lnD)).1] (unN (uLs w 1 3 8 4 (ls.map lnD)) N)) hw (h3.sub (by omega) (by omega)) (by omega)
  have yE := yB.app (yC.app yD)
  rw [← hN] at yE
  have yF := yA.app yE
  have e2 : lPr w v0 v1 (ls.map lnD) n ++ lb = lLs w 1 3 8 4 (unN (([uAt w 0 0 (27, Int32.ofInt v0)] ++ [u25 0, u30, u31 w]) ++ ([uAt w 0 0 (27, Int32.ofInt v1)] ++ [u25 2, u30, u31 w])) n) (ls.map lnD) ++ (nI 0, n) :: lb := by
    unfold lPr
    rw [List.append_assoc]
    rfl
  have e : prO v0 v1 ls = ((([atO 0 0 (27, Int32.ofInt v0)] ++ [(25, nI 0, 0), (30, 0, 0), (31, 1, 0)]) ++ ([atO 0 0 (27, Int32.ofInt v1)] ++ [(25, nI 2, 0), (30, 0, 0), (31, 1, 0)])) ++ (lnsO 1 3 8 4 (ls.map lnD) ++ ([(3, nI (endP 1 3 4 (ls.map lnD)).1, 0)] ++ [(23, 0, 0)]))) := by
    unfold prO
    rw [List.append_assoc]
    rfl
  rw [e, e2]
  exact yF
end
