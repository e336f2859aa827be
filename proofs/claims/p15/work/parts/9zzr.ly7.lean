/-! Where words are laid: a line, whole. -/
def uPl (w : Int32) (px py dep : Nat) (q : Int32 × Int32) (c : Oa) (cs : List Oa) : List Un := [uAt w px py q] ++ ([uAt w px py c.2] ++ (uOa w px py c.1.1 cs ++ [uOp w (laO c.1.1 cs), u25 dep, u30, u31 w]))
def uH1 (w : Int32) (px py b dep : Nat) (q : Int32 × Int32) (c : Oa) (cs : List Oa) : List Un := [u18 (nI (b + (2 * cs.length + 3) + 3))] ++ ([uAt w px py q] ++ ([uAt w px py c.2] ++ (uOa w px py c.1.1 cs ++ (uOT w (laO c.1.1 cs) ++ [u8 (nI (b + (2 * cs.length + 3) + 9))]))))
def uH2 (w : Int32) (py b dep : Nat) (cs : List Oa) : List Un := [u25 dep, u29 w (nI (b + (2 * cs.length + 3) + 8))] ++ ([u3 w py] ++ uSJ w (nI (b + (2 * cs.length + 3) + 9)))
def uH3 (w : Int32) (dep : Nat) : List Un := [u25 dep, u30, u31 w]
def uHa (w : Int32) (px py b dep : Nat) (q : Int32 × Int32) (c : Oa) (cs : List Oa) : List Un := uH1 w px py b dep q c cs ++ (uH2 w py b dep cs ++ ([u20 w] ++ uH3 w dep))
section
variable {w : Int32} {px py b dep : Nat} {q : Int32 × Int32} {c : Oa} {cs : List Oa}
theorem gU_1 {u : Un} (h : unG u = true) : gU [u] := gU.cons h gU.nil
theorem g_Pl : gU (uPl w px py dep q c cs) := (gU_1 g_at).app ((gU_1 g_at).app (gU.app (uOa_g _ _).1 (gU.cons g_op (gU.cons g_25 (gU.cons g_30 (gU_1 g_31))))))
theorem g_H1 : gU (uH1 w px py b dep q c cs) := (gU_1 g_18).app ((gU_1 g_at).app ((gU_1 g_at).app (gU.app (uOa_g _ _).1 (gU.app g_ot.1 (gU_1 g_8)))))
theorem g_H2 : gU (uH2 w py b dep cs) := gU.app (gU.cons g_25 (gU_1 g_29)) ((gU_1 g_3).app g_sj.1)
theorem g_H3 : gU (uH3 w dep) := gU.cons g_25 (gU.cons g_30 (gU_1 g_31))
theorem g_Ha : gU (uHa w px py b dep q c cs) := g_H1.app (g_H2.app ((gU_1 g_20).app g_H3))
theorem Pl_len : (uPl w px py dep q c cs).length = 2 * cs.length + 6 := by
  unfold uPl
  simp only [List.length_append, List.length_cons, List.length_nil, (uOa_g c.1.1 cs).2]
  omega
theorem H1_len : (uH1 w px py b dep q c cs).length ≤ 2 * cs.length + 6 := by
  have h := (g_ot (w := w) (k := laO c.1.1 cs)).2
  unfold uH1
  simp only [List.length_append, List.length_cons, List.length_nil, (uOa_g c.1.1 cs).2]
  omega
theorem H2_len : (uH2 w py b dep cs).length ≤ 5 := by
  have h := (g_sj (w := w) (l := nI (b + (2 * cs.length + 3) + 9))).2
  unfold uH2
  simp only [List.length_append, List.length_cons, List.length_nil]
  omega
end
section
variable {S0 : xS} {w o : Int32} {j n : Nat} {lb : List (Int32 × Nat)} {px py dep : Nat} {q : Int32 × Int32} {c : Oa} {cs : List Oa}
theorem exE_I : exE px py q (c :: cs) = [atO px py q] ++ ([atO px py c.2] ++ (oaI px py c.1.1 cs ++ [(7, laO c.1.1 cs, 0)])) := by
  show atO px py q :: (atO px py c.2 :: oaO px py c.1.1 cs) = _
  rw [oaO_I]
  rfl
/-- a line that isn't handled -/
theorem ln_plain (hw : w = 1 ∨ w = 2) (hl : NL S0 j (2 * cs.length + 6)) (hn : n + 22 * cs.length + 400 < 262144) (hpx : px < 8192) (hpy : py < 8192) (hd : dep < 8192) (hv : OaV (c :: cs)) : SG S0 w o j (lnO px py j dep (.inr (q, c :: cs, none))) (uPl w px py dep q c cs) n lb lb := by
  have hk := (hv c (List.mem_cons_self ..)).1
  have hv' : OaV cs := fun d hd => hv d (List.mem_cons_of_mem _ hd)
  have e : lnO px py j dep (.inr (q, c :: cs, none)) = [atO px py q] ++ ([atO px py c.2] ++ (oaI px py c.1.1 cs ++ [(7, laO c.1.1 cs, 0), (25, nI dep, 0), (30, 0, 0), (31, 1, 0)])) := by
    show exE px py q (c :: cs) ++ _ = _
    rw [exE_I]
    simp only [List.append_assoc, List.cons_append, List.nil_append]
  rw [e]
  have b1 : unN [uAt w px py q] n ≤ n + 11 := unN_le _ n (gU_1 g_at)
  have b2 : unN [uAt w px py c.2] (unN [uAt w px py q] n) ≤ unN [uAt w px py q] n + 11 := unN_le _ _ (gU_1 g_at)
  have b3 := unN_le (uOa w px py c.1.1 cs) (unN [uAt w px py c.2] (unN [uAt w px py q] n)) (uOa_g _ _).1
  rw [(uOa_g c.1.1 cs).2] at b3
  refine (sg_at hw (hl.sub (by omega) (by omega)) (by omega) hpx hpy q).app ?_
  refine (sg_at hw (hl.sub (by omega) (by show _ + 1 + 1 ≤ _; omega)) (by omega) hpx hpy c.2).app ?_
  refine (sg_oa hw (hl.sub (by omega) (by show _ + 1 + 1 + 2 * cs.length ≤ _; omega)) (by omega) hpx hpy hk hv').app ?_
  exact sg_ope hw (hl.sub (by omega) (by rw [oaI_len]; show _ + 1 + 1 + 2 * cs.length + 4 ≤ _; omega)) (by omega) (laO_c hk cs hv') hd
theorem ln_h1 (hw : w = 1 ∨ w = 2) (hl : NL S0 j (2 * cs.length + 6)) (hn : n + 22 * cs.length + 400 < 262144) (hpx : px < 8192) (hpy : py < 8192) (hj : j < 1000000) (hcs : cs.length < 100) (hv : OaV (c :: cs)) : SG S0 w o j ((18, nI (j + (2 * cs.length + 3) + 3), 0) :: (exE px py q (c :: cs) ++ [(19, 0, 0), (8, nI (j + (2 * cs.length + 3) + 9), 0)])) (uH1 w px py j dep q c cs) n lb lb := by
  have hk := (hv c (List.mem_cons_self ..)).1
  have hv' : OaV cs := fun d hd => hv d (List.mem_cons_of_mem _ hd)
  have e : ((18, nI (j + (2 * cs.length + 3) + 3), 0) : Or3) :: (exE px py q (c :: cs) ++ [(19, 0, 0), (8, nI (j + (2 * cs.length + 3) + 9), 0)]) = [(18, nI (j + (2 * cs.length + 3) + 3), 0)] ++ ([atO px py q] ++ ([atO px py c.2] ++ (oaI px py c.1.1 cs ++ ([(7, laO c.1.1 cs, 0), (19, 0, 0)] ++ [(8, nI (j + (2 * cs.length + 3) + 9), 0)])))) := by
    rw [exE_I]
    simp only [List.append_assoc, List.cons_append, List.nil_append]
  rw [e]
  have b0 : unN [u18 (nI (j + (2 * cs.length + 3) + 3))] n ≤ n + 11 := unN_le _ n (gU_1 g_18)
  generalize hn0 : unN [u18 (nI (j + (2 * cs.length + 3) + 3))] n = n0 at b0
  have b1 : unN [uAt w px py q] n0 ≤ n0 + 11 := unN_le _ n0 (gU_1 g_at)
  have b2 : unN [uAt w px py c.2] (unN [uAt w px py q] n0) ≤ unN [uAt w px py q] n0 + 11 := unN_le _ _ (gU_1 g_at)
  have b3 := unN_le (uOa w px py c.1.1 cs) (unN [uAt w px py c.2] (unN [uAt w px py q] n0)) (uOa_g _ _).1
  have b4 := unN_le (uOT w (laO c.1.1 cs)) (unN (uOa w px py c.1.1 cs) (unN [uAt w px py c.2] (unN [uAt w px py q] n0))) g_ot.1
  have b5 := (g_ot (w := w) (k := laO c.1.1 cs)).2
  rw [(uOa_g c.1.1 cs).2] at b3
  refine (sg_18 hw (hl.sub (by omega) (by omega)) (by omega) _).app ?_
  rw [hn0]
  refine (sg_at hw (hl.sub (by omega) (by show _ + 1 + 1 ≤ _; omega)) (by omega) hpx hpy q).app ?_
  refine (sg_at hw (hl.sub (by omega) (by show _ + 1 + 1 + 1 ≤ _; omega)) (by omega) hpx hpy c.2).app ?_
  refine (sg_oa hw (hl.sub (by omega) (by show _ + 1 + 1 + 1 + 2 * cs.length ≤ _; omega)) (by omega) hpx hpy hk hv').app ?_
  refine (sg_opt hw (hl.sub (by omega) (by rw [oaI_len]; show _ + 1 + 1 + 1 + 2 * cs.length + 2 ≤ _; omega)) (by omega) (laO_c hk cs hv')).app ?_
  exact sg_8 hw (hl.sub (by omega) (by rw [oaI_len]; show _ + 1 + 1 + 1 + 2 * cs.length + 2 + 1 ≤ _; omega)) (by omega) (by omega)
theorem ln_h2 {e b : Nat} (hw : w = 1 ∨ w = 2) (hj : LD S0 j) (hl : NL S0 (j + 1) 4) (hn : n + 400 < 262144) (hpy : py < 8192) (hd : dep < 8192) (he : e = 2 * cs.length + 3) (hb : b + e < 1000000) : SG S0 w o j [(25, nI dep, 0), (29, 26, fxX (b + e + 8)), (3, nI py, 0), (11, 1, 0), (8, nI (b + e + 9), 0)] (uH2 w py b dep cs) n lb ((nI j, n) :: lb) := by
  subst he
  have b1 : unN [u25 dep, u29 w (nI (b + (2 * cs.length + 3) + 8))] n ≤ n + 22 := unN_le _ n (gU.cons g_25 (gU_1 g_29))
  have b2 : unN [u3 w py] (unN [u25 dep, u29 w (nI (b + (2 * cs.length + 3) + 8))] n) ≤ unN [u25 dep, u29 w (nI (b + (2 * cs.length + 3) + 8))] n + 11 := unN_le _ _ (gU_1 g_3)
  have x1 := (sg_25_29 (o := o) (lb := lb) hw hj (hl.sub (by omega) (by omega)) (n := n) (by omega) hd (m := b + (2 * cs.length + 3) + 8) (by omega))
  exact x1.app ((sg_3 hw (hl.sub (by show _ ≤ j + 2; omega) (by show j + 2 + 1 ≤ _; omega)) (by omega) hpy).app (sg_sj hw (hl.sub (by show _ ≤ j + 2 + 1; omega) (by show j + 2 + 1 + 2 ≤ _; omega)) (by omega) (by omega)))
/-- a line that is handled -/
theorem ln_handled (hw : w = 1 ∨ w = 2) {e : Nat} (he : e = 2 * cs.length + 3) (hl1 : NL S0 j (e + 3)) (hj1 : LD S0 (j + e + 3)) (hl2 : NL S0 (j + e + 4) 4) (hj2 : LD S0 (j + e + 8)) (hj3 : LD S0 (j + e + 9)) (hl3 : NL S0 (j + e + 10) 2) (hn : n + 22 * cs.length + 600 < 262144) (hpx : px < 8192) (hpy : py < 8192) (hd : dep < 8192) (hj : j < 900000) (hcs : cs.length < 100) (hv : OaV (c :: cs)) (h : Int32 × Int32) : SG S0 w o j (lnO px py j dep (.inr (q, c :: cs, some h))) (uHa w px py j dep q c cs) n lb ((nI (j + e + 9), unN (uH1 w px py j dep q c cs ++ (uH2 w py j dep cs ++ [u20 w])) n) :: (nI (j + e + 8), unN (uH1 w px py j dep q c cs ++ uH2 w py j dep cs) n) :: (nI (j + e + 3), unN (uH1 w px py j dep q c cs) n) :: lb) := by
  have hL : (exE px py q (c :: cs)).length = 2 * cs.length + 3 := exE_len
  have e1 : lnO px py j dep (.inr (q, c :: cs, some h)) = ((18, nI (j + (2 * cs.length + 3) + 3), 0) :: (exE px py q (c :: cs) ++ [(19, 0, 0), (8, nI (j + (2 * cs.length + 3) + 9), 0)])) ++ ([(25, nI dep, 0), (29, 26, fxX (j + e + 8)), (3, nI py, 0), (11, 1, 0), (8, nI (j + e + 9), 0)] ++ ([(20, 0, 0)] ++ [(25, nI dep, 0), (30, 0, 0), (31, 1, 0)])) := by
    show (18, nI (j + (exE px py q (c :: cs)).length + 3), 0) :: (exE px py q (c :: cs) ++ haO j (exE px py q (c :: cs)).length dep py) ++ [(25, nI dep, 0), (30, 0, 0), (31, 1, 0)] = _
    unfold haO
    rw [hL, he]
    simp only [List.append_assoc, List.cons_append, List.nil_append]
  rw [e1]
  have b1 := unN_le (uH1 w px py j dep q c cs) n g_H1
  have b1' := H1_len (w := w) (px := px) (py := py) (b := j) (dep := dep) (q := q) (c := c) (cs := cs)
  have b2 := unN_le (uH2 w py j dep cs) (unN (uH1 w px py j dep q c cs) n) g_H2
  have b2' := H2_len (w := w) (py := py) (b := j) (dep := dep) (cs := cs)
  have b3 : unN [u20 w] (unN (uH2 w py j dep cs) (unN (uH1 w px py j dep q c cs) n)) ≤ unN (uH2 w py j dep cs) (unN (uH1 w px py j dep q c cs) n) + 11 := unN_le _ _ (gU_1 g_20)
  have p1 : j + ((18, nI (j + (2 * cs.length + 3) + 3), 0) :: (exE px py q (c :: cs) ++ [(19, 0, 0), (8, nI (j + (2 * cs.length + 3) + 9), 0)]) : List Or3).length = j + e + 3 := by
    rw [List.length_cons, List.length_append, hL, he]
    show j + (2 * cs.length + 3 + 2 + 1) = _
    omega
  have y1 := ln_h1 (S0 := S0) (o := o) (lb := lb) (dep := dep) (q := q) hw (hl1.sub (Nat.le_refl _) (by omega)) (by omega) hpx hpy (by omega) hcs hv (n := n)
  refine y1.app ?_
  rw [p1]
  have y2 := ln_h2 (S0 := S0) (o := o) (lb := lb) (n := unN (uH1 w px py j dep q c cs) n) hw hj1 (hl2.sub (by omega) (by omega)) (by omega) hpy hd he (by omega) (b := j)
  refine y2.app ?_
  rw [show j + e + 3 + ([(25, nI dep, 0), (29, 26, fxX (j + e + 8)), (3, nI py, 0), (11, 1, 0), (8, nI (j + e + 9), 0)] : List Or3).length = j + e + 8 from rfl]
  have y3 := sg_20 (S0 := S0) (o := o) (lb := (nI (j + e + 3), unN (uH1 w px py j dep q c cs) n) :: lb) (n := unN (uH2 w py j dep cs) (unN (uH1 w px py j dep q c cs) n)) hw hj2 (by omega)
  have y4 := sg_endL (S0 := S0) (o := o) (lb := (nI (j + e + 8), unN (uH2 w py j dep cs) (unN (uH1 w px py j dep q c cs) n)) :: (nI (j + e + 3), unN (uH1 w px py j dep q c cs) n) :: lb) (n := unN [u20 w] (unN (uH2 w py j dep cs) (unN (uH1 w px py j dep q c cs) n))) hw hj3 (hl3.sub (by omega) (by omega)) (by omega) hd
  have y5 := y3.app y4
  rw [unN_app, unN_app, unN_app]
  exact y5
end
