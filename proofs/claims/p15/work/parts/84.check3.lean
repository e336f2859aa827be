/-! Checker: expressions. -/
/-- the links of the marks: which variable a name is -/
def lv (xm ym : Nat) (m : Mk) : Int32 := if m.1 = 6 then (if m.2.1 = 51 then nI xm else nI ym) else if m.1 = 45 then (if m.2.1 = 37 then 65542 else 0) else m.2.2
def mkL (xm ym : Nat) (m : Mk) : Mk := (m.1, m.2.1, lv xm ym m)
/-- some marks are gone through -/
def CkRun (d xm ym : Nat) (ms done todo : List Mk) (S S1 : xS) : Prop := MK S1 ((done ++ ms.map (mkL xm ym)) ++ todo) ∧ ∀ r, CkAt d (done ++ ms.map (mkL xm ym)).length S1 r → CkAt d done.length S r
theorem CkRun.app {d xm ym : Nat} {m1 m2 done todo : List Mk} {S S1 S2 : xS} (h : CkRun d xm ym m1 done (m2 ++ todo) S S1) (h2 : CkRun d xm ym m2 (done ++ m1.map (mkL xm ym)) todo S1 S2) : CkRun d xm ym (m1 ++ m2) done todo S S2 := by
  unfold CkRun at *
  rw [List.map_append, ← List.append_assoc]
  exact ⟨h2.1, fun r hr => h.2 r (h2.2 r hr)⟩
theorem CkRun.one {d xm ym : Nat} {m : Mk} {done todo : List Mk} {S S1 : xS} (h : MK S1 (done ++ mkL xm ym m :: todo)) (h2 : ∀ r, CkAt d (done.length + 1) S1 r → CkAt d done.length S r) : CkRun d xm ym [m] done todo S S1 := by
  refine ⟨?_, fun r hr => h2 r ?_⟩
  · rw [List.append_assoc]; exact h
  · rw [List.length_append] at hr; exact hr
/-- as FrC, but for the links -/
def FrD (t : Nat) (S S1 : xS) : Prop := S1.2 = S.2 ∧ (∀ a, ¬ a = 3 → ¬ a = 5 → ¬ a = 25 → ¬ a = 29 → ¬ a = 30 → ¬ a = 42 → ¬ a = 43 → ¬ a = 47 → ¬ a = 48 → ¬ a = 49 → S1.1 a = S.1 a) ∧ (∀ q, ¬ q = 8 → S1.1 3 q = S.1 3 q) ∧ (∀ q, ¬ q = 13 → ¬ q = 14 → S1.1 5 q = S.1 5 q) ∧ ∀ i, i < t → S1.1 29 i = S.1 29 i ∧ S1.1 30 i = S.1 30 i
theorem FrD.refl {t : Nat} {S : xS} : FrD t S S := ⟨rfl, fun _ _ _ _ _ _ _ _ _ _ _ => rfl, fun _ _ => rfl, fun _ _ _ => rfl, fun _ _ => ⟨rfl, rfl⟩⟩
theorem FrD.trans {t : Nat} {S S1 S2 : xS} (h : FrD t S S1) (h2 : FrD t S1 S2) : FrD t S S2 :=
  ⟨h2.1.trans h.1, fun a g0 g1 g2 g3 g4 g5 g6 g7 g8 g9 => (h2.2.1 a g0 g1 g2 g3 g4 g5 g6 g7 g8 g9).trans (h.2.1 a g0 g1 g2 g3 g4 g5 g6 g7 g8 g9), fun q g => (h2.2.2.1 q g).trans (h.2.2.1 q g), fun q g1 g2 => (h2.2.2.2.1 q g1 g2).trans (h.2.2.2.1 q g1 g2), fun i hi => ⟨(h2.2.2.2.2 i hi).1.trans (h.2.2.2.2 i hi).1, (h2.2.2.2.2 i hi).2.trans (h.2.2.2.2 i hi).2⟩⟩
theorem FrC.D {t : Nat} {S S1 : xS} (h : FrC t S S1) : FrD t S S1 := ⟨h.1, fun a g0 g1 _ g3 g4 g5 g6 g7 g8 g9 => h.2.1 a g0 g1 g3 g4 g5 g6 g7 g8 g9, h.2.2.1, h.2.2.2.1, h.2.2.2.2⟩
theorem FrD.less {t u : Nat} {S S1 : xS} (h : FrD t S S1) (hu : u ≤ t) : FrD u S S1 := ⟨h.1, h.2.1, h.2.2.1, h.2.2.2.1, fun i hi => h.2.2.2.2 i (by omega)⟩
theorem FrD_link {t k : Nat} {l : Int32} {S : xS} : FrD t S (xsetI S 25 k l) := ⟨rfl, fun a _ _ g _ _ _ _ _ _ _ => by rw [xsR g], fun q _ => by rw [xsR (by decide)], fun q _ _ => by rw [xsR (by decide)], fun i _ => ⟨by rw [xsR (by decide)], by rw [xsR (by decide)]⟩⟩
theorem FrD.Fi {t : Nat} {S S1 : xS} {j c : Nat} (h : FrD t S S1) (hf : Fi S j c) : Fi S1 j c := by
  obtain ⟨h1, h2, h3, h4⟩ := hf
  refine ⟨h1, h2, ?_, ?_⟩
  · rw [h.2.1 _ (by decide) (by decide) (by decide) (by decide) (by decide) (by decide) (by decide) (by decide) (by decide) (by decide)]; exact h3
  · rw [h.2.1 44 (by decide) (by decide) (by decide) (by decide) (by decide) (by decide) (by decide) (by decide) (by decide) (by decide), h.2.1 45 (by decide) (by decide) (by decide) (by decide) (by decide) (by decide) (by decide) (by decide) (by decide) (by decide)]; exact h4
theorem FrD.stk {t n i : Nat} {S S1 : xS} (h : FrD t S S1) (hi : i < t) (hs : S.1 29 i = nI n) : S1.1 29 i = nI n := by rw [(h.2.2.2.2 i hi).1]; exact hs
/-- a name or a number that may stand here -/
def AtOk (vs : List Va) (xm ym : Nat) (a : Int32 × Int32) : Prop := a.1 = 27 ∨ (a.1 = 25 ∧ ∃ i v, vs[i]? = some v ∧ Lst vs a.2 i ∧ ((a.2 = 51 ∧ v.2.2 = xm) ∨ (a.2 = 52 ∧ v.2.2 = ym)))
theorem ck_skip {d xm ym : Nat} {S : xS} {done todo : List Mk} {op : Int32} (hm : MK S (done ++ (op, 0, -1) :: todo)) (hl : (done ++ (op, 0, -1) :: todo).length ≤ 10240) (hf : S.1 3 16 = 0) (ho : op = 1 ∨ op = 2) : CkRun (d + 2) xm ym [(op, 0, -1)] done todo S S := by
  have hk : done.length < 10240 := by rw [List.length_append, List.length_cons] at hl; omega
  refine CkRun.one ?_ (fun r hr => ck_plain hm hl hf (by rcases ho with rfl | rfl <;> decide) (s_plain_skip (d := d) hk ho) hr)
  rcases ho with rfl | rfl <;> exact hm
theorem ck_atom {d t xm ym : Nat} {S : xS} {vs : List Va} {done todo : List Mk} {a : Int32 × Int32} (hm : MK S (done ++ atM a.1 a.2 :: todo)) (hl : (done ++ atM a.1 a.2 :: todo).length ≤ 10240) (hc : CE S vs) (ha : AtOk vs xm ym a) (ht : S.1 3 8 = nI t) (ht2 : t < 100) :
    ∃ S1 n, CkRun (d + 4) xm ym [atM a.1 a.2] done todo S S1 ∧ CE S1 vs ∧ TP S1 t n 1 ∧ Fi S1 n 2 ∧ FrD t S S1 := by
  have hk : done.length < 10240 := by rw [List.length_append, List.length_cons] at hl; omega
  obtain ⟨k, m⟩ := a
  rcases ha with z | ⟨z, i, v, hv, hi, hx⟩
  · obtain rfl : k = 27 := z
    have f1 : FrC t S (psS S t (nI 2) 1) := FrC_ps
    exact ⟨_, 2, CkRun.one (f1.MK hm) (fun r hr => ck_plain hm hl hc.2.2.2.2.2.1 (Or.inr (Or.inr (Or.inl rfl))) (s_plain_num (d := d + 1) hk ht (by omega)) hr), hc.C f1, TP_ps, f1.Fi hc.2.2.2.2.1.1, f1.D⟩
  · obtain rfl : k = 25 := z
    have hs := hm.at.2.1
    have f1 : FrC t (xsetI S 25 done.length (nI v.2.2)) (psS (xsetI S 25 done.length (nI v.2.2)) t (nI v.2.1) 1) := FrC_ps
    have hm2 := f1.MK (hm.lk (l := nI v.2.2))
    have hF2 : Fi (xsetI S 25 done.length (nI v.2.2)) v.2.1 2 := FrD_link.Fi (t := t) (hc.2.2.2.2.2.2 v (List.mem_of_getElem? hv) (by rcases hx with ⟨q, -⟩ | ⟨q, -⟩ <;> rw [q] at hi <;> obtain ⟨⟨w, hw, hw2⟩, -⟩ := hi <;> rw [hv] at hw <;> obtain rfl := Option.some.inj hw <;> first | exact Or.inl hw2 | exact Or.inr hw2))
    refine ⟨_, v.2.1, CkRun.one (S1 := psS (xsetI S 25 done.length (nI v.2.2)) t (nI v.2.1) 1) ?_ ?_, (hc.link).C f1, TP_ps, f1.Fi hF2, FrD_link.trans f1.D⟩
    · rcases hx with ⟨q, q2⟩ | ⟨q, q2⟩
      · obtain rfl : m = 51 := q
        rw [q2] at hm2 ⊢
        exact hm2
      · obtain rfl : m = 52 := q
        rw [q2] at hm2 ⊢
        exact hm2
    · intro r hr
      rcases hx with ⟨q, q2⟩ | ⟨q, q2⟩
      · obtain rfl : m = 51 := q
        exact ck_plain hm hl hc.2.2.2.2.2.1 (Or.inr (Or.inr (Or.inr rfl))) (s_plain_name (d := d) (x := 51) hk hs (by decide) hc.2.2.1.1 hc.1 hi hv hc.2.1 ht (by omega)) hr
      · obtain rfl : m = 52 := q
        exact ck_plain hm hl hc.2.2.2.2.2.1 (Or.inr (Or.inr (Or.inr rfl))) (s_plain_name (d := d) (x := 52) hk hs (by decide) hc.2.2.1.2.1 hc.1 hi hv hc.2.1 ht (by omega)) hr
theorem ck_cal {d t xm ym a b : Nat} {S : xS} {vs : List Va} {done todo : List Mk} {w fa : Int32} (hm : MK S (done ++ (9, w, -1) :: todo)) (hl : (done ++ (9, w, -1) :: todo).length ≤ 10240) (hc : CE S vs) (hw : kCal w) (ht2 : t < 100) (h1 : S.1 29 t = nI a) (ha : Fi S a 2) (h2 : TP S (t + 1) b fa) (hb : Fi S b 2) :
    ∃ S1, CkRun (d + 5) xm ym [(9, w, -1)] done todo S S1 ∧ CE S1 vs ∧ TP S1 t 2 0 ∧ FrD t S S1 := by
  have hk : done.length < 10240 := by rw [List.length_append, List.length_cons] at hl; omega
  obtain ⟨S1, q1, q2, q3⟩ := s_operator (d := d) hk hm.at.2.1 hw h2.1 (by omega) h1 h2.2.1 ha hb hc.2.2.2.2.1.2.2.1
  exact ⟨S1, CkRun.one (q2.MK hm) (fun r hr => ck_operator hm hl hc.2.2.2.2.2.1 rfl q1 hr), hc.C q2, q3, q2.D⟩
/-- operators, each with what stands behind it -/
def OaOk (vs : List Va) (xm ym : Nat) (cs : List Oa) : Prop := ∀ c ∈ cs, kCal c.1.1 ∧ AtOk vs xm ym c.2
theorem ck_oa {d t xm ym : Nat} {vs : List Va} : ∀ (cs : List Oa) (w fa : Int32) (S : xS) (a b : Nat) (done todo : List Mk), MK S (done ++ (oaM w cs ++ todo)) → (done ++ (oaM w cs ++ todo)).length ≤ 10240 → CE S vs → kCal w → OaOk vs xm ym cs → t < 99 → S.1 29 t = nI a → Fi S a 2 → TP S (t + 1) b fa → Fi S b 2 →
    ∃ S1, CkRun (d + 5) xm ym (oaM w cs) done todo S S1 ∧ CE S1 vs ∧ TP S1 t 2 0 ∧ FrD t S S1
  | [], w, fa, S, a, b, done, todo, hm, hl, hc, hw, _, ht, h1, ha, h2, hb => ck_cal hm hl hc hw (by omega) h1 ha h2 hb
  | c :: cs, w, fa, S, a, b, done, todo, hm, hl, hc, hw, ho, ht, h1, ha, h2, hb => by
    obtain ⟨S1, a1, a2, a3, a4⟩ := ck_cal (d := d) (xm := xm) (ym := ym) hm hl hc hw (by omega) h1 ha h2 hb
    have hl1 : ((done ++ [(9, w, -1)].map (mkL xm ym)) ++ (atM c.2.1 c.2.2 :: (oaM c.1.1 cs ++ todo))).length ≤ 10240 := by
      have := hl
      simp only [oaM, List.length_append, List.length_cons, List.length_nil, List.length_map] at this ⊢
      omega
    obtain ⟨hk1, hk2⟩ := ho c List.mem_cons_self
    obtain ⟨S2, n, b1, b2, b3, b4, b5⟩ := ck_atom (d := d + 1) (t := t + 1) a1.1 hl1 a2 hk2 a3.1 (by omega)
    have f2 : Fi S2 2 2 := b2.2.2.2.2.1.1
    have hl2 : (((done ++ [(9, w, -1)].map (mkL xm ym)) ++ [atM c.2.1 c.2.2].map (mkL xm ym)) ++ (oaM c.1.1 cs ++ todo)).length ≤ 10240 := by
      simp only [oaM, List.length_append, List.length_cons, List.length_nil, List.length_map] at hl1 ⊢
      omega
    obtain ⟨S3, c1, c2, c3, c4⟩ := ck_oa cs c.1.1 1 S2 2 n _ todo b1.1 hl2 b2 hk1 (fun x hx => ho x (List.mem_cons_of_mem _ hx)) ht (b5.stk (by omega) a3.2.1) f2 b3 b4
    exact ⟨S3, a1.app (b1.app c1), c2, c3, a4.trans ((b5.less (by omega)).trans c4)⟩
theorem ck_ch {d t xm ym a : Nat} {vs : List Va} {S : xS} {c : Oa} {cs : List Oa} {done todo : List Mk} {fa : Int32} (hm : MK S (done ++ (chM (c :: cs) ++ todo))) (hl : (done ++ (chM (c :: cs) ++ todo)).length ≤ 10240) (hc : CE S vs) (ho : OaOk vs xm ym (c :: cs)) (ht : t < 99) (h1 : TP S t a fa) (ha : Fi S a 2) :
    ∃ S1, CkRun (d + 5) xm ym (chM (c :: cs)) done todo S S1 ∧ CE S1 vs ∧ TP S1 t 2 0 ∧ FrD t S S1 := by
  obtain ⟨hk1, hk2⟩ := ho c List.mem_cons_self
  obtain ⟨S2, n, b1, b2, b3, b4, b5⟩ := ck_atom (d := d + 1) (t := t + 1) hm hl hc hk2 h1.1 (by omega)
  have hl2 : ((done ++ [atM c.2.1 c.2.2].map (mkL xm ym)) ++ (oaM c.1.1 cs ++ todo)).length ≤ 10240 := by
    have := hl
    simp only [chM, List.length_append, List.length_cons, List.length_nil, List.length_map] at this ⊢
    omega
  obtain ⟨S3, c1, c2, c3, c4⟩ := ck_oa (d := d) cs c.1.1 1 S2 a n _ todo b1.1 hl2 b2 hk1 (fun x hx => ho x (List.mem_cons_of_mem _ hx)) (by omega) (b5.stk (by omega) h1.2.1) (b5.Fi ha) b3 b4
  exact ⟨S3, b1.app c1, c2, c3, (b5.less (by omega)).trans c4⟩
