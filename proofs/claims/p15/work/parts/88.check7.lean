/-! Checker: a val declaration. -/
theorem Fi.fr {S : xS} {j c n : Nat} {h : Int32} (hf : Fi S j c) (hj : ¬ j = n) (hc : ¬ c = n) : Fi (frS S n h) j c := by
  obtain ⟨h1, h2, h3, h4⟩ := hf
  unfold frS
  exact ⟨h1, h2, by simp (config := { decide := true }) only [xsI, hc, and_false, false_and, if_false]; exact h3, by simp (config := { decide := true }) only [xsI, hj, and_false, false_and, if_false]; exact h4⟩
theorem Fi.bd {S : xS} {j c n c0 : Nat} (hf : Fi S j c) (hj : ¬ j = n) (hc : ¬ c = n) : Fi (bdS S n c0) j c := by
  obtain ⟨h1, h2, h3, h4⟩ := hf
  unfold bdS
  exact ⟨h1, h2, by simp (config := { decide := true }) only [xsI, hc, and_false, false_and, if_false]; exact h3, by simp (config := { decide := true }) only [xsI, hj, and_false, false_and, if_false]; exact h4⟩
/-- what looking at a program may change -/
def FrK (S S1 : xS) : Prop := S1.2 = S.2 ∧ ∀ a, ¬ (a = 3 ∨ a = 4 ∨ a = 5 ∨ a = 25 ∨ (29 ≤ a ∧ a ≤ 52)) → S1.1 a = S.1 a
theorem FrK.trans {S S1 S2 : xS} (h : FrK S S1) (h2 : FrK S1 S2) : FrK S S2 := ⟨h2.1.trans h.1, fun a ha => (h2.2 a ha).trans (h.2 a ha)⟩
theorem FrH.K {t g : Nat} {S S1 : xS} (h : FrH t g S S1) : FrK S S1 := ⟨h.1, fun a ha => h.2.1 a (by omega) (by omega) (by omega) (by omega) (by omega) (by omega) (by omega) (by omega) (by omega) (by omega) (by omega)⟩
theorem FrK_set {S : xS} {a0 k : Nat} {x : Int32} (h : a0 = 3 ∨ a0 = 4 ∨ a0 = 5 ∨ a0 = 25 ∨ (29 ≤ a0 ∧ a0 ≤ 52)) : FrK S (xsetI S a0 k x) := ⟨rfl, fun a ha => by rw [xsR (by omega)]⟩
/-- names of int and of Div -/
def TN (S : xS) : Prop := S.1 38 2 = 25 ∧ S.1 36 30 = nI 37
/-- between two declarations -/
def LSt (S : xS) (vs : List Va) (n vis : Nat) : Prop := CE S vs ∧ S.1 5 11 = nI n ∧ S.1 5 15 = 0 ∧ S.1 4 13 = nI vis ∧ S.1 3 8 = nI 0 ∧ S.1 3 9 = nI 0 ∧ (9 ≤ n ∧ n < 1000) ∧ (∀ v ∈ vs, v.2.1 < n) ∧ TN S
theorem Lst.hid {vs : List Va} {a h : Int32} {i n m : Nat} (hl : Lst vs a i) (hh : ¬ h = a) : Lst (vs ++ [(h, n, m)]) a i := by
  obtain ⟨⟨v, hv, hx⟩, hn⟩ := hl
  have hlt := (List.getElem?_eq_some_iff.mp hv).1
  refine ⟨⟨v, by rw [List.getElem?_append_left hlt]; exact hv, hx⟩, fun j w hj hw => ?_⟩
  rcases Nat.lt_or_ge j vs.length with z | z
  · rw [List.getElem?_append_left z] at hw; exact hn j w hj hw
  · rw [List.getElem?_append_right z] at hw
    have hj2 : j - vs.length = 0 := by have := (List.getElem?_eq_some_iff.mp hw).1; rw [List.length_singleton] at this; omega
    rw [hj2] at hw
    obtain rfl : (h, n, m) = w := Option.some.inj hw
    exact hh
theorem hid_ne {x : Nat} (hx : x = 51 ∨ x = 52) : ¬ nI x ^^^ -1 = 51 ∧ ¬ nI x ^^^ -1 = 52 := by rcases hx with rfl | rfl <;> decide
theorem AtOk.hid {vs : List Va} {xm ym x n m : Nat} {a : Int32 × Int32} (hx : x = 51 ∨ x = 52) (h : AtOk vs xm ym a) : AtOk (vs ++ [(nI x ^^^ -1, n, m)]) xm ym a := by
  rcases h with h | ⟨h, i, v, hv, hl, hc⟩
  · exact Or.inl h
  · refine Or.inr ⟨h, i, v, by rw [List.getElem?_append_left (List.getElem?_eq_some_iff.mp hv).1]; exact hv, hl.hid ?_, hc⟩
    rcases hc with ⟨z, -⟩ | ⟨z, -⟩
    · rw [z]; exact (hid_ne hx).1
    · rw [z]; exact (hid_ne hx).2
theorem ExOk.hid {vs : List Va} {xm ym x n m : Nat} {e : Ex} (hx : x = 51 ∨ x = 52) (h : ExOk vs xm ym e) : ExOk (vs ++ [(nI x ^^^ -1, n, m)]) xm ym e := by
  match e, h with
  | .inl a, h => exact h
  | .inr (a, cs, o), ⟨h1, h2, h3, h4⟩ => exact ⟨h1.hid hx, fun c hc => ⟨(h2 c hc).1, (h2 c hc).2.hid hx⟩, h3, h4.elim Or.inl (fun z => Or.inr ⟨z.1, z.2.hid hx⟩)⟩
set_option maxHeartbeats 4000000 in
set_option maxRecDepth 100000 in
theorem ck_begin {d n vis x xm ym : Nat} {l : Int32} {S : xS} {vs : List Va} {done todo : List Mk} (hx : x = 51 ∨ x = 52) (hm : MK S (done ++ ([(70, 1, l), (40, 0, -1), (45, nI x, -1), (71, 0, -1)] ++ todo))) (hl : (done ++ ([(70, 1, l), (40, 0, -1), (45, nI x, -1), (71, 0, -1)] ++ todo)).length ≤ 10240) (hL : LSt S vs n vis) (hv : vs.length < 99) (hvis : vis < 99) :
    ∃ S1, CkRun (d + 5) xm ym [(70, 1, l), (40, 0, -1), (45, nI x, -1), (71, 0, -1)] done todo S S1 ∧ CE S1 (vs ++ [(nI x ^^^ -1, n, done.length + 2)]) ∧ S1.1 5 11 = nI (n + 1) ∧ S1.1 5 15 = 1 ∧ S1.1 4 13 = nI vis ∧ S1.1 3 8 = nI 1 ∧ S1.1 29 0 = nI n ∧ S1.1 3 9 = nI 2 ∧ S1.1 31 0 = nI vs.length ∧ S1.1 44 n = -1 ∧ S1.1 45 n = 1 ∧ TN S1 ∧ FrK S S1 := by
  obtain ⟨hc, hn, hlv, hvi, ht, hg, ⟨hn9, hn1⟩, hb, hty⟩ := hL
  obtain ⟨c1, c2, c3, c4, c5, c6, c7⟩ := id hc
  have K : ∀ {ds ts : List Mk} {m : Mk}, (ds ++ m :: ts).length ≤ 10240 → ds.length < 10240 := fun h => by rw [List.length_append, List.length_cons] at h; omega
  have hcx : S.1 37 x = -1 := by rcases hx with rfl | rfl; exact c3.1; exact c3.2.1
  have hx2 : x < 2176 := by omega
  -- D_VAL
  have hm1 : MK S (done ++ (70, 1, l) :: ([(40, 0, -1), (45, nI x, -1), (71, 0, -1)] ++ todo)) := hm
  have hl1 : (done ++ (70, 1, l) :: ([(40, 0, -1), (45, nI x, -1), (71, 0, -1)] ++ todo)).length ≤ 10240 := hl
  have p1 := s_dec_val (d := d + 2) (T := vs.length) (vis := vis) (K hl1) hm1.at.2.1 c1.1 hvi hg
  have lv1 : (vbS S vs.length vis).1 5 15 = 1 := by show S.1 5 15 + 1 = 1; rw [hlv]; rfl
  have hm1' : MK (vbS S vs.length vis) (done ++ (70, 1, l) :: ([(40, 0, -1), (45, nI x, -1), (71, 0, -1)] ++ todo)) := hm1
  have r1 : CkRun (d + 5) xm ym [(70, 1, l)] done ([(40, 0, -1), (45, nI x, -1), (71, 0, -1)] ++ todo) S (vbS S vs.length vis) := CkRun.one hm1' (fun r hr => ck_dec hm1 hl1 c6 (Or.inl rfl) p1 hr)
  have q1 : S.1 5 11 = (vbS S vs.length vis).1 5 11 := rfl
  have f1 : FrK S (vbS S vs.length vis) := by
    unfold vbS hdS bdcS
    exact (FrK_set (by omega)).trans ((FrK_set (by omega)).trans ((FrK_set (by omega)).trans ((FrK_set (by omega)).trans ((FrK_set (by omega)).trans ((FrK_set (by omega)).trans ((FrK_set (by omega)).trans (FrK_set (by omega))))))))
  have V1 : VS (vbS S vs.length vis) vs := c1
  have F1 : ∀ {j c}, Fi S j c → Fi (vbS S vs.length vis) j c := fun h => h
  have h1a : (vbS S vs.length vis).1 37 = S.1 37 := rfl
  have h1b : (vbS S vs.length vis).1 36 = S.1 36 := rfl
  have h1c : (vbS S vs.length vis).1 50 = S.1 50 := rfl
  have h1d : (vbS S vs.length vis).1 4 10 = 0 := c2
  have h1e : (vbS S vs.length vis).1 3 16 = 0 := c6
  have h1f : TN (vbS S vs.length vis) := hty
  have h1g : (vbS S vs.length vis).1 3 12 = nI vs.length := rfl
  have h1h : (vbS S vs.length vis).1 4 13 = nI vis := hvi
  have h1i : (vbS S vs.length vis).1 3 8 = nI 0 := ht
  have h1j : (vbS S vs.length vis).1 3 9 = nI 2 := rfl
  have h1k : (vbS S vs.length vis).1 31 0 = nI vs.length := rfl
  have h1l : (vbS S vs.length vis).1 31 1 = nI vis := rfl
  rw [q1] at hn
  generalize vbS S vs.length vis = S1 at *
  -- P_MARK
  have hm2 := r1.1
  have hl2 := len_run (xm := xm) (ym := ym) hl1
  have r2 : CkRun (d + 5) xm ym [(40, 0, -1)] _ ([(45, nI x, -1), (71, 0, -1)] ++ todo) S1 S1 := CkRun.one hm2 (fun r hr => ck_pattern hm2 hl2 h1e (Or.inl rfl) (s_pat_skip (d := d + 3) (K hl2)) hr)
  have hm3 := r2.1
  have hl3 := len_run (xm := xm) (ym := ym) hl2
  have hd3 : (done ++ [(70, 1, l)].map (mkL xm ym) ++ [(40, 0, -1)].map (mkL xm ym)).length = done.length + 2 := by simp only [List.length_append, List.length_map, List.length_cons, List.length_nil]
  -- P_NAME
  have hs3 : S1.1 23 (done ++ [(70, 1, l)].map (mkL xm ym) ++ [(40, 0, -1)].map (mkL xm ym)).length = nI x := hm3.at.2.1
  have p3 := s_pat_var (d := d) (x := x) (n := n) (T := vs.length) (vis := vis) (K hl3) hs3 hx2 (by rw [h1a]; exact hcx) hn (by omega) lv1 V1.1 (by omega) h1g h1h (by omega) h1d h1i
  have m3 : MK (pvS S1 x n vs.length vis (done ++ [(70, 1, l)].map (mkL xm ym) ++ [(40, 0, -1)].map (mkL xm ym)).length) (done ++ [(70, 1, l)].map (mkL xm ym) ++ [(40, 0, -1)].map (mkL xm ym) ++ (45, nI x, 0) :: ([(71, 0, -1)] ++ todo)) := hm3.lk (l := 0)
  have m3' : MK (pvS S1 x n vs.length vis (done ++ [(70, 1, l)].map (mkL xm ym) ++ [(40, 0, -1)].map (mkL xm ym)).length) (done ++ [(70, 1, l)].map (mkL xm ym) ++ [(40, 0, -1)].map (mkL xm ym) ++ mkL xm ym (45, nI x, -1) :: ([(71, 0, -1)] ++ todo)) := by
    have : mkL xm ym (45, nI x, -1) = (45, nI x, 0) := by unfold mkL lv; rcases hx with rfl | rfl <;> rfl
    rw [this]; exact m3
  have r3 : CkRun (d + 5) xm ym [(45, nI x, -1)] _ ([(71, 0, -1)] ++ todo) S1 _ := CkRun.one m3' (fun r hr => ck_pattern hm3 hl3 h1e (Or.inr rfl) p3 hr)
  have hm4 := r3.1
  have hl4 := len_run (xm := xm) (ym := ym) hl3
  rw [hd3] at r3 hm4
  have V3 : VS (pvS S1 x n vs.length vis (done.length + 2)) (vs ++ [(nI x, n, done.length + 2)]) := VS.add (S := xsetI (frS S1 n 1) 25 (done.length + 2) 0) (x := nI x) (n := n) (m := done.length + 2) (vis := vis) V1 (by omega)
  have F3 : ∀ {j c}, Fi S1 j c → ¬ j = n → ¬ c = n → Fi (pvS S1 x n vs.length vis (done.length + 2)) j c := fun h h1 h2 => h.fr (h := 1) h1 h2
  have e3 : (pvS S1 x n vs.length vis (done.length + 2)).1 5 11 = nI (n + 1) := rfl
  have e3b : (pvS S1 x n vs.length vis (done.length + 2)).1 5 15 = 1 := lv1
  have e3c : (pvS S1 x n vs.length vis (done.length + 2)).1 3 8 = nI 1 := rfl
  have e3d : (pvS S1 x n vs.length vis (done.length + 2)).1 29 0 = nI n := rfl
  have e3e : (pvS S1 x n vs.length vis (done.length + 2)).1 44 n = -1 := by show (frS S1 n 1).1 44 n = -1; unfold frS; simp (config := { decide := true }) only [xsI, and_self, false_and, if_true, if_false]
  have e3f : (pvS S1 x n vs.length vis (done.length + 2)).1 45 n = 1 := by show (frS S1 n 1).1 45 n = 1; unfold frS; simp (config := { decide := true }) only [xsI, and_self, false_and, if_true, if_false]
  have e3g : (pvS S1 x n vs.length vis (done.length + 2)).1 37 = S1.1 37 := rfl
  have e3h : (pvS S1 x n vs.length vis (done.length + 2)).1 36 = S1.1 36 := rfl
  have e3i : (pvS S1 x n vs.length vis (done.length + 2)).1 50 = S1.1 50 := rfl
  have e3j : (pvS S1 x n vs.length vis (done.length + 2)).1 4 10 = 0 := h1d
  have e3k : (pvS S1 x n vs.length vis (done.length + 2)).1 3 16 = 0 := h1e
  have e3l : TN (pvS S1 x n vs.length vis (done.length + 2)) := h1f
  have e3m : (pvS S1 x n vs.length vis (done.length + 2)).1 3 9 = nI 2 := h1j
  have e3n : (pvS S1 x n vs.length vis (done.length + 2)).1 31 0 = nI vs.length := h1k
  have e3o : (pvS S1 x n vs.length vis (done.length + 2)).1 31 1 = nI vis := h1l
  have f3 : FrK S1 (pvS S1 x n vs.length vis (done.length + 2)) := by
    unfold pvS psS avS frS
    exact (FrK_set (by omega)).trans ((FrK_set (by omega)).trans ((FrK_set (by omega)).trans ((FrK_set (by omega)).trans ((FrK_set (by omega)).trans ((FrK_set (by omega)).trans ((FrK_set (by omega)).trans ((FrK_set (by omega)).trans ((FrK_set (by omega)).trans ((FrK_set (by omega)).trans ((FrK_set (by omega)).trans ((FrK_set (by omega)).trans ((FrK_set (by omega)).trans ((FrK_set (by omega)).trans (FrK_set (by omega)))))))))))))))
  generalize pvS S1 x n vs.length vis (done.length + 2) = S3 at *
  -- D_VAL_EQUAL
  have T3 : S3.1 4 12 = nI (vs.length + 1) := by have := V3.1; rw [List.length_append, List.length_singleton] at this; exact this
  have p4 := s_dec_equal (d := d + 2) (vis := vis) (K hl4) T3 (by omega) e3m e3n e3o
  have m4 : MK (eqS S3 vs.length vis) (done ++ [(70, 1, l)].map (mkL xm ym) ++ [(40, 0, -1)].map (mkL xm ym) ++ [(45, nI x, -1)].map (mkL xm ym) ++ (71, 0, -1) :: todo) := hm4
  have r4 : CkRun (d + 5) xm ym [(71, 0, -1)] _ todo S3 _ := CkRun.one m4 (fun r hr => ck_dec hm4 hl4 e3k (Or.inr (Or.inl rfl)) p4 hr)
  have V4 : VS (eqS S3 vs.length vis) (vs ++ [(nI x ^^^ -1, n, done.length + 2)]) := V3.turn
  refine ⟨_, r1.app (r2.app (r3.app r4)), ⟨V4, e3j, by show (eqS S3 vs.length vis).1 37 51 = -1 ∧ _; show S3.1 37 51 = -1 ∧ S3.1 37 52 = -1 ∧ S3.1 37 37 = 6; rw [e3g, h1a]; exact c3, by show S3.1 36 31 = 0 ∧ S3.1 36 32 = 6 ∧ S3.1 36 34 = 0; rw [e3h, h1b]; exact c4, ⟨F3 (F1 c5.1) (by omega) (by omega), F3 (F1 c5.2.1) (by omega) (by omega), by show S3.1 50 2 = 0; rw [e3i, h1c]; exact c5.2.2.1, by show S3.1 50 6 = 0; rw [e3i, h1c]; exact c5.2.2.2⟩, e3k, fun v hv hxv => ?_⟩, e3, e3b, rfl, e3c, e3d, e3m, e3n, e3e, e3f, e3l, f1.trans (f3.trans ((FrK_set (by omega)).trans (FrK_set (by omega))))⟩
  rcases List.mem_append.mp hv with hv | hv
  · have := hb v hv
    exact F3 (F1 (c7 v hv hxv)) (by omega) (by omega)
  · obtain rfl := List.mem_singleton.mp hv
    exact absurd hxv (fun z => z.elim (hid_ne hx).1 (hid_ne hx).2)
