/-! Lexer: the table of names as a program begins, and two names that are new in it. -/
/-- a name of the table, its chain and its place in the pool -/
def Kat (S : xS) (w : List Nat) (m hN a : Nat) : Prop := lh w &&& 511 = nI hN ∧ hN < 512 ∧ S.1 20 hN = nI m ∧ m < 2176 ∧ S.1 18 m = nI a ∧ a + w.length ≤ 12288 ∧ S.1 19 m = nI w.length ∧ ∀ j b, w[j]? = some b → S.1 16 (a + j) = nI b
theorem Kat.known {S : xS} {w : List Nat} {m hN a : Nat} (h : Kat S w m hN a) : Known S w m := ⟨hN, a, h⟩
theorem Kat.ine {S : xS} {w : List Nat} {m hN a b g n ps : Nat} (h : Kat S w m hN a) (h1 : ¬ hN = g) (h2 : ¬ m = n) (h3 : a + w.length ≤ ps) : Kat (ineS S b g n ps) w m hN a := by
  obtain ⟨a1, a2, a3, a4, a5, a6, a7, a8⟩ := h
  refine ⟨a1, a2, ?_, a4, ?_, a6, ?_, fun j x hj => ?_⟩
  · unfold ineS; simp (config := { decide := true }) only [xsI, h1, and_false, false_and, if_false]; exact a3
  · unfold ineS; simp (config := { decide := true }) only [xsI, h2, and_false, false_and, if_false]; exact a5
  · unfold ineS; simp (config := { decide := true }) only [xsI, h2, and_false, false_and, if_false]; exact a7
  · have hj2 := (List.getElem?_eq_some_iff.mp hj).1
    have h4 : ¬ a + j = ps := by omega
    unfold ineS; simp (config := { decide := true }) only [xsI, h4, and_false, false_and, if_false]; exact a8 j x hj
theorem Kat_new {S : xS} {b g n ps : Nat} (h : Room S b g n ps) : Kat (ineS S b g n ps) [b] n g ps := by
  obtain ⟨k1, k2, k3, k4, k5, k6, k7, k8⟩ := h
  refine ⟨k1, k2, ?_, k6, ?_, by rw [List.length_singleton]; omega, ?_, fun j x hj => ?_⟩
  · unfold ineS; rw [xsI, if_pos ⟨rfl, rfl⟩]
  · unfold ineS; simp (config := { decide := true }) only [xsI, and_self, and_false, false_and, if_false, if_true]
  · unfold ineS; simp (config := { decide := true }) only [xsI, and_self, and_false, false_and, if_false, if_true]; rfl
  · have hj2 := (List.getElem?_eq_some_iff.mp hj).1
    rw [List.length_singleton] at hj2
    obtain rfl : j = 0 := by omega
    obtain rfl : b = x := Option.some.inj hj
    rw [Nat.add_zero]
    unfold ineS; simp (config := { decide := true }) only [xsI, and_self, and_false, false_and, if_false, if_true]
theorem ineS_tb {S Sx : xS} {b g n ps : Nat} (h : Tb Sx S) : Tb (ineS Sx b g n ps) (ineS S b g n ps) := by
  refine ⟨fun a g1 g2 g3 => ?_, fun q hq => ?_⟩
  · funext k
    unfold ineS
    simp only [xsI, h.1 a g1 g2 g3]
  · unfold ineS
    simp only [xsI, h.2 q hq]
theorem Room.tb {S Sx : xS} {b g n ps : Nat} (h : Room Sx b g n ps) (hT : Tb Sx S) : Room S b g n ps := by
  obtain ⟨k1, k2, k3, k4, k5, k6, k7, k8⟩ := h
  exact ⟨k1, k2, by rw [hT.1 _ (by unfold lxC; decide) (by decide) (by decide)]; exact k3, by rw [hT.2 _ (by decide)]; exact k4, k5, k6, by rw [hT.2 _ (by decide)]; exact k7, k8⟩
/-- what the table must say as a program begins -/
def KnB (S : xS) : Prop := Kat S [118, 97, 108] 23 289 89 ∧ Kat S [105, 110] 14 293 58 ∧ Kat S [100, 105, 118] 5 145 24 ∧ Kat S [109, 111, 100] 16 258 63 ∧ Kat S [104, 97, 110, 100, 108, 101] 12 40 50 ∧ Kat S [68, 105, 118] 37 113 144 ∧ S.1 20 120 = -1 ∧ S.1 20 121 = -1 ∧ S.1 1 7 = nI 51 ∧ S.1 1 8 = nI 194
def S1x (S : xS) : xS := ineS S 120 120 51 194
def S2x (S : xS) : xS := ineS (S1x S) 121 121 52 195
theorem KnB.r1 {S : xS} (h : KnB S) : Room S 120 120 51 194 := ⟨by decide, by decide, h.2.2.2.2.2.2.1, h.2.2.2.2.2.2.2.2.1, by decide, by decide, h.2.2.2.2.2.2.2.2.2, by decide⟩
theorem KnB.r2 {S : xS} (h : KnB S) : Room (S1x S) 121 121 52 195 := by
  refine ⟨by decide, by decide, ?_, ?_, by decide, by decide, ?_, by decide⟩
  · unfold S1x ineS; simp (config := { decide := true }) only [xsI, and_false, false_and, if_false]; exact h.2.2.2.2.2.2.2.1
  · unfold S1x ineS; simp (config := { decide := true }) only [xsI, and_self, and_false, false_and, if_false, if_true]
  · unfold S1x ineS; simp (config := { decide := true }) only [xsI, and_self, and_false, false_and, if_false, if_true]
theorem KnB.v1 {S : xS} (h : KnB S) : Known (S1x S) [118, 97, 108] 23 := (h.1.ine (by decide) (by decide) (by decide)).known
theorem KnB.kn {S : xS} (h : KnB S) : Kn (S2x S) := by
  obtain ⟨a1, a2, a3, a4, a5, a6, -⟩ := id h
  exact ⟨((a1.ine (by decide) (by decide) (by decide)).ine (by decide) (by decide) (by decide)).known, ((a2.ine (by decide) (by decide) (by decide)).ine (by decide) (by decide) (by decide)).known,
    ((a3.ine (by decide) (by decide) (by decide)).ine (by decide) (by decide) (by decide)).known, ((a4.ine (by decide) (by decide) (by decide)).ine (by decide) (by decide) (by decide)).known,
    ((a5.ine (by decide) (by decide) (by decide)).ine (by decide) (by decide) (by decide)).known, ((a6.ine (by decide) (by decide) (by decide)).ine (by decide) (by decide) (by decide)).known,
    ((Kat_new h.r1).ine (by decide) (by decide) (by decide)).known, (Kat_new h.r2).known⟩
/-- what comes behind a token -/
def Cont (Sx : xS) (F : xS → Prop) (ts : List (Int32 × Int32)) (r : List Nat) (t : Nat) : Prop := ∀ S p, Tb Sx S → LX S p r t → ∀ d, ∃ S2, XC SK MT (d + 3) 124 [.ref 1] S = some (none, S2) ∧ FrR S S2 ∧ Rd F ts S2
theorem Rd_go {Sx : xS} {F : xS → Prop} {ts : List (Int32 × Int32)} {r : List Nat} : ∀ (is : List Itm) (S : xS) (p t : Nat) (km : Int32 × Int32), Its Sx is r → Tb Sx S → LX S p (itB is ++ r) t → t + is.length < 2000 → S.1 1 13 = km.1 → (km.1 = 25 ∨ km.1 = 27 → S.1 1 15 = km.2) → Cont Sx F ts r (t + is.length) → Rd F (km :: (itT is ++ ts)) S := by
  intro is
  induction is with
  | nil =>
    intro S p t km _ hT hL ht hk hm hc
    exact ⟨hk, hm, hL.2.2.1, fun S1 h1 d => hc S1 p (hT.S h1) (hL.S h1) d⟩
  | cons i is ih =>
    intro S p t km hi hT hL ht hk hm hc
    refine ⟨hk, hm, hL.2.2.1, fun S1 h1 d => ?_⟩
    rw [List.length_cons] at ht hc
    have hL1 : LX S1 p (i.1 ++ (itB is ++ r)) t := by rw [← List.append_assoc]; exact hL.S h1
    obtain ⟨S2, a1, a2, a3, a4, a5⟩ := hi.1.next (d := d) (hT.S h1) hL1 (by omega)
    exact ⟨S2, a1, a5.R, ih S2 _ _ i.2 hi.2 ((hT.S h1).L a5) a4 (by omega) a2 a3 (by rw [show t + 1 + is.length = t + (is.length + 1) by omega]; exact hc)⟩
/-- tokens behind one another, then what comes -/
theorem Cont_its {Sx : xS} {F : xS → Prop} {ts : List (Int32 × Int32)} {r : List Nat} {i : Itm} {is : List Itm} {t : Nat} (hi : Its Sx (i :: is) r) (ht : t + is.length + 1 < 2000) (hc : Cont Sx F ts r (t + 1 + is.length)) : Cont Sx F (itT (i :: is) ++ ts) (itB (i :: is) ++ r) t := by
  intro S p hT hL d
  have hL1 : LX S p (i.1 ++ (itB is ++ r)) t := by rw [← List.append_assoc]; exact hL
  obtain ⟨S2, a1, a2, a3, a4, a5⟩ := hi.1.next (d := d) hT hL1 (by omega)
  exact ⟨S2, a1, a5.R, Rd_go is S2 _ _ i.2 hi.2 (hT.L a5) a4 (by omega) a2 a3 hc⟩
theorem FrN.R {S S1 : xS} {b g n ps : Nat} (h : FrN S S1 b g n ps) : FrR S S1 := ⟨h.1, fun a ha => by rw [h.2.1 a (fun z => ha (Or.inl z)) (fun z => ha (by unfold lxC; omega)), ineS_row (by unfold lxC at ha; omega)]⟩
theorem FrN.T {S S1 Sx : xS} {b g n ps : Nat} (h : FrN S S1 b g n ps) (hT : Tb Sx S) : Tb (ineS Sx b g n ps) S1 := by
  have h9 := ineS_tb (b := b) (g := g) (n := n) (ps := ps) hT
  exact ⟨fun a q1 q2 q3 => by rw [h.2.1 a q2 q3]; exact h9.1 a q1 q2 q3, fun q hq => by rw [h.2.2 q hq]; exact h9.2 q hq⟩
/-- a new name, then tokens, then what comes -/
theorem Cont_new {Sx : xS} {F : xS → Prop} {ts : List (Int32 × Int32)} {r : List Nat} {b g n ps t : Nat} {is : List Itm} (hR : Room Sx b g n ps) (hw : isName [b]) (hc : lPart (hdI (itB is ++ r)) = false) (hi : Its (ineS Sx b g n ps) is r) (ht : t + is.length + 1 < 2000) (hk : Cont (ineS Sx b g n ps) F ts r (t + 1 + is.length)) : Cont Sx F ((25, nI n) :: (itT is ++ ts)) ([32] ++ (b :: (itB is ++ r))) t := by
  intro S p hT hL d
  obtain ⟨S2, a1, a2, a3, a4⟩ := next_new (d := d) hL Pre32 hw hc (hR.tb hT) (by omega)
  exact ⟨S2, a1, a4.R, Rd_go is S2 _ _ (25, nI n) hi (a4.T hT) a3 (by omega) a2.1 (fun _ => a2.2.1) hk⟩
theorem Cont_end {Sx : xS} {t : Nat} {i : Itm} {is : List Itm} (hi : Its Sx (i :: is) []) (ht : t + is.length + 1 < 2000) : Cont Sx (TbF Sx) (itT (i :: is)) (itB (i :: is)) t := by
  intro S p hT hL d
  have hi1 := hi.1
  rw [List.append_nil] at hi1
  have hL1 : LX S p (i.1 ++ itB is) t := hL
  obtain ⟨S2, a1, a2, a3, a4, a5⟩ := hi1.next (d := d) hT hL1 (by omega)
  exact ⟨S2, a1, a5.R, Rd_its is S2 _ _ i.2 hi.2 (hT.L a5) a4 (by omega) a2 a3⟩
/-- the program's bytes: two numbers, lines, x -/
def tailI (ls : List Ln) : List Itm := ls.flatMap lnI ++ [([10, 105, 110], (14, 0)), ([32, 120], (25, 51))]
def eqI : Itm := ([32, 61], (38, 0))
def prB (v0 v1 : Int) (ls : List Ln) : List Nat := [118, 97, 108] ++ ([32] ++ (120 :: (itB [eqI, nmI v0, ([32, 118, 97, 108], (23, 0))] ++ ([32] ++ (121 :: (itB [eqI, nmI v1] ++ itB (tailI ls)))))))
def prC (v0 v1 : Int) (ls : List Ln) : List De := (51, .inl (27, Int32.ofInt v0)) :: (52, .inl (27, Int32.ofInt v1)) :: ls.map lnD
theorem its_tail {Sx : xS} (hK : Kn Sx) : ∀ ls : List Ln, (∀ l ∈ ls, lnOk l) → Its Sx (tailI ls) [] ∧ ∃ r, itB (tailI ls) = 10 :: r
  | [], _ => ⟨⟨it_wd (w := [105, 110]) Pre10 (isN (by decide) ⟨105, rfl, by decide⟩ (by decide)) (by decide) hK.2.1 (by decide) (fun z => absurd z (by decide)), it_x2 hK (by decide), trivial⟩, _, rfl⟩
  | l :: ls, h => by
    obtain ⟨h1, r, h2⟩ := its_tail hK ls (fun x hx => h x (List.mem_cons_of_mem _ hx))
    have e : tailI (l :: ls) = lnI l ++ tailI ls := by unfold tailI; rw [List.flatMap_cons, List.append_assoc]
    rw [e]
    refine ⟨Its.app ?_ h1, ?_⟩
    · rw [List.append_nil, h2]; exact its_ln hK (h l List.mem_cons_self) r
    · rw [itB_app]; exact ⟨_, rfl⟩
theorem tailI_T (ls : List Ln) : itT (tailI ls) = desT (ls.map lnD) ++ [(14, 0), (25, 51)] := by
  unfold tailI
  rw [itT_app]
  congr 1
  induction ls with
  | nil => rfl
  | cons l ls ih =>
    rw [List.flatMap_cons, itT_app, lnI_T, ih]
    rfl
theorem tailI_len : ∀ ls : List Ln, (tailI ls).length ≤ 20 * ls.length + 2
  | [] => Nat.le_refl _
  | l :: ls => by
    have ih := tailI_len ls
    have e : tailI (l :: ls) = lnI l ++ tailI ls := by unfold tailI; rw [List.flatMap_cons, List.append_assoc]
    have h1 : (lnI l).length ≤ 20 := by
      obtain ⟨a, h, o, b⟩ := l
      unfold lnI
      simp only [List.length_append, List.length_cons, List.length_nil]
      have h2 : (opI h).length ≤ 5 := by
        match h with
        | 0 => exact (by decide)
        | 1 => exact (by decide)
        | 2 => exact (by decide)
        | 3 => exact (by decide)
        | 4 => exact (by decide)
        | 5 => exact (by decide)
        | 6 => exact (by decide)
        | n + 7 => exact Nat.le_refl 5
      have h3 : (haI b).length ≤ 4 := by cases b <;> decide
      omega
    rw [e, List.length_append, List.length_cons]
    omega
theorem rd_prog {Sx S : xS} {v0 v1 : Int} {ls : List Ln} (hK : KnB Sx) (h0 : inR v0) (h1 : inR v1) (hl : ∀ l ∈ ls, lnOk l) (hn : ls.length ≤ 90) (hT : Tb Sx S) (hL : LX S 0 (prB v0 v1 ls) 0) (d : Nat) :
    ∃ S1, XC SK MT (d + 3) 124 [.ref 1] S = some (none, S1) ∧ FrR S S1 ∧ Rd (TbF (S2x Sx)) (prT (prC v0 v1 ls) 51) S1 := by
  obtain ⟨b1, r, b2⟩ := its_tail hK.kn ls hl
  have hlen := tailI_len ls
  obtain ⟨i, is, e⟩ : ∃ i is, tailI ls = i :: is := by
    cases h : tailI ls with
    | nil => rw [h] at b2; cases b2
    | cons i is => exact ⟨i, is, rfl⟩
  have c1 : ∀ t, t ≤ 100 → Cont (S2x Sx) (TbF (S2x Sx)) (itT (tailI ls)) (itB (tailI ls)) t := fun t ht => by
    rw [e] at b1 hlen ⊢
    rw [List.length_cons] at hlen
    exact Cont_end b1 (by omega)
  have c2 : Cont (S1x Sx) (TbF (S2x Sx)) ((25, nI 52) :: (itT [eqI, nmI v1] ++ itT (tailI ls))) ([32] ++ (121 :: (itB [eqI, nmI v1] ++ itB (tailI ls)))) 5 := by
    refine Cont_new hK.r2 (isN (by decide) ⟨121, rfl, by decide⟩ (by decide)) lp32 ⟨it_sg Pre32 (Or.inr (Or.inl ⟨rfl, n62⟩)) n42 rfl (by decide), it_nm h1 ?_, trivial⟩ (show 5 + 2 + 1 < 2000 by decide) (c1 _ (show 5 + 1 + 2 ≤ 100 by decide))
    rw [b2]; show lPart 10 = false; decide
  have c3 : Cont Sx (TbF (S2x Sx)) ((25, nI 51) :: (itT [eqI, nmI v0, ([32, 118, 97, 108], (23, 0))] ++ ((25, nI 52) :: (itT [eqI, nmI v1] ++ itT (tailI ls))))) ([32] ++ (120 :: (itB [eqI, nmI v0, ([32, 118, 97, 108], (23, 0))] ++ ([32] ++ (121 :: (itB [eqI, nmI v1] ++ itB (tailI ls))))))) 1 := by
    refine Cont_new hK.r1 (isN (by decide) ⟨120, rfl, by decide⟩ (by decide)) lp32 ⟨it_sg Pre32 (Or.inr (Or.inl ⟨rfl, n62⟩)) n42 rfl (by decide), it_nm h0 lp32, it_wd (w := [118, 97, 108]) Pre32 (isN (by decide) ⟨118, rfl, by decide⟩ (by decide)) lp32 hK.v1 (by decide) (fun z => absurd z (by decide)), trivial⟩ (show 1 + 3 + 1 < 2000 by decide) c2
  have i0 : It Sx ([] ++ [118, 97, 108]) (23, 0) (nI 32) := it_wd (w := [118, 97, 108]) Pre0 (isN (by decide) ⟨118, rfl, by decide⟩ (by decide)) lp32 hK.1.known (by decide) (fun z => absurd z (by decide))
  obtain ⟨S1, a1, a2, a3, a4, a5⟩ := It.next (rest := 32 :: 120 :: (itB [eqI, nmI v0, ([32, 118, 97, 108], (23, 0))] ++ ([32] ++ (121 :: (itB [eqI, nmI v1] ++ itB (tailI ls)))))) (d := d) i0 hT hL (by decide)
  refine ⟨S1, a1, a5.R, ?_⟩
  have e2 : prT (prC v0 v1 ls) 51 = (23, 0) :: ([] ++ ((25, nI 51) :: (itT [eqI, nmI v0, ([32, 118, 97, 108], (23, 0))] ++ ((25, nI 52) :: (itT [eqI, nmI v1] ++ itT (tailI ls)))))) := by
    rw [tailI_T]; rfl
  rw [e2]
  exact Rd_go (is := []) S1 _ _ (23, 0) trivial (hT.L a5) a4 (by decide) a2 a3 c3
