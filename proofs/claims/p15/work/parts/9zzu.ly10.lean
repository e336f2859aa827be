/-! Where words are laid: the compiler's last state for a program. -/
section
variable {S0 : xS} {px py b dep : Nat}
theorem ln_len0 (a : Int32 × Int32) : (lnO px py b dep (.inl a)).length = 4 := rfl
theorem exE_len' (q : Int32 × Int32) {cs : List Oa} (h : ∃ c cs', cs = c :: cs') : (exE px py q cs).length = 2 * cs.length + 1 := by
  obtain ⟨c, cs', rfl⟩ := h
  rw [exE_len, List.length_cons]
  omega
theorem ln_len1 (q : Int32 × Int32) {cs : List Oa} (h : ∃ c cs', cs = c :: cs') : (lnO px py b dep (.inr (q, cs, none))).length = 2 * cs.length + 4 := by
  show (exE px py q cs ++ [(25, nI dep, 0), (30, 0, 0), (31, 1, 0)]).length = _
  rw [List.length_append, exE_len' q h]
  rfl
theorem HR.nl {R : Nat → Int32} {os : List Or3} (h : HR R b os) (hR : R = S0.1 62) {j m : Nat} (h1 : b ≤ j) (h2 : j + m ≤ b + os.length) (hn : ∀ k, j ≤ k → k < j + m → ∀ o ∈ os, tg o ≠ some (nI k)) : NL S0 j m := fun k k1 k2 => by
  rw [← hR]
  exact (h k (by omega) (by omega)).2 (hn k k1 k2)
theorem LO_of (e : Ex) (he : ExL e) (hb : b < 800000) {R : Nat → Int32} (hR : R = S0.1 62) (h : HR R b (lnO px py b dep e)) : LO S0 b e ∧ TB b (lnO px py b dep e) ∧ (lnO px py b dep e).length ≤ 25 := by
  have nn : ∀ {o : Or3} {k : Nat}, tg o = none → tg o ≠ some (nI k) := fun h q => by rw [h] at q; cases q
  match e, he with
  | .inl a, _ =>
    have hn := tg_num (px := px) (py := py) (b := b) (dep := dep) a
    exact ⟨h.nl hR (Nat.le_refl _) (Nat.le_refl _) (fun k _ _ o ho => nn (hn o ho)), TB.none hn, by rw [ln_len0]; omega⟩
  | .inr (q, cs, none), he =>
    have hn := tg_plain (px := px) (py := py) (b := b) (dep := dep) q cs
    have hx : ∃ c cs', cs = c :: cs' := he.2.1
    have hl := ln_len1 (px := px) (py := py) (b := b) (dep := dep) q hx
    have h3 : cs.length ≤ 3 := he.2.2
    exact ⟨h.nl hR (Nat.le_refl _) (by rw [hl]; exact Nat.le_refl _) (fun k _ _ o ho => nn (hn o ho)), TB.none hn, by rw [hl]; omega⟩
  | .inr (q, cs, some x), he =>
    have hx : ∃ c cs', cs = c :: cs' := he.2.1
    have hE := exE_len' (px := px) (py := py) q hx
    have h3 : cs.length ≤ 3 := he.2.2
    have hn := tg_han (px := px) (py := py) (b := b) (dep := dep) q cs x hE (by omega)
    obtain ⟨m1, m2, m3, hl⟩ := mem_han (px := px) (py := py) (b := b) (dep := dep) q cs x hE
    have no : ∀ k, k < 1000000 → k ≠ b + (2 * cs.length + 1) + 3 → k ≠ b + (2 * cs.length + 1) + 8 → k ≠ b + (2 * cs.length + 1) + 9 → ∀ o ∈ lnO px py b dep (.inr (q, cs, some x)), tg o ≠ some (nI k) := by
      intro k hk k1 k2 k3 o ho ht
      have z : ∀ j, j < 1000000 → some (nI j) = some (nI k) → j = k := fun j hj z => (nI_eq (by omega) (by omega)).mp (Option.some.inj z)
      rcases hn o ho with q | q | q | q
      · exact nn q ht
      · exact k1 (z _ (by omega) (q.symm.trans ht)).symm
      · exact k2 (z _ (by omega) (q.symm.trans ht)).symm
      · exact k3 (z _ (by omega) (q.symm.trans ht)).symm
    have ld : ∀ k, b ≤ k → k < b + (2 * cs.length + 1 + 12) → (∃ o ∈ lnO px py b dep (.inr (q, cs, some x)), tg o = some (nI k)) → LD S0 k := by
      intro k k1 k2 hx
      unfold LD
      rw [← hR, (h k k1 (by rw [hl]; exact k2)).1 hx]
      decide
    refine ⟨⟨h.nl hR (Nat.le_refl _) (by rw [hl]; omega) (fun k k1 k2 => no k (by omega) (by omega) (by omega) (by omega)), ld _ (by omega) (by omega) ⟨_, m1, tg_18⟩, h.nl hR (by omega) (by rw [hl]; omega) (fun k k1 k2 => no k (by omega) (by omega) (by omega) (by omega)), ld _ (by omega) (by omega) ⟨_, m2, tg_29 (by omega)⟩, ld _ (by omega) (by omega) ⟨_, m3, tg_8⟩, h.nl hR (by omega) (by rw [hl]; omega) (fun k k1 k2 => no k (by omega) (by omega) (by omega) (by omega))⟩, ?_, by rw [hl]; omega⟩
    intro o ho l ht
    rw [hl]
    rcases hn o ho with q | q | q | q
    · rw [q] at ht; cases ht
    · rw [q] at ht; exact ⟨_, by omega, by omega, (Option.some.inj ht).symm⟩
    · rw [q] at ht; exact ⟨_, by omega, by omega, (Option.some.inj ht).symm⟩
    · rw [q] at ht; exact ⟨_, by omega, by omega, (Option.some.inj ht).symm⟩
theorem TB_ln (e : Ex) (he : ExL e) (hb : b < 800000) : TB b (lnO px py b dep e) ∧ (lnO px py b dep e).length ≤ 25 := by
  match e, he with
  | .inl a, _ => exact ⟨TB.none (tg_num a), by rw [ln_len0]; omega⟩
  | .inr (q, cs, none), he =>
    have h3 : cs.length ≤ 3 := he.2.2
    have hx : ∃ c cs', cs = c :: cs' := he.2.1
    exact ⟨TB.none (tg_plain q cs), by rw [ln_len1 q hx]; omega⟩
  | .inr (q, cs, some x), he =>
    have hx : ∃ c cs', cs = c :: cs' := he.2.1
    have hE := exE_len' (px := px) (py := py) q hx
    have h3 : cs.length ≤ 3 := he.2.2
    have hn := tg_han (px := px) (py := py) (b := b) (dep := dep) q cs x hE (by omega)
    obtain ⟨_, _, _, hl⟩ := mem_han (px := px) (py := py) (b := b) (dep := dep) q cs x hE
    refine ⟨?_, by rw [hl]; omega⟩
    intro o ho l ht
    rw [hl]
    rcases hn o ho with q | q | q | q
    · rw [q] at ht; cases ht
    · rw [q] at ht; exact ⟨_, by omega, by omega, (Option.some.inj ht).symm⟩
    · rw [q] at ht; exact ⟨_, by omega, by omega, (Option.some.inj ht).symm⟩
    · rw [q] at ht; exact ⟨_, by omega, by omega, (Option.some.inj ht).symm⟩
end
theorem TB_lns : ∀ (cs : List De) (px py b dep : Nat), (∀ c ∈ cs, ExL c.2) → b + 25 * cs.length < 800000 → TB b (lnsO px py b dep cs) ∧ (lnsO px py b dep cs).length ≤ 25 * cs.length
  | [], _, _, _, _, _, _ => ⟨TB.none (fun o ho => by cases ho), Nat.le_refl _⟩
  | c :: cs, px, py, b, dep, he, hb => by
    rw [List.length_cons] at hb
    obtain ⟨t1, l1⟩ := TB_ln (px := px) (py := py) (b := b) (dep := dep) c.2 (he c (List.mem_cons_self ..)) (by omega)
    obtain ⟨t2, l2⟩ := TB_lns cs (if c.1 = 51 then dep + 1 else px) (if c.1 = 51 then py else dep + 1) (b + (lnO px py b dep c.2).length) (dep + 2) (fun d hd => he d (List.mem_cons_of_mem _ hd)) (by omega)
    refine ⟨t1.app t2, ?_⟩
    show (lnO px py b dep c.2 ++ lnsO _ _ _ _ cs).length ≤ _
    rw [List.length_append, List.length_cons]
    omega
theorem LOs_of {S0 : xS} {R : Nat → Int32} (hR : R = S0.1 62) : ∀ (cs : List De) (px py b dep : Nat), (∀ c ∈ cs, ExL c.2) → b + 25 * cs.length < 800000 → HR R b (lnsO px py b dep cs) → LOs S0 px py b dep cs
  | [], _, _, _, _, _, _, _ => trivial
  | c :: cs, px, py, b, dep, he, hb, h => by
    rw [List.length_cons] at hb
    have h0 := he c (List.mem_cons_self ..)
    obtain ⟨t1, l1⟩ := TB_ln (px := px) (py := py) (b := b) (dep := dep) c.2 h0 (by omega)
    have hx : ∀ d ∈ cs, ExL d.2 := fun d hd => he d (List.mem_cons_of_mem _ hd)
    obtain ⟨t2, l2⟩ := TB_lns cs (if c.1 = 51 then dep + 1 else px) (if c.1 = 51 then py else dep + 1) (b + (lnO px py b dep c.2).length) (dep + 2) hx (by omega)
    obtain ⟨h1, h2⟩ := HR.split (R := R) (os := lnO px py b dep c.2) (os' := lnsO (if c.1 = 51 then dep + 1 else px) (if c.1 = 51 then py else dep + 1) (b + (lnO px py b dep c.2).length) (dep + 2) cs) h t1 t2 (by omega)
    exact ⟨(LO_of c.2 h0 (by omega) hR h1).1, LOs_of hR cs _ _ _ _ hx (by omega) h2⟩
theorem lnD_X (l : Ln) : ExL (lnD l).2 := by
  obtain ⟨a, k, o, b⟩ := l
  obtain ⟨h1, h2, h3⟩ := opO_v k (laI_v o)
  exact ⟨h1, h2, h3⟩
theorem lnD_Xs (ls : List Ln) : ∀ c ∈ ls.map lnD, ExL c.2 := fun c hc => by
  obtain ⟨l, _, rfl⟩ := List.mem_map.mp hc
  exact lnD_X l
theorem endP_le (M : Nat) : ∀ (cs : List De) (px py dep : Nat), px ≤ M → py ≤ M → dep + 2 * cs.length ≤ M → (endP px py dep cs).1 ≤ M
  | [], px, py, dep, h, _, _ => h
  | c :: cs, px, py, dep, h1, h2, h3 => by
    rw [List.length_cons] at h3
    exact endP_le M cs (if c.1 = 51 then dep + 1 else px) (if c.1 = 51 then py else dep + 1) (dep + 2) (by split <;> omega) (by split <;> omega) (by omega)
def lWh (w : Int32) : List Int32 := if w = 1 then lW18_1 else lW18_2
def lFh (w : Int32) : List (Nat × Int32) := if w = 1 then lF18_1 else lF18_2
def lLh (w : Int32) : List (Int32 × Nat) := if w = 1 then lL18_1 else lL18_2
def lNh (w : Int32) : Nat := if w = 1 then 674 else 556
theorem libA_B {w : Int32} (hw : w = 1 ∨ w = 2) : libA w = mkB w (lWh w) (lNh w) (lFh w) (lLh w) 65616 := by
  rcases hw with rfl | rfl
  · exact lib18_1
  · exact lib18_2
/-- the compiler's last state -/
theorem cmA_prog {S : xS} {w : Int32} (hw : w = 1 ∨ w = 2) {v0 v1 : Int} {ls : List Ln} (hls : ls.length ≤ 60) : cmA S w (prO v0 v1 ls) = mkB w (unW (uPr w v0 v1 (ls.map lnD)) (lWh w)) (unN (uPr w v0 v1 (ls.map lnD)) (lNh w)) (unF (uPr w v0 v1 (ls.map lnD)) (lNh w) (lFh w)) (lPr w v0 v1 (ls.map lnD) (lNh w) ++ lLh w) 65616 := by
  have hm : (ls.map lnD).length = ls.length := List.length_map _
  have hX := lnD_Xs ls
  obtain ⟨tL, lL⟩ := TB_lns (ls.map lnD) 1 3 8 4 hX (by omega)
  have hlen : (prO v0 v1 ls).length = 8 + (lnsO 1 3 8 4 (ls.map lnD)).length + 2 := by
    unfold prO
    rw [List.length_append, List.length_append, List.length_append]
    rfl
  generalize hOs : prO v0 v1 ls = os at hlen
  have t0 : ∀ o ∈ lnO 0 0 0 0 (.inl (27, Int32.ofInt v0)) ++ lnO 0 0 4 2 (.inl (27, Int32.ofInt v1)), tg o = none := fun o ho => by
    rcases List.mem_append.mp ho with ho | ho
    · exact tg_num _ o ho
    · exact tg_num _ o ho
  have t2 : ∀ o ∈ [(3, nI (endP 1 3 4 (ls.map lnD)).1, 0), ((23, 0, 0) : Or3)], tg o = none := fun o ho => by
    rcases List.mem_cons.mp ho with rfl | ho
    · exact tg_3
    obtain rfl := List.mem_singleton.mp ho
    exact tg_23
  have mem : ∀ o ∈ os, tg o = none ∨ o ∈ lnsO 1 3 8 4 (ls.map lnD) := fun o ho => by
    rw [← hOs] at ho
    unfold prO at ho
    rcases List.mem_append.mp ho with ho | ho
    · rcases List.mem_append.mp ho with ho | ho
      · exact Or.inl (t0 o ho)
      · exact Or.inr ho
    · exact Or.inl (t2 o ho)
  have memL : ∀ o ∈ lnsO 1 3 8 4 (ls.map lnD), o ∈ os := fun o ho => by
    rw [← hOs]
    unfold prO
    exact List.mem_append_left _ (List.mem_append_right _ ho)
  have hR : (laS S os).1 62 = ldms os (r0w os.length (S.1 62)) := rfl
  generalize hRr : ldms os (r0w os.length (S.1 62)) = R at hR
  have nn : ∀ {o : Or3} {k : Nat}, tg o = none → tg o ≠ some (nI k) := fun h q => by rw [h] at q; cases q
  have Ry : ∀ k, k < 65536 → (∃ o ∈ os, tg o = some (nI k)) → R k = 1 := fun k hk hx => by rw [← hRr]; exact ldms_y hk os _ hx
  have Rn : ∀ k, (∀ o ∈ os, tg o ≠ some (nI k)) → k < os.length → 0 < k → R k = 0 := fun k hx h1 h2 => by
    rw [← hRr, ldms_n os _ hx]
    unfold r0w
    rw [if_pos h1, if_neg (by omega)]
  have out : ∀ k, k < 8 ∨ 8 + (lnsO 1 3 8 4 (ls.map lnD)).length ≤ k → k < 100000 → ∀ o ∈ os, tg o ≠ some (nI k) := fun k hk hb o ho => by
    rcases mem o ho with q | q
    · exact nn q
    · exact tL.not (by omega) (by omega) hk o q
  have h0 : LD (laS S os) 0 := by
    unfold LD
    rw [hR]
    by_cases hx : ∃ o ∈ os, tg o = some (nI 0)
    · rw [Ry 0 (by decide) hx]; decide
    · have : R 0 = 1 := by
        rw [← hRr, ldms_n os _ (fun o ho q => hx ⟨o, ho, q⟩)]
        unfold r0w
        rw [if_pos (by omega), if_pos rfl]
      rw [this]; decide
  have h1 : NL (laS S os) 1 7 := fun k k1 k2 => by
    rw [hR]
    exact Rn k (out k (Or.inl (by omega)) (by omega)) (by omega) (by omega)
  have h3 : NL (laS S os) (8 + (lnsO 1 3 8 4 (ls.map lnD)).length) 2 := fun k k1 k2 => by
    rw [hR]
    exact Rn k (out k (Or.inr (by omega)) (by omega)) (by omega) (by omega)
  have hH : HR R 8 (lnsO 1 3 8 4 (ls.map lnD)) := fun k k1 k2 => ⟨fun ⟨o, ho, ht⟩ => Ry k (by omega) ⟨o, memL o ho, ht⟩, fun hx => Rn k (fun o ho => by
    rcases mem o ho with q | q
    · exact nn q
    · exact hx o q) (by omega) (by omega)⟩
  have h2 := LOs_of hR.symm (ls.map lnD) 1 3 8 4 hX (by omega) hH
  unfold cmA
  rw [libA_B hw, ← hOs]
  rw [← hOs] at h0 h1 h2 h3
  have hN : lNh w < 1000 := by rcases hw with rfl | rfl <;> decide
  exact ln_prog (S0 := laS S (prO v0 v1 ls)) (o := 65616) (lb := lLh w) (n := lNh w) hw hN hls hX (fun c hc px py b dep => by
    have := (TB_ln (px := px) (py := py) (b := 0) (dep := dep) c.2 (hX c hc) (by decide)).2
    have e : ∀ (e : Ex), ExL e → (lnO px py b dep e).length = (lnO px py 0 dep e).length := by
      intro e he
      match e, he with
      | .inl a, _ => rfl
      | .inr (q, cs, none), he =>
        have hx : ∃ c cs', cs = c :: cs' := he.2.1
        rw [ln_len1 q hx, ln_len1 q hx]
      | .inr (q, cs, some x), he =>
        have hx : ∃ c cs', cs = c :: cs' := he.2.1
        rw [(mem_han q cs x (exE_len' q hx)).2.2.2, (mem_han q cs x (exE_len' q hx)).2.2.2]
    rw [e c.2 (hX c hc)]
    omega) h0 h1 h2 h3 (Nat.lt_of_le_of_lt (endP_le 500 (ls.map lnD) 1 3 4 (by decide) (by decide) (by omega)) (by decide)) (lWh w) (lFh w)
