/-! Machine: handles and lines. -/
section
variable {d n tr : Nat} {a b : Int32} {S : xS} {ws : List Int32} {os A B : List Or3}
theorem gr_try {lab : Nat} (ho : os = A ++ (18, nI lab, 0) :: B) (hM : MC S A.length ws tr) (hc : CO S os) (hn : os.length < 60000) (hk : n < 100000) (hw : ws.length < 990) : ∃ S1, GoRun (d + 4) n 1 a b S S1 ∧ MC S1 (A.length + 1) (((ws ++ [nI tr * 2 + 1]) ++ [nI lab * 2 + 1]) ++ [nI 5632 * 2 + 1]) (5632 + ws.length) ∧ FrU S S1 := by
  have hat : os[A.length]? = some (18, nI lab, 0) := by rw [ho]; exact os_at
  obtain ⟨S1, p1, c1, f1⟩ := m_try (d := d + 1) (lab := lab) (hM.next (nx' := A.length + 1)) hw
  exact ⟨S1, fun r hr => go_trouble hM hc hat hn hk (Or.inl rfl) p1 c1.2.2.2.2.1.2.1 hr, c1, FrU_7.trans f1.U⟩
theorem gr_tried {t : Nat} {x y v : Int32} (ho : os = A ++ (19, 0, 0) :: B) (hM : MC S A.length (((((ws ++ [nI t * 2 + 1]) ++ [x]) ++ [y])) ++ [v]) tr) (hc : CO S os) (hn : os.length < 60000) (hk : n < 100000) (ht : t < 10000) : ∃ S1, GoRun (d + 4) n 1 a b S S1 ∧ MC S1 (A.length + 1) (ws ++ [v]) t ∧ FrU S S1 := by
  have hat : os[A.length]? = some (19, 0, 0) := by rw [ho]; exact os_at
  obtain ⟨S1, p1, c1, f1⟩ := m_tried (d := d + 1) (hM.next (nx' := A.length + 1)) ht
  exact ⟨S1, fun r hr => go_trouble hM hc hat hn hk (Or.inr (Or.inl rfl)) p1 c1.2.2.2.2.1.2.1 hr, c1, FrU_7.trans f1.U⟩
theorem gr_jump {l : Nat} (ho : os = A ++ (8, nI l, 0) :: B) (hM : MC S A.length ws tr) (hc : CO S os) (hn : os.length < 60000) (hk : n < 100000) : ∃ S1, GoRun (d + 4) n 1 a b S S1 ∧ MC S1 l ws tr ∧ FrU S S1 := by
  have hat : os[A.length]? = some (8, nI l, 0) := by rw [ho]; exact os_at
  have m1 := hM.next (nx' := A.length + 1)
  exact ⟨_, fun r hr => go_control hM hc hat hn hk (Or.inl rfl) (m_jump (d := d + 3)) m1.2.2.2.2.1.2.1 hr, m1.next, FrU_7.trans FrU_7⟩
theorem gr_slide {v w : Int32} (ho : os = A ++ (11, 1, 0) :: B) (hM : MC S A.length ((ws ++ [v]) ++ [w]) tr) (hc : CO S os) (hn : os.length < 60000) (hk : n < 100000) : ∃ S1, GoRun (d + 4) n 1 a b S S1 ∧ MC S1 (A.length + 1) (ws ++ [w]) tr ∧ FrU S S1 := by
  have hat : os[A.length]? = some (11, 1, 0) := by rw [ho]; exact os_at
  obtain ⟨S1, p1, c1, f1⟩ := m_slide (d := d + 1) (c := 0) (hM.next (nx' := A.length + 1))
  exact ⟨S1, fun r hr => go_control hM hc hat hn hk (Or.inr rfl) p1 c1.2.2.2.2.1.2.1 hr, c1, FrU_7.trans f1.U⟩
theorem gr_match {e : Nat} {w : Int32} (ho : os = A ++ (25, nI e, 0) :: B) (hM : MC S A.length ws tr) (hc : CO S os) (hn : os.length < 60000) (hk : n < 100000) (he : ws[e]? = some w) : ∃ S1, GoRun (d + 4) n 1 a b S S1 ∧ MC S1 (A.length + 1) ws tr ∧ FrU S S1 ∧ S1.1 14 16 = w := by
  have hat : os[A.length]? = some (25, nI e, 0) := by rw [ho]; exact os_at
  have m1 := hM.next (nx' := A.length + 1)
  have p1 := m_match (d := d + 2) m1 he
  exact ⟨_, fun r hr => go_match hM hc hat hn hk (Or.inl rfl) p1 m1.2.2.2.2.1.2.1 hr, m1.temp (by decide), FrU_7.trans (FrU_t (by decide)), by rw [xsI, if_pos ⟨rfl, rfl⟩]⟩
theorem gr_same {m : Nat} (ho : os = A ++ (29, 26, fxX m) :: B) (hM : MC S A.length ws tr) (hc : CO S os) (hn : os.length < 60000) (hk : n < 100000) (hm : m < 2 ^ 20) (h16 : S.1 14 16 = 26) : ∃ S1, GoRun (d + 4) n 1 a b S S1 ∧ MC S1 (A.length + 1) ws tr ∧ FrU S S1 := by
  have hat : os[A.length]? = some (29, 26, fxX m) := by rw [ho]; exact os_at
  have m1 := hM.next (nx' := A.length + 1)
  have p1 := m_same (d := d + 2) (S := xsetI S 7 3 (nI (A.length + 1))) hm h16
  exact ⟨_, fun r hr => go_match hM hc hat hn hk (Or.inr (Or.inl rfl)) p1 m1.2.2.2.2.1.2.1 hr, m1, FrU_7⟩
theorem gr_keep {w : Int32} (ho : os = A ++ (30, 0, 0) :: B) (hM : MC S A.length ws tr) (hc : CO S os) (hn : os.length < 60000) (hk : n < 100000) (h16 : S.1 14 16 = w) : ∃ S1, GoRun (d + 4) n 1 a b S S1 ∧ MC S1 (A.length + 1) ws tr ∧ FrU S S1 ∧ S1.1 14 144 = w := by
  have hat : os[A.length]? = some (30, 0, 0) := by rw [ho]; exact os_at
  have m1 := hM.next (nx' := A.length + 1)
  have p1 := m_keep (d := d + 2) (S := xsetI S 7 3 (nI (A.length + 1))) h16
  exact ⟨_, fun r hr => go_match hM hc hat hn hk (Or.inr (Or.inr (Or.inl rfl))) p1 m1.2.2.2.2.1.2.1 hr, m1.temp (by decide), FrU_7.trans (FrU_t (by decide)), by rw [xsI, if_pos ⟨rfl, rfl⟩]⟩
theorem gr_bind {w : Int32} (ho : os = A ++ (31, 1, 0) :: B) (hM : MC S A.length ws tr) (hc : CO S os) (hn : os.length < 60000) (hk : n < 100000) (hw : ws.length < 1000) (h144 : S.1 14 144 = w) : ∃ S1, GoRun (d + 4) n 1 a b S S1 ∧ MC S1 (A.length + 1) (ws ++ [w]) tr ∧ FrU S S1 := by
  have hat : os[A.length]? = some (31, 1, 0) := by rw [ho]; exact os_at
  have m1 := hM.next (nx' := A.length + 1)
  obtain ⟨S1, p1, c1, f1⟩ := m_bind (d := d + 1) m1 hw (show (xsetI S 7 3 (nI (A.length + 1))).1 14 144 = w from h144)
  exact ⟨S1, fun r hr => go_match hM hc hat hn hk (Or.inr (Or.inr (Or.inr rfl))) p1 c1.2.2.2.2.1.2.1 hr, c1, FrU_7.trans f1.U⟩
end
/-- the run is over -/
def DN (S : xS) (e v : Int32) : Prop := S.1 7 14 = e ∧ S.1 7 15 = v ∧ S.1 7 16 = 0 ∧ S.1 7 17 = 0 ∧ S.1 7 6 = S.1 7 8
theorem Rz_0 {d : Nat} {ws : List Int32} : Rz d 0 ws (fun S => DN S 1 26) := fun S nx v w hM => ⟨rzS S 26, m_raise0 (d := d + 1) hM, ⟨rfl, rfl, hM.2.2.2.2.1.2.2.1, hM.2.2.2.2.1.2.2.2.1, hM.2.2.2.2.1.2.2.2.2⟩, hM.2.2.2.2.1.2.1, FrU_7.trans FrU_7⟩
theorem Rz_h {d lab : Nat} {ws : List Int32} (hl : lab < 60000) : Rz d (5632 + ws.length) (((ws ++ [nI 0 * 2 + 1]) ++ [nI lab * 2 + 1]) ++ [nI 5632 * 2 + 1]) (fun S => MC S lab (ws ++ [26]) 0) := fun S nx v w hM => by
  have h2 : MC S nx (ws ++ ([nI 0 * 2 + 1, nI lab * 2 + 1, nI 5632 * 2 + 1] ++ [v, w])) (5632 + ws.length) := by
    simp only [List.append_assoc, List.cons_append, List.nil_append] at hM ⊢
    exact hM
  obtain ⟨S1, p1, c1, f1⟩ := m_raise (d := d) (x := 26) h2 (by decide) hl
  exact ⟨S1, p1, c1, c1.2.2.2.2.1.2.1, f1.U⟩
/-- a chain behind its first word -/
def evC (wx wy v : Int32) : List Oa → Option Int32
  | [] => some v
  | c :: cs => evO wx wy c.1.1 v (atW wx wy c.2) cs
theorem gr_exE {d px py tr : Nat} {a b wx wy : Int32} {ws : List Int32} {os A B : List Or3} {Q : xS → Prop} {n : Nat} {S : xS} {q : Int32 × Int32} {c : Oa} {cs : List Oa} (hR : Rz d tr ws Q) (hn : os.length < 60000) (hw : ws.length < 980) (hx : ws[px]? = some wx) (hy : ws[py]? = some wy) (ho : os = A ++ (exE px py q (c :: cs) ++ B)) (hM : MC S A.length ws tr) (hc : CO S os) (hk : n + 2 * cs.length + 3 < 100000) (hv : OaV (c :: cs)) :
    (∀ u, evC wx wy (atW wx wy q) (c :: cs) = some u → ∃ S1, GoRun (d + 4) n (2 * cs.length + 3) a b S S1 ∧ MC S1 (A.length + (2 * cs.length + 3)) (ws ++ [u]) tr ∧ FrU S S1) ∧ (evC wx wy (atW wx wy q) (c :: cs) = none → ∃ S1 m, m ≤ 2 * cs.length + 3 ∧ GoRun (d + 4) n m a b S S1 ∧ Q S1 ∧ FrU S S1) := by
  obtain ⟨h1, h2⟩ := hv c List.mem_cons_self
  have ho1 : os = A ++ atO px py q :: (atO px py c.2 :: (oaO px py c.1.1 cs ++ B)) := ho
  obtain ⟨S1, r1, m1, f1⟩ := gr_atom (d := d) (n := n) (a := a) (b := b) ho1 hM hc hn (by omega) (by omega) hx hy
  have l1 : (A ++ [atO px py q]).length = A.length + 1 := by rw [List.length_append]; rfl
  have ho2 : os = (A ++ [atO px py q]) ++ atO px py c.2 :: (oaO px py c.1.1 cs ++ B) := by rw [List.append_assoc]; exact ho1
  have ap : ∀ {p : Nat} {w z : Int32}, ws[p]? = some w → (ws ++ [z])[p]? = some w := fun {p w z} h => by rw [List.getElem?_append_left (List.getElem?_eq_some_iff.mp h).1]; exact h
  rw [← l1] at m1
  obtain ⟨S2, r2, m2, f2⟩ := gr_atom (d := d) (n := n + 1) (a := a) (b := b) ho2 m1 (f1.CO hc) hn (by omega) (by rw [List.length_append, List.length_singleton]; omega) (ap hx) (ap hy)
  have l2 : ((A ++ [atO px py q]) ++ [atO px py c.2]).length = A.length + 1 + 1 := by rw [List.length_append, l1]; rfl
  have ho3 : os = ((A ++ [atO px py q]) ++ [atO px py c.2]) ++ (oaO px py c.1.1 cs ++ B) := by rw [List.append_assoc (A ++ [atO px py q])]; exact ho2
  rw [l1, ← l2] at m2
  obtain ⟨g1, g2⟩ := gr_oa (a := a) (b := b) hR hn (by omega) hx hy cs c.1.1 (atW wx wy q) (atW wx wy c.2) S2 (n + 1 + 1) _ B ho3 m2 (f2.CO (f1.CO hc)) (by omega) h1 (fun x hx => hv x (List.mem_cons_of_mem _ hx))
  refine ⟨fun u hu => ?_, fun hu => ?_⟩
  · obtain ⟨S3, r3, m3, f3⟩ := g1 u hu
    refine ⟨S3, ?_, ?_, f1.trans (f2.trans f3)⟩
    · have := (r1.trans r2).trans r3
      rw [show 2 * cs.length + 3 = 1 + 1 + (2 * cs.length + 1) by omega]
      exact this
    · rw [l2] at m3
      rw [show A.length + (2 * cs.length + 3) = A.length + 1 + 1 + (2 * cs.length + 1) by omega]
      exact m3
  · obtain ⟨S3, m, hm, r3, q3, f3⟩ := g2 hu
    exact ⟨S3, 1 + 1 + m, by omega, (r1.trans r2).trans r3, q3, f1.trans (f2.trans f3)⟩
