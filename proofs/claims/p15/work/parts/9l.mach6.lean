/-! Machine: expressions. -/
/-- some turns of the loop -/
def GoRun (d n m : Nat) (a b : Int32) (S S1 : xS) : Prop := ∀ r, GoAt d (n + m) a b S1 r → GoAt d n a b S r
theorem GoRun.trans {d n m k : Nat} {a b : Int32} {S S1 S2 : xS} (h : GoRun d n m a b S S1) (h2 : GoRun d (n + m) k a b S1 S2) : GoRun d n (m + k) a b S S2 := fun r hr => h r (h2 r (by rw [Nat.add_assoc]; exact hr))
theorem GoRun.zero {d n : Nat} {a b : Int32} {S : xS} : GoRun d n 0 a b S S := fun _ hr => hr
theorem FrU.CO {S S1 : xS} {os : List Or3} (hf : FrU S S1) (h : CO S os) : CO S1 os := h.of (by rw [hf.2.1 6 (by decide) (by decide)]) (hf.2.1 _ (by decide) (by decide)) (hf.2.1 _ (by decide) (by decide)) (hf.2.1 _ (by decide) (by decide))
theorem FrU_7 {S : xS} {k : Nat} {x : Int32} : FrU S (xsetI S 7 k x) := FrM_7.U
theorem os_at {A B : List Or3} {o : Or3} : (A ++ o :: B)[A.length]? = some o := by rw [List.getElem?_append_right (Nat.le_refl _), Nat.sub_self]; rfl
/-- the word of a name or a number -/
def atW (wx wy : Int32) (a : Int32 × Int32) : Int32 := if a.1 = 27 then a.2 * 2 + 1 else if a.2 = 51 then wx else wy
section
variable {d n tr px py : Nat} {a b wx wy : Int32} {S : xS} {ws : List Int32} {os : List Or3}
theorem gr_atom {A B : List Or3} {c : Int32 × Int32} (ho : os = A ++ atO px py c :: B) (hM : MC S A.length ws tr) (hc : CO S os) (hn : os.length < 60000) (hk : n < 100000) (hw : ws.length < 1000) (hx : ws[px]? = some wx) (hy : ws[py]? = some wy) : ∃ S1, GoRun (d + 4) n 1 a b S S1 ∧ MC S1 (A.length + 1) (ws ++ [atW wx wy c]) tr ∧ FrU S S1 := by
  have hat : os[A.length]? = some (atO px py c) := by rw [ho]; exact os_at
  have m1 := hM.next (nx' := A.length + 1)
  unfold atO at hat
  unfold atW
  by_cases h27 : c.1 = 27
  · rw [if_pos h27] at hat ⊢
    obtain ⟨S1, p1, c1, f1⟩ := m_const (d := d + 1) m1 hw (c.2 * 2 + 1)
    exact ⟨S1, fun r hr => go_simple hM hc hat hn hk (Or.inl rfl) p1 c1.2.2.2.2.1.2.1 hr, c1, FrU_7.trans f1.U⟩
  · rw [if_neg h27] at hat ⊢
    by_cases h51 : c.2 = 51
    · rw [if_pos h51] at hat ⊢
      obtain ⟨S1, p1, c1, f1⟩ := m_local (d := d + 1) m1 hw hx
      exact ⟨S1, fun r hr => go_simple hM hc hat hn hk (Or.inr (Or.inl rfl)) p1 c1.2.2.2.2.1.2.1 hr, c1, FrU_7.trans f1.U⟩
    · rw [if_neg h51] at hat ⊢
      obtain ⟨S1, p1, c1, f1⟩ := m_local (d := d + 1) m1 hw hy
      exact ⟨S1, fun r hr => go_simple hM hc hat hn hk (Or.inr (Or.inl rfl)) p1 c1.2.2.2.2.1.2.1 hr, c1, FrU_7.trans f1.U⟩
theorem gr_cal {A B : List Or3} {k v w u : Int32} (ho : os = A ++ (7, k, 0) :: B) (hM : MC S A.length ((ws ++ [v]) ++ [w]) tr) (hc : CO S os) (hn : os.length < 60000) (hk : n < 100000) (hcal : kCal k) (hw : opW k v w = some u) : ∃ S1, GoRun (d + 4) n 1 a b S S1 ∧ MC S1 (A.length + 1) (ws ++ [u]) tr ∧ FrU S S1 := by
  have hat : os[A.length]? = some (7, k, 0) := by rw [ho]; exact os_at
  obtain ⟨S1, p1, c1, f1⟩ := m_cal (d := d) (hM.next (nx' := A.length + 1)) hcal hw
  exact ⟨S1, fun r hr => go_simple hM hc hat hn hk (Or.inr (Or.inr rfl)) p1 c1.2.2.2.2.1.2.1 hr, c1, FrU_7.trans f1.U⟩
/-- where it divides by 0 -/
def Rz (d tr : Nat) (ws : List Int32) (Q : xS → Prop) : Prop := ∀ (S : xS) (nx : Nat) (v w : Int32), MC S nx ((ws ++ [v]) ++ [w]) tr → ∃ S1, XC SK MT (d + 2) 169 [.ref 7, .int 26] S = some (none, S1) ∧ Q S1 ∧ S1.1 7 13 = 0 ∧ FrU S S1
theorem gr_cal0 {A B : List Or3} {k v w : Int32} {Q : xS → Prop} (ho : os = A ++ (7, k, 0) :: B) (hM : MC S A.length ((ws ++ [v]) ++ [w]) tr) (hc : CO S os) (hn : os.length < 60000) (hk : n < 100000) (hcal : kCal k) (hw : opW k v w = none) (hR : Rz d tr ws Q) : ∃ S1, GoRun (d + 4) n 1 a b S S1 ∧ Q S1 ∧ FrU S S1 := by
  have hat : os[A.length]? = some (7, k, 0) := by rw [ho]; exact os_at
  have m1 := hM.next (nx' := A.length + 1)
  obtain ⟨S1, r1, q1, c1, f1⟩ := hR _ _ v w m1
  have p1 := m_cal0 (d := d) m1 hcal hw r1
  exact ⟨S1, fun r hr => go_simple hM hc hat hn hk (Or.inr (Or.inr rfl)) p1 c1 hr, q1, FrU_7.trans f1⟩
/-- what operators make -/
def evO (wx wy : Int32) : Int32 → Int32 → Int32 → List Oa → Option Int32
  | k, v, w, [] => opW k v w
  | k, v, w, c :: cs => match opW k v w with
    | none => none
    | some u => evO wx wy c.1.1 u (atW wx wy c.2) cs
end
theorem gr_oa {d px py tr : Nat} {a b wx wy : Int32} {ws : List Int32} {os : List Or3} {Q : xS → Prop} (hR : Rz d tr ws Q) (hn : os.length < 60000) (hw : ws.length < 990) (hx : ws[px]? = some wx) (hy : ws[py]? = some wy) : ∀ (cs : List Oa) (k v w : Int32) (S : xS) (n : Nat) (A B : List Or3), os = A ++ (oaO px py k cs ++ B) → MC S A.length ((ws ++ [v]) ++ [w]) tr → CO S os → n + 2 * cs.length + 1 < 100000 → kCal k → OaV cs →
    (∀ u, evO wx wy k v w cs = some u → ∃ S1, GoRun (d + 4) n (2 * cs.length + 1) a b S S1 ∧ MC S1 (A.length + (2 * cs.length + 1)) (ws ++ [u]) tr ∧ FrU S S1) ∧ (evO wx wy k v w cs = none → ∃ S1 m, m ≤ 2 * cs.length + 1 ∧ GoRun (d + 4) n m a b S S1 ∧ Q S1 ∧ FrU S S1)
  | [], k, v, w, S, n, A, B, ho, hM, hc, hk, hcal, _ => by
    refine ⟨fun u hu => ?_, fun hu => ?_⟩
    · exact gr_cal (B := B) ho hM hc hn (by omega) hcal hu
    · obtain ⟨S1, r1, q1, f1⟩ := gr_cal0 (a := a) (b := b) (B := B) ho hM hc hn (show n < 100000 by omega) hcal hu hR
      exact ⟨S1, 1, Nat.le_refl 1, r1, q1, f1⟩
  | c :: cs, k, v, w, S, n, A, B, ho, hM, hc, hk, hcal, hv => by
    rw [List.length_cons] at hk
    have ho1 : os = A ++ (7, k, 0) :: (atO px py c.2 :: (oaO px py c.1.1 cs ++ B)) := ho
    obtain ⟨h1, h2⟩ := hv c List.mem_cons_self
    cases hop : opW k v w with
    | none =>
      have e : evO wx wy k v w (c :: cs) = none := by unfold evO; rw [hop]
      refine ⟨fun u hu => (by rw [e] at hu; cases hu), fun _ => ?_⟩
      obtain ⟨S1, r1, q1, f1⟩ := gr_cal0 (a := a) (b := b) ho1 hM hc hn (show n < 100000 by omega) hcal hop hR
      exact ⟨S1, 1, by rw [List.length_cons]; omega, r1, q1, f1⟩
    | some u0 =>
      have e : evO wx wy k v w (c :: cs) = evO wx wy c.1.1 u0 (atW wx wy c.2) cs := by show (match opW k v w with | none => none | some u => evO wx wy c.1.1 u (atW wx wy c.2) cs) = _; rw [hop]
      rw [e]
      obtain ⟨S1, r1, m1, f1⟩ := gr_cal (d := d) (n := n) (a := a) (b := b) ho1 hM hc hn (by omega) hcal hop
      have ho2 : os = (A ++ [(7, k, 0)]) ++ atO px py c.2 :: (oaO px py c.1.1 cs ++ B) := by rw [List.append_assoc]; exact ho1
      have l2 : (A ++ [(7, k, 0)]).length = A.length + 1 := by rw [List.length_append]; rfl
      have hx1 : (ws ++ [u0])[px]? = some wx := by rw [List.getElem?_append_left (List.getElem?_eq_some_iff.mp hx).1]; exact hx
      have hy1 : (ws ++ [u0])[py]? = some wy := by rw [List.getElem?_append_left (List.getElem?_eq_some_iff.mp hy).1]; exact hy
      rw [← l2] at m1
      obtain ⟨S2, r2, m2, f2⟩ := gr_atom (d := d) (n := n + 1) (a := a) (b := b) ho2 m1 (f1.CO hc) hn (by omega) (by rw [List.length_append, List.length_singleton]; omega) hx1 hy1
      have ho3 : os = ((A ++ [(7, k, 0)]) ++ [atO px py c.2]) ++ (oaO px py c.1.1 cs ++ B) := by rw [List.append_assoc (A ++ [(7, k, 0)])]; exact ho2
      have l3 : ((A ++ [(7, k, 0)]) ++ [atO px py c.2]).length = A.length + 1 + 1 := by rw [List.length_append, l2]; rfl
      rw [l2, ← l3] at m2
      obtain ⟨g1, g2⟩ := gr_oa hR hn hw hx hy cs c.1.1 u0 (atW wx wy c.2) S2 (n + 1 + 1) _ B ho3 m2 (f2.CO (f1.CO hc)) (by omega) h1 (fun x hx => hv x (List.mem_cons_of_mem _ hx))
      refine ⟨fun u hu => ?_, fun hu => ?_⟩
      · obtain ⟨S3, r3, m3, f3⟩ := g1 u hu
        refine ⟨S3, ?_, ?_, f1.trans (f2.trans f3)⟩
        · have := (r1.trans r2).trans r3
          rw [List.length_cons, show 2 * (cs.length + 1) + 1 = 1 + 1 + (2 * cs.length + 1) by omega]
          exact this
        · rw [l3] at m3
          rw [List.length_cons, show A.length + (2 * (cs.length + 1) + 1) = A.length + 1 + 1 + (2 * cs.length + 1) by omega]
          exact m3
      · obtain ⟨S3, m, hm, r3, q3, f3⟩ := g2 hu
        exact ⟨S3, 1 + 1 + m, by rw [List.length_cons]; omega, (r1.trans r2).trans r3, q3, f1.trans (f2.trans f3)⟩
