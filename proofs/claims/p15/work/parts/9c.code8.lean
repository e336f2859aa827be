/-! Coder: a program. -/
def lnsO : Nat → Nat → Nat → Nat → List De → List Or3
  | _, _, _, _, [] => []
  | px, py, b, dep, c :: cs => lnO px py b dep c.2 ++ lnsO (if c.1 = 51 then dep + 1 else px) (if c.1 = 51 then py else dep + 1) (b + (lnO px py b dep c.2).length) (dep + 2) cs
def endP : Nat → Nat → Nat → List De → Nat × Nat
  | px, py, _, [] => (px, py)
  | px, py, dep, c :: cs => endP (if c.1 = 51 then dep + 1 else px) (if c.1 = 51 then py else dep + 1) (dep + 2) cs
theorem lnD_len (l : Ln) : (lnD l).2 = .inr ((25, 51), opO l.2.1 (laI l.2.2.1).2, if l.2.2.2 = true then some (37, 52) else none) := rfl
theorem opO_v (k : Nat) {q : Int32 × Int32} (hq : atV q) : OaV (opO k q) ∧ (∃ c cs, opO k q = c :: cs) ∧ (opO k q).length ≤ 3 := by
  have hx : atV (25, 51) := Or.inr ⟨rfl, Or.inl rfl⟩
  have hy : atV (25, 52) := Or.inr ⟨rfl, Or.inr rfl⟩
  match k with
  | 0 => exact ⟨fun c hc => by obtain rfl := List.mem_singleton.mp hc; exact ⟨Or.inl rfl, hq⟩, ⟨_, _, rfl⟩, show 1 ≤ 3 by decide⟩
  | 1 => exact ⟨fun c hc => by obtain rfl := List.mem_singleton.mp hc; exact ⟨Or.inr (Or.inl rfl), hq⟩, ⟨_, _, rfl⟩, show 1 ≤ 3 by decide⟩
  | 2 => exact ⟨fun c hc => by obtain rfl := List.mem_singleton.mp hc; exact ⟨Or.inr (Or.inr (Or.inl rfl)), hq⟩, ⟨_, _, rfl⟩, show 1 ≤ 3 by decide⟩
  | 3 => exact ⟨fun c hc => by obtain rfl := List.mem_singleton.mp hc; exact ⟨Or.inr (Or.inr (Or.inr (Or.inl rfl))), hq⟩, ⟨_, _, rfl⟩, show 1 ≤ 3 by decide⟩
  | 4 => exact ⟨fun c hc => by obtain rfl := List.mem_singleton.mp hc; exact ⟨Or.inr (Or.inr (Or.inr (Or.inr rfl))), hq⟩, ⟨_, _, rfl⟩, show 1 ≤ 3 by decide⟩
  | 5 =>
    refine ⟨fun c hc => ?_, ⟨_, _, rfl⟩, show 2 ≤ 3 by decide⟩
    rcases List.mem_cons.mp hc with rfl | hc
    · exact ⟨Or.inl rfl, hy⟩
    obtain rfl := List.mem_singleton.mp hc
    exact ⟨Or.inr (Or.inl rfl), hq⟩
  | 6 =>
    refine ⟨fun c hc => ?_, ⟨_, _, rfl⟩, show 2 ≤ 3 by decide⟩
    rcases List.mem_cons.mp hc with rfl | hc
    · exact ⟨Or.inr (Or.inr (Or.inl rfl)), hx⟩
    obtain rfl := List.mem_singleton.mp hc
    exact ⟨Or.inl rfl, hq⟩
  | n + 7 =>
    refine ⟨fun c hc => ?_, ⟨_, _, rfl⟩, show 3 ≤ 3 by decide⟩
    rcases List.mem_cons.mp hc with rfl | hc
    · exact ⟨Or.inr (Or.inl rfl), hx⟩
    rcases List.mem_cons.mp hc with rfl | hc
    · exact ⟨Or.inr (Or.inl rfl), hy⟩
    obtain rfl := List.mem_singleton.mp hc
    exact ⟨Or.inr (Or.inl rfl), hq⟩
theorem laI_v (o : Option Int) : atV (laI o).2 := by
  cases o with
  | none => exact Or.inr ⟨rfl, Or.inr rfl⟩
  | some v => exact Or.inl rfl
theorem lnD_v {S : xS} {xm ym px py : Nat} (hx : WH S xm px) (hy : WH S ym py) (l : Ln) : ExV S xm ym px py (lnD l).2 := by
  obtain ⟨a, k, o, b⟩ := l
  obtain ⟨h1, h2, h3⟩ := opO_v k (laI_v o)
  refine ⟨⟨hx, hy⟩, Or.inr ⟨rfl, Or.inl rfl⟩, h1, h2, h3, ?_⟩
  cases b with
  | false => exact Or.inl rfl
  | true => exact Or.inr rfl
theorem exO_le {S : xS} {xm ym px py b dep : Nat} {e : Ex} (he : ExV S xm ym px py e) : (exO px py b dep e).length ≤ 20 := by
  match e, he with
  | .inl a, _ => show 1 ≤ 20; decide
  | .inr (a, cs, none), ⟨_, _, _, _, h3, _⟩ =>
    show (chO px py cs).length + 1 ≤ 20
    rw [chO_len]; have : cs.length ≤ 3 := h3; omega
  | .inr (a, cs, some q), ⟨_, _, _, _, h3, _⟩ =>
    have e9 : (exO px py b dep (.inr (a, cs, some q))).length = (chO px py cs).length + 1 + 8 + 1 := by
      unfold exO exE haO
      simp only [List.length_append, List.length_cons, List.length_nil]
    rw [e9, chO_len]; have : cs.length ≤ 3 := h3; omega
theorem deM_5 (n : Nat) (c : De) : 5 ≤ (deM n c).length := by
  unfold deM
  simp only [List.length_cons, List.length_append, List.length_nil]
  omega
set_option maxHeartbeats 4000000 in
set_option maxRecDepth 100000 in
theorem cd_lines {d : Nat} {todo : List Mk} : ∀ (ls : List Ln) (S : xS) (os : List Or3) (dep xm ym px py : Nat) (done : List Mk), MK S (done ++ (desL done.length xm ym (ls.map lnD) ++ todo)) → (done ++ (desL done.length xm ym (ls.map lnD) ++ todo)).length ≤ 10000 → CT S os dep [] → WH S xm px → WH S ym py → xm < done.length → ym < done.length → os.length + 30 * ls.length < 20000 → dep + 2 * ls.length < 3000 →
    ∃ S1, (∀ r, CdAt (d + 6) (done ++ desL done.length xm ym (ls.map lnD)).length S1 r → CdAt (d + 6) done.length S r) ∧ CT S1 (os ++ lnsO px py os.length dep (ls.map lnD)) (dep + 2 * ls.length) [] ∧ WH S1 (endX done.length xm ym (ls.map lnD)).1 (endP px py dep (ls.map lnD)).1 ∧ WH S1 (endX done.length xm ym (ls.map lnD)).2 (endP px py dep (ls.map lnD)).2 ∧ FrV S S1
  | [], S, os, dep, xm, ym, px, py, done, hm, hL, h, hx, hy, _, _, hn, hd => by
    refine ⟨S, fun r hr => ?_, ?_, hx, hy, ⟨rfl, fun _ _ => rfl⟩⟩
    · have e : (done ++ desL done.length xm ym ([].map lnD)).length = done.length := by show (done ++ []).length = _; rw [List.append_nil]
      rw [e] at hr; exact hr
    · show CT S (os ++ []) dep []
      rw [List.append_nil]; exact h
  | l :: ls, S, os, dep, xm, ym, px, py, done, hm, hL, h, hx, hy, hxm, hym, hn, hd => by
    rw [List.length_cons] at hn hd
    obtain ⟨x, hxx, hxe⟩ : ∃ x, (x = 51 ∨ x = 52) ∧ (lnD l).1 = nI x := by
      obtain ⟨a, k, o, b⟩ := l
      cases a with
      | true => exact ⟨51, Or.inl rfl, rfl⟩
      | false => exact ⟨52, Or.inr rfl, rfl⟩
    have hdd : lnD l = (nI x, (lnD l).2) := by rw [← hxe]
    have e2 : desL done.length xm ym ((l :: ls).map lnD) = (deM done.length (lnD l)).map (mkL xm ym) ++ desL (done.length + (deM done.length (lnD l)).length) (if (lnD l).1 = 51 then done.length + 2 else xm) (if (lnD l).1 = 51 then ym else done.length + 2) (ls.map lnD) := rfl
    have e3 : endX done.length xm ym ((l :: ls).map lnD) = endX (done.length + (deM done.length (lnD l)).length) (if (lnD l).1 = 51 then done.length + 2 else xm) (if (lnD l).1 = 51 then ym else done.length + 2) (ls.map lnD) := rfl
    have e4 : lnsO px py os.length dep ((l :: ls).map lnD) = lnO px py os.length dep (lnD l).2 ++ lnsO (if (lnD l).1 = 51 then dep + 1 else px) (if (lnD l).1 = 51 then py else dep + 1) (os.length + (lnO px py os.length dep (lnD l).2).length) (dep + 2) (ls.map lnD) := rfl
    have e5 : endP px py dep ((l :: ls).map lnD) = endP (if (lnD l).1 = 51 then dep + 1 else px) (if (lnD l).1 = 51 then py else dep + 1) (dep + 2) (ls.map lnD) := rfl
    rw [e2] at hm hL
    rw [e2, e3, e4, e5]
    rw [List.append_assoc] at hm hL
    have hle : (done ++ (deM done.length (lnD l)).map (mkL xm ym)).length = done.length + (deM done.length (lnD l)).length := by rw [List.length_append, List.length_map]
    have h5 := deM_5 done.length (lnD l)
    have hm' := hm
    have hL' := hL
    rw [hdd] at hm' hL'
    have hv := lnD_v hx hy l
    obtain ⟨S1, r1, c1, w1, w1b, f1⟩ := cd_line (d := d) (x := x) (xm := xm) (ym := ym) (px := px) (py := py) hxx hm' hL' h (by omega) (by omega) hv
    rw [← hdd] at r1
    have hlo : (lnO px py os.length dep (lnD l).2).length ≤ 23 := by
      unfold lnO
      rw [List.length_append]
      have := exO_le (b := os.length) (dep := dep) hv
      show _ + 3 ≤ 23
      omega
    have hm2 : MK S1 ((done ++ (deM done.length (lnD l)).map (mkL xm ym)) ++ (desL (done ++ (deM done.length (lnD l)).map (mkL xm ym)).length (if (lnD l).1 = 51 then done.length + 2 else xm) (if (lnD l).1 = 51 then ym else done.length + 2) (ls.map lnD) ++ todo)) := by rw [hle, List.append_assoc]; exact f1.MK hm
    have hL2 : ((done ++ (deM done.length (lnD l)).map (mkL xm ym)) ++ (desL (done ++ (deM done.length (lnD l)).map (mkL xm ym)).length (if (lnD l).1 = 51 then done.length + 2 else xm) (if (lnD l).1 = 51 then ym else done.length + 2) (ls.map lnD) ++ todo)).length ≤ 10000 := by rw [hle, List.append_assoc]; exact hL
    have hW : WH S1 (if (lnD l).1 = 51 then done.length + 2 else xm) (if (lnD l).1 = 51 then dep + 1 else px) ∧ WH S1 (if (lnD l).1 = 51 then ym else done.length + 2) (if (lnD l).1 = 51 then py else dep + 1) := by
      by_cases q : (lnD l).1 = 51
      · rw [if_pos q, if_pos q, if_pos q, if_pos q]; exact ⟨w1, w1b ym py (by omega) hy⟩
      · rw [if_neg q, if_neg q, if_neg q, if_neg q]; exact ⟨w1b xm px (by omega) hx, w1⟩
    have hb : (if (lnD l).1 = 51 then done.length + 2 else xm) < (done ++ (deM done.length (lnD l)).map (mkL xm ym)).length ∧ (if (lnD l).1 = 51 then ym else done.length + 2) < (done ++ (deM done.length (lnD l)).map (mkL xm ym)).length := by
      rw [hle]
      by_cases q : (lnD l).1 = 51
      · rw [if_pos q, if_pos q]; omega
      · rw [if_neg q, if_neg q]; omega
    obtain ⟨S2, b2, b3, b4, b5, b6⟩ := cd_lines (d := d) ls S1 _ (dep + 2) _ _ _ _ _ hm2 hL2 c1 hW.1 hW.2 hb.1 hb.2 (by rw [List.length_append]; omega) (by omega)
    rw [hle] at b2 b4 b5
    refine ⟨S2, fun r hr => r1 r ?_, ?_, b4, b5, f1.trans b6⟩
    · rw [hle]; exact b2 r (by rw [← List.append_assoc] at hr; exact hr)
    · rw [List.length_append, List.append_assoc] at b3
      rw [show dep + 2 * (l :: ls).length = dep + 2 + 2 * ls.length by rw [List.length_cons]; omega]
      exact b3
