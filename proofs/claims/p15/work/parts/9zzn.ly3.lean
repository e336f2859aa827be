/-! Where words are laid: rows of units (words, and which of them are to be closed with which label). -/
abbrev Un := List Int32 × List (Nat × Int32)
def unA (n : Nat) (fs : List (Nat × Int32)) : List (Nat × Int32) := fs.map (fun f => (n + f.1, f.2))
def unW : List Un → List Int32 → List Int32
  | [], ws => ws
  | u :: us, ws => unW us (u.1.reverse ++ ws)
def unN : List Un → Nat → Nat
  | [], n => n
  | u :: us, n => unN us (n + u.1.length)
def unF : List Un → Nat → List (Nat × Int32) → List (Nat × Int32)
  | [], _, fx => fx
  | u :: us, n, fx => unF us (n + u.1.length) ((unA n u.2).reverse ++ fx)
def unO (u : Un) : Prop := ∀ f ∈ u.2, f.1 < u.1.length
theorem unW_app : ∀ (us vs : List Un) (ws : List Int32), unW (us ++ vs) ws = unW vs (unW us ws)
  | [], _, _ => rfl
  | u :: us, vs, ws => unW_app us vs (u.1.reverse ++ ws)
theorem unN_app : ∀ (us vs : List Un) (n : Nat), unN (us ++ vs) n = unN vs (unN us n)
  | [], _, _ => rfl
  | u :: us, vs, n => unN_app us vs (n + u.1.length)
theorem unF_app : ∀ (us vs : List Un) (n : Nat) (fx : List (Nat × Int32)), unF (us ++ vs) n fx = unF vs (unN us n) (unF us n fx)
  | [], _, _, _ => rfl
  | u :: us, vs, n, fx => unF_app us vs (n + u.1.length) ((unA n u.2).reverse ++ fx)
theorem unW_nil : ∀ (us : List Un) (ws : List Int32), unW us ws = unW us [] ++ ws
  | [], _ => rfl
  | u :: us, ws => by
    show unW us (u.1.reverse ++ ws) = unW us (u.1.reverse ++ []) ++ ws
    rw [unW_nil us (u.1.reverse ++ ws), unW_nil us (u.1.reverse ++ []), List.append_nil, List.append_assoc]
theorem unF_nil : ∀ (us : List Un) (n : Nat) (fx : List (Nat × Int32)), unF us n fx = unF us n [] ++ fx
  | [], _, _ => rfl
  | u :: us, n, fx => by
    show unF us (n + u.1.length) ((unA n u.2).reverse ++ fx) = unF us (n + u.1.length) ((unA n u.2).reverse ++ []) ++ fx
    rw [unF_nil us _ ((unA n u.2).reverse ++ fx), unF_nil us _ ((unA n u.2).reverse ++ []), List.append_nil, List.append_assoc]
theorem unW_len : ∀ (us : List Un) (n : Nat), unN us n = n + (unW us []).length
  | [], _ => rfl
  | u :: us, n => by
    show unN us (n + u.1.length) = n + (unW us (u.1.reverse ++ [])).length
    rw [unW_len us, unW_nil us (u.1.reverse ++ []), List.append_nil, List.length_append, List.length_reverse]
    omega
theorem unF_bd : ∀ (us : List Un) (n : Nat), (∀ u ∈ us, unO u) → ∀ f ∈ unF us n [], n ≤ f.1 ∧ f.1 < unN us n
  | [], _, _, f, hf => by cases hf
  | u :: us, n, ho, f, hf => by
    have hf : f ∈ unF us (n + u.1.length) ((unA n u.2).reverse ++ []) := hf
    rw [unF_nil us, List.append_nil] at hf
    have hN : unN (u :: us) n = unN us (n + u.1.length) := rfl
    have hL := unW_len us (n + u.1.length)
    rcases List.mem_append.mp hf with q | q
    · have := unF_bd us (n + u.1.length) (fun v hv => ho v (List.mem_cons_of_mem _ hv)) f q
      rw [hN]
      omega
    · obtain ⟨g, hg, rfl⟩ := List.mem_map.mp (List.mem_reverse.mp q)
      have := ho u (List.mem_cons_self ..) g hg
      rw [hN]
      show n ≤ n + g.1 ∧ n + g.1 < _
      omega
/-- closing -/
theorem clM_app (lb : List (Int32 × Nat)) : ∀ (F G : List (Nat × Int32)) (M : Nat → Int32), clM lb (F ++ G) M = clM lb G (clM lb F M)
  | [], _, _ => rfl
  | f :: F, G, M => clM_app lb F G (cl1 lb f M)
theorem clM_out (lb : List (Int32 × Nat)) (p : Nat) : ∀ (F : List (Nat × Int32)) (M : Nat → Int32), (∀ f ∈ F, f.1 ≠ p) → clM lb F M p = M p
  | [], _, _ => rfl
  | f :: F, M, h => by
    show clM lb F (cl1 lb f M) p = M p
    rw [clM_out lb p F _ (fun g hg => h g (List.mem_cons_of_mem _ hg))]
    exact if_neg (fun q => h f (List.mem_cons_self ..) q.symm)
theorem clM_at (lb : List (Int32 × Nat)) (p : Nat) : ∀ (F : List (Nat × Int32)) (M M' : Nat → Int32), M p = M' p → clM lb F M p = clM lb F M' p
  | [], _, _, h => h
  | f :: F, M, M', h => clM_at lb p F _ _ (by
    show (if p = f.1 then _ else _) = (if p = f.1 then _ else _)
    by_cases q : p = f.1
    · rw [if_pos q, if_pos q, ← q, h]
    · rw [if_neg q, if_neg q, h])
def clu (ad : Int32 → Int32) (n : Nat) : List (Nat × Int32) → Nat → Int32 → Int32
  | [], _, w => w
  | f :: r, i, w => clu ad n r i (if i = f.1 then clW (ad f.2) (nI (19840 + (n + f.1))) w else w)
theorem clM_clu (lb : List (Int32 × Nat)) (n i : Nat) : ∀ (fs : List (Nat × Int32)) (M : Nat → Int32), clM lb (unA n fs) M (n + i) = clu (adL lb) n fs i (M (n + i))
  | [], _ => rfl
  | f :: fs, M => by
    show clM lb (unA n fs) (cl1 lb (n + f.1, f.2) M) (n + i) = clu (adL lb) n fs i (if i = f.1 then clW (adL lb f.2) (nI (19840 + (n + f.1))) (M (n + i)) else M (n + i))
    rw [clM_clu lb n i fs]
    congr 1
    show (if n + i = n + f.1 then clW (adL lb f.2) (nI (19840 + (n + f.1))) (M (n + f.1)) else M (n + i)) = _
    by_cases q : i = f.1
    · rw [if_pos (by rw [q]), if_pos q, q]
    · rw [if_neg (by omega), if_neg q]
section
variable {lb : List (Int32 × Nat)} {fx0 : List (Nat × Int32)} {n0 : Nat} {us : List Un}
/-- a unit's words, closed -/
theorem cl_unit {U1 U2 : List Un} {u : Un} (h0 : ∀ f ∈ fx0, f.1 < n0) (ho : ∀ v ∈ U1 ++ u :: U2, unO v) (M : Nat → Int32) {i : Nat} (hi : i < u.1.length) : clM lb (unF (U1 ++ u :: U2) n0 fx0).reverse M (unN U1 n0 + i) = clu (adL lb) (unN U1 n0) u.2 i (M (unN U1 n0 + i)) := by
  have hN := unW_len U1 n0
  have e : unF (U1 ++ u :: U2) n0 fx0 = unF U2 (unN U1 n0 + u.1.length) [] ++ ((unA (unN U1 n0) u.2).reverse ++ (unF U1 n0 [] ++ fx0)) := by
    rw [unF_app, unF_nil U1 n0 fx0]
    exact unF_nil U2 _ _
  rw [e, List.reverse_append, List.reverse_append, List.reverse_append, List.reverse_reverse, List.append_assoc, clM_app, clM_app, clM_app]
  rw [clM_out]
  · rw [clM_clu]
    congr 1
    rw [clM_out, clM_out]
    · intro f hf
      have := h0 f (List.mem_reverse.mp hf)
      omega
    · intro f hf
      have := (unF_bd U1 n0 (fun v hv => ho v (List.mem_append_left _ hv)) f (List.mem_reverse.mp hf)).2
      omega
  · intro f hf
    have := (unF_bd U2 (unN U1 n0 + u.1.length) (fun v hv => ho v (List.mem_append_right _ (List.mem_cons_of_mem _ hv))) f (List.mem_reverse.mp hf)).1
    omega
/-- what lay ahead, closed -/
theorem cl_ahead (ho : ∀ v ∈ us, unO v) (M : Nat → Int32) {p : Nat} (hp : p < n0) : clM lb (unF us n0 fx0).reverse M p = clM lb fx0.reverse M p := by
  rw [unF_nil us n0 fx0, List.reverse_append, clM_app, clM_out]
  intro f hf
  have := (unF_bd us n0 ho f (List.mem_reverse.mp hf)).1
  omega
/-- where a unit's word stands -/
theorem un_at {U1 U2 : List Un} {u : Un} {ws0 : List Int32} {i : Nat} {w : Int32} (hw : u.1[i]? = some w) (hl : ws0.length = n0) : ∃ j, (unW (U1 ++ u :: U2) ws0)[j]? = some w ∧ unN (U1 ++ u :: U2) n0 - 1 - j = unN U1 n0 + i := by
  have hi : i < u.1.length := (List.getElem?_eq_some_iff.mp hw).1
  have e : unW (U1 ++ u :: U2) ws0 = unW U2 [] ++ (u.1.reverse ++ (unW U1 [] ++ ws0)) := by
    rw [unW_app, unW_nil U1 ws0]
    exact unW_nil U2 _
  have hN : unN (U1 ++ u :: U2) n0 = unN U1 n0 + u.1.length + (unW U2 []).length := by
    rw [unN_app]
    exact unW_len U2 (unN U1 n0 + u.1.length)
  refine ⟨(unW U2 []).length + (u.1.length - 1 - i), ?_, by omega⟩
  rw [e, List.getElem?_append_right (by omega), Nat.add_sub_cancel_left, List.getElem?_append_left (by rw [List.length_reverse]; omega), List.getElem?_reverse (by omega), show u.1.length - 1 - (u.1.length - 1 - i) = i from by omega]
  exact hw
end
