/-! The program: its bytes, tokens and marks. -/
/-- the figures of a number, so many -/
def dgs : Nat → Nat → List Nat
  | 0, _ => []
  | k + 1, m => (48 + m / 10 ^ k % 10) :: dgs k m
theorem dgs_len : ∀ k m, (dgs k m).length = k
  | 0, _ => rfl
  | k + 1, m => by show (dgs k m).length + 1 = _; rw [dgs_len k m]
theorem dgs_dig : ∀ k m, ∀ b ∈ dgs k m, isDig b
  | 0, _, b, h => by cases h
  | k + 1, m, b, h => by
    rcases List.mem_cons.mp h with rfl | h
    · have := Nat.mod_lt (m / 10 ^ k) (show 0 < 10 by decide); exact ⟨by omega, by omega⟩
    · exact dgs_dig k m b h
theorem dgs_fold : ∀ k m a, (dgs k m).foldl (fun a b => a * 10 + (b - 48)) a = a * 10 ^ k + m % 10 ^ k
  | 0, m, a => by rw [Nat.pow_zero, Nat.mod_one, Nat.mul_one]; rfl
  | k + 1, m, a => by
    show (dgs k m).foldl _ (a * 10 + (48 + m / 10 ^ k % 10 - 48)) = _
    rw [dgs_fold k m, Nat.add_sub_cancel_left, Nat.pow_succ, Nat.mod_mul, Nat.add_mul, Nat.mul_assoc, Nat.mul_comm 10 (10 ^ k), Nat.mul_comm (m / 10 ^ k % 10)]
    omega
theorem dgs_dv {k m : Nat} (h : m < 10 ^ k) : dv (dgs k m) = m := by
  unfold dv
  rw [dgs_fold, Nat.zero_mul, Nat.zero_add, Nat.mod_eq_of_lt h]
/-- how many figures -/
def ndg : Nat → Nat → Nat
  | 0, _ => 1
  | k + 1, m => if m < 10 then 1 else ndg k (m / 10) + 1
theorem ndg_pos : ∀ k m, 1 ≤ ndg k m ∧ ndg k m ≤ k + 1
  | 0, m => ⟨Nat.le_refl 1, Nat.le_refl 1⟩
  | k + 1, m => by
    unfold ndg
    by_cases h : m < 10
    · rw [if_pos h]; omega
    · rw [if_neg h]; have := ndg_pos k (m / 10); omega
theorem ndg_lt : ∀ k m, m < 10 ^ (k + 1) → m < 10 ^ ndg k m
  | 0, m, h => h
  | k + 1, m, h => by
    unfold ndg
    by_cases h1 : m < 10
    · rw [if_pos h1]; exact h1
    · rw [if_neg h1, Nat.pow_succ]
      have := ndg_lt k (m / 10) (by rw [Nat.pow_succ] at h; omega)
      omega
/-- the bytes of a number -/
def nmB (v : Int) : List Nat := nby v (dgs (ndg 10 v.natAbs) v.natAbs)
def nmI (v : Int) : Itm := (32 :: nmB v, (27, Int32.ofInt v))
def inR (v : Int) : Prop := -2 ^ 30 ≤ v ∧ v < 2 ^ 30
theorem it_nm {Sx : xS} {v : Int} {nx : Int32} (h : inR v) (hn : lPart nx = false) : It Sx (nmI v).1 (nmI v).2 nx := by
  have hl := ndg_pos 10 v.natAbs
  refine Or.inr (Or.inr (Or.inr ⟨v, dgs (ndg 10 v.natAbs) v.natAbs, rfl, dgs_dig _ _, by rw [dgs_len]; omega, hn, by rw [dgs_len]; omega, dgs_dv (ndg_lt 10 _ ?_), h, rfl⟩))
  obtain ⟨h1, h2⟩ := h
  show _ < 100000000000
  omega
theorem it_wd {Sx : xS} {pre w : List Nat} {mm : Nat} {km : Int32 × Int32} {nx : Int32} (hp : Pre pre) (hw : isName w) (hn : lPart nx = false) (hk : Known Sx w mm) (h1 : km.1 = (if mm < 25 then nI mm else 25)) (h2 : 25 ≤ mm → km.2 = nI mm) : It Sx (pre ++ w) km nx := Or.inl ⟨pre, w, mm, rfl, hp, hw, hn, hk, h1, h2⟩
theorem it_sg {Sx : xS} {pre : List Nat} {b : Nat} {km : Int32 × Int32} {nx : Int32} (hp : Pre pre) (hb : lone b nx) (hn : ¬ nx = 42) (hk : km.1 = sgk b) (h1 : ¬ (km.1 = 25 ∨ km.1 = 27)) : It Sx (pre ++ [b]) km nx := Or.inr (Or.inl ⟨pre, b, rfl, hp, hb, hn, hk, h1⟩)
/-- what the table of names must say -/
def Kn (Sx : xS) : Prop := Known Sx [118, 97, 108] 23 ∧ Known Sx [105, 110] 14 ∧ Known Sx [100, 105, 118] 5 ∧ Known Sx [109, 111, 100] 16 ∧ Known Sx [104, 97, 110, 100, 108, 101] 12 ∧ Known Sx [68, 105, 118] 37 ∧ Known Sx [120] 51 ∧ Known Sx [121] 52
/-- a line: whether x is made (else y), by what, the number (else y), whether Div is handled -/
abbrev Ln := Bool × Nat × Option Int × Bool
def nmX (b : Bool) : Nat := if b = true then 120 else 121
def idX (b : Bool) : Int32 := if b = true then 51 else 52
def opI : Nat → List Itm
  | 0 => [([32, 43], (42, 0))]
  | 1 => [([32, 45], (43, 0))]
  | 2 => [([32, 42], (41, 0))]
  | 3 => [([32, 100, 105, 118], (5, 0))]
  | 4 => [([32, 109, 111, 100], (16, 0))]
  | 5 => [([32, 43], (42, 0)), ([32, 121], (25, 52)), ([32, 45], (43, 0))]
  | 6 => [([32, 42], (41, 0)), ([32, 120], (25, 51)), ([32, 43], (42, 0))]
  | _ => [([32, 45], (43, 0)), ([32, 120], (25, 51)), ([32, 45], (43, 0)), ([32, 121], (25, 52)), ([32, 45], (43, 0))]
/-- the last operand -/
def laI : Option Int → Itm
  | none => ([32, 121], (25, 52))
  | some v => nmI v
def haI : Bool → List Itm
  | false => []
  | true => [([32, 104, 97, 110, 100, 108, 101], (12, 0)), ([32, 68, 105, 118], (25, 37)), ([32, 61, 62], (39, 0)), ([32, 121], (25, 52))]
def lnI (l : Ln) : List Itm := [([10, 118, 97, 108], (23, 0)), ([32, nmX l.1], (25, idX l.1)), ([32, 61], (38, 0)), ([32, 40], (30, 0)), ([120], (25, 51))] ++ (opI l.2.1 ++ (laI l.2.2.1 :: (haI l.2.2.2 ++ [([41], (31, 0))])))
def opO : Nat → Int32 × Int32 → List Oa
  | 0, q => [((42, 0), q)]
  | 1, q => [((43, 0), q)]
  | 2, q => [((41, 0), q)]
  | 3, q => [((5, 0), q)]
  | 4, q => [((16, 0), q)]
  | 5, q => [((42, 0), (25, 52)), ((43, 0), q)]
  | 6, q => [((41, 0), (25, 51)), ((42, 0), q)]
  | _, q => [((43, 0), (25, 51)), ((43, 0), (25, 52)), ((43, 0), q)]
def lnD (l : Ln) : De := (idX l.1, .inr ((25, 51), opO l.2.1 (laI l.2.2.1).2, if l.2.2.2 = true then some (37, 52) else none))
theorem opI_T (h : Nat) (q : Itm) (r : List Itm) : itT (opI h ++ (q :: r)) = oaT (opO h q.2) ++ itT r := by
  match h with
  | 0 => rfl
  | 1 => rfl
  | 2 => rfl
  | 3 => rfl
  | 4 => rfl
  | 5 => rfl
  | 6 => rfl
  | n + 7 => rfl
theorem lnI_T (l : Ln) : itT (lnI l) = deT (lnD l) := by
  obtain ⟨a, h, o, b⟩ := l
  unfold lnI
  rw [itT_app, opI_T]
  cases b with
  | false =>
    show _ = (23, 0) :: (25, idX a) :: (38, 0) :: (30, 0) :: (((25, 51) :: (oaT (opO h (laI o).2) ++ [])) ++ [(31, 0)])
    rw [List.append_nil]
    rfl
  | true =>
    show _ = (23, 0) :: (25, idX a) :: (38, 0) :: (30, 0) :: (((25, 51) :: (oaT (opO h (laI o).2) ++ [(12, 0), (25, 37), (39, 0), (25, 52)])) ++ [(31, 0)])
    rw [List.cons_append, List.append_assoc]
    rfl
def lnOk (l : Ln) : Prop := ∀ v, l.2.2.1 = some v → inR v
theorem isN {w : List Nat} (h : w.all (fun b => isPart b) = true) (h1 : ∃ b, w[0]? = some b ∧ lLetter (nI b) = true) (h2 : w.length ≤ 31) : isName w := ⟨fun b hb => List.all_eq_true.mp h b hb, h1, h2⟩
theorem lp32 : lPart (nI 32) = false := by decide
theorem n62 : ¬ nI 32 = 62 := by decide
theorem n42 : ¬ nI 32 = 42 := by decide
theorem n42x : ¬ nI 120 = 42 := by decide
theorem n42n : ¬ nI 10 = 42 := by decide
theorem Pre0 : Pre [] := Or.inl rfl
theorem Pre32 : Pre [32] := Or.inr (Or.inl rfl)
theorem Pre10 : Pre [10] := Or.inr (Or.inr rfl)
section
variable {Sx : xS}
theorem it_x (hK : Kn Sx) {pre : List Nat} {nx : Int32} (hp : Pre pre) (hn : lPart nx = false) (a : Bool) : It Sx (pre ++ [nmX a]) (25, idX a) nx := by
  cases a with
  | true => exact it_wd hp (isN (by decide) ⟨120, rfl, by decide⟩ (by decide)) hn hK.2.2.2.2.2.2.1 (by decide) (fun _ => by decide)
  | false => exact it_wd hp (isN (by decide) ⟨121, rfl, by decide⟩ (by decide)) hn hK.2.2.2.2.2.2.2 (by decide) (fun _ => by decide)
theorem it_y (hK : Kn Sx) {nx : Int32} (hn : lPart nx = false) : It Sx [32, 121] (25, 52) nx := it_x hK Pre32 hn false
theorem it_x2 (hK : Kn Sx) {nx : Int32} (hn : lPart nx = false) : It Sx [32, 120] (25, 51) nx := it_x hK Pre32 hn true
theorem it_p {b : Nat} {km : Int32 × Int32} (hb : b = 42 ∨ b = 43 ∨ b = 45) (hk : km.1 = sgk b) : It Sx [32, b] km 32 := by
  refine it_sg Pre32 ?_ (by decide) hk ?_
  · unfold lone
    rcases hb with rfl | rfl | rfl
    · exact Or.inl (by decide)
    · exact Or.inl (by decide)
    · exact Or.inr (Or.inr ⟨rfl, by decide⟩)
  · rw [hk]
    rcases hb with rfl | rfl | rfl <;> decide
theorem its_op (hK : Kn Sx) (h : Nat) (r : List Nat) : Its Sx (opI h) (32 :: r) := by
  have e1 : hdI (32 :: r) = 32 := rfl
  match h with
  | 0 => exact ⟨it_p (by decide) rfl, trivial⟩
  | 1 => exact ⟨it_p (by decide) rfl, trivial⟩
  | 2 => exact ⟨it_p (by decide) rfl, trivial⟩
  | 3 => exact ⟨it_wd Pre32 (isN (by decide) ⟨100, rfl, by decide⟩ (by decide)) lp32 hK.2.2.1 (by decide) (fun z => absurd z (by decide)), trivial⟩
  | 4 => exact ⟨it_wd Pre32 (isN (by decide) ⟨109, rfl, by decide⟩ (by decide)) lp32 hK.2.2.2.1 (by decide) (fun z => absurd z (by decide)), trivial⟩
  | 5 => exact ⟨it_p (by decide) rfl, it_y hK lp32, it_p (by decide) rfl, trivial⟩
  | 6 => exact ⟨it_p (by decide) rfl, it_x2 hK lp32, it_p (by decide) rfl, trivial⟩
  | n + 7 => exact ⟨it_p (by decide) rfl, it_x2 hK lp32, it_p (by decide) rfl, it_y hK lp32, it_p (by decide) rfl, trivial⟩
theorem it_la (hK : Kn Sx) {o : Option Int} {nx : Int32} (ho : ∀ v, o = some v → inR v) (hn : lPart nx = false) : It Sx (laI o).1 (laI o).2 nx := by
  cases o with
  | none => exact it_y hK hn
  | some v => exact it_nm (ho v rfl) hn
theorem its_ha (hK : Kn Sx) (b : Bool) (r : List Nat) : Its Sx (haI b) (41 :: r) := by
  cases b with
  | false => exact trivial
  | true => exact ⟨it_wd (w := [104, 97, 110, 100, 108, 101]) Pre32 (isN (by decide) ⟨104, rfl, by decide⟩ (by decide)) lp32 hK.2.2.2.2.1 (by decide) (fun z => absurd z (by decide)), it_wd (w := [68, 105, 118]) Pre32 (isN (by decide) ⟨68, rfl, by decide⟩ (by decide)) lp32 hK.2.2.2.2.2.1 (by decide) (fun _ => by decide), Or.inr (Or.inr (Or.inl ⟨[32], rfl, Pre32, rfl⟩)), it_y hK (show lPart 41 = false by decide), trivial⟩
theorem laI_hd (o : Option Int) (r : List Nat) : ∃ r', (laI o).1 ++ r = 32 :: r' := by
  cases o with
  | none => exact ⟨_, rfl⟩
  | some v => exact ⟨_, rfl⟩
theorem haI_hd (b : Bool) (r : List Nat) : lPart (hdI (itB (haI b ++ [([41], (31, 0))]) ++ r)) = false := by
  cases b with
  | false => show lPart 41 = false; decide
  | true => show lPart 32 = false; decide
theorem its_ln (hK : Kn Sx) {l : Ln} (hl : lnOk l) (r : List Nat) : Its Sx (lnI l) (10 :: r) := by
  obtain ⟨a, h, o, b⟩ := l
  refine Its.app ⟨it_wd (w := [118, 97, 108]) Pre10 (isN (by decide) ⟨118, rfl, by decide⟩ (by decide)) lp32 hK.1 (by decide) (fun z => absurd z (by decide)), it_x hK Pre32 lp32 a, it_sg Pre32 (Or.inr (Or.inl ⟨rfl, n62⟩)) n42 rfl (by decide), it_sg Pre32 (Or.inl (Or.inl rfl)) n42x rfl (by decide), ?_, trivial⟩ ?_
  · refine it_x hK Pre0 ?_ true
    have : ∃ r', itB (opI h ++ (laI o :: (haI b ++ [([41], (31, 0))]))) ++ (10 :: r) = 32 :: r' := by
      match h with
      | 0 => exact ⟨_, rfl⟩
      | 1 => exact ⟨_, rfl⟩
      | 2 => exact ⟨_, rfl⟩
      | 3 => exact ⟨_, rfl⟩
      | 4 => exact ⟨_, rfl⟩
      | 5 => exact ⟨_, rfl⟩
      | 6 => exact ⟨_, rfl⟩
      | n + 7 => exact ⟨_, rfl⟩
    obtain ⟨r', h9⟩ := this
    show lPart (hdI (itB (opI h ++ (laI o :: (haI b ++ [([41], (31, 0))]))) ++ (10 :: r))) = false
    rw [h9]; show lPart 32 = false; decide
  · obtain ⟨r', h9⟩ := laI_hd o (itB (haI b ++ [([41], (31, 0))]) ++ 10 :: r)
    refine Its.app ?_ ⟨it_la hK hl (haI_hd b _), Its.app ?_ ⟨it_sg Pre0 (Or.inl (Or.inr (Or.inl rfl))) n42n rfl (by decide), trivial⟩⟩
    · have e : itB (laI o :: (haI b ++ [([41], (31, 0))])) ++ 10 :: r = 32 :: r' := by
        show (laI o).1 ++ itB (haI b ++ [([41], (31, 0))]) ++ 10 :: r = _
        rw [List.append_assoc]; exact h9
      rw [e]; exact its_op hK h r'
    · exact its_ha hK b _
end
