/-! Where words are laid: a line. -/
def unG (u : Un) : Bool := Nat.ble u.1.length 11 && (Nat.ble u.2.length 3 && u.2.all (fun f => Nat.blt f.1 u.1.length))
theorem unG_len {u : Un} (h : unG u = true) : u.1.length ≤ 11 := by
  unfold unG at h
  rw [Bool.and_eq_true] at h
  exact Nat.le_of_ble_eq_true h.1
theorem unG_f {u : Un} (h : unG u = true) : u.2.length ≤ 3 := by
  unfold unG at h
  rw [Bool.and_eq_true, Bool.and_eq_true] at h
  exact Nat.le_of_ble_eq_true h.2.1
theorem unG_o {u : Un} (h : unG u = true) : unO u := by
  unfold unG at h
  rw [Bool.and_eq_true, Bool.and_eq_true, List.all_eq_true] at h
  intro f hf
  exact Nat.le_of_ble_eq_true (h.2.2 f hf)
theorem unN_le : ∀ (us : List Un) (n : Nat), (∀ u ∈ us, unG u = true) → unN us n ≤ n + 11 * us.length
  | [], _, _ => Nat.le_refl _
  | u :: us, n, h => by
    have h1 := unG_len (h u (List.mem_cons_self ..))
    have h2 := unN_le us (n + u.1.length) (fun v hv => h v (List.mem_cons_of_mem _ hv))
    show unN us (n + u.1.length) ≤ _
    rw [List.length_cons]
    omega
theorem unN_ge : ∀ (us : List Un) (n : Nat), n ≤ unN us n
  | [], _ => Nat.le_refl _
  | u :: us, n => Nat.le_trans (Nat.le_add_right _ _) (unN_ge us (n + u.1.length))
section
variable {w k a l s : Int32} {p : Nat}
theorem g_1 : unG (u1 w s) = true := by
  unfold u1
  split
  · split
    · split <;> rfl
    · split <;> rfl
  · split <;> rfl
theorem g_3 : unG (u3 w p) = true := by unfold u3; split <;> rfl
theorem g_dv : unG (uDv w a) = true := by unfold uDv; split <;> rfl
theorem g_op : unG (uOp w k) = true := by
  unfold uOp
  split
  · exact g_dv
  split
  · exact g_dv
  split
  · unfold uMul; split <;> rfl
  split
  · unfold uAdd; split <;> rfl
  · unfold uSub; split <;> rfl
theorem g_8 : unG (u8 l) = true := rfl
theorem g_19 : unG u19 = true := rfl
theorem g_18 : unG (u18 l) = true := rfl
theorem g_20 : unG (u20 w) = true := by unfold u20; split <;> rfl
theorem g_23 : unG (u23 w) = true := by unfold u23; split <;> rfl
theorem g_25 : unG (u25 p) = true := rfl
theorem g_29 : unG (u29 w l) = true := by unfold u29; split <;> rfl
theorem g_30 : unG u30 = true := rfl
theorem g_31 : unG (u31 w) = true := by unfold u31; split <;> rfl
theorem g_sj : (∀ u ∈ uSJ w l, unG u = true) ∧ (uSJ w l).length ≤ 2 := by
  unfold uSJ
  split
  · exact ⟨fun u hu => by rcases List.mem_cons.mp hu with rfl | hu; rfl; obtain rfl := List.mem_singleton.mp hu; rfl, Nat.le_refl _⟩
  · exact ⟨fun u hu => by obtain rfl := List.mem_singleton.mp hu; rfl, Nat.le_of_ble_eq_true rfl⟩
theorem g_ot : (∀ u ∈ uOT w k, unG u = true) ∧ (uOT w k).length ≤ 2 := by
  unfold uOT
  split
  · exact ⟨fun u hu => by rcases List.mem_cons.mp hu with rfl | hu; exact g_op; obtain rfl := List.mem_singleton.mp hu; rfl, Nat.le_refl _⟩
  split
  · exact ⟨fun u hu => by rcases List.mem_cons.mp hu with rfl | hu; exact g_dv; obtain rfl := List.mem_singleton.mp hu; rfl, Nat.le_refl _⟩
  split
  · exact ⟨fun u hu => by rcases List.mem_cons.mp hu with rfl | hu; exact g_dv; obtain rfl := List.mem_singleton.mp hu; rfl, Nat.le_refl _⟩
  split
  · exact ⟨fun u hu => by obtain rfl := List.mem_singleton.mp hu; rfl, Nat.le_of_ble_eq_true rfl⟩
  split
  · exact ⟨fun u hu => by obtain rfl := List.mem_singleton.mp hu; rfl, Nat.le_of_ble_eq_true rfl⟩
  · exact ⟨fun u hu => by obtain rfl := List.mem_singleton.mp hu; rfl, Nat.le_of_ble_eq_true rfl⟩
end
def uAt (w : Int32) (px py : Nat) (q : Int32 × Int32) : Un := if q.1 = 27 then u1 w (q.2 * 2 + 1) else if q.2 = 51 then u3 w px else u3 w py
theorem g_at {w : Int32} {px py : Nat} {q : Int32 × Int32} : unG (uAt w px py q) = true := by
  unfold uAt
  split
  · exact g_1
  split <;> exact g_3
def uOa (w : Int32) (px py : Nat) : Int32 → List Oa → List Un
  | _, [] => []
  | k, c :: cs => uOp w k :: uAt w px py c.2 :: uOa w px py c.1.1 cs
def oaI (px py : Nat) : Int32 → List Oa → List Or3
  | _, [] => []
  | k, c :: cs => (7, k, 0) :: atO px py c.2 :: oaI px py c.1.1 cs
def laO : Int32 → List Oa → Int32
  | k, [] => k
  | _, c :: cs => laO c.1.1 cs
theorem oaO_I (px py : Nat) : ∀ (k : Int32) (cs : List Oa), oaO px py k cs = oaI px py k cs ++ [(7, laO k cs, 0)]
  | _, [] => rfl
  | k, c :: cs => by
    show (7, k, 0) :: atO px py c.2 :: oaO px py c.1.1 cs = (7, k, 0) :: atO px py c.2 :: (oaI px py c.1.1 cs ++ [(7, laO c.1.1 cs, 0)])
    rw [oaO_I px py]
theorem oaI_len (px py : Nat) : ∀ (k : Int32) (cs : List Oa), (oaI px py k cs).length = 2 * cs.length
  | _, [] => rfl
  | k, c :: cs => by
    show (oaI px py c.1.1 cs).length + 1 + 1 = 2 * (cs.length + 1)
    rw [oaI_len px py]
    omega
theorem uOa_g {w : Int32} {px py : Nat} : ∀ (k : Int32) (cs : List Oa), (∀ u ∈ uOa w px py k cs, unG u = true) ∧ (uOa w px py k cs).length = 2 * cs.length
  | _, [] => ⟨fun u hu => (by cases hu), rfl⟩
  | k, c :: cs => by
    obtain ⟨h1, h2⟩ := uOa_g (w := w) (px := px) (py := py) c.1.1 cs
    refine ⟨fun u hu => ?_, ?_⟩
    · rcases List.mem_cons.mp hu with rfl | hu
      · exact g_op
      rcases List.mem_cons.mp hu with rfl | hu
      · exact g_at
      · exact h1 u hu
    · show (uOa w px py c.1.1 cs).length + 1 + 1 = 2 * (cs.length + 1)
      rw [h2]
      omega
theorem laO_c {k : Int32} (hk : kCal k) : ∀ (cs : List Oa), OaV cs → kCal (laO k cs)
  | [], _ => hk
  | c :: cs, h => laO_c (h c (List.mem_cons_self ..)).1 cs (fun d hd => h d (List.mem_cons_of_mem _ hd))
theorem pOrs_app (S0 : xS) : ∀ (os os' : List Or3) (k : Nat) (a : PA), pOrs S0 k (os ++ os') a = pOrs S0 (k + os.length) os' (pOrs S0 k os a)
  | [], _, _, _ => rfl
  | o :: os, os', k, a => by
    show pOrs S0 (k + 1) (os ++ os') _ = pOrs S0 (k + (os.length + 1)) os' (pOrs S0 (k + 1) os _)
    rw [pOrs_app S0 os os' (k + 1), show k + 1 + os.length = k + (os.length + 1) from by omega]
section
variable {a : PA} {s m : Int32}
theorem pOrd_1 : pOrd a (1, s, m) = pO1 a s := by
  unfold pOrd
  simp (config := { decide := true }) only [if_true, if_false, ite_true, ite_false]
theorem pOrd_3 : pOrd a (3, s, m) = pO3 a s := by
  unfold pOrd
  simp (config := { decide := true }) only [if_true, if_false, ite_true, ite_false]
theorem pOrd_7 : pOrd a (7, s, m) = pCal a s := by
  unfold pOrd
  simp (config := { decide := true }) only [if_true, if_false, ite_true, ite_false]
theorem pOrd_8 : pOrd a (8, s, m) = pO8 a s m := by
  unfold pOrd
  simp (config := { decide := true }) only [if_true, if_false, ite_true, ite_false]
theorem pOrd_11 : pOrd a (11, s, m) = pO11 a m := by
  unfold pOrd
  simp (config := { decide := true }) only [if_true, if_false, ite_true, ite_false]
theorem pOrd_18 : pOrd a (18, s, m) = pO18 a s := by
  unfold pOrd
  simp (config := { decide := true }) only [if_true, if_false, ite_true, ite_false]
theorem pOrd_19 : pOrd a (19, s, m) = pO19 a s := by
  unfold pOrd
  simp (config := { decide := true }) only [if_true, if_false, ite_true, ite_false]
theorem pOrd_20 : pOrd a (20, s, m) = pO20 a s := by
  unfold pOrd
  simp (config := { decide := true }) only [if_true, if_false, ite_true, ite_false]
theorem pOrd_23 : pOrd a (23, s, m) = pO23 a s := by
  unfold pOrd
  simp (config := { decide := true }) only [if_true, if_false, ite_true, ite_false]
theorem pOrd_25 : pOrd a (25, s, m) = pO25 a s m := by
  unfold pOrd
  simp (config := { decide := true }) only [if_true, if_false, ite_true, ite_false]
theorem pOrd_29 : pOrd a (29, s, m) = pO29 a s m := by
  unfold pOrd
  simp (config := { decide := true }) only [if_true, if_false, ite_true, ite_false]
theorem pOrd_30 : pOrd a (30, s, m) = pO30 a s m := by
  unfold pOrd
  simp (config := { decide := true }) only [if_true, if_false, ite_true, ite_false]
theorem pOrd_31 : pOrd a (31, s, m) = pO31 a s m := by
  unfold pOrd
  simp (config := { decide := true }) only [if_true, if_false, ite_true, ite_false]
end
section
variable {S0 : xS} {ws : List Int32} {n b j : Nat} {fx : List (Nat × Int32)} {lb : List (Int32 × Nat)} {o w : Int32} {px py : Nat}
theorem pLo_0 {a : PA} (h : S0.1 62 j = 0) : pLo S0 a j = a := if_pos h
theorem pLo_1 (h : ¬ S0.1 62 j = 0) : pLo S0 (mkA w ws n b 0 fx lb o) j = mkB w ws n fx ((nI j, n) :: lb) o := (if_neg h).trans ly_ld
def NL (S0 : xS) (j m : Nat) : Prop := ∀ i, j ≤ i → i < j + m → S0.1 62 i = 0
theorem NL.sub {j m j' m' : Nat} (h : NL S0 j m) (h1 : j ≤ j') (h2 : j' + m' ≤ j + m) : NL S0 j' m' := fun i q r => h i (by omega) (by omega)
theorem ln_at (hw : w = 1 ∨ w = 2) (hb : b ≤ n) (hn : n + 20 < 262144) (hpx : px < 8192) (hpy : py < 8192) (q : Int32 × Int32) : pOrd (mkA w ws n b 0 fx lb o) (atO px py q) = mkB w (unW [uAt w px py q] ws) (unN [uAt w px py q] n) (unF [uAt w px py q] n fx) lb o := by
  unfold atO uAt
  by_cases h1 : q.1 = 27
  · rw [if_pos h1, if_pos h1]
    rw [pOrd_1]
    exact pu_1 hw hb hn _
  · rw [if_neg h1, if_neg h1]
    by_cases h2 : q.2 = 51
    · rw [if_pos h2, if_pos h2]
      rw [pOrd_3]
      exact pu_3 hw hb hn hpx
    · rw [if_neg h2, if_neg h2]
      rw [pOrd_3]
      exact pu_3 hw hb hn hpy
theorem ln_op (hw : w = 1 ∨ w = 2) (hn : n + 80 < 262144) {k : Int32} (hk : kCal k) (hpx : px < 8192) (hpy : py < 8192) (q : Int32 × Int32) : pOrd (pOrd (mkB w ws n fx lb o) (7, k, 0)) (atO px py q) = mkB w (unW [uOp w k, uAt w px py q] ws) (unN [uOp w k, uAt w px py q] n) (unF [uOp w k, uAt w px py q] n fx) lb o := by
  have hk : k = 5 ∨ k = 16 ∨ k = 41 ∨ k = 42 ∨ k = 43 := by rcases hk with rfl | rfl | rfl | rfl | rfl <;> decide
  rw [pOrd_7]
  unfold atO uAt
  by_cases h1 : q.1 = 27
  · rw [if_pos h1, if_pos h1]
    rw [pOrd_1]
    exact pu_op1 hw hn hk _
  · rw [if_neg h1, if_neg h1]
    by_cases h2 : q.2 = 51
    · rw [if_pos h2, if_pos h2]
      rw [pOrd_3]
      exact pu_op3 hw hn hk hpx
    · rw [if_neg h2, if_neg h2]
      rw [pOrd_3]
      exact pu_op3 hw hn hk hpy
theorem ln_oa (hw : w = 1 ∨ w = 2) (hpx : px < 8192) (hpy : py < 8192) : ∀ (cs : List Oa) (k : Int32) (j n : Nat) (ws : List Int32) (fx : List (Nat × Int32)), NL S0 j (2 * cs.length) → kCal k → OaV cs → n + 22 * cs.length + 100 < 262144 → pOrs S0 j (oaI px py k cs) (mkB w ws n fx lb o) = mkB w (unW (uOa w px py k cs) ws) (unN (uOa w px py k cs) n) (unF (uOa w px py k cs) n fx) lb o
  | [], _, _, _, _, _, _, _, _, _ => rfl
  | c :: cs, k, j, n, ws, fx, hl, hk, hv, hn => by
    have hlen : (c :: cs).length = cs.length + 1 := rfl
    rw [hlen] at hl hn
    have h1 := pLo_0 (S0 := S0) (a := mkB w ws n fx lb o) (hl j (Nat.le_refl _) (by omega))
    have h2 := fun a => pLo_0 (S0 := S0) (a := a) (hl (j + 1) (by omega) (by omega))
    show pOrs S0 (j + 1 + 1) (oaI px py c.1.1 cs) (pOrd (pLo S0 (pOrd (pLo S0 (mkB w ws n fx lb o) j) (7, k, 0)) (j + 1)) (atO px py c.2)) = _
    rw [h1, h2, ln_op hw (by omega) hk hpx hpy]
    have hb := unN_le [uOp w k, uAt w px py c.2] n (fun u hu => by rcases List.mem_cons.mp hu with rfl | hu; exact g_op; obtain rfl := List.mem_singleton.mp hu; exact g_at)
    have hb : unN [uOp w k, uAt w px py c.2] n ≤ n + 22 := hb
    exact ln_oa hw hpx hpy cs c.1.1 (j + 1 + 1) _ _ _ (hl.sub (by omega) (by omega)) (hv c (List.mem_cons_self ..)).1 (fun d hd => hv d (List.mem_cons_of_mem _ hd)) (by omega)
end
