/-! Where words are laid: orders as units. -/
def u1 (w s : Int32) : Un := if s < (-32768) ∨ 32767 < s then (if s &&& 65535 = 0 then (if w = 1 then ([wLui 4 s, wJal, 0], [(1, 65536)]) else ([wJal, wLui 4 s], [(0, 65536)])) else (if w = 1 then ([wLui 4 s, wOri 4 s, wJal, 0], [(2, 65536)]) else ([wLui 4 s, wJal, wOri 4 s], [(1, 65536)]))) else (if w = 1 then ([wSet 4 s, wJal, 0], [(1, 65536)]) else ([wJal, wSet 4 s], [(0, 65536)]))
def u3 (w : Int32) (p : Nat) : Un := if w = 1 then ([wLw 4 (nI p * 4) 17, 0, wJal, 0], [(2, 65536)]) else ([wLw 4 (nI p * 4) 17, wJal, 0], [(1, 65536)])
def uDv (w a : Int32) : Un := if w = 1 then ([wSet 5 a, wJal, 0], [(1, 65549)]) else ([wJal, wSet 5 a], [(0, 65549)])
def uAdd (w : Int32) : Un := if w = 1 then ([wLw 8 (-8) 16, 0, wLw 9 (-4) 16, 0, wAdd 16 16 (-4), wThree 33 10 8 9, wAdd 10 10 (-1), wSw 10 (-4) 16], []) else ([wLw 8 (-8) 16, wLw 9 (-4) 16, wAdd 16 16 (-4), wThree 33 10 8 9, wAdd 10 10 (-1), wSw 10 (-4) 16], [])
def uAddT : Un := ([wLw 8 (-8) 16, wLw 9 (-4) 16, wAdd 16 16 (-4), wThree 33 10 8 9, wAdd 10 10 (-1), wJal, wSw 10 (-4) 16], [(5, 65552)])
def uSub (w : Int32) : Un := if w = 1 then ([wLw 8 (-8) 16, 0, wLw 9 (-4) 16, 0, wAdd 16 16 (-4), wThree 35 10 8 9, wAdd 10 10 1, wSw 10 (-4) 16], []) else ([wLw 8 (-8) 16, wLw 9 (-4) 16, wAdd 16 16 (-4), wThree 35 10 8 9, wAdd 10 10 1, wSw 10 (-4) 16], [])
def uSubT : Un := ([wLw 8 (-8) 16, wLw 9 (-4) 16, wAdd 16 16 (-4), wThree 35 10 8 9, wAdd 10 10 1, wJal, wSw 10 (-4) 16], [(5, 65552)])
def uMul (w : Int32) : Un := if w = 1 then ([wLw 8 (-8) 16, 0, wLw 9 (-4) 16, 0, wAdd 16 16 (-4), wAdd 8 8 (-1), wShift 3 9 9 1, wThree 24 0 8 9, wThree 18 10 0 0, wAdd 10 10 1, wSw 10 (-4) 16], []) else ([wLw 8 (-8) 16, wLw 9 (-4) 16, wAdd 16 16 (-4), wAdd 8 8 (-1), wShift 3 9 9 1, wThree 24 0 8 9, wThree 18 10 0 0, wAdd 10 10 1, wSw 10 (-4) 16], [])
def uMulT : Un := ([wLw 8 (-8) 16, wLw 9 (-4) 16, wAdd 16 16 (-4), wAdd 8 8 (-1), wShift 3 9 9 1, wThree 24 0 8 9, wThree 18 10 0 0, wAdd 10 10 1, wJal, wSw 10 (-4) 16], [(8, 65552)])
def uOp (w k : Int32) : Un := if k = 5 then uDv w 0 else if k = 16 then uDv w 1 else if k = 41 then uMul w else if k = 42 then uAdd w else uSub w
def u8 (l : Int32) : Un := ([wJ, 0], [(0, l)])
def u11 : Un := ([wLw 8 (-4) 16, 0, wAdd 16 16 (-4), wSw 8 (-4) 16], [])
def u11j (l : Int32) : Un := ([wLw 8 (-4) 16, wAdd 16 16 (-4), wJ, wSw 8 (-4) 16], [(2, l)])
def uSJ (w l : Int32) : List Un := if w = 1 then [u11, u8 l] else [u11j l]
def u19 : Un := ([wJal, 0], [(0, 65552)])
def uOT (w k : Int32) : List Un := if w = 1 then [uOp w k, u19] else if k = 5 then [uDv w 0, u19] else if k = 16 then [uDv w 1, u19] else if k = 41 then [uMulT] else if k = 42 then [uAddT] else [uSubT]
def u18 (l : Int32) : Un := ([scW0 5, scW1 5, wJal, 0], [(0, l), (1, l), (2, 65551)])
def u20 (w : Int32) : Un := if w = 1 then ([wLw 4 (-4) 16, 0, wJ, 0], [(2, 65550)]) else ([wLw 4 (-4) 16, wJ, 0], [(1, 65550)])
def u23 (w : Int32) : Un := if w = 1 then ([wLw 3 (-4) 16, 0, wSet 2 0, wJ, 0], [(3, 65561)]) else ([wLw 3 (-4) 16, wJ, wSet 2 0], [(1, 65561)])
def u25 (p : Nat) : Un := ([wLw 8 (nI p * 4) 17, 0, wSw 8 64 0], [])
def u29 (w l : Int32) : Un := if w = 1 then ([wLw 8 64 0, 0, wSet 9 26, wOv 4 8 9, 0, wJ, 0], [(5, l)]) else ([wLw 8 64 0, wSet 9 26, wOv 4 8 9, 0, wJ, 0], [(4, l)])
def u30 : Un := ([wLw 8 ((16 + 0) * 4) 0, 0, wSw 8 ((144 + 0) * 4) 0], [])
def u31 (w : Int32) : Un := if w = 1 then ([wSet 5 (1 * 4), wJal, 0], [(1, 65544)]) else ([wJal, wSet 5 (1 * 4)], [(0, 65544)])
/-- a state between orders: nothing late, a place that is landed on -/
abbrev mkB (w : Int32) (ws : List Int32) (n : Nat) (fx : List (Nat × Int32)) (lb : List (Int32 × Nat)) (o : Int32) : PA := mkA w ws n n 0 fx lb o
section
variable {ws : List Int32} {n b : Nat} {fx : List (Nat × Int32)} {lb : List (Int32 × Nat)} {o w : Int32}
theorem pu_1 (hw : w = 1 ∨ w = 2) (hb : b ≤ n) (hn : n + 20 < 262144) (s : Int32) : pO1 (mkA w ws n b 0 fx lb o) s = mkB w (unW [u1 w s] ws) (unN [u1 w s] n) (unF [u1 w s] n fx) lb o := by
  by_cases h1 : s < (-32768) ∨ 32767 < s
  · by_cases h2 : s &&& 65535 = 0
    · rcases hw with rfl | rfl
      · rw [show u1 1 s = _ from (if_pos h1).trans ((if_pos h2).trans (if_pos rfl))]; exact lyO1z_1 s h1 h2 hn
      · rw [show u1 2 s = _ from (if_pos h1).trans ((if_pos h2).trans (if_neg (by decide)))]; exact lyO1z_2 s h1 h2 hb hn
    · rcases hw with rfl | rfl
      · rw [show u1 1 s = _ from (if_pos h1).trans ((if_neg h2).trans (if_pos rfl))]; exact lyO1l_1 s h1 h2 hn
      · rw [show u1 2 s = _ from (if_pos h1).trans ((if_neg h2).trans (if_neg (by decide)))]; exact lyO1l_2 s h1 h2 hb hn
  · have h1a : ¬ s < (-32768) := fun q => h1 (Or.inl q)
    have h1b : ¬ 32767 < s := fun q => h1 (Or.inr q)
    rcases hw with rfl | rfl
    · rw [show u1 1 s = _ from (if_neg h1).trans (if_pos rfl)]; exact lyO1s_1 s h1a h1b hn
    · rw [show u1 2 s = _ from (if_neg h1).trans (if_neg (by decide))]; exact lyO1s_2 s h1a h1b hb hn
theorem pu_3 (hw : w = 1 ∨ w = 2) (hb : b ≤ n) (hn : n + 20 < 262144) {p : Nat} (hp : p < 8192) : pO3 (mkA w ws n b 0 fx lb o) (nI p) = mkB w (unW [u3 w p] ws) (unN [u3 w p] n) (unF [u3 w p] n fx) lb o := by
  rcases hw with rfl | rfl
  · exact lyO3_1 hp hn
  · exact lyO3_2 hp hb hn
theorem pu_18 (hw : w = 1 ∨ w = 2) (hn : n + 20 < 262144) (l : Int32) : pO18 (mkA w ws n b 0 fx lb o) l = mkB w (unW [u18 l] ws) (unN [u18 l] n) (unF [u18 l] n fx) lb o := by
  rcases hw with rfl | rfl
  · exact lyO18_1 hn
  · exact lyO18_2 hn
theorem pu_20 (hw : w = 1 ∨ w = 2) (hb : b ≤ n) (hn : n + 20 < 262144) (l : Int32) : pO20 (mkA w ws n b 0 fx lb o) l = mkB w (unW [u20 w] ws) (unN [u20 w] n) (unF [u20 w] n fx) lb o := by
  rcases hw with rfl | rfl
  · exact lyO20_1 hn
  · exact lyO20_2 hb hn
theorem pu_23 (hw : w = 1 ∨ w = 2) (hb : b ≤ n) (hn : n + 20 < 262144) (l : Int32) : pO23 (mkA w ws n b 0 fx lb o) l = mkB w (unW [u23 w] ws) (unN [u23 w] n) (unF [u23 w] n fx) lb o := by
  rcases hw with rfl | rfl
  · exact lyO23_1 hn
  · exact lyO23_2 hb hn
theorem pu_31 (hw : w = 1 ∨ w = 2) (hb : b ≤ n) (hn : n + 20 < 262144) (l : Int32) : pO31 (mkA w ws n b 0 fx lb o) 1 l = mkB w (unW [u31 w] ws) (unN [u31 w] n) (unF [u31 w] n fx) lb o := by
  rcases hw with rfl | rfl
  · exact lyO31_1 hn
  · exact lyO31_2 hb hn
theorem pu_8 (hw : w = 1 ∨ w = 2) (hn : n + 20 < 262144) {l : Int32} (hl : ¬ l < 0) (m : Int32) : pO8 (mkB w ws n fx lb o) l m = mkB w (unW [u8 l] ws) (unN [u8 l] n) (unF [u8 l] n fx) lb o := by
  rcases hw with rfl | rfl
  · exact lyO8_1 hl hn
  · exact lyO8_2b hl hn
theorem pu_19 (hw : w = 1 ∨ w = 2) (hn : n + 20 < 262144) (m : Int32) : pO19 (mkB w ws n fx lb o) m = mkB w (unW [u19] ws) (unN [u19] n) (unF [u19] n fx) lb o := by
  rcases hw with rfl | rfl
  · exact lyO19_1 hn
  · exact lyO19_2b hn
theorem pu_29 (hw : w = 1 ∨ w = 2) (hb : b ≤ n) (hn : n + 20 < 262144) {m : Int32} (hf : m &&& 255 = 0) (hl : ¬ m >>> ((8 : Int32) &&& 31) < 0) : pO29 (mkA w ws n b 0 fx lb o) 26 m = mkB w (unW [u29 w (m >>> ((8 : Int32) &&& 31))] ws) (unN [u29 w (m >>> ((8 : Int32) &&& 31))] n) (unF [u29 w (m >>> ((8 : Int32) &&& 31))] n fx) lb o := by
  rcases hw with rfl | rfl
  · exact lyO29_1 hf hl hn
  · exact lyO29_2 hf hl hn
theorem pu_dv (hw : w = 1 ∨ w = 2) (hb : b ≤ n) (hn : n + 20 < 262144) : pODiv (mkA w ws n b 0 fx lb o) = mkB w (unW [uDv w 0] ws) (unN [uDv w 0] n) (unF [uDv w 0] n fx) lb o ∧ pOMod (mkA w ws n b 0 fx lb o) = mkB w (unW [uDv w 1] ws) (unN [uDv w 1] n) (unF [uDv w 1] n fx) lb o := by
  rcases hw with rfl | rfl
  · exact ⟨lyODiv_1 hn, lyOMod_1 hn⟩
  · exact ⟨lyODiv_2 hb hn, lyOMod_2 hb hn⟩
/-- the last of a line: to the temps, kept, bound -/
theorem pu_end (hw : w = 1 ∨ w = 2) (hn : n + 60 < 262144) {p : Nat} (hp : p < 8192) (m : Int32) : pO31 (pO30 (pO25 (mkB w ws n fx lb o) (nI p) m) 0 0) 1 0 = mkB w (unW [u25 p, u30, u31 w] ws) (unN [u25 p, u30, u31 w] n) (unF [u25 p, u30, u31 w] n fx) lb o := by
  rcases hw with rfl | rfl
  · rw [lyO25_1 hp (by omega), lyO30_1 (by omega)]
    exact lyO31_1 (by omega)
  · rw [lyO25_2b hp (by omega), lyO30_2s (by decide) (by decide) (by decide) (by decide) (by omega) (by omega)]
    exact lyO31_2 (by omega) (by omega)
theorem pu_25_29 (hw : w = 1 ∨ w = 2) (hn : n + 60 < 262144) {p : Nat} (hp : p < 8192) {m : Int32} (hf : m &&& 255 = 0) (hl : ¬ m >>> ((8 : Int32) &&& 31) < 0) : pO29 (pO25 (mkB w ws n fx lb o) (nI p) 0) 26 m = mkB w (unW [u25 p, u29 w (m >>> ((8 : Int32) &&& 31))] ws) (unN [u25 p, u29 w (m >>> ((8 : Int32) &&& 31))] n) (unF [u25 p, u29 w (m >>> ((8 : Int32) &&& 31))] n fx) lb o := by
  rcases hw with rfl | rfl
  · rw [lyO25_1 hp (by omega)]
    exact lyO29_1 hf hl (by omega)
  · rw [lyO25_2b hp (by omega)]
    exact lyO29_2 hf hl (by omega)
theorem pu_sj (hw : w = 1 ∨ w = 2) (hn : n + 60 < 262144) {l : Int32} (hl : ¬ l < 0) (m m' : Int32) : pO8 (pO11 (mkB w ws n fx lb o) m) l m' = mkB w (unW (uSJ w l) ws) (unN (uSJ w l) n) (unF (uSJ w l) n fx) lb o := by
  rcases hw with rfl | rfl
  · rw [lyO11_1 (by omega)]
    exact lyO8_1 hl (by omega)
  · rw [lyO11_2 (Nat.le_refl _) (by omega)]
    exact lyO8_2s hl (by decide) (by decide) (by decide) (by decide) (by omega) (by omega)
set_option maxHeartbeats 4000000 in
set_option maxRecDepth 100000 in
theorem pu_op1 (hw : w = 1 ∨ w = 2) (hn : n + 80 < 262144) {k : Int32} (hk : k = 5 ∨ k = 16 ∨ k = 41 ∨ k = 42 ∨ k = 43) (s : Int32) : pO1 (pCal (mkB w ws n fx lb o) k) s = mkB w (unW [uOp w k, u1 w s] ws) (unN [uOp w k, u1 w s] n) (unF [uOp w k, u1 w s] n fx) lb o := by
  rcases hk with rfl | rfl | rfl | rfl | rfl
  · show pO1 (pODiv (mkB w ws n fx lb o)) s = mkB w (unW [uOp w 5, u1 w s] ws) (unN [uOp w 5, u1 w s] n) (unF [uOp w 5, u1 w s] n fx) lb o
    rcases hw with rfl | rfl
    · rw [lyODiv_1 (by omega)]
      exact pu_1 (Or.inl rfl) (by omega) (by omega) s
    · rw [lyODiv_2 (Nat.le_refl _) (by omega)]
      exact pu_1 (Or.inr rfl) (by omega) (by omega) s
  · show pO1 (pOMod (mkB w ws n fx lb o)) s = mkB w (unW [uOp w 16, u1 w s] ws) (unN [uOp w 16, u1 w s] n) (unF [uOp w 16, u1 w s] n fx) lb o
    rcases hw with rfl | rfl
    · rw [lyOMod_1 (by omega)]
      exact pu_1 (Or.inl rfl) (by omega) (by omega) s
    · rw [lyOMod_2 (Nat.le_refl _) (by omega)]
      exact pu_1 (Or.inr rfl) (by omega) (by omega) s
  · show pO1 (pOMul (mkB w ws n fx lb o)) s = mkB w (unW [uOp w 41, u1 w s] ws) (unN [uOp w 41, u1 w s] n) (unF [uOp w 41, u1 w s] n fx) lb o
    rcases hw with rfl | rfl
    · rw [lyOMul_1 (by omega)]
      exact pu_1 (Or.inl rfl) (by omega) (by omega) s
    · rw [lyOMul_2 (Nat.le_refl _) (by omega)]
      exact pu_1 (Or.inr rfl) (by omega) (by omega) s
  · show pO1 (pOAdd (mkB w ws n fx lb o)) s = mkB w (unW [uOp w 42, u1 w s] ws) (unN [uOp w 42, u1 w s] n) (unF [uOp w 42, u1 w s] n fx) lb o
    rcases hw with rfl | rfl
    · rw [lyOAdd_1 (by omega)]
      exact pu_1 (Or.inl rfl) (by omega) (by omega) s
    · rw [lyOAdd_2 (Nat.le_refl _) (by omega)]
      exact pu_1 (Or.inr rfl) (by omega) (by omega) s
  · show pO1 (pOSub (mkB w ws n fx lb o)) s = mkB w (unW [uOp w 43, u1 w s] ws) (unN [uOp w 43, u1 w s] n) (unF [uOp w 43, u1 w s] n fx) lb o
    rcases hw with rfl | rfl
    · rw [lyOSub_1 (by omega)]
      exact pu_1 (Or.inl rfl) (by omega) (by omega) s
    · rw [lyOSub_2 (Nat.le_refl _) (by omega)]
      exact pu_1 (Or.inr rfl) (by omega) (by omega) s
set_option maxHeartbeats 4000000 in
set_option maxRecDepth 100000 in
theorem pu_op3 (hw : w = 1 ∨ w = 2) (hn : n + 80 < 262144) {k : Int32} (hk : k = 5 ∨ k = 16 ∨ k = 41 ∨ k = 42 ∨ k = 43) {p : Nat} (hp : p < 8192) : pO3 (pCal (mkB w ws n fx lb o) k) (nI p) = mkB w (unW [uOp w k, u3 w p] ws) (unN [uOp w k, u3 w p] n) (unF [uOp w k, u3 w p] n fx) lb o := by
  rcases hk with rfl | rfl | rfl | rfl | rfl
  · show pO3 (pODiv (mkB w ws n fx lb o)) (nI p) = mkB w (unW [uOp w 5, u3 w p] ws) (unN [uOp w 5, u3 w p] n) (unF [uOp w 5, u3 w p] n fx) lb o
    rcases hw with rfl | rfl
    · rw [lyODiv_1 (by omega)]
      exact pu_3 (Or.inl rfl) (by omega) (by omega) hp
    · rw [lyODiv_2 (Nat.le_refl _) (by omega)]
      exact pu_3 (Or.inr rfl) (by omega) (by omega) hp
  · show pO3 (pOMod (mkB w ws n fx lb o)) (nI p) = mkB w (unW [uOp w 16, u3 w p] ws) (unN [uOp w 16, u3 w p] n) (unF [uOp w 16, u3 w p] n fx) lb o
    rcases hw with rfl | rfl
    · rw [lyOMod_1 (by omega)]
      exact pu_3 (Or.inl rfl) (by omega) (by omega) hp
    · rw [lyOMod_2 (Nat.le_refl _) (by omega)]
      exact pu_3 (Or.inr rfl) (by omega) (by omega) hp
  · show pO3 (pOMul (mkB w ws n fx lb o)) (nI p) = mkB w (unW [uOp w 41, u3 w p] ws) (unN [uOp w 41, u3 w p] n) (unF [uOp w 41, u3 w p] n fx) lb o
    rcases hw with rfl | rfl
    · rw [lyOMul_1 (by omega)]
      exact pu_3 (Or.inl rfl) (by omega) (by omega) hp
    · rw [lyOMul_2 (Nat.le_refl _) (by omega)]
      exact pu_3 (Or.inr rfl) (by omega) (by omega) hp
  · show pO3 (pOAdd (mkB w ws n fx lb o)) (nI p) = mkB w (unW [uOp w 42, u3 w p] ws) (unN [uOp w 42, u3 w p] n) (unF [uOp w 42, u3 w p] n fx) lb o
    rcases hw with rfl | rfl
    · rw [lyOAdd_1 (by omega)]
      exact pu_3 (Or.inl rfl) (by omega) (by omega) hp
    · rw [lyOAdd_2 (Nat.le_refl _) (by omega)]
      exact pu_3 (Or.inr rfl) (by omega) (by omega) hp
  · show pO3 (pOSub (mkB w ws n fx lb o)) (nI p) = mkB w (unW [uOp w 43, u3 w p] ws) (unN [uOp w 43, u3 w p] n) (unF [uOp w 43, u3 w p] n fx) lb o
    rcases hw with rfl | rfl
    · rw [lyOSub_1 (by omega)]
      exact pu_3 (Or.inl rfl) (by omega) (by omega) hp
    · rw [lyOSub_2 (Nat.le_refl _) (by omega)]
      exact pu_3 (Or.inr rfl) (by omega) (by omega) hp
set_option maxHeartbeats 4000000 in
set_option maxRecDepth 100000 in
theorem pu_ope (hw : w = 1 ∨ w = 2) (hn : n + 80 < 262144) {k : Int32} (hk : k = 5 ∨ k = 16 ∨ k = 41 ∨ k = 42 ∨ k = 43) {p : Nat} (hp : p < 8192) : pO31 (pO30 (pO25 (pCal (mkB w ws n fx lb o) k) (nI p) 0) 0 0) 1 0 = mkB w (unW [uOp w k, u25 p, u30, u31 w] ws) (unN [uOp w k, u25 p, u30, u31 w] n) (unF [uOp w k, u25 p, u30, u31 w] n fx) lb o := by
  rcases hk with rfl | rfl | rfl | rfl | rfl
  · show pO31 (pO30 (pO25 (pODiv (mkB w ws n fx lb o)) (nI p) 0) 0 0) 1 0 = mkB w (unW [uOp w 5, u25 p, u30, u31 w] ws) (unN [uOp w 5, u25 p, u30, u31 w] n) (unF [uOp w 5, u25 p, u30, u31 w] n fx) lb o
    rcases hw with rfl | rfl
    · rw [lyODiv_1 (by omega)]
      rw [lyO25_1 hp (by omega), lyO30_1 (by omega)]
      exact lyO31_1 (by omega)
    · rw [lyODiv_2 (Nat.le_refl _) (by omega)]
      exact pu_end (Or.inr rfl) (by omega) hp 0
  · show pO31 (pO30 (pO25 (pOMod (mkB w ws n fx lb o)) (nI p) 0) 0 0) 1 0 = mkB w (unW [uOp w 16, u25 p, u30, u31 w] ws) (unN [uOp w 16, u25 p, u30, u31 w] n) (unF [uOp w 16, u25 p, u30, u31 w] n fx) lb o
    rcases hw with rfl | rfl
    · rw [lyOMod_1 (by omega)]
      rw [lyO25_1 hp (by omega), lyO30_1 (by omega)]
      exact lyO31_1 (by omega)
    · rw [lyOMod_2 (Nat.le_refl _) (by omega)]
      exact pu_end (Or.inr rfl) (by omega) hp 0
  · show pO31 (pO30 (pO25 (pOMul (mkB w ws n fx lb o)) (nI p) 0) 0 0) 1 0 = mkB w (unW [uOp w 41, u25 p, u30, u31 w] ws) (unN [uOp w 41, u25 p, u30, u31 w] n) (unF [uOp w 41, u25 p, u30, u31 w] n fx) lb o
    rcases hw with rfl | rfl
    · rw [lyOMul_1 (by omega)]
      rw [lyO25_1 hp (by omega), lyO30_1 (by omega)]
      exact lyO31_1 (by omega)
    · rw [lyOMul_2 (Nat.le_refl _) (by omega)]
      rw [lyO25_2s hp (by decide) (by decide) (by decide) (by decide) (by omega) (by omega), lyO30_2s (by decide) (by decide) (by decide) (by decide) (by omega) (by omega)]
      exact lyO31_2 (by omega) (by omega)
  · show pO31 (pO30 (pO25 (pOAdd (mkB w ws n fx lb o)) (nI p) 0) 0 0) 1 0 = mkB w (unW [uOp w 42, u25 p, u30, u31 w] ws) (unN [uOp w 42, u25 p, u30, u31 w] n) (unF [uOp w 42, u25 p, u30, u31 w] n fx) lb o
    rcases hw with rfl | rfl
    · rw [lyOAdd_1 (by omega)]
      rw [lyO25_1 hp (by omega), lyO30_1 (by omega)]
      exact lyO31_1 (by omega)
    · rw [lyOAdd_2 (Nat.le_refl _) (by omega)]
      rw [lyO25_2s hp (by decide) (by decide) (by decide) (by decide) (by omega) (by omega), lyO30_2s (by decide) (by decide) (by decide) (by decide) (by omega) (by omega)]
      exact lyO31_2 (by omega) (by omega)
  · show pO31 (pO30 (pO25 (pOSub (mkB w ws n fx lb o)) (nI p) 0) 0 0) 1 0 = mkB w (unW [uOp w 43, u25 p, u30, u31 w] ws) (unN [uOp w 43, u25 p, u30, u31 w] n) (unF [uOp w 43, u25 p, u30, u31 w] n fx) lb o
    rcases hw with rfl | rfl
    · rw [lyOSub_1 (by omega)]
      rw [lyO25_1 hp (by omega), lyO30_1 (by omega)]
      exact lyO31_1 (by omega)
    · rw [lyOSub_2 (Nat.le_refl _) (by omega)]
      rw [lyO25_2s hp (by decide) (by decide) (by decide) (by decide) (by omega) (by omega), lyO30_2s (by decide) (by decide) (by decide) (by decide) (by omega) (by omega)]
      exact lyO31_2 (by omega) (by omega)
set_option maxHeartbeats 4000000 in
set_option maxRecDepth 100000 in
theorem pu_opt (hw : w = 1 ∨ w = 2) (hn : n + 80 < 262144) {k : Int32} (hk : k = 5 ∨ k = 16 ∨ k = 41 ∨ k = 42 ∨ k = 43)  : pO19 (pCal (mkB w ws n fx lb o) k) 0 = mkB w (unW (uOT w k) ws) (unN (uOT w k) n) (unF (uOT w k) n fx) lb o := by
  rcases hk with rfl | rfl | rfl | rfl | rfl
  · show pO19 (pODiv (mkB w ws n fx lb o)) 0 = mkB w (unW (uOT w 5) ws) (unN (uOT w 5) n) (unF (uOT w 5) n fx) lb o
    rcases hw with rfl | rfl
    · rw [lyODiv_1 (by omega)]
      exact lyO19_1 (by omega)
    · rw [lyODiv_2 (Nat.le_refl _) (by omega)]
      exact pu_19 (Or.inr rfl) (by omega) 0
  · show pO19 (pOMod (mkB w ws n fx lb o)) 0 = mkB w (unW (uOT w 16) ws) (unN (uOT w 16) n) (unF (uOT w 16) n fx) lb o
    rcases hw with rfl | rfl
    · rw [lyOMod_1 (by omega)]
      exact lyO19_1 (by omega)
    · rw [lyOMod_2 (Nat.le_refl _) (by omega)]
      exact pu_19 (Or.inr rfl) (by omega) 0
  · show pO19 (pOMul (mkB w ws n fx lb o)) 0 = mkB w (unW (uOT w 41) ws) (unN (uOT w 41) n) (unF (uOT w 41) n fx) lb o
    rcases hw with rfl | rfl
    · rw [lyOMul_1 (by omega)]
      exact lyO19_1 (by omega)
    · rw [lyOMul_2 (Nat.le_refl _) (by omega)]
      exact lyO19_2s (by decide) (by decide) (by decide) (by decide) (by omega) (by omega)
  · show pO19 (pOAdd (mkB w ws n fx lb o)) 0 = mkB w (unW (uOT w 42) ws) (unN (uOT w 42) n) (unF (uOT w 42) n fx) lb o
    rcases hw with rfl | rfl
    · rw [lyOAdd_1 (by omega)]
      exact lyO19_1 (by omega)
    · rw [lyOAdd_2 (Nat.le_refl _) (by omega)]
      exact lyO19_2s (by decide) (by decide) (by decide) (by decide) (by omega) (by omega)
  · show pO19 (pOSub (mkB w ws n fx lb o)) 0 = mkB w (unW (uOT w 43) ws) (unN (uOT w 43) n) (unF (uOT w 43) n fx) lb o
    rcases hw with rfl | rfl
    · rw [lyOSub_1 (by omega)]
      exact lyO19_1 (by omega)
    · rw [lyOSub_2 (Nat.le_refl _) (by omega)]
      exact lyO19_2s (by decide) (by decide) (by decide) (by decide) (by omega) (by omega)
end
