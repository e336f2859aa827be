/-! Where words are laid: pieces of a line, one behind another. -/
def SG (S0 : xS) (w o : Int32) (j : Nat) (os : List Or3) (us : List Un) (n : Nat) (lb lb' : List (Int32 × Nat)) : Prop := ∀ ws fx, pOrs S0 j os (mkB w ws n fx lb o) = mkB w (unW us ws) (unN us n) (unF us n fx) lb' o
def LD (S0 : xS) (j : Nat) : Prop := ¬ S0.1 62 j = 0
def gU (us : List Un) : Prop := ∀ u ∈ us, unG u = true
theorem gU.nil : gU [] := fun u hu => by cases hu
theorem gU.cons {u : Un} {us : List Un} (h : unG u = true) (h2 : gU us) : gU (u :: us) := fun v hv => by
  rcases List.mem_cons.mp hv with rfl | hv
  · exact h
  · exact h2 v hv
theorem gU.app {us vs : List Un} (h : gU us) (h2 : gU vs) : gU (us ++ vs) := fun v hv => by
  rcases List.mem_append.mp hv with hv | hv
  · exact h v hv
  · exact h2 v hv
section
variable {S0 : xS} {w o : Int32} {j n : Nat} {lb lb' lb'' : List (Int32 × Nat)} {px py : Nat}
theorem SG.app {os os' : List Or3} {us us' : List Un} (h : SG S0 w o j os us n lb lb') (h2 : SG S0 w o (j + os.length) os' us' (unN us n) lb' lb'') : SG S0 w o j (os ++ os') (us ++ us') n lb lb'' := fun ws fx => by
  rw [pOrs_app, h ws fx, h2, unW_app, unN_app, unF_app]
theorem SG.nil : SG S0 w o j [] [] n lb lb := fun _ _ => rfl
theorem sg_at (hw : w = 1 ∨ w = 2) (hl : NL S0 j 1) (hn : n + 100 < 262144) (hpx : px < 8192) (hpy : py < 8192) (q : Int32 × Int32) : SG S0 w o j [atO px py q] [uAt w px py q] n lb lb := fun ws fx => by
  show pOrd (pLo S0 (mkB w ws n fx lb o) j) (atO px py q) = _
  rw [pLo_0 (hl j (Nat.le_refl _) (by omega))]
  exact ln_at hw (Nat.le_refl _) (by omega) hpx hpy q
theorem sg_3 (hw : w = 1 ∨ w = 2) (hl : NL S0 j 1) (hn : n + 100 < 262144) {p : Nat} (hp : p < 8192) : SG S0 w o j [(3, nI p, 0)] [u3 w p] n lb lb := fun ws fx => by
  show pOrd (pLo S0 (mkB w ws n fx lb o) j) (3, nI p, 0) = _
  rw [pLo_0 (hl j (Nat.le_refl _) (by omega)), pOrd_3]
  exact pu_3 hw (Nat.le_refl _) (by omega) hp
theorem sg_oa (hw : w = 1 ∨ w = 2) {cs : List Oa} {k : Int32} (hl : NL S0 j (2 * cs.length)) (hn : n + 22 * cs.length + 100 < 262144) (hpx : px < 8192) (hpy : py < 8192) (hk : kCal k) (hv : OaV cs) : SG S0 w o j (oaI px py k cs) (uOa w px py k cs) n lb lb := fun ws fx => ln_oa hw hpx hpy cs k j n ws fx hl hk hv hn
theorem kC {k : Int32} (hk : kCal k) : k = 5 ∨ k = 16 ∨ k = 41 ∨ k = 42 ∨ k = 43 := by rcases hk with rfl | rfl | rfl | rfl | rfl <;> decide
theorem sg_ope (hw : w = 1 ∨ w = 2) (hl : NL S0 j 4) (hn : n + 100 < 262144) {k : Int32} (hk : kCal k) {dep : Nat} (hd : dep < 8192) : SG S0 w o j [(7, k, 0), (25, nI dep, 0), (30, 0, 0), (31, 1, 0)] [uOp w k, u25 dep, u30, u31 w] n lb lb := fun ws fx => by
  show pOrd (pLo S0 (pOrd (pLo S0 (pOrd (pLo S0 (pOrd (pLo S0 (mkB w ws n fx lb o) j) (7, k, 0)) (j + 1)) (25, nI dep, 0)) (j + 1 + 1)) (30, 0, 0)) (j + 1 + 1 + 1)) (31, 1, 0) = _
  rw [pLo_0 (hl j (by omega) (by omega)), pLo_0 (hl (j + 1) (by omega) (by omega)), pLo_0 (hl (j + 1 + 1) (by omega) (by omega)), pLo_0 (hl (j + 1 + 1 + 1) (by omega) (by omega)), pOrd_7, pOrd_25, pOrd_30, pOrd_31]
  exact pu_ope hw (by omega) (kC hk) hd
theorem sg_end (hw : w = 1 ∨ w = 2) (hl : NL S0 j 3) (hn : n + 100 < 262144) {dep : Nat} (hd : dep < 8192) : SG S0 w o j [(25, nI dep, 0), (30, 0, 0), (31, 1, 0)] [u25 dep, u30, u31 w] n lb lb := fun ws fx => by
  show pOrd (pLo S0 (pOrd (pLo S0 (pOrd (pLo S0 (mkB w ws n fx lb o) j) (25, nI dep, 0)) (j + 1)) (30, 0, 0)) (j + 1 + 1)) (31, 1, 0) = _
  rw [pLo_0 (hl j (by omega) (by omega)), pLo_0 (hl (j + 1) (by omega) (by omega)), pLo_0 (hl (j + 1 + 1) (by omega) (by omega)), pOrd_25, pOrd_30, pOrd_31]
  exact pu_end hw (by omega) hd 0
theorem sg_endL (hw : w = 1 ∨ w = 2) (hj : LD S0 j) (hl : NL S0 (j + 1) 2) (hn : n + 100 < 262144) {dep : Nat} (hd : dep < 8192) : SG S0 w o j [(25, nI dep, 0), (30, 0, 0), (31, 1, 0)] [u25 dep, u30, u31 w] n lb ((nI j, n) :: lb) := fun ws fx => by
  show pOrd (pLo S0 (pOrd (pLo S0 (pOrd (pLo S0 (mkB w ws n fx lb o) j) (25, nI dep, 0)) (j + 1)) (30, 0, 0)) (j + 1 + 1)) (31, 1, 0) = _
  rw [pLo_1 hj, pLo_0 (hl (j + 1) (by omega) (by omega)), pLo_0 (hl (j + 1 + 1) (by omega) (by omega)), pOrd_25, pOrd_30, pOrd_31]
  exact pu_end hw (by omega) hd 0
theorem sg_18 (hw : w = 1 ∨ w = 2) (hl : NL S0 j 1) (hn : n + 100 < 262144) (l : Int32) : SG S0 w o j [(18, l, 0)] [u18 l] n lb lb := fun ws fx => by
  show pOrd (pLo S0 (mkB w ws n fx lb o) j) (18, l, 0) = _
  rw [pLo_0 (hl j (Nat.le_refl _) (by omega)), pOrd_18]
  exact pu_18 hw (by omega) l
theorem sg_opt (hw : w = 1 ∨ w = 2) (hl : NL S0 j 2) (hn : n + 100 < 262144) {k : Int32} (hk : kCal k) : SG S0 w o j [(7, k, 0), (19, 0, 0)] (uOT w k) n lb lb := fun ws fx => by
  show pOrd (pLo S0 (pOrd (pLo S0 (mkB w ws n fx lb o) j) (7, k, 0)) (j + 1)) (19, 0, 0) = _
  rw [pLo_0 (hl j (by omega) (by omega)), pLo_0 (hl (j + 1) (by omega) (by omega)), pOrd_7, pOrd_19]
  exact pu_opt hw (by omega) (kC hk)
theorem sg_8 (hw : w = 1 ∨ w = 2) (hl : NL S0 j 1) (hn : n + 100 < 262144) {l : Nat} (h31 : l < 2 ^ 31) : SG S0 w o j [(8, nI l, 0)] [u8 (nI l)] n lb lb := fun ws fx => by
  show pOrd (pLo S0 (mkB w ws n fx lb o) j) (8, nI l, 0) = _
  rw [pLo_0 (hl j (Nat.le_refl _) (by omega)), pOrd_8]
  exact pu_8 hw (by omega) (nI_pos h31) 0
theorem sg_sj (hw : w = 1 ∨ w = 2) (hl : NL S0 j 2) (hn : n + 100 < 262144) {l : Nat} (h31 : l < 2 ^ 31) : SG S0 w o j [(11, 1, 0), (8, nI l, 0)] (uSJ w (nI l)) n lb lb := fun ws fx => by
  show pOrd (pLo S0 (pOrd (pLo S0 (mkB w ws n fx lb o) j) (11, 1, 0)) (j + 1)) (8, nI l, 0) = _
  rw [pLo_0 (hl j (by omega) (by omega)), pLo_0 (hl (j + 1) (by omega) (by omega)), pOrd_11, pOrd_8]
  exact pu_sj hw (by omega) (nI_pos h31) 0 0
theorem sg_20 (hw : w = 1 ∨ w = 2) (hj : LD S0 j) (hn : n + 100 < 262144) : SG S0 w o j [(20, 0, 0)] [u20 w] n lb ((nI j, n) :: lb) := fun ws fx => by
  show pOrd (pLo S0 (mkB w ws n fx lb o) j) (20, 0, 0) = _
  rw [pLo_1 hj, pOrd_20]
  exact pu_20 hw (Nat.le_refl _) (by omega) 0
theorem sg_23 (hw : w = 1 ∨ w = 2) (hl : NL S0 j 1) (hn : n + 100 < 262144) : SG S0 w o j [(23, 0, 0)] [u23 w] n lb lb := fun ws fx => by
  show pOrd (pLo S0 (mkB w ws n fx lb o) j) (23, 0, 0) = _
  rw [pLo_0 (hl j (Nat.le_refl _) (by omega)), pOrd_23]
  exact pu_23 hw (Nat.le_refl _) (by omega) 0
theorem fxX_n {m : Nat} (hm : m < 2 ^ 20) : fxX m &&& 255 = 0 ∧ fxX m >>> ((8 : Int32) &&& 31) = nI m := by
  have e : fxX m = nI (m * 256) := by
    unfold fxX
    rw [pk_shlN _ 8 (by decide) (by omega), Int32.or_zero]
  rw [e]
  refine ⟨?_, ?_⟩
  · rw [pk_andN (by omega) 8 (by decide), show m * 256 % 2 ^ 8 = 0 from by omega]; rfl
  · rw [pk_shrN (by omega) _ 8 (by decide), show m * 256 / 2 ^ 8 = m from by omega]
theorem sg_25_29 (hw : w = 1 ∨ w = 2) (hj : LD S0 j) (hl : NL S0 (j + 1) 1) (hn : n + 100 < 262144) {dep m : Nat} (hd : dep < 8192) (hm : m < 2 ^ 20) : SG S0 w o j [(25, nI dep, 0), (29, 26, fxX m)] [u25 dep, u29 w (nI m)] n lb ((nI j, n) :: lb) := fun ws fx => by
  obtain ⟨f1, f2⟩ := fxX_n hm
  show pOrd (pLo S0 (pOrd (pLo S0 (mkB w ws n fx lb o) j) (25, nI dep, 0)) (j + 1)) (29, 26, fxX m) = _
  rw [pLo_1 hj, pLo_0 (hl (j + 1) (by omega) (by omega)), pOrd_25, pOrd_29]
  have := pu_25_29 (ws := ws) (fx := fx) (lb := (nI j, n) :: lb) (o := o) hw (n := n) (by omega) hd f1 (by rw [f2]; exact nI_pos (by omega))
  rw [f2] at this
  exact this
end
