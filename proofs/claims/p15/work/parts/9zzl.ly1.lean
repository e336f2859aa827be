/-! Where words are laid: what the Assembler does at a known state. -/
section
variable {h w l x y : Int32} {ws : List Int32} {n b : Nat} {ld : Int32} {fx : List (Nat × Int32)} {lb : List (Int32 × Nat)} {o : Int32}
theorem ly_lay (hn : n < 262144) : pLay (mkA h ws n b ld fx lb o) w = mkA h (w :: ws) (n + 1) b ld fx lb o := if_pos hn
theorem ly_slot (hn : n < 262144) : pSlot (mkA h ws n b ld fx lb o) = mkA h (0 :: ws) (n + 1) b 0 fx lb o := by
  unfold pSlot
  rw [ly_lay hn]
theorem ly_ema0 : pEmA (mkA h ws n b 0 fx lb o) w = mkA h ws n b 0 fx lb o := if_pos rfl
theorem ly_emaN (ht : tchI w ld = 0) : pEmA (mkA h ws n b ld fx lb o) w = mkA h ws n b ld fx lb o := by
  unfold pEmA
  by_cases q : ld = 0
  · exact if_pos q
  · rw [if_neg (show ¬ (mkA h ws n b ld fx lb o).ld = 0 from q)]
    exact if_pos ht
theorem ly_ema1 (hn : n < 262144) (hl : ¬ ld = 0) (ht : ¬ tchI w ld = 0) : pEmA (mkA 1 ws n b ld fx lb o) w = mkA 1 (0 :: ws) (n + 1) b 0 fx lb o := by
  unfold pEmA
  rw [if_neg (show ¬ (mkA 1 ws n b ld fx lb o).ld = 0 from hl), if_neg (show ¬ tchI w (mkA 1 ws n b ld fx lb o).ld = 0 from ht), if_neg (show ¬ (1 : Int32) = 2 by decide), ly_slot hn]
theorem ly_ema2 (hn : n < 262144) (hl : ¬ ld = 0) (ht : ¬ tchI w ld = 0) (hc : pCfl (mkA 2 ws n b ld fx lb o) = 0) : pEmA (mkA 2 ws n b ld fx lb o) w = mkA 2 (0 :: ws) (n + 1) b 0 fx lb o := by
  unfold pEmA
  rw [if_neg (show ¬ (mkA 2 ws n b ld fx lb o).ld = 0 from hl), if_neg (show ¬ tchI w (mkA 2 ws n b ld fx lb o).ld = 0 from ht), if_pos (show (mkA 2 ws n b ld fx lb o).how = 2 from rfl), if_pos hc, ly_slot hn]
/-- no load -/
theorem ly_emb (hn : n < 262144) (hl : ldI w = 0) : pEmB (mkA h ws n b ld fx lb o) w = mkA h (w :: ws) (n + 1) b 0 fx lb o := by
  unfold pEmB
  rw [if_pos hl, ly_lay hn]
theorem ly_emb1 (hn : n + 1 < 262144) (hl : ¬ ldI w = 0) (hb : ¬ asB w = 0) : pEmB (mkA 1 ws n b ld fx lb o) w = mkA 1 (0 :: w :: ws) (n + 2) b 0 fx lb o := by
  unfold pEmB
  rw [if_neg hl, ly_lay (by omega), if_neg (show ¬ (1 : Int32) = 2 by decide), if_neg hb]
  exact ly_slot hn
theorem ly_emb2 (hn : n < 262144) (hl : ¬ ldI w = 0) : pEmB (mkA 2 ws n b ld fx lb o) w = mkA 2 (w :: ws) (n + 1) b (asB w) fx lb o := by
  unfold pEmB
  rw [if_neg hl, ly_lay hn, if_pos (show (mkA 2 (w :: ws) (n + 1) b ld fx lb o).how = 2 from rfl)]
theorem ly_em (hn : n < 262144) (hl : ldI w = 0) : pEm (mkA h ws n b 0 fx lb o) w = mkA h (w :: ws) (n + 1) b 0 fx lb o := by
  unfold pEm
  rw [ly_ema0, ly_emb hn hl]
theorem ly_emN (hn : n < 262144) (hl : ldI w = 0) (ht : tchI w ld = 0) : pEm (mkA h ws n b ld fx lb o) w = mkA h (w :: ws) (n + 1) b 0 fx lb o := by
  unfold pEm
  rw [ly_emaN ht, ly_emb hn hl]
theorem ly_em1 (hn : n + 1 < 262144) (hl : ¬ ldI w = 0) (hb : ¬ asB w = 0) : pEm (mkA 1 ws n b 0 fx lb o) w = mkA 1 (0 :: w :: ws) (n + 2) b 0 fx lb o := by
  unfold pEm
  rw [ly_ema0, ly_emb1 hn hl hb]
theorem ly_em2 (hn : n < 262144) (hl : ¬ ldI w = 0) (ht : tchI w ld = 0) : pEm (mkA 2 ws n b ld fx lb o) w = mkA 2 (w :: ws) (n + 1) b (asB w) fx lb o := by
  unfold pEm
  rw [ly_emaN ht, ly_emb2 hn hl]
theorem ly_em20 (hn : n < 262144) (hl : ¬ ldI w = 0) : pEm (mkA 2 ws n b 0 fx lb o) w = mkA 2 (w :: ws) (n + 1) b (asB w) fx lb o := by
  unfold pEm
  rw [ly_ema0, ly_emb2 hn hl]
theorem ly_em2s (hn : n + 1 < 262144) (hd : ¬ ld = 0) (ht : ¬ tchI w ld = 0) (hc : pCfl (mkA 2 ws n b ld fx lb o) = 0) (hl : ldI w = 0) : pEm (mkA 2 ws n b ld fx lb o) w = mkA 2 (w :: 0 :: ws) (n + 2) b 0 fx lb o := by
  unfold pEm
  rw [ly_ema2 (by omega) hd ht hc, ly_emb hn hl]
/-- a jump -/
theorem ly_lpE (hn : n + 1 < 262144) (hl : ¬ l < 0) : pLpE (mkA h ws n b ld fx lb o) l w x = mkA h (x :: w :: ws) (n + 2) (n + 2) 0 ((n, l) :: fx) lb o := by
  unfold pLpE pFxF
  rw [if_neg hl]
  show ((pLay (pLay (mkA h ws n b ld ((n, l) :: fx) lb o) w) x).sld 0).sbs = _
  rw [ly_lay (show n < 262144 by omega), ly_lay (show n + 1 < 262144 from hn)]
theorem ly_lpEn (hn : n + 1 < 262144) (hl : l < 0) : pLpE (mkA h ws n b ld fx lb o) l w x = mkA h (x :: w :: ws) (n + 2) (n + 2) 0 fx lb o := by
  unfold pLpE pFxF
  rw [if_pos hl, ly_lay (show n < 262144 by omega), ly_lay (show n + 1 < 262144 from hn)]
theorem ly_lpA0 : pLpA (mkA h ws n b 0 fx lb o) w = mkA h ws n b 0 fx lb o := if_pos rfl
theorem ly_lpAN (ht : tchI w ld = 0) : pLpA (mkA h ws n b ld fx lb o) w = mkA h ws n b ld fx lb o := by
  unfold pLpA
  by_cases q : ld = 0
  · exact if_pos q
  · rw [if_neg (show ¬ (mkA h ws n b ld fx lb o).ld = 0 from q)]
    exact if_pos ht
theorem ly_lp1 (hn : n + 1 < 262144) (ht : tchI w ld = 0) (hl : ¬ l < 0) : pLp (mkA 1 ws n b ld fx lb o) w l = mkA 1 (0 :: w :: ws) (n + 2) (n + 2) 0 ((n, l) :: fx) lb o := by
  unfold pLp pLpB
  rw [ly_lpAN ht, if_neg (show ¬ (1 : Int32) = 2 by decide), ly_lpE hn hl]
theorem ly_lp1n (hn : n + 1 < 262144) (ht : tchI w ld = 0) (hl : l < 0) : pLp (mkA 1 ws n b ld fx lb o) w l = mkA 1 (0 :: w :: ws) (n + 2) (n + 2) 0 fx lb o := by
  unfold pLp pLpB
  rw [ly_lpAN ht, if_neg (show ¬ (1 : Int32) = 2 by decide), ly_lpEn hn hl]
theorem ly_lp1z (hn : n + 1 < 262144) (hl : ¬ l < 0) : pLp (mkA 1 ws n b 0 fx lb o) w l = mkA 1 (0 :: w :: ws) (n + 2) (n + 2) 0 ((n, l) :: fx) lb o := by
  unfold pLp pLpB
  rw [ly_lpA0, if_neg (show ¬ (1 : Int32) = 2 by decide), ly_lpE hn hl]
theorem ly_lp1zn (hn : n + 1 < 262144) (hl : l < 0) : pLp (mkA 1 ws n b 0 fx lb o) w l = mkA 1 (0 :: w :: ws) (n + 2) (n + 2) 0 fx lb o := by
  unfold pLp pLpB
  rw [ly_lpA0, if_neg (show ¬ (1 : Int32) = 2 by decide), ly_lpEn hn hl]
theorem ly_lp2 (hn : n + 1 < 262144) (ht : tchI w ld = 0) (hc : pCfp (mkA 2 ws n b ld fx lb o) w = 0) (hl : ¬ l < 0) : pLp (mkA 2 ws n b ld fx lb o) w l = mkA 2 (0 :: w :: ws) (n + 2) (n + 2) 0 ((n, l) :: fx) lb o := by
  unfold pLp pLpB
  rw [ly_lpAN ht, if_pos (show (mkA 2 ws n b ld fx lb o).how = 2 from rfl), if_pos hc, ly_lpE hn hl]
theorem ly_lp2n (hn : n + 1 < 262144) (ht : tchI w ld = 0) (hc : pCfp (mkA 2 ws n b ld fx lb o) w = 0) (hl : l < 0) : pLp (mkA 2 ws n b ld fx lb o) w l = mkA 2 (0 :: w :: ws) (n + 2) (n + 2) 0 fx lb o := by
  unfold pLp pLpB
  rw [ly_lpAN ht, if_pos (show (mkA 2 ws n b ld fx lb o).how = 2 from rfl), if_pos hc, ly_lpEn hn hl]
theorem ly_lp2f (hn : n + 1 < 262144) (hc : ¬ pCfp (mkA 2 (x :: ws) (n + 1) b 0 fx lb o) w = 0) (hl : ¬ l < 0) : pLp (mkA 2 (x :: ws) (n + 1) b 0 fx lb o) w l = mkA 2 (x :: w :: ws) (n + 2) (n + 2) 0 ((n, l) :: fx) lb o := by
  unfold pLp pLpB
  rw [ly_lpA0, if_pos (show (mkA 2 (x :: ws) (n + 1) b 0 fx lb o).how = 2 from rfl), if_neg hc]
  exact ly_lpE (ws := ws) (n := n) hn hl
/-- what may stand behind a jump -/
theorem ly_cfp0 (hb : n = b) : pCfp (mkA 2 ws n b ld fx lb o) w = 0 := by
  unfold pCfp
  exact if_neg (show ¬ b + 1 ≤ n by omega)
theorem ly_cfpL (hx : ¬ ldI x = 0) : pCfp (mkA 2 (x :: ws) n b ld fx lb o) w = 0 := by
  unfold pCfp
  have e : wat (mkA 2 (x :: ws) n b ld fx lb o) 0 = x := rfl
  rw [e]
  split
  · split
    · rfl
    · first | rfl | exact if_neg hx
  · rfl
theorem ly_cfpT (h1 : ¬ wrI x = 0) (h2 : ¬ tchI w (wrI x) = 0) : pCfp (mkA 2 (x :: ws) n b ld fx lb o) w = 0 := by
  unfold pCfp
  have e : wat (mkA 2 (x :: ws) n b ld fx lb o) 0 = x := rfl
  rw [e, if_neg h1, if_neg h2]
  split
  · split
    · rfl
    · split <;> rfl
  · rfl
/-- it may: neither a load nor of the jump's own register -/
theorem ly_cfp1 (hb : b ≤ n) (h0 : ¬ x = 0) (hx : ldI x = 0) (hw : ∀ r, tchI w r = 0) (h3 : tchI x 31 = 0) : ¬ pCfp (mkA 2 (x :: ws) (n + 1) b ld fx lb o) w = 0 := by
  have e : wat (mkA 2 (x :: ws) (n + 1) b ld fx lb o) 0 = x := rfl
  have e3 : pCfB (mkA 2 (x :: ws) (n + 1) b ld fx lb o) w = 1 := by
    unfold pCfB
    split
    · rfl
    · exact if_pos (hw _)
  have e4 : pCfA (mkA 2 (x :: ws) (n + 1) b ld fx lb o) w = 1 := by
    unfold pCfA
    rw [e, e3, if_pos h3]
    split <;> rfl
  unfold pCfp
  rw [e, if_pos (show b + 1 ≤ n + 1 by omega), if_neg h0, if_pos hx, e4, if_pos (hw _)]
  split <;> decide
theorem tchJ (r : Int32) : tchI wJ r = 0 := if_pos (by decide)
theorem tchJal (r : Int32) : tchI wJal r = 0 := by
  unfold tchI
  rw [if_neg (by decide), if_pos (by decide)]
/-- what may not stand behind a load -/
theorem ly_cfl0 (hb : n < b + 2) : pCfl (mkA 2 ws n b ld fx lb o) = 0 := if_neg (show ¬ b + 2 ≤ n by omega)
theorem ly_cflS (hy : ¬ stI y = 0) : pCfl (mkA 2 (x :: y :: ws) n b ld fx lb o) = 0 := by
  unfold pCfl
  have e : wat (mkA 2 (x :: y :: ws) n b ld fx lb o) 1 = y := rfl
  rw [e, if_neg hy]
  split
  · split
    · rfl
    · split <;> rfl
  · rfl
theorem ly_lds : pLdS (mkA h ws n b 0 fx lb o) = mkA h ws n b 0 fx lb o := if_pos rfl
theorem ly_ld : pLd (mkA h ws n b 0 fx lb o) l = mkA h ws n n 0 fx ((l, n) :: lb) o := by
  unfold pLd
  rw [ly_lds]
end
