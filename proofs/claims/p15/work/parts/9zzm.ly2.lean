/-! Where words are laid: an order at a time. -/
section
variable {ws : List Int32} {n b : Nat} {fx : List (Nat × Int32)} {lb : List (Int32 × Nat)} {o y : Int32}
theorem sK (s : Int32) : asK (wSet 4 s) = 9 := by have := s.toBitVec.isLt; rw [wSet4_n, n_K (by omega), show (604241920 + s.toBitVec.toNat % 65536) / 67108864 = 9 from by omega]; rfl
theorem sA (s : Int32) : asA (wSet 4 s) = 0 := by have := s.toBitVec.isLt; rw [wSet4_n, n_A (by omega), show (604241920 + s.toBitVec.toNat % 65536) / 2097152 % 32 = 0 from by omega]; rfl
theorem sB (s : Int32) : asB (wSet 4 s) = 4 := by have := s.toBitVec.isLt; rw [wSet4_n, n_B (by omega), show (604241920 + s.toBitVec.toNat % 65536) / 65536 % 32 = 4 from by omega]; rfl
theorem uK (s : Int32) : asK (wLui 4 s) = 15 := by have := s.toBitVec.isLt; rw [wLui4_n, n_K (by omega), show (1006895104 + s.toBitVec.toNat / 65536) / 67108864 = 15 from by omega]; rfl
theorem uA (s : Int32) : asA (wLui 4 s) = 0 := by have := s.toBitVec.isLt; rw [wLui4_n, n_A (by omega), show (1006895104 + s.toBitVec.toNat / 65536) / 2097152 % 32 = 0 from by omega]; rfl
theorem uB (s : Int32) : asB (wLui 4 s) = 4 := by have := s.toBitVec.isLt; rw [wLui4_n, n_B (by omega), show (1006895104 + s.toBitVec.toNat / 65536) / 65536 % 32 = 4 from by omega]; rfl
theorem oK (s : Int32) : asK (wOri 4 s) = 13 := by have := s.toBitVec.isLt; rw [wOri4_n, n_K (by omega), show (881065984 + s.toBitVec.toNat % 65536) / 67108864 = 13 from by omega]; rfl
theorem oA (s : Int32) : asA (wOri 4 s) = 4 := by have := s.toBitVec.isLt; rw [wOri4_n, n_A (by omega), show (881065984 + s.toBitVec.toNat % 65536) / 2097152 % 32 = 4 from by omega]; rfl
theorem oB (s : Int32) : asB (wOri 4 s) = 4 := by have := s.toBitVec.isLt; rw [wOri4_n, n_B (by omega), show (881065984 + s.toBitVec.toNat % 65536) / 65536 % 32 = 4 from by omega]; rfl
theorem l0S (s : Int32) : ldI (wSet 4 s) = 0 := by unfold ldI; rw [sK]; decide
theorem nzS (s : Int32) : ¬ wSet 4 s = 0 := fun q => absurd (sK s) (by rw [q]; decide)
theorem raS (s : Int32) : tchI (wSet 4 s) 31 = 0 := by unfold tchI; rw [sK, sA, sB]; rfl
theorem l0U (s : Int32) : ldI (wLui 4 s) = 0 := by unfold ldI; rw [uK]; decide
theorem nzU (s : Int32) : ¬ wLui 4 s = 0 := fun q => absurd (uK s) (by rw [q]; decide)
theorem raU (s : Int32) : tchI (wLui 4 s) 31 = 0 := by unfold tchI; rw [uK, uA, uB]; rfl
theorem l0O (s : Int32) : ldI (wOri 4 s) = 0 := by unfold ldI; rw [oK]; decide
theorem nzO (s : Int32) : ¬ wOri 4 s = 0 := fun q => absurd (oK s) (by rw [q]; decide)
theorem raO (s : Int32) : tchI (wOri 4 s) 31 = 0 := by unfold tchI; rw [oK, oA, oB]; rfl
theorem bL4 {p : Nat} (hp : p < 8192) : asB (wLw 4 (nI p * 4) 17) = 4 := by rw [wLw4_n hp, n_B (by omega), show (2384723968 + 4 * p) / 65536 % 32 = 4 from by omega]; rfl
theorem bL4n {p : Nat} (hp : p < 8192) : ¬ asB (wLw 4 (nI p * 4) 17) = 0 := by rw [bL4 hp]; decide
theorem ldL4 {p : Nat} (hp : p < 8192) : ¬ ldI (wLw 4 (nI p * 4) 17) = 0 := by unfold ldI; rw [wLw4_n hp, n_K (by omega), show (2384723968 + 4 * p) / 67108864 = 35 from by omega]; decide
theorem bL8 {p : Nat} (hp : p < 8192) : asB (wLw 8 (nI p * 4) 17) = 8 := by rw [wLw8_n hp, n_B (by omega), show (2384986112 + 4 * p) / 65536 % 32 = 8 from by omega]; rfl
theorem bL8n {p : Nat} (hp : p < 8192) : ¬ asB (wLw 8 (nI p * 4) 17) = 0 := by rw [bL8 hp]; decide
theorem ldL8 {p : Nat} (hp : p < 8192) : ¬ ldI (wLw 8 (nI p * 4) 17) = 0 := by unfold ldI; rw [wLw8_n hp, n_K (by omega), show (2384986112 + 4 * p) / 67108864 = 35 from by omega]; decide
set_option maxHeartbeats 1000000 in
theorem lyO1s_1 (s : Int32) (h1 : ¬ s < (-32768)) (h2 : ¬ 32767 < s) (hn : n + 20 < 262144) : pO1 (mkA 1 ws n b 0 fx lb o) s = mkA 1 (0 :: wJal :: (wSet 4 s) :: ws) (n + 3) (n + 3) 0 ((n + 1, 65536) :: fx) lb o := by
  show pLp (pSe (mkA 1 ws n b 0 fx lb o) 4 s) wJal 65536 = _
  rw [show pSe (mkA 1 ws n b 0 fx lb o) 4 s = pEm (mkA 1 ws n b 0 fx lb o) (wSet 4 s) from (if_neg h1).trans (if_neg h2)]
  rw [ly_em (w := wSet 4 s) (by omega) (l0S s), ly_lp1z (by omega) (by decide)] <;> rfl
set_option maxHeartbeats 1000000 in
theorem lyO1l_1 (s : Int32) (h1 : s < (-32768) ∨ 32767 < s) (h2 : ¬ s &&& 65535 = 0) (hn : n + 20 < 262144) : pO1 (mkA 1 ws n b 0 fx lb o) s = mkA 1 (0 :: wJal :: (wOri 4 s) :: (wLui 4 s) :: ws) (n + 4) (n + 4) 0 ((n + 2, 65536) :: fx) lb o := by
  show pLp (pSe (mkA 1 ws n b 0 fx lb o) 4 s) wJal 65536 = _
  rw [show pSe (mkA 1 ws n b 0 fx lb o) 4 s = pEm (pEm (mkA 1 ws n b 0 fx lb o) (wLui 4 s)) (wOri 4 s) from by unfold pSe pSeB; rcases h1 with h1 | h1; rw [if_pos h1, if_neg h2]; rw [if_pos h1, if_neg h2, ite_self]]
  rw [ly_em (w := wLui 4 s) (by omega) (l0U s), ly_em (w := wOri 4 s) (by omega) (l0O s), ly_lp1z (by omega) (by decide)] <;> rfl
set_option maxHeartbeats 1000000 in
theorem lyO1z_1 (s : Int32) (h1 : s < (-32768) ∨ 32767 < s) (h2 : s &&& 65535 = 0) (hn : n + 20 < 262144) : pO1 (mkA 1 ws n b 0 fx lb o) s = mkA 1 (0 :: wJal :: (wLui 4 s) :: ws) (n + 3) (n + 3) 0 ((n + 1, 65536) :: fx) lb o := by
  show pLp (pSe (mkA 1 ws n b 0 fx lb o) 4 s) wJal 65536 = _
  rw [show pSe (mkA 1 ws n b 0 fx lb o) 4 s = pEm (mkA 1 ws n b 0 fx lb o) (wLui 4 s) from by unfold pSe pSeB; rcases h1 with h1 | h1; rw [if_pos h1, if_pos h2]; rw [if_pos h1, if_pos h2, ite_self]]
  rw [ly_em (w := wLui 4 s) (by omega) (l0U s), ly_lp1z (by omega) (by decide)] <;> rfl
set_option maxHeartbeats 1000000 in
theorem lyO3_1 {p : Nat} (hp : p < 8192) (hn : n + 20 < 262144) : pO3 (mkA 1 ws n b 0 fx lb o) (nI p) = mkA 1 (0 :: wJal :: 0 :: (wLw 4 (nI p * 4) 17) :: ws) (n + 4) (n + 4) 0 ((n + 2, 65536) :: fx) lb o := by
  show pLp (pEm (mkA 1 ws n b 0 fx lb o) (wLw 4 (nI p * 4) 17)) wJal 65536 = _
  rw [ly_em1 (w := wLw 4 (nI p * 4) 17) (by omega) (ldL4 hp) (bL4n hp), ly_lp1z (by omega) (by decide)] <;> rfl
set_option maxHeartbeats 1000000 in
theorem lyODiv_1  (hn : n + 20 < 262144) : pODiv (mkA 1 ws n b 0 fx lb o) = mkA 1 (0 :: wJal :: (wSet 5 0) :: ws) (n + 3) (n + 3) 0 ((n + 1, 65549) :: fx) lb o := by
  show pLp (pSe (mkA 1 ws n b 0 fx lb o) 5 0) wJal 65549 = _
  show pLp (pEm (mkA 1 ws n b 0 fx lb o) (wSet 5 0)) wJal 65549 = _
  rw [ly_em (w := wSet 5 0) (by omega) (by decide), ly_lp1z (by omega) (by decide)] <;> rfl
set_option maxHeartbeats 1000000 in
theorem lyOMod_1  (hn : n + 20 < 262144) : pOMod (mkA 1 ws n b 0 fx lb o) = mkA 1 (0 :: wJal :: (wSet 5 1) :: ws) (n + 3) (n + 3) 0 ((n + 1, 65549) :: fx) lb o := by
  show pLp (pSe (mkA 1 ws n b 0 fx lb o) 5 1) wJal 65549 = _
  show pLp (pEm (mkA 1 ws n b 0 fx lb o) (wSet 5 1)) wJal 65549 = _
  rw [ly_em (w := wSet 5 1) (by omega) (by decide), ly_lp1z (by omega) (by decide)] <;> rfl
set_option maxHeartbeats 1000000 in
theorem lyOAdd_1  (hn : n + 20 < 262144) : pOAdd (mkA 1 ws n b 0 fx lb o) = mkA 1 ((wSw 10 (-4) 16) :: (wAdd 10 10 (-1)) :: (wThree 33 10 8 9) :: (wAdd 16 16 (-4)) :: 0 :: (wLw 9 (-4) 16) :: 0 :: (wLw 8 (-8) 16) :: ws) (n + 8) (b) 0 (fx) lb o := by
  show pEm (pEm (pEm (pEm (pEm (pEm (mkA 1 ws n b 0 fx lb o) (wLw 8 (-8) 16)) (wLw 9 (-4) 16)) (wAdd 16 16 (-4))) (wThree 33 10 8 9)) (wAdd 10 10 (-1))) (wSw 10 (-4) 16) = _
  rw [ly_em1 (w := wLw 8 (-8) 16) (by omega) (by decide) (by decide), ly_em1 (w := wLw 9 (-4) 16) (by omega) (by decide) (by decide), ly_em (w := wAdd 16 16 (-4)) (by omega) (by decide), ly_em (w := wThree 33 10 8 9) (by omega) (by decide), ly_em (w := wAdd 10 10 (-1)) (by omega) (by decide), ly_em (w := wSw 10 (-4) 16) (by omega) (by decide)] <;> rfl
set_option maxHeartbeats 1000000 in
theorem lyOSub_1  (hn : n + 20 < 262144) : pOSub (mkA 1 ws n b 0 fx lb o) = mkA 1 ((wSw 10 (-4) 16) :: (wAdd 10 10 1) :: (wThree 35 10 8 9) :: (wAdd 16 16 (-4)) :: 0 :: (wLw 9 (-4) 16) :: 0 :: (wLw 8 (-8) 16) :: ws) (n + 8) (b) 0 (fx) lb o := by
  show pEm (pEm (pEm (pEm (pEm (pEm (mkA 1 ws n b 0 fx lb o) (wLw 8 (-8) 16)) (wLw 9 (-4) 16)) (wAdd 16 16 (-4))) (wThree 35 10 8 9)) (wAdd 10 10 1)) (wSw 10 (-4) 16) = _
  rw [ly_em1 (w := wLw 8 (-8) 16) (by omega) (by decide) (by decide), ly_em1 (w := wLw 9 (-4) 16) (by omega) (by decide) (by decide), ly_em (w := wAdd 16 16 (-4)) (by omega) (by decide), ly_em (w := wThree 35 10 8 9) (by omega) (by decide), ly_em (w := wAdd 10 10 1) (by omega) (by decide), ly_em (w := wSw 10 (-4) 16) (by omega) (by decide)] <;> rfl
set_option maxHeartbeats 1000000 in
theorem lyOMul_1  (hn : n + 20 < 262144) : pOMul (mkA 1 ws n b 0 fx lb o) = mkA 1 ((wSw 10 (-4) 16) :: (wAdd 10 10 1) :: (wThree 18 10 0 0) :: (wThree 24 0 8 9) :: (wShift 3 9 9 1) :: (wAdd 8 8 (-1)) :: (wAdd 16 16 (-4)) :: 0 :: (wLw 9 (-4) 16) :: 0 :: (wLw 8 (-8) 16) :: ws) (n + 11) (b) 0 (fx) lb o := by
  show pEm (pEm (pEm (pEm (pEm (pEm (pEm (pEm (pEm (mkA 1 ws n b 0 fx lb o) (wLw 8 (-8) 16)) (wLw 9 (-4) 16)) (wAdd 16 16 (-4))) (wAdd 8 8 (-1))) (wShift 3 9 9 1)) (wThree 24 0 8 9)) (wThree 18 10 0 0)) (wAdd 10 10 1)) (wSw 10 (-4) 16) = _
  rw [ly_em1 (w := wLw 8 (-8) 16) (by omega) (by decide) (by decide), ly_em1 (w := wLw 9 (-4) 16) (by omega) (by decide) (by decide), ly_em (w := wAdd 16 16 (-4)) (by omega) (by decide), ly_em (w := wAdd 8 8 (-1)) (by omega) (by decide), ly_em (w := wShift 3 9 9 1) (by omega) (by decide), ly_em (w := wThree 24 0 8 9) (by omega) (by decide), ly_em (w := wThree 18 10 0 0) (by omega) (by decide), ly_em (w := wAdd 10 10 1) (by omega) (by decide), ly_em (w := wSw 10 (-4) 16) (by omega) (by decide)] <;> rfl
set_option maxHeartbeats 1000000 in
theorem lyO8_1 {l mm : Int32} (hl : ¬ l < 0) (hn : n + 20 < 262144) : pO8 (mkA 1 ws n b 0 fx lb o) l mm = mkA 1 (0 :: wJ :: ws) (n + 2) (n + 2) 0 ((n, l) :: fx) lb o := by
  show pLp (mkA 1 ws n b 0 fx lb o) wJ l = _
  rw [ly_lp1z (by omega) hl] <;> rfl
set_option maxHeartbeats 1000000 in
theorem lyO11_1 {mm : Int32}  (hn : n + 20 < 262144) : pO11 (mkA 1 ws n b 0 fx lb o) mm = mkA 1 ((wSw 8 (-4) 16) :: (wAdd 16 16 (-4)) :: 0 :: (wLw 8 (-4) 16) :: ws) (n + 4) (b) 0 (fx) lb o := by
  show pEm (pEm (pEm (mkA 1 ws n b 0 fx lb o) (wLw 8 (-4) 16)) (wAdd 16 16 (-4))) (wSw 8 (-4) 16) = _
  rw [ly_em1 (w := wLw 8 (-4) 16) (by omega) (by decide) (by decide), ly_em (w := wAdd 16 16 (-4)) (by omega) (by decide), ly_em (w := wSw 8 (-4) 16) (by omega) (by decide)] <;> rfl
set_option maxHeartbeats 1000000 in
theorem lyO19_1 {mm : Int32}  (hn : n + 20 < 262144) : pO19 (mkA 1 ws n b 0 fx lb o) mm = mkA 1 (0 :: wJal :: ws) (n + 2) (n + 2) 0 ((n, 65552) :: fx) lb o := by
  show pLp (mkA 1 ws n b 0 fx lb o) wJal 65552 = _
  rw [ly_lp1z (by omega) (by decide)] <;> rfl
set_option maxHeartbeats 1000000 in
theorem lyO20_1 {mm : Int32}  (hn : n + 20 < 262144) : pO20 (mkA 1 ws n b 0 fx lb o) mm = mkA 1 (0 :: wJ :: 0 :: (wLw 4 (-4) 16) :: ws) (n + 4) (n + 4) 0 ((n + 2, 65550) :: fx) lb o := by
  show pLp (pEm (mkA 1 ws n b 0 fx lb o) (wLw 4 (-4) 16)) wJ 65550 = _
  rw [ly_em1 (w := wLw 4 (-4) 16) (by omega) (by decide) (by decide), ly_lp1z (by omega) (by decide)] <;> rfl
set_option maxHeartbeats 1000000 in
theorem lyO23_1 {mm : Int32}  (hn : n + 20 < 262144) : pO23 (mkA 1 ws n b 0 fx lb o) mm = mkA 1 (0 :: wJ :: (wSet 2 0) :: 0 :: (wLw 3 (-4) 16) :: ws) (n + 5) (n + 5) 0 ((n + 3, 65561) :: fx) lb o := by
  show pLp (pSe (pEm (mkA 1 ws n b 0 fx lb o) (wLw 3 (-4) 16)) 2 0) wJ 65561 = _
  show pLp (pEm (pEm (mkA 1 ws n b 0 fx lb o) (wLw 3 (-4) 16)) (wSet 2 0)) wJ 65561 = _
  rw [ly_em1 (w := wLw 3 (-4) 16) (by omega) (by decide) (by decide), ly_em (w := wSet 2 0) (by omega) (by decide), ly_lp1z (by omega) (by decide)] <;> rfl
set_option maxHeartbeats 1000000 in
theorem lyO25_1 {p : Nat} {mm : Int32} (hp : p < 8192) (hn : n + 20 < 262144) : pO25 (mkA 1 ws n b 0 fx lb o) (nI p) mm = mkA 1 ((wSw 8 64 0) :: 0 :: (wLw 8 (nI p * 4) 17) :: ws) (n + 3) (b) 0 (fx) lb o := by
  show pEm (pEm (mkA 1 ws n b 0 fx lb o) (wLw 8 (nI p * 4) 17)) (wSw 8 64 0) = _
  rw [ly_em1 (w := wLw 8 (nI p * 4) 17) (by omega) (ldL8 hp) (bL8n hp), ly_em (w := wSw 8 64 0) (by omega) (by decide)] <;> rfl
set_option maxHeartbeats 1000000 in
theorem lyO30_1  (hn : n + 20 < 262144) : pO30 (mkA 1 ws n b 0 fx lb o) 0 0 = mkA 1 ((wSw 8 ((144 + 0) * 4) 0) :: 0 :: (wLw 8 ((16 + 0) * 4) 0) :: ws) (n + 3) (b) 0 (fx) lb o := by
  show pEm (pEm (mkA 1 ws n b 0 fx lb o) (wLw 8 ((16 + 0) * 4) 0)) (wSw 8 ((144 + 0) * 4) 0) = _
  rw [ly_em1 (w := wLw 8 ((16 + 0) * 4) 0) (by omega) (by decide) (by decide), ly_em (w := wSw 8 ((144 + 0) * 4) 0) (by omega) (by decide)] <;> rfl
set_option maxHeartbeats 1000000 in
theorem lyO31_1 {mm : Int32}  (hn : n + 20 < 262144) : pO31 (mkA 1 ws n b 0 fx lb o) 1 mm = mkA 1 (0 :: wJal :: (wSet 5 (1 * 4)) :: ws) (n + 3) (n + 3) 0 ((n + 1, 65544) :: fx) lb o := by
  show pLp (pSe (mkA 1 ws n b 0 fx lb o) 5 (1 * 4)) wJal 65544 = _
  show pLp (pEm (mkA 1 ws n b 0 fx lb o) (wSet 5 (1 * 4))) wJal 65544 = _
  rw [ly_em (w := wSet 5 (1 * 4)) (by omega) (by decide), ly_lp1z (by omega) (by decide)] <;> rfl
set_option maxHeartbeats 1000000 in
theorem lyO1s_2 (s : Int32) (h1 : ¬ s < (-32768)) (h2 : ¬ 32767 < s) (hb : b ≤ n) (hn : n + 20 < 262144) : pO1 (mkA 2 ws n b 0 fx lb o) s = mkA 2 ((wSet 4 s) :: wJal :: ws) (n + 2) (n + 2) 0 ((n, 65536) :: fx) lb o := by
  show pLp (pSe (mkA 2 ws n b 0 fx lb o) 4 s) wJal 65536 = _
  rw [show pSe (mkA 2 ws n b 0 fx lb o) 4 s = pEm (mkA 2 ws n b 0 fx lb o) (wSet 4 s) from (if_neg h1).trans (if_neg h2)]
  rw [ly_em (w := wSet 4 s) (by omega) (l0S s), ly_lp2f (by omega) (ly_cfp1 (by omega) (nzS s) (l0S s) tchJal (raS s)) (by decide)] <;> rfl
set_option maxHeartbeats 1000000 in
theorem lyO1l_2 (s : Int32) (h1 : s < (-32768) ∨ 32767 < s) (h2 : ¬ s &&& 65535 = 0) (hb : b ≤ n) (hn : n + 20 < 262144) : pO1 (mkA 2 ws n b 0 fx lb o) s = mkA 2 ((wOri 4 s) :: wJal :: (wLui 4 s) :: ws) (n + 3) (n + 3) 0 ((n + 1, 65536) :: fx) lb o := by
  show pLp (pSe (mkA 2 ws n b 0 fx lb o) 4 s) wJal 65536 = _
  rw [show pSe (mkA 2 ws n b 0 fx lb o) 4 s = pEm (pEm (mkA 2 ws n b 0 fx lb o) (wLui 4 s)) (wOri 4 s) from by unfold pSe pSeB; rcases h1 with h1 | h1; rw [if_pos h1, if_neg h2]; rw [if_pos h1, if_neg h2, ite_self]]
  rw [ly_em (w := wLui 4 s) (by omega) (l0U s), ly_em (w := wOri 4 s) (by omega) (l0O s), ly_lp2f (by omega) (ly_cfp1 (by omega) (nzO s) (l0O s) tchJal (raO s)) (by decide)] <;> rfl
set_option maxHeartbeats 1000000 in
theorem lyO1z_2 (s : Int32) (h1 : s < (-32768) ∨ 32767 < s) (h2 : s &&& 65535 = 0) (hb : b ≤ n) (hn : n + 20 < 262144) : pO1 (mkA 2 ws n b 0 fx lb o) s = mkA 2 ((wLui 4 s) :: wJal :: ws) (n + 2) (n + 2) 0 ((n, 65536) :: fx) lb o := by
  show pLp (pSe (mkA 2 ws n b 0 fx lb o) 4 s) wJal 65536 = _
  rw [show pSe (mkA 2 ws n b 0 fx lb o) 4 s = pEm (mkA 2 ws n b 0 fx lb o) (wLui 4 s) from by unfold pSe pSeB; rcases h1 with h1 | h1; rw [if_pos h1, if_pos h2]; rw [if_pos h1, if_pos h2, ite_self]]
  rw [ly_em (w := wLui 4 s) (by omega) (l0U s), ly_lp2f (by omega) (ly_cfp1 (by omega) (nzU s) (l0U s) tchJal (raU s)) (by decide)] <;> rfl
set_option maxHeartbeats 1000000 in
theorem lyO3_2 {p : Nat} (hp : p < 8192) (hb : b ≤ n) (hn : n + 20 < 262144) : pO3 (mkA 2 ws n b 0 fx lb o) (nI p) = mkA 2 (0 :: wJal :: (wLw 4 (nI p * 4) 17) :: ws) (n + 3) (n + 3) 0 ((n + 1, 65536) :: fx) lb o := by
  show pLp (pEm (mkA 2 ws n b 0 fx lb o) (wLw 4 (nI p * 4) 17)) wJal 65536 = _
  rw [ly_em20 (w := wLw 4 (nI p * 4) 17) (by omega) (ldL4 hp), ly_lp2 (by omega) (tchJal _) (ly_cfpL (ldL4 hp)) (by decide)] <;> rfl
set_option maxHeartbeats 1000000 in
theorem lyODiv_2  (hb : b ≤ n) (hn : n + 20 < 262144) : pODiv (mkA 2 ws n b 0 fx lb o) = mkA 2 ((wSet 5 0) :: wJal :: ws) (n + 2) (n + 2) 0 ((n, 65549) :: fx) lb o := by
  show pLp (pSe (mkA 2 ws n b 0 fx lb o) 5 0) wJal 65549 = _
  show pLp (pEm (mkA 2 ws n b 0 fx lb o) (wSet 5 0)) wJal 65549 = _
  rw [ly_em (w := wSet 5 0) (by omega) (by decide), ly_lp2f (by omega) (ly_cfp1 (by omega) (by decide) (by decide) tchJal (by decide)) (by decide)] <;> rfl
set_option maxHeartbeats 1000000 in
theorem lyOMod_2  (hb : b ≤ n) (hn : n + 20 < 262144) : pOMod (mkA 2 ws n b 0 fx lb o) = mkA 2 ((wSet 5 1) :: wJal :: ws) (n + 2) (n + 2) 0 ((n, 65549) :: fx) lb o := by
  show pLp (pSe (mkA 2 ws n b 0 fx lb o) 5 1) wJal 65549 = _
  show pLp (pEm (mkA 2 ws n b 0 fx lb o) (wSet 5 1)) wJal 65549 = _
  rw [ly_em (w := wSet 5 1) (by omega) (by decide), ly_lp2f (by omega) (ly_cfp1 (by omega) (by decide) (by decide) tchJal (by decide)) (by decide)] <;> rfl
set_option maxHeartbeats 1000000 in
theorem lyOAdd_2  (hb : b ≤ n) (hn : n + 20 < 262144) : pOAdd (mkA 2 ws n b 0 fx lb o) = mkA 2 ((wSw 10 (-4) 16) :: (wAdd 10 10 (-1)) :: (wThree 33 10 8 9) :: (wAdd 16 16 (-4)) :: (wLw 9 (-4) 16) :: (wLw 8 (-8) 16) :: ws) (n + 6) (b) 0 (fx) lb o := by
  show pEm (pEm (pEm (pEm (pEm (pEm (mkA 2 ws n b 0 fx lb o) (wLw 8 (-8) 16)) (wLw 9 (-4) 16)) (wAdd 16 16 (-4))) (wThree 33 10 8 9)) (wAdd 10 10 (-1))) (wSw 10 (-4) 16) = _
  rw [ly_em20 (w := wLw 8 (-8) 16) (by omega) (by decide), ly_em2 (w := wLw 9 (-4) 16) (by omega) (by decide) (by decide), ly_emN (w := wAdd 16 16 (-4)) (by omega) (by decide) (by decide), ly_em (w := wThree 33 10 8 9) (by omega) (by decide), ly_em (w := wAdd 10 10 (-1)) (by omega) (by decide), ly_em (w := wSw 10 (-4) 16) (by omega) (by decide)] <;> rfl
set_option maxHeartbeats 1000000 in
theorem lyOSub_2  (hb : b ≤ n) (hn : n + 20 < 262144) : pOSub (mkA 2 ws n b 0 fx lb o) = mkA 2 ((wSw 10 (-4) 16) :: (wAdd 10 10 1) :: (wThree 35 10 8 9) :: (wAdd 16 16 (-4)) :: (wLw 9 (-4) 16) :: (wLw 8 (-8) 16) :: ws) (n + 6) (b) 0 (fx) lb o := by
  show pEm (pEm (pEm (pEm (pEm (pEm (mkA 2 ws n b 0 fx lb o) (wLw 8 (-8) 16)) (wLw 9 (-4) 16)) (wAdd 16 16 (-4))) (wThree 35 10 8 9)) (wAdd 10 10 1)) (wSw 10 (-4) 16) = _
  rw [ly_em20 (w := wLw 8 (-8) 16) (by omega) (by decide), ly_em2 (w := wLw 9 (-4) 16) (by omega) (by decide) (by decide), ly_emN (w := wAdd 16 16 (-4)) (by omega) (by decide) (by decide), ly_em (w := wThree 35 10 8 9) (by omega) (by decide), ly_em (w := wAdd 10 10 1) (by omega) (by decide), ly_em (w := wSw 10 (-4) 16) (by omega) (by decide)] <;> rfl
set_option maxHeartbeats 1000000 in
theorem lyOMul_2  (hb : b ≤ n) (hn : n + 20 < 262144) : pOMul (mkA 2 ws n b 0 fx lb o) = mkA 2 ((wSw 10 (-4) 16) :: (wAdd 10 10 1) :: (wThree 18 10 0 0) :: (wThree 24 0 8 9) :: (wShift 3 9 9 1) :: (wAdd 8 8 (-1)) :: (wAdd 16 16 (-4)) :: (wLw 9 (-4) 16) :: (wLw 8 (-8) 16) :: ws) (n + 9) (b) 0 (fx) lb o := by
  show pEm (pEm (pEm (pEm (pEm (pEm (pEm (pEm (pEm (mkA 2 ws n b 0 fx lb o) (wLw 8 (-8) 16)) (wLw 9 (-4) 16)) (wAdd 16 16 (-4))) (wAdd 8 8 (-1))) (wShift 3 9 9 1)) (wThree 24 0 8 9)) (wThree 18 10 0 0)) (wAdd 10 10 1)) (wSw 10 (-4) 16) = _
  rw [ly_em20 (w := wLw 8 (-8) 16) (by omega) (by decide), ly_em2 (w := wLw 9 (-4) 16) (by omega) (by decide) (by decide), ly_emN (w := wAdd 16 16 (-4)) (by omega) (by decide) (by decide), ly_em (w := wAdd 8 8 (-1)) (by omega) (by decide), ly_em (w := wShift 3 9 9 1) (by omega) (by decide), ly_em (w := wThree 24 0 8 9) (by omega) (by decide), ly_em (w := wThree 18 10 0 0) (by omega) (by decide), ly_em (w := wAdd 10 10 1) (by omega) (by decide), ly_em (w := wSw 10 (-4) 16) (by omega) (by decide)] <;> rfl
set_option maxHeartbeats 1000000 in
theorem lyO11_2 {mm : Int32}  (hb : b ≤ n) (hn : n + 20 < 262144) : pO11 (mkA 2 ws n b 0 fx lb o) mm = mkA 2 ((wSw 8 (-4) 16) :: (wAdd 16 16 (-4)) :: (wLw 8 (-4) 16) :: ws) (n + 3) (b) 0 (fx) lb o := by
  show pEm (pEm (pEm (mkA 2 ws n b 0 fx lb o) (wLw 8 (-4) 16)) (wAdd 16 16 (-4))) (wSw 8 (-4) 16) = _
  rw [ly_em20 (w := wLw 8 (-4) 16) (by omega) (by decide), ly_emN (w := wAdd 16 16 (-4)) (by omega) (by decide) (by decide), ly_em (w := wSw 8 (-4) 16) (by omega) (by decide)] <;> rfl
set_option maxHeartbeats 1000000 in
theorem lyO20_2 {mm : Int32}  (hb : b ≤ n) (hn : n + 20 < 262144) : pO20 (mkA 2 ws n b 0 fx lb o) mm = mkA 2 (0 :: wJ :: (wLw 4 (-4) 16) :: ws) (n + 3) (n + 3) 0 ((n + 1, 65550) :: fx) lb o := by
  show pLp (pEm (mkA 2 ws n b 0 fx lb o) (wLw 4 (-4) 16)) wJ 65550 = _
  rw [ly_em20 (w := wLw 4 (-4) 16) (by omega) (by decide), ly_lp2 (by omega) (tchJ _) (ly_cfpL (by decide)) (by decide)] <;> rfl
set_option maxHeartbeats 1000000 in
theorem lyO23_2 {mm : Int32}  (hb : b ≤ n) (hn : n + 20 < 262144) : pO23 (mkA 2 ws n b 0 fx lb o) mm = mkA 2 ((wSet 2 0) :: wJ :: (wLw 3 (-4) 16) :: ws) (n + 3) (n + 3) 0 ((n + 1, 65561) :: fx) lb o := by
  show pLp (pSe (pEm (mkA 2 ws n b 0 fx lb o) (wLw 3 (-4) 16)) 2 0) wJ 65561 = _
  show pLp (pEm (pEm (mkA 2 ws n b 0 fx lb o) (wLw 3 (-4) 16)) (wSet 2 0)) wJ 65561 = _
  rw [ly_em20 (w := wLw 3 (-4) 16) (by omega) (by decide), ly_emN (w := wSet 2 0) (by omega) (by decide) (by decide), ly_lp2f (by omega) (ly_cfp1 (by omega) (by decide) (by decide) tchJ (by decide)) (by decide)] <;> rfl
set_option maxHeartbeats 1000000 in
theorem lyO31_2 {mm : Int32}  (hb : b ≤ n) (hn : n + 20 < 262144) : pO31 (mkA 2 ws n b 0 fx lb o) 1 mm = mkA 2 ((wSet 5 (1 * 4)) :: wJal :: ws) (n + 2) (n + 2) 0 ((n, 65544) :: fx) lb o := by
  show pLp (pSe (mkA 2 ws n b 0 fx lb o) 5 (1 * 4)) wJal 65544 = _
  show pLp (pEm (mkA 2 ws n b 0 fx lb o) (wSet 5 (1 * 4))) wJal 65544 = _
  rw [ly_em (w := wSet 5 (1 * 4)) (by omega) (by decide), ly_lp2f (by omega) (ly_cfp1 (by omega) (by decide) (by decide) tchJal (by decide)) (by decide)] <;> rfl
set_option maxHeartbeats 1000000 in
theorem lyO8_2b {l mm : Int32} (hl : ¬ l < 0) (hn : n + 20 < 262144) : pO8 (mkA 2 ws n n 0 fx lb o) l mm = mkA 2 (0 :: wJ :: ws) (n + 2) (n + 2) 0 ((n, l) :: fx) lb o := by
  show pLp (mkA 2 ws n n 0 fx lb o) wJ l = _
  rw [ly_lp2 (by omega) (tchJ _) (ly_cfp0 rfl) hl] <;> rfl
set_option maxHeartbeats 1000000 in
theorem lyO8_2s {l mm : Int32} (hl : ¬ l < 0) (hy : ¬ stI y = 0) (y0 : ¬ y = 0) (yl : ldI y = 0) (yr : tchI y 31 = 0) (hb : b ≤ n) (hn : n + 20 < 262144) : pO8 (mkA 2 (y :: ws) (n + 1) b 0 fx lb o) l mm = mkA 2 (y :: wJ :: ws) (n + 2) (n + 2) 0 ((n, l) :: fx) lb o := by
  show pLp (mkA 2 (y :: ws) (n + 1) b 0 fx lb o) wJ l = _
  rw [ly_lp2f (by omega) (ly_cfp1 (by omega) y0 yl tchJ yr) hl] <;> rfl
set_option maxHeartbeats 1000000 in
theorem lyO19_2b {mm : Int32}  (hn : n + 20 < 262144) : pO19 (mkA 2 ws n n 0 fx lb o) mm = mkA 2 (0 :: wJal :: ws) (n + 2) (n + 2) 0 ((n, 65552) :: fx) lb o := by
  show pLp (mkA 2 ws n n 0 fx lb o) wJal 65552 = _
  rw [ly_lp2 (by omega) (tchJal _) (ly_cfp0 rfl) (by decide)] <;> rfl
set_option maxHeartbeats 1000000 in
theorem lyO19_2s {mm : Int32}  (hy : ¬ stI y = 0) (y0 : ¬ y = 0) (yl : ldI y = 0) (yr : tchI y 31 = 0) (hb : b ≤ n) (hn : n + 20 < 262144) : pO19 (mkA 2 (y :: ws) (n + 1) b 0 fx lb o) mm = mkA 2 (y :: wJal :: ws) (n + 2) (n + 2) 0 ((n, 65552) :: fx) lb o := by
  show pLp (mkA 2 (y :: ws) (n + 1) b 0 fx lb o) wJal 65552 = _
  rw [ly_lp2f (by omega) (ly_cfp1 (by omega) y0 yl tchJal yr) (by decide)] <;> rfl
set_option maxHeartbeats 1000000 in
theorem lyO25_2b {p : Nat} {mm : Int32} (hp : p < 8192) (hn : n + 20 < 262144) : pO25 (mkA 2 ws n n 0 fx lb o) (nI p) mm = mkA 2 ((wSw 8 64 0) :: 0 :: (wLw 8 (nI p * 4) 17) :: ws) (n + 3) (n) 0 (fx) lb o := by
  show pEm (pEm (mkA 2 ws n n 0 fx lb o) (wLw 8 (nI p * 4) 17)) (wSw 8 64 0) = _
  rw [ly_em20 (w := wLw 8 (nI p * 4) 17) (by omega) (ldL8 hp), ly_em2s (by omega) (bL8n hp) (by rw [bL8 hp]; decide) (ly_cfl0 (by omega)) (by decide)] <;> rfl
set_option maxHeartbeats 1000000 in
theorem lyO25_2s {p : Nat} {mm : Int32} (hp : p < 8192) (hy : ¬ stI y = 0) (y0 : ¬ y = 0) (yl : ldI y = 0) (yr : tchI y 31 = 0) (hb : b ≤ n) (hn : n + 20 < 262144) : pO25 (mkA 2 (y :: ws) (n + 1) b 0 fx lb o) (nI p) mm = mkA 2 ((wSw 8 64 0) :: 0 :: (wLw 8 (nI p * 4) 17) :: y :: ws) (n + 4) (b) 0 (fx) lb o := by
  show pEm (pEm (mkA 2 (y :: ws) (n + 1) b 0 fx lb o) (wLw 8 (nI p * 4) 17)) (wSw 8 64 0) = _
  rw [ly_em20 (w := wLw 8 (nI p * 4) 17) (by omega) (ldL8 hp), ly_em2s (by omega) (bL8n hp) (by rw [bL8 hp]; decide) (ly_cflS hy) (by decide)] <;> rfl
set_option maxHeartbeats 1000000 in
theorem lyO30_2b  (hn : n + 20 < 262144) : pO30 (mkA 2 ws n n 0 fx lb o) 0 0 = mkA 2 ((wSw 8 ((144 + 0) * 4) 0) :: 0 :: (wLw 8 ((16 + 0) * 4) 0) :: ws) (n + 3) (n) 0 (fx) lb o := by
  show pEm (pEm (mkA 2 ws n n 0 fx lb o) (wLw 8 ((16 + 0) * 4) 0)) (wSw 8 ((144 + 0) * 4) 0) = _
  rw [ly_em20 (w := wLw 8 ((16 + 0) * 4) 0) (by omega) (by decide), ly_em2s (by omega) (by decide) (by decide) (ly_cfl0 (by omega)) (by decide)] <;> rfl
set_option maxHeartbeats 1000000 in
theorem lyO30_2s  (hy : ¬ stI y = 0) (y0 : ¬ y = 0) (yl : ldI y = 0) (yr : tchI y 31 = 0) (hb : b ≤ n) (hn : n + 20 < 262144) : pO30 (mkA 2 (y :: ws) (n + 1) b 0 fx lb o) 0 0 = mkA 2 ((wSw 8 ((144 + 0) * 4) 0) :: 0 :: (wLw 8 ((16 + 0) * 4) 0) :: y :: ws) (n + 4) (b) 0 (fx) lb o := by
  show pEm (pEm (mkA 2 (y :: ws) (n + 1) b 0 fx lb o) (wLw 8 ((16 + 0) * 4) 0)) (wSw 8 ((144 + 0) * 4) 0) = _
  rw [ly_em20 (w := wLw 8 ((16 + 0) * 4) 0) (by omega) (by decide), ly_em2s (by omega) (by decide) (by decide) (ly_cflS hy) (by decide)] <;> rfl
theorem lyO18_1 {l : Int32} (hn : n + 20 < 262144) : pO18 (mkA 1 ws n b 0 fx lb o) l = mkA 1 (0 :: wJal :: scW1 5 :: scW0 5 :: ws) (n + 4) (n + 4) 0 ((n + 2, 65551) :: (n + 1, l) :: (n, l) :: fx) lb o := by
  show pLp (pSc (mkA 1 ws n b 0 fx lb o) 5 l) wJal 65551 = _
  have e : pSc (mkA 1 ws n b 0 fx lb o) 5 l = mkA 1 (scW1 5 :: scW0 5 :: ws) (n + 2) (n + 2) 0 ((n + 1, l) :: (n, l) :: fx) lb o := by
    unfold pSc pFx
    rw [ly_lds, ly_em (show n < 262144 by omega) (by decide), ly_em (show n + 1 < 262144 by omega) (by decide)]
  rw [e, ly_lp1z (by omega) (by decide)] <;> rfl
theorem lyO29_1 {fm : Int32} (hf : fm &&& 255 = 0) (hl : ¬ fm >>> ((8 : Int32) &&& 31) < 0) (hn : n + 20 < 262144) : pO29 (mkA 1 ws n b 0 fx lb o) 26 fm = mkA 1 (0 :: wJ :: 0 :: wOv 4 8 9 :: wSet 9 26 :: 0 :: wLw 8 64 0 :: ws) (n + 7) (n + 7) 0 ((n + 5, fm >>> ((8 : Int32) &&& 31)) :: fx) lb o := by
  show pLp (pLp (pEm (pEm (mkA 1 ws n b 0 fx lb o) (wLw 8 ((16 + (fm &&& 255)) * 4) 0)) (wSet 9 26)) (wOv 4 8 9) (-1)) wJ (fm >>> ((8 : Int32) &&& 31)) = _
  rw [hf, show wLw 8 ((16 + 0) * 4) 0 = wLw 8 64 0 from by decide]
  rw [ly_em1 (by omega) (by decide) (by decide), ly_em (by omega) (by decide), ly_lp1zn (by omega) (by decide), ly_lp1z (by omega) hl] <;> rfl
theorem lyO18_2 {l : Int32} (hn : n + 20 < 262144) : pO18 (mkA 2 ws n b 0 fx lb o) l = mkA 2 (0 :: wJal :: scW1 5 :: scW0 5 :: ws) (n + 4) (n + 4) 0 ((n + 2, 65551) :: (n + 1, l) :: (n, l) :: fx) lb o := by
  show pLp (pSc (mkA 2 ws n b 0 fx lb o) 5 l) wJal 65551 = _
  have e : pSc (mkA 2 ws n b 0 fx lb o) 5 l = mkA 2 (scW1 5 :: scW0 5 :: ws) (n + 2) (n + 2) 0 ((n + 1, l) :: (n, l) :: fx) lb o := by
    unfold pSc pFx
    rw [ly_lds, ly_em (show n < 262144 by omega) (by decide), ly_em (show n + 1 < 262144 by omega) (by decide)]
  rw [e, ly_lp2 (by omega) (tchJal _) (ly_cfp0 rfl) (by decide)] <;> rfl
theorem lyO29_2 {fm : Int32} (hf : fm &&& 255 = 0) (hl : ¬ fm >>> ((8 : Int32) &&& 31) < 0) (hn : n + 20 < 262144) : pO29 (mkA 2 ws n b 0 fx lb o) 26 fm = mkA 2 (0 :: wJ :: 0 :: wOv 4 8 9 :: wSet 9 26 :: wLw 8 64 0 :: ws) (n + 6) (n + 6) 0 ((n + 4, fm >>> ((8 : Int32) &&& 31)) :: fx) lb o := by
  show pLp (pLp (pEm (pEm (mkA 2 ws n b 0 fx lb o) (wLw 8 ((16 + (fm &&& 255)) * 4) 0)) (wSet 9 26)) (wOv 4 8 9) (-1)) wJ (fm >>> ((8 : Int32) &&& 31)) = _
  rw [hf, show wLw 8 ((16 + 0) * 4) 0 = wLw 8 64 0 from by decide]
  rw [ly_em20 (by omega) (by decide), ly_emN (by omega) (by decide) (by decide), ly_lp2n (by omega) (by decide) (ly_cfpT (by decide) (by decide)) (by decide), ly_lp2 (by omega) (tchJ _) (ly_cfp0 rfl) hl] <;> rfl
end
