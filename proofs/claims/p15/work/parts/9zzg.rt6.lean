/-! The Library run, either way of laying. -/
section
variable {S0 : xS} {code r m : Nat → Int32} {a : Int32} {ws : List Int32} {tr ret hw : Nat}
theorem ri_open (hh : hw = 1 ∨ hw = 2) (hL : CMl (LCh hw) code) (h : RI code a r m ws tr) (hn : ws.length < 990) (h31 : r 31 = nI (4 * ret)) : ∃ r' m', RT S0 200 r m (eOpen hw) r' m' ret ∧ RI code a r' m' (((ws ++ [nI (4 * tr) + 1]) ++ [r 5]) ++ [nI (4 * 5632) + 1]) (5632 + ws.length) ∧ ∀ j, j < 5632 → m' j = m j := by
  rcases hh with rfl | rfl
  · exact rt_open1 hL h hn h31
  · exact rt_open2 hL h hn h31
theorem ri_opened {x y v : Int32} {t : Nat} (hh : hw = 1 ∨ hw = 2) (hL : CMl (LCh hw) code) (h : RI code a r m ((((ws ++ [nI (4 * t) + 1]) ++ [x]) ++ [y]) ++ [v]) tr) (hn : ws.length < 990) (h31 : r 31 = nI (4 * ret)) : ∃ r' m', RT S0 30 r m (eOpened hw) r' m' ret ∧ RI code a r' m' (ws ++ [v]) t ∧ ∀ j, j < 5632 → m' j = m j := by
  rcases hh with rfl | rfl
  · exact rt_opened1 hL h hn h31
  · exact rt_opened2 hL h hn h31
theorem ri_raise {vs : List Int32} {t lab : Nat} (hh : hw = 1 ∨ hw = 2) (hL : CMl (LCh hw) code) (h : RI code a r m (ws ++ (nI (4 * t) + 1) :: (nI (4 * lab) + 1) :: (nI (4 * 5632) + 1) :: vs) (5632 + ws.length)) (hn : ws.length < 990) : ∃ r' m', RT S0 30 r m (eRaise hw) r' m' lab ∧ RI code a r' m' (ws ++ [r 4]) t ∧ ∀ j, j < 5632 → m' j = m j := by
  rcases hh with rfl | rfl
  · exact rt_raise1 hL h hn
  · exact rt_raise2 hL h hn
theorem ri_raise0 (hh : hw = 1 ∨ hw = 2) (hL : CMl (LCh hw) code) (h : RI code a r m ws 0) : ∃ r', RT S0 30 r m (eRaise hw) r' m (eFinish hw) ∧ RI code a r' m ws 0 ∧ r' 2 = 1 ∧ r' 3 = r 4 := by
  rcases hh with rfl | rfl
  · exact rt_raise0_1 hL h
  · exact rt_raise0_2 hL h
theorem ri_bind (hh : hw = 1 ∨ hw = 2) (hL : CMl (LCh hw) code) (h : RI code a r m ws tr) (hn : ws.length < 990) (h5 : r 5 = 4) (h31 : r 31 = nI (4 * ret)) : ∃ r' m', RT S0 80 r m (eBind hw) r' m' ret ∧ RI code a r' m' (ws ++ [m 144]) tr ∧ ∀ j, j < 5632 → m' j = m j := by
  rcases hh with rfl | rfl
  · exact rt_bind1 hL h hn h5 h31
  · exact rt_bind2 hL h hn h5 h31
theorem sM1 (x : Int32) : x + (-1) = x - 1 := by rw [Int32.sub_eq_add_neg]
theorem ri_div0 {v w : Int32} (hh : hw = 1 ∨ hw = 2) (hL : CMl (LCh hw) code) (h : RI code a r m ((ws ++ [v]) ++ [w]) tr) (hn : ws.length < 990) (hz : ¬ sr w = 0) (h5 : r 5 = 0) (h31 : r 31 = nI (4 * ret)) : ∃ r' m', RT S0 40 r m (eDivide hw) r' m' ret ∧ RI code a r' m' (ws ++ [fdW (sr v) (sr w) * 2 + 1]) tr ∧ ∀ j, j < 5632 → m' j = m j := by
  by_cases c1 : sr v - sr v / sr w * sr w = 0
  · rcases hh with rfl | rfl
    · obtain ⟨r', m', y, k, n⟩ := rt_div1e0 (S0 := S0) hL h hn hz h5 c1 h31
      rw [shl1, ← (dm_0 c1).1] at k
      exact ⟨r', m', y, k, n⟩
    · obtain ⟨r', m', y, k, n⟩ := rt_div2e0 (S0 := S0) hL h hn hz h5 c1 h31
      rw [shl1, ← (dm_0 c1).1] at k
      exact ⟨r', m', y, k, n⟩
  · by_cases c2 : 0 ≤ (sr v - sr v / sr w * sr w) ^^^ sr w
    · rcases hh with rfl | rfl
      · obtain ⟨r', m', y, k, n⟩ := rt_div1s0 (S0 := S0) hL h hn hz h5 c1 c2 h31
        rw [shl1, ← (dm_s (sr_bd v) hz c1 c2).1] at k
        exact ⟨r', m', y, k, n⟩
      · obtain ⟨r', m', y, k, n⟩ := rt_div2s0 (S0 := S0) hL h hn hz h5 c1 c2 h31
        rw [shl1, ← (dm_s (sr_bd v) hz c1 c2).1] at k
        exact ⟨r', m', y, k, n⟩
    · rcases hh with rfl | rfl
      · obtain ⟨r', m', y, k, n⟩ := rt_div1n0 (S0 := S0) hL h hn hz h5 c1 c2 h31
        rw [shl1, sM1, ← (dm_n (sr_bd v) hz c1 c2).1] at k
        exact ⟨r', m', y, k, n⟩
      · obtain ⟨r', m', y, k, n⟩ := rt_div2n0 (S0 := S0) hL h hn hz h5 c1 c2 h31
        rw [shl1, sM1, ← (dm_n (sr_bd v) hz c1 c2).1] at k
        exact ⟨r', m', y, k, n⟩
theorem ri_div1 {v w : Int32} (hh : hw = 1 ∨ hw = 2) (hL : CMl (LCh hw) code) (h : RI code a r m ((ws ++ [v]) ++ [w]) tr) (hn : ws.length < 990) (hz : ¬ sr w = 0) (h5 : r 5 = 1) (h31 : r 31 = nI (4 * ret)) : ∃ r' m', RT S0 40 r m (eDivide hw) r' m' ret ∧ RI code a r' m' (ws ++ [fmW (sr v) (sr w) * 2 + 1]) tr ∧ ∀ j, j < 5632 → m' j = m j := by
  by_cases c1 : sr v - sr v / sr w * sr w = 0
  · rcases hh with rfl | rfl
    · obtain ⟨r', m', y, k, n⟩ := rt_div1e1 (S0 := S0) hL h hn hz h5 c1 h31
      rw [shl1, h.2.1, Int32.add_zero, ← (dm_0 c1).2] at k
      exact ⟨r', m', y, k, n⟩
    · obtain ⟨r', m', y, k, n⟩ := rt_div2e1 (S0 := S0) hL h hn hz h5 c1 h31
      rw [shl1, h.2.1, Int32.add_zero, ← (dm_0 c1).2] at k
      exact ⟨r', m', y, k, n⟩
  · by_cases c2 : 0 ≤ (sr v - sr v / sr w * sr w) ^^^ sr w
    · rcases hh with rfl | rfl
      · obtain ⟨r', m', y, k, n⟩ := rt_div1s1 (S0 := S0) hL h hn hz h5 c1 c2 h31
        rw [shl1, h.2.1, Int32.add_zero, ← (dm_s (sr_bd v) hz c1 c2).2] at k
        exact ⟨r', m', y, k, n⟩
      · obtain ⟨r', m', y, k, n⟩ := rt_div2s1 (S0 := S0) hL h hn hz h5 c1 c2 h31
        rw [shl1, h.2.1, Int32.add_zero, ← (dm_s (sr_bd v) hz c1 c2).2] at k
        exact ⟨r', m', y, k, n⟩
    · rcases hh with rfl | rfl
      · obtain ⟨r', m', y, k, n⟩ := rt_div1n1 (S0 := S0) hL h hn hz h5 c1 c2 h31
        rw [shl1, h.2.1, Int32.add_zero, ← (dm_n (sr_bd v) hz c1 c2).2] at k
        exact ⟨r', m', y, k, n⟩
      · obtain ⟨r', m', y, k, n⟩ := rt_div2n1 (S0 := S0) hL h hn hz h5 c1 c2 h31
        rw [shl1, h.2.1, Int32.add_zero, ← (dm_n (sr_bd v) hz c1 c2).2] at k
        exact ⟨r', m', y, k, n⟩
theorem ri_divZ {v w : Int32} (hh : hw = 1 ∨ hw = 2) (hL : CMl (LCh hw) code) (h : RI code a r m ((ws ++ [v]) ++ [w]) tr) (hn : ws.length < 990) (hz : sr w = 0) : ∃ r', RT S0 40 r m (eDivide hw) r' m (eRaise hw) ∧ RI code a r' m ((ws ++ [v]) ++ [w]) tr ∧ r' 4 = 26 := by
  rcases hh with rfl | rfl
  · exact rt_div0_1 hL h hn hz
  · exact rt_div0_2 hL h hn hz
end
