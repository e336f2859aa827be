/-! Orders run from the code: units, the others. -/
section
variable {S0 : xS} {code r m : Nat → Int32} {a : Int32} {ws : List Int32} {tr n h : Nat} {ad : Int32 → Int32}
set_option maxHeartbeats 4000000 in
set_option maxRecDepth 100000 in
theorem ru_add (hh : h = 1 ∨ h = 2) (hA : ADo ad h) (hL : CMl (LCh h) code) {v x : Int32} (hI : RI code a r m ((ws ++ [v]) ++ [x]) tr) (hn : ws.length < 900) (h2 : n < 200000) (hc : CU code ad n (uAdd (nI h))) : ∃ r' m', RT S0 300 r m (19840 + n) r' m' (19840 + (n + (uAdd (nI h)).1.length)) ∧ RI code a r' m' (ws ++ [v + x - 1]) tr ∧ ∀ j, j < 5632 → m' j = m j := by
  have hb := cu_cb hc
  rcases hh with rfl | rfl
  · have e : uAdd (nI 1) = ([wLw 8 (-8) 16, 0, wLw 9 (-4) 16, 0, wAdd 16 16 (-4), wThree 33 10 8 9, wAdd 10 10 (-1), wSw 10 (-4) 16], []) := if_pos rfl
    rw [e] at hb ⊢
    have hb : CB code (19840 + n) [wLw 8 (-8) 16, 0, wLw 9 (-4) 16, 0, wAdd 16 16 (-4), wThree 33 10 8 9, wAdd 10 10 (-1), wSw 10 (-4) 16] := hb
    rw [show ([wLw 8 (-8) 16, 0, wLw 9 (-4) 16, 0, wAdd 16 16 (-4), wThree 33 10 8 9, wAdd 10 10 (-1), wSw 10 (-4) 16] : List Int32) = [2382954488, 0, 2383020028, 0, 638648316, 17387553, 625672191, 2919956476] from by decide] at hb
    exact oxadd1 hL hI hn (by omega) (by omega) hb
  · have e : uAdd (nI 2) = ([wLw 8 (-8) 16, wLw 9 (-4) 16, wAdd 16 16 (-4), wThree 33 10 8 9, wAdd 10 10 (-1), wSw 10 (-4) 16], []) := if_neg (by decide)
    rw [e] at hb ⊢
    have hb : CB code (19840 + n) [wLw 8 (-8) 16, wLw 9 (-4) 16, wAdd 16 16 (-4), wThree 33 10 8 9, wAdd 10 10 (-1), wSw 10 (-4) 16] := hb
    rw [show ([wLw 8 (-8) 16, wLw 9 (-4) 16, wAdd 16 16 (-4), wThree 33 10 8 9, wAdd 10 10 (-1), wSw 10 (-4) 16] : List Int32) = [2382954488, 2383020028, 638648316, 17387553, 625672191, 2919956476] from by decide] at hb
    exact oxadd2 hL hI hn (by omega) (by omega) hb
set_option maxHeartbeats 4000000 in
set_option maxRecDepth 100000 in
theorem ru_sub (hh : h = 1 ∨ h = 2) (hA : ADo ad h) (hL : CMl (LCh h) code) {v x : Int32} (hI : RI code a r m ((ws ++ [v]) ++ [x]) tr) (hn : ws.length < 900) (h2 : n < 200000) (hc : CU code ad n (uSub (nI h))) : ∃ r' m', RT S0 300 r m (19840 + n) r' m' (19840 + (n + (uSub (nI h)).1.length)) ∧ RI code a r' m' (ws ++ [v - x + 1]) tr ∧ ∀ j, j < 5632 → m' j = m j := by
  have hb := cu_cb hc
  rcases hh with rfl | rfl
  · have e : uSub (nI 1) = ([wLw 8 (-8) 16, 0, wLw 9 (-4) 16, 0, wAdd 16 16 (-4), wThree 35 10 8 9, wAdd 10 10 1, wSw 10 (-4) 16], []) := if_pos rfl
    rw [e] at hb ⊢
    have hb : CB code (19840 + n) [wLw 8 (-8) 16, 0, wLw 9 (-4) 16, 0, wAdd 16 16 (-4), wThree 35 10 8 9, wAdd 10 10 1, wSw 10 (-4) 16] := hb
    rw [show ([wLw 8 (-8) 16, 0, wLw 9 (-4) 16, 0, wAdd 16 16 (-4), wThree 35 10 8 9, wAdd 10 10 1, wSw 10 (-4) 16] : List Int32) = [2382954488, 0, 2383020028, 0, 638648316, 17387555, 625606657, 2919956476] from by decide] at hb
    exact oxsub1 hL hI hn (by omega) (by omega) hb
  · have e : uSub (nI 2) = ([wLw 8 (-8) 16, wLw 9 (-4) 16, wAdd 16 16 (-4), wThree 35 10 8 9, wAdd 10 10 1, wSw 10 (-4) 16], []) := if_neg (by decide)
    rw [e] at hb ⊢
    have hb : CB code (19840 + n) [wLw 8 (-8) 16, wLw 9 (-4) 16, wAdd 16 16 (-4), wThree 35 10 8 9, wAdd 10 10 1, wSw 10 (-4) 16] := hb
    rw [show ([wLw 8 (-8) 16, wLw 9 (-4) 16, wAdd 16 16 (-4), wThree 35 10 8 9, wAdd 10 10 1, wSw 10 (-4) 16] : List Int32) = [2382954488, 2383020028, 638648316, 17387555, 625606657, 2919956476] from by decide] at hb
    exact oxsub2 hL hI hn (by omega) (by omega) hb
set_option maxHeartbeats 4000000 in
set_option maxRecDepth 100000 in
theorem ru_mul (hh : h = 1 ∨ h = 2) (hA : ADo ad h) (hL : CMl (LCh h) code) {v x : Int32} (hI : RI code a r m ((ws ++ [v]) ++ [x]) tr) (hn : ws.length < 900) (h2 : n < 200000) (hc : CU code ad n (uMul (nI h))) : ∃ r' m', RT S0 300 r m (19840 + n) r' m' (19840 + (n + (uMul (nI h)).1.length)) ∧ RI code a r' m' (ws ++ [(v - 1) * sr x + 1]) tr ∧ ∀ j, j < 5632 → m' j = m j := by
  have hb := cu_cb hc
  rcases hh with rfl | rfl
  · have e : uMul (nI 1) = ([wLw 8 (-8) 16, 0, wLw 9 (-4) 16, 0, wAdd 16 16 (-4), wAdd 8 8 (-1), wShift 3 9 9 1, wThree 24 0 8 9, wThree 18 10 0 0, wAdd 10 10 1, wSw 10 (-4) 16], []) := if_pos rfl
    rw [e] at hb ⊢
    have hb : CB code (19840 + n) [wLw 8 (-8) 16, 0, wLw 9 (-4) 16, 0, wAdd 16 16 (-4), wAdd 8 8 (-1), wShift 3 9 9 1, wThree 24 0 8 9, wThree 18 10 0 0, wAdd 10 10 1, wSw 10 (-4) 16] := hb
    rw [show ([wLw 8 (-8) 16, 0, wLw 9 (-4) 16, 0, wAdd 16 16 (-4), wAdd 8 8 (-1), wShift 3 9 9 1, wThree 24 0 8 9, wThree 18 10 0 0, wAdd 10 10 1, wSw 10 (-4) 16] : List Int32) = [2382954488, 0, 2383020028, 0, 638648316, 621346815, 608323, 17367064, 20498, 625606657, 2919956476] from by decide] at hb
    exact oxmul1 hL hI hn (by omega) (by omega) hb
  · have e : uMul (nI 2) = ([wLw 8 (-8) 16, wLw 9 (-4) 16, wAdd 16 16 (-4), wAdd 8 8 (-1), wShift 3 9 9 1, wThree 24 0 8 9, wThree 18 10 0 0, wAdd 10 10 1, wSw 10 (-4) 16], []) := if_neg (by decide)
    rw [e] at hb ⊢
    have hb : CB code (19840 + n) [wLw 8 (-8) 16, wLw 9 (-4) 16, wAdd 16 16 (-4), wAdd 8 8 (-1), wShift 3 9 9 1, wThree 24 0 8 9, wThree 18 10 0 0, wAdd 10 10 1, wSw 10 (-4) 16] := hb
    rw [show ([wLw 8 (-8) 16, wLw 9 (-4) 16, wAdd 16 16 (-4), wAdd 8 8 (-1), wShift 3 9 9 1, wThree 24 0 8 9, wThree 18 10 0 0, wAdd 10 10 1, wSw 10 (-4) 16] : List Int32) = [2382954488, 2383020028, 638648316, 621346815, 608323, 17367064, 20498, 625606657, 2919956476] from by decide] at hb
    exact oxmul2 hL hI hn (by omega) (by omega) hb
set_option maxHeartbeats 4000000 in
set_option maxRecDepth 100000 in
theorem ru_div0 (hh : h = 1 ∨ h = 2) (hA : ADo ad h) (hL : CMl (LCh h) code) {v x : Int32} (hI : RI code a r m ((ws ++ [v]) ++ [x]) tr) (hn : ws.length < 900) (h2 : n < 200000) (hc : CU code ad n (uDv (nI h) 0)) : (¬ sr x = 0 → ∃ r' m', RT S0 300 r m (19840 + n) r' m' (19840 + (n + (uDv (nI h) 0).1.length)) ∧ RI code a r' m' (ws ++ [fdW (sr v) (sr x) * 2 + 1]) tr ∧ ∀ j, j < 5632 → m' j = m j) ∧ (sr x = 0 → ∃ r', RT S0 300 r m (19840 + n) r' m (eRaise h) ∧ RI code a r' m ((ws ++ [v]) ++ [x]) tr ∧ r' 4 = 26) := by
  have hb := cu_cb hc
  have a1 := hA.2.2.1
  rcases hh with rfl | rfl
  · have e : uDv (nI 1) 0 = ([wSet 5 0, wJal, 0], [(1, 65549)]) := if_pos rfl
    rw [e] at hb ⊢
    have hb : CB code (19840 + n) [wSet 5 0, clW (ad 65549) (nI (19840 + (n + 1))) wJal, 0] := hb
    rw [a1, clW_jal (by decide), show wSet 5 0 = 604307456 from by decide] at hb
    exact oxdiv0_1 hL hI hn (by omega) (by omega) hb
  · have e : uDv (nI 2) 0 = ([wJal, wSet 5 0], [(0, 65549)]) := if_neg (by decide)
    rw [e] at hb ⊢
    have hb : CB code (19840 + n) [clW (ad 65549) (nI (19840 + (n + 0))) wJal, wSet 5 0] := hb
    rw [a1, clW_jal (by decide), show wSet 5 0 = 604307456 from by decide] at hb
    exact oxdiv0_2 hL hI hn (by omega) (by omega) hb
set_option maxHeartbeats 4000000 in
set_option maxRecDepth 100000 in
theorem ru_div1 (hh : h = 1 ∨ h = 2) (hA : ADo ad h) (hL : CMl (LCh h) code) {v x : Int32} (hI : RI code a r m ((ws ++ [v]) ++ [x]) tr) (hn : ws.length < 900) (h2 : n < 200000) (hc : CU code ad n (uDv (nI h) 1)) : (¬ sr x = 0 → ∃ r' m', RT S0 300 r m (19840 + n) r' m' (19840 + (n + (uDv (nI h) 1).1.length)) ∧ RI code a r' m' (ws ++ [fmW (sr v) (sr x) * 2 + 1]) tr ∧ ∀ j, j < 5632 → m' j = m j) ∧ (sr x = 0 → ∃ r', RT S0 300 r m (19840 + n) r' m (eRaise h) ∧ RI code a r' m ((ws ++ [v]) ++ [x]) tr ∧ r' 4 = 26) := by
  have hb := cu_cb hc
  have a1 := hA.2.2.1
  rcases hh with rfl | rfl
  · have e : uDv (nI 1) 1 = ([wSet 5 1, wJal, 0], [(1, 65549)]) := if_pos rfl
    rw [e] at hb ⊢
    have hb : CB code (19840 + n) [wSet 5 1, clW (ad 65549) (nI (19840 + (n + 1))) wJal, 0] := hb
    rw [a1, clW_jal (by decide), show wSet 5 1 = 604307457 from by decide] at hb
    exact oxdiv1_1 hL hI hn (by omega) (by omega) hb
  · have e : uDv (nI 2) 1 = ([wJal, wSet 5 1], [(0, 65549)]) := if_neg (by decide)
    rw [e] at hb ⊢
    have hb : CB code (19840 + n) [clW (ad 65549) (nI (19840 + (n + 0))) wJal, wSet 5 1] := hb
    rw [a1, clW_jal (by decide), show wSet 5 1 = 604307457 from by decide] at hb
    exact oxdiv1_2 hL hI hn (by omega) (by omega) hb
set_option maxHeartbeats 4000000 in
set_option maxRecDepth 100000 in
theorem ru_8 (hh : h = 1 ∨ h = 2) (hA : ADo ad h) (hL : CMl (LCh h) code) {l : Int32} {L : Nat} (hl : ad l = nI L) (hLL : L < 1000000) (hI : RI code a r m ws tr) (hn : ws.length < 900) (h2 : n < 200000) (hc : CU code ad n (u8 l)) : RT S0 30 r m (19840 + n) r m L := by
  have hb : CB code (19840 + n) [clW (ad l) (nI (19840 + (n + 0))) wJ, 0] := cu_cb hc
  rw [hl, clW_j (by omega)] at hb
  rcases hh with rfl | rfl
  · exact ox8_1 hL hI hn (by omega) (by omega) hLL hb
  · exact ox8_2 hL hI hn (by omega) (by omega) hLL hb
set_option maxHeartbeats 4000000 in
set_option maxRecDepth 100000 in
theorem ru_25 (hh : h = 1 ∨ h = 2) (hA : ADo ad h) (hL : CMl (LCh h) code) {p : Nat} {v : Int32} (hI : RI code a r m ws tr) (hn : ws.length < 900) (h2 : n < 200000) (hp : ws[p]? = some v) (hc : CU code ad n (u25 p)) : ∃ r' m', RT S0 30 r m (19840 + n) r' m' (19840 + (n + (u25 p).1.length)) ∧ RI code a r' m' ws tr ∧ m' 16 = v := by
  have hb : CB code (19840 + n) [wLw 8 (nI p * 4) 17, 0, wSw 8 64 0] := cu_cb hc
  have hpl : p < 1000 := by have := (List.getElem?_eq_some_iff.mp hp).1; omega
  rw [show wSw 8 64 0 = 2886205504 from by decide] at hb
  rcases hh with rfl | rfl
  · exact ox25_1 hL hI hn (by omega) (by omega) hp hpl hb
  · exact ox25_2 hL hI hn (by omega) (by omega) hp hpl hb
set_option maxHeartbeats 4000000 in
set_option maxRecDepth 100000 in
theorem ru_30 (hh : h = 1 ∨ h = 2) (hA : ADo ad h) (hL : CMl (LCh h) code) (hI : RI code a r m ws tr) (hn : ws.length < 900) (h2 : n < 200000) (hc : CU code ad n u30) : ∃ r' m', RT S0 30 r m (19840 + n) r' m' (19840 + (n + u30.1.length)) ∧ RI code a r' m' ws tr ∧ m' 144 = m 16 := by
  have hb : CB code (19840 + n) [wLw 8 ((16 + 0) * 4) 0, 0, wSw 8 ((144 + 0) * 4) 0] := cu_cb hc
  rw [show wLw 8 ((16 + 0) * 4) 0 = 2349334592 from by decide, show wSw 8 ((144 + 0) * 4) 0 = 2886206016 from by decide] at hb
  rcases hh with rfl | rfl
  · exact ox30_1 hL hI hn (by omega) (by omega) hb
  · exact ox30_2 hL hI hn (by omega) (by omega) hb
set_option maxHeartbeats 4000000 in
set_option maxRecDepth 100000 in
theorem ru_31 (hh : h = 1 ∨ h = 2) (hA : ADo ad h) (hL : CMl (LCh h) code) (hI : RI code a r m ws tr) (hn : ws.length < 900) (h2 : n < 200000) (hc : CU code ad n (u31 (nI h))) : ∃ r' m', RT S0 300 r m (19840 + n) r' m' (19840 + (n + (u31 (nI h)).1.length)) ∧ RI code a r' m' (ws ++ [m 144]) tr ∧ ∀ j, j < 5632 → m' j = m j := by
  have hb := cu_cb hc
  have a1 := hA.2.1
  rcases hh with rfl | rfl
  · have e : u31 (nI 1) = ([wSet 5 (1 * 4), wJal, 0], [(1, 65544)]) := if_pos rfl
    rw [e] at hb ⊢
    have hb : CB code (19840 + n) [wSet 5 (1 * 4), clW (ad 65544) (nI (19840 + (n + 1))) wJal, 0] := hb
    rw [a1, clW_jal (by decide), show wSet 5 (1 * 4) = 604307460 from by decide] at hb
    exact ox31_1 hL hI hn (by omega) (by omega) hb
  · have e : u31 (nI 2) = ([wJal, wSet 5 (1 * 4)], [(0, 65544)]) := if_neg (by decide)
    rw [e] at hb ⊢
    have hb : CB code (19840 + n) [clW (ad 65544) (nI (19840 + (n + 0))) wJal, wSet 5 (1 * 4)] := hb
    rw [a1, clW_jal (by decide), show wSet 5 (1 * 4) = 604307460 from by decide] at hb
    exact ox31_2 hL hI hn (by omega) (by omega) hb
set_option maxHeartbeats 4000000 in
set_option maxRecDepth 100000 in
theorem ru_23 (hh : h = 1 ∨ h = 2) (hA : ADo ad h) (hL : CMl (LCh h) code) {v : Int32} (hI : RI code a r m (ws ++ [v]) tr) (hn : ws.length < 900) (h2 : n < 200000) (hc : CU code ad n (u23 (nI h))) : ∃ r', RT S0 30 r m (19840 + n) r' m (eFinish h) ∧ RI code a r' m (ws ++ [v]) tr ∧ r' 2 = 0 ∧ r' 3 = v := by
  have hb := cu_cb hc
  have a1 := hA.2.2.2.2.2.2
  rcases hh with rfl | rfl
  · have e : u23 (nI 1) = ([wLw 3 (-4) 16, 0, wSet 2 0, wJ, 0], [(3, 65561)]) := if_pos rfl
    rw [e] at hb
    have hb : CB code (19840 + n) [wLw 3 (-4) 16, 0, wSet 2 0, clW (ad 65561) (nI (19840 + (n + 3))) wJ, 0] := hb
    rw [a1, clW_j (by decide), show wLw 3 (-4) 16 = 2382626812 from by decide, show wSet 2 0 = 604110848 from by decide] at hb
    exact ox23_1 hL hI hn (by omega) (by omega) hb
  · have e : u23 (nI 2) = ([wLw 3 (-4) 16, wJ, wSet 2 0], [(1, 65561)]) := if_neg (by decide)
    rw [e] at hb
    have hb : CB code (19840 + n) [wLw 3 (-4) 16, clW (ad 65561) (nI (19840 + (n + 1))) wJ, wSet 2 0] := hb
    rw [a1, clW_j (by decide), show wLw 3 (-4) 16 = 2382626812 from by decide, show wSet 2 0 = 604110848 from by decide] at hb
    exact ox23_2 hL hI hn (by omega) (by omega) hb
end
