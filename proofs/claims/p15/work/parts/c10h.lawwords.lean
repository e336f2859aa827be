/-! The classes' words, by their places. -/
set_option maxRecDepth 100000 in
theorem mX0 : ∀ k, k < 10 → u_lay RX0 TX0 k ∈ lw_tbl
  | 0, _ => itb_3 _ (List.mem_of_getElem? (i := 102) rfl)
  | 1, _ => itb_3 _ (List.mem_of_getElem? (i := 104) rfl)
  | 2, _ => itb_3 _ (List.mem_of_getElem? (i := 106) rfl)
  | 3, _ => itb_3 _ (List.mem_of_getElem? (i := 108) rfl)
  | 4, _ => itb_3 _ (List.mem_of_getElem? (i := 110) rfl)
  | 5, _ => itb_3 _ (List.mem_of_getElem? (i := 112) rfl)
  | 6, _ => itb_3 _ (List.mem_of_getElem? (i := 114) rfl)
  | 7, _ => itb_3 _ (List.mem_of_getElem? (i := 116) rfl)
  | 8, _ => itb_3 _ (List.mem_of_getElem? (i := 118) rfl)
  | 9, _ => itb_3 _ (List.mem_of_getElem? (i := 120) rfl)
  | k + 10, h => absurd h (by omega)
theorem cin0 : ∀ w ∈ wsX00, w ∈ lw_tbl := fun w h => by
  obtain ⟨k, hk, rfl⟩ := List.mem_map.mp h
  exact mX0 k (List.mem_range.mp hk)
set_option maxRecDepth 100000 in
theorem mX1 : ∀ k, k < 19 → u_lay RX1 TX1 k ∈ lw_tbl
  | 0, _ => itb_2 _ (List.mem_of_getElem? (i := 139) rfl)
  | 1, _ => itb_2 _ (List.mem_of_getElem? (i := 141) rfl)
  | 2, _ => itb_2 _ (List.mem_of_getElem? (i := 143) rfl)
  | 3, _ => itb_2 _ (List.mem_of_getElem? (i := 145) rfl)
  | 4, _ => itb_2 _ (List.mem_of_getElem? (i := 147) rfl)
  | 5, _ => itb_2 _ (List.mem_of_getElem? (i := 149) rfl)
  | 6, _ => itb_2 _ (List.mem_of_getElem? (i := 151) rfl)
  | 7, _ => itb_2 _ (List.mem_of_getElem? (i := 153) rfl)
  | 8, _ => itb_2 _ (List.mem_of_getElem? (i := 155) rfl)
  | 9, _ => itb_2 _ (List.mem_of_getElem? (i := 157) rfl)
  | 10, _ => itb_2 _ (List.mem_of_getElem? (i := 159) rfl)
  | 11, _ => itb_2 _ (List.mem_of_getElem? (i := 161) rfl)
  | 12, _ => itb_2 _ (List.mem_of_getElem? (i := 163) rfl)
  | 13, _ => itb_2 _ (List.mem_of_getElem? (i := 165) rfl)
  | 14, _ => itb_2 _ (List.mem_of_getElem? (i := 167) rfl)
  | 15, _ => itb_2 _ (List.mem_of_getElem? (i := 169) rfl)
  | 16, _ => itb_2 _ (List.mem_of_getElem? (i := 171) rfl)
  | 17, _ => itb_2 _ (List.mem_of_getElem? (i := 173) rfl)
  | 18, _ => itb_2 _ (List.mem_of_getElem? (i := 175) rfl)
  | k + 19, h => absurd h (by omega)
theorem cin1 : ∀ w ∈ wsX10, w ∈ lw_tbl := fun w h => by
  obtain ⟨k, hk, rfl⟩ := List.mem_map.mp h
  exact mX1 k (List.mem_range.mp hk)
set_option maxRecDepth 100000 in
theorem mX2 : ∀ k, k < 20 → u_lay RX2 TX2 k ∈ lw_tbl
  | 0, _ => itb_2 _ (List.mem_of_getElem? (i := 212) rfl)
  | 1, _ => itb_2 _ (List.mem_of_getElem? (i := 214) rfl)
  | 2, _ => itb_2 _ (List.mem_of_getElem? (i := 216) rfl)
  | 3, _ => itb_2 _ (List.mem_of_getElem? (i := 218) rfl)
  | 4, _ => itb_2 _ (List.mem_of_getElem? (i := 220) rfl)
  | 5, _ => itb_2 _ (List.mem_of_getElem? (i := 222) rfl)
  | 6, _ => itb_2 _ (List.mem_of_getElem? (i := 224) rfl)
  | 7, _ => itb_2 _ (List.mem_of_getElem? (i := 226) rfl)
  | 8, _ => itb_2 _ (List.mem_of_getElem? (i := 228) rfl)
  | 9, _ => itb_2 _ (List.mem_of_getElem? (i := 230) rfl)
  | 10, _ => itb_2 _ (List.mem_of_getElem? (i := 232) rfl)
  | 11, _ => itb_2 _ (List.mem_of_getElem? (i := 234) rfl)
  | 12, _ => itb_2 _ (List.mem_of_getElem? (i := 236) rfl)
  | 13, _ => itb_2 _ (List.mem_of_getElem? (i := 238) rfl)
  | 14, _ => itb_3 _ (List.mem_of_getElem? (i := 0) rfl)
  | 15, _ => itb_3 _ (List.mem_of_getElem? (i := 2) rfl)
  | 16, _ => itb_3 _ (List.mem_of_getElem? (i := 4) rfl)
  | 17, _ => itb_3 _ (List.mem_of_getElem? (i := 6) rfl)
  | 18, _ => itb_3 _ (List.mem_of_getElem? (i := 8) rfl)
  | 19, _ => itb_3 _ (List.mem_of_getElem? (i := 10) rfl)
  | k + 20, h => absurd h (by omega)
theorem cin2 : ∀ w ∈ wsX20, w ∈ lw_tbl := fun w h => by
  obtain ⟨k, hk, rfl⟩ := List.mem_map.mp h
  exact mX2 k (List.mem_range.mp hk)
set_option maxRecDepth 100000 in
theorem mX3 : ∀ k, k < 4 → u_lay RX3 TX3 k ∈ lw_tbl
  | 0, _ => itb_3 _ (List.mem_of_getElem? (i := 137) rfl)
  | 1, _ => itb_3 _ (List.mem_of_getElem? (i := 139) rfl)
  | 2, _ => itb_3 _ (List.mem_of_getElem? (i := 141) rfl)
  | 3, _ => itb_3 _ (List.mem_of_getElem? (i := 143) rfl)
  | k + 4, h => absurd h (by omega)
theorem cin3 : ∀ w ∈ wsX30, w ∈ lw_tbl := fun w h => by
  obtain ⟨k, hk, rfl⟩ := List.mem_map.mp h
  exact mX3 k (List.mem_range.mp hk)
set_option maxRecDepth 100000 in
theorem mX4 : ∀ k, k < 18 → u_lay RX4 TX4 k ∈ lw_tbl
  | 0, _ => itb_1 _ (List.mem_of_getElem? (i := 129) rfl)
  | 1, _ => itb_1 _ (List.mem_of_getElem? (i := 131) rfl)
  | 2, _ => itb_1 _ (List.mem_of_getElem? (i := 133) rfl)
  | 3, _ => itb_1 _ (List.mem_of_getElem? (i := 135) rfl)
  | 4, _ => itb_1 _ (List.mem_of_getElem? (i := 137) rfl)
  | 5, _ => itb_1 _ (List.mem_of_getElem? (i := 139) rfl)
  | 6, _ => itb_1 _ (List.mem_of_getElem? (i := 141) rfl)
  | 7, _ => itb_1 _ (List.mem_of_getElem? (i := 143) rfl)
  | 8, _ => itb_1 _ (List.mem_of_getElem? (i := 145) rfl)
  | 9, _ => itb_1 _ (List.mem_of_getElem? (i := 147) rfl)
  | 10, _ => itb_1 _ (List.mem_of_getElem? (i := 149) rfl)
  | 11, _ => itb_1 _ (List.mem_of_getElem? (i := 151) rfl)
  | 12, _ => itb_1 _ (List.mem_of_getElem? (i := 153) rfl)
  | 13, _ => itb_1 _ (List.mem_of_getElem? (i := 155) rfl)
  | 14, _ => itb_1 _ (List.mem_of_getElem? (i := 157) rfl)
  | 15, _ => itb_1 _ (List.mem_of_getElem? (i := 159) rfl)
  | 16, _ => itb_1 _ (List.mem_of_getElem? (i := 161) rfl)
  | 17, _ => itb_1 _ (List.mem_of_getElem? (i := 163) rfl)
  | k + 18, h => absurd h (by omega)
theorem cin4 : ∀ w ∈ wsX40, w ∈ lw_tbl := fun w h => by
  obtain ⟨k, hk, rfl⟩ := List.mem_map.mp h
  exact mX4 k (List.mem_range.mp hk)
set_option maxRecDepth 100000 in
theorem mX5 : ∀ k, k < 1 → u_lay RX5 TX5 k ∈ lw_tbl
  | 0, _ => itb_3 _ (List.mem_of_getElem? (i := 130) rfl)
  | k + 1, h => absurd h (by omega)
theorem cin5 : ∀ w ∈ wsX50, w ∈ lw_tbl := fun w h => by
  obtain ⟨k, hk, rfl⟩ := List.mem_map.mp h
  exact mX5 k (List.mem_range.mp hk)
set_option maxRecDepth 100000 in
theorem mX6 : ∀ k, k < 19 → u_lay RX6 TX6 k ∈ lw_tbl
  | 0, _ => itb_3 _ (List.mem_of_getElem? (i := 38) rfl)
  | 1, _ => itb_3 _ (List.mem_of_getElem? (i := 40) rfl)
  | 2, _ => itb_3 _ (List.mem_of_getElem? (i := 42) rfl)
  | 3, _ => itb_3 _ (List.mem_of_getElem? (i := 44) rfl)
  | 4, _ => itb_3 _ (List.mem_of_getElem? (i := 46) rfl)
  | 5, _ => itb_3 _ (List.mem_of_getElem? (i := 48) rfl)
  | 6, _ => itb_3 _ (List.mem_of_getElem? (i := 50) rfl)
  | 7, _ => itb_3 _ (List.mem_of_getElem? (i := 52) rfl)
  | 8, _ => itb_3 _ (List.mem_of_getElem? (i := 54) rfl)
  | 9, _ => itb_3 _ (List.mem_of_getElem? (i := 56) rfl)
  | 10, _ => itb_3 _ (List.mem_of_getElem? (i := 58) rfl)
  | 11, _ => itb_3 _ (List.mem_of_getElem? (i := 60) rfl)
  | 12, _ => itb_3 _ (List.mem_of_getElem? (i := 62) rfl)
  | 13, _ => itb_3 _ (List.mem_of_getElem? (i := 64) rfl)
  | 14, _ => itb_3 _ (List.mem_of_getElem? (i := 66) rfl)
  | 15, _ => itb_3 _ (List.mem_of_getElem? (i := 68) rfl)
  | 16, _ => itb_3 _ (List.mem_of_getElem? (i := 70) rfl)
  | 17, _ => itb_3 _ (List.mem_of_getElem? (i := 72) rfl)
  | 18, _ => itb_3 _ (List.mem_of_getElem? (i := 74) rfl)
  | k + 19, h => absurd h (by omega)
theorem cin6 : ∀ w ∈ wsX60, w ∈ lw_tbl := fun w h => by
  obtain ⟨k, hk, rfl⟩ := List.mem_map.mp h
  exact mX6 k (List.mem_range.mp hk)
set_option maxRecDepth 100000 in
theorem mX7 : ∀ k, k < 13 → u_lay RX7 TX7 k ∈ lw_tbl
  | 0, _ => itb_2 _ (List.mem_of_getElem? (i := 84) rfl)
  | 1, _ => itb_2 _ (List.mem_of_getElem? (i := 86) rfl)
  | 2, _ => itb_2 _ (List.mem_of_getElem? (i := 88) rfl)
  | 3, _ => itb_2 _ (List.mem_of_getElem? (i := 90) rfl)
  | 4, _ => itb_2 _ (List.mem_of_getElem? (i := 92) rfl)
  | 5, _ => itb_2 _ (List.mem_of_getElem? (i := 94) rfl)
  | 6, _ => itb_2 _ (List.mem_of_getElem? (i := 96) rfl)
  | 7, _ => itb_2 _ (List.mem_of_getElem? (i := 98) rfl)
  | 8, _ => itb_2 _ (List.mem_of_getElem? (i := 100) rfl)
  | 9, _ => itb_2 _ (List.mem_of_getElem? (i := 102) rfl)
  | 10, _ => itb_2 _ (List.mem_of_getElem? (i := 104) rfl)
  | 11, _ => itb_2 _ (List.mem_of_getElem? (i := 106) rfl)
  | 12, _ => itb_2 _ (List.mem_of_getElem? (i := 108) rfl)
  | k + 13, h => absurd h (by omega)
theorem cin7 : ∀ w ∈ wsX70, w ∈ lw_tbl := fun w h => by
  obtain ⟨k, hk, rfl⟩ := List.mem_map.mp h
  exact mX7 k (List.mem_range.mp hk)
set_option maxRecDepth 100000 in
theorem mX8 : ∀ k, k < 10 → u_lay RX8 TX8 k ∈ lw_tbl
  | 0, _ => itb_3 _ (List.mem_of_getElem? (i := 162) rfl)
  | 1, _ => itb_3 _ (List.mem_of_getElem? (i := 164) rfl)
  | 2, _ => itb_3 _ (List.mem_of_getElem? (i := 166) rfl)
  | 3, _ => itb_3 _ (List.mem_of_getElem? (i := 168) rfl)
  | 4, _ => itb_3 _ (List.mem_of_getElem? (i := 170) rfl)
  | 5, _ => itb_3 _ (List.mem_of_getElem? (i := 172) rfl)
  | 6, _ => itb_3 _ (List.mem_of_getElem? (i := 174) rfl)
  | 7, _ => itb_3 _ (List.mem_of_getElem? (i := 176) rfl)
  | 8, _ => itb_3 _ (List.mem_of_getElem? (i := 178) rfl)
  | 9, _ => itb_3 _ (List.mem_of_getElem? (i := 180) rfl)
  | k + 10, h => absurd h (by omega)
theorem cin8 : ∀ w ∈ wsX80, w ∈ lw_tbl := fun w h => by
  obtain ⟨k, hk, rfl⟩ := List.mem_map.mp h
  exact mX8 k (List.mem_range.mp hk)
set_option maxRecDepth 100000 in
theorem mX9 : ∀ k, k < 17 → u_lay RX9 TX9 k ∈ lw_tbl
  | 0, _ => itb_2 _ (List.mem_of_getElem? (i := 18) rfl)
  | 1, _ => itb_2 _ (List.mem_of_getElem? (i := 20) rfl)
  | 2, _ => itb_2 _ (List.mem_of_getElem? (i := 22) rfl)
  | 3, _ => itb_2 _ (List.mem_of_getElem? (i := 24) rfl)
  | 4, _ => itb_2 _ (List.mem_of_getElem? (i := 26) rfl)
  | 5, _ => itb_2 _ (List.mem_of_getElem? (i := 28) rfl)
  | 6, _ => itb_2 _ (List.mem_of_getElem? (i := 30) rfl)
  | 7, _ => itb_2 _ (List.mem_of_getElem? (i := 32) rfl)
  | 8, _ => itb_2 _ (List.mem_of_getElem? (i := 34) rfl)
  | 9, _ => itb_2 _ (List.mem_of_getElem? (i := 36) rfl)
  | 10, _ => itb_2 _ (List.mem_of_getElem? (i := 38) rfl)
  | 11, _ => itb_2 _ (List.mem_of_getElem? (i := 40) rfl)
  | 12, _ => itb_2 _ (List.mem_of_getElem? (i := 42) rfl)
  | 13, _ => itb_2 _ (List.mem_of_getElem? (i := 44) rfl)
  | 14, _ => itb_2 _ (List.mem_of_getElem? (i := 46) rfl)
  | 15, _ => itb_2 _ (List.mem_of_getElem? (i := 48) rfl)
  | 16, _ => itb_2 _ (List.mem_of_getElem? (i := 50) rfl)
  | k + 17, h => absurd h (by omega)
theorem cin9 : ∀ w ∈ wsX90, w ∈ lw_tbl := fun w h => by
  obtain ⟨k, hk, rfl⟩ := List.mem_map.mp h
  exact mX9 k (List.mem_range.mp hk)
set_option maxRecDepth 100000 in
theorem mX10 : ∀ k, k < 16 → u_lay RX10 TX10 k ∈ lw_tbl
  | 0, _ => itb_1 _ (List.mem_of_getElem? (i := 195) rfl)
  | 1, _ => itb_1 _ (List.mem_of_getElem? (i := 197) rfl)
  | 2, _ => itb_1 _ (List.mem_of_getElem? (i := 199) rfl)
  | 3, _ => itb_1 _ (List.mem_of_getElem? (i := 201) rfl)
  | 4, _ => itb_1 _ (List.mem_of_getElem? (i := 203) rfl)
  | 5, _ => itb_1 _ (List.mem_of_getElem? (i := 205) rfl)
  | 6, _ => itb_1 _ (List.mem_of_getElem? (i := 207) rfl)
  | 7, _ => itb_1 _ (List.mem_of_getElem? (i := 209) rfl)
  | 8, _ => itb_1 _ (List.mem_of_getElem? (i := 211) rfl)
  | 9, _ => itb_1 _ (List.mem_of_getElem? (i := 213) rfl)
  | 10, _ => itb_1 _ (List.mem_of_getElem? (i := 215) rfl)
  | 11, _ => itb_1 _ (List.mem_of_getElem? (i := 217) rfl)
  | 12, _ => itb_1 _ (List.mem_of_getElem? (i := 219) rfl)
  | 13, _ => itb_1 _ (List.mem_of_getElem? (i := 221) rfl)
  | 14, _ => itb_1 _ (List.mem_of_getElem? (i := 223) rfl)
  | 15, _ => itb_1 _ (List.mem_of_getElem? (i := 225) rfl)
  | k + 16, h => absurd h (by omega)
theorem cin10 : ∀ w ∈ wsX100, w ∈ lw_tbl := fun w h => by
  obtain ⟨k, hk, rfl⟩ := List.mem_map.mp h
  exact mX10 k (List.mem_range.mp hk)
set_option maxRecDepth 100000 in
theorem mX11 : ∀ k, k < 11 → u_lay RX11 TX11 k ∈ lw_tbl
  | 0, _ => itb_3 _ (List.mem_of_getElem? (i := 201) rfl)
  | 1, _ => itb_3 _ (List.mem_of_getElem? (i := 203) rfl)
  | 2, _ => itb_3 _ (List.mem_of_getElem? (i := 205) rfl)
  | 3, _ => itb_3 _ (List.mem_of_getElem? (i := 207) rfl)
  | 4, _ => itb_3 _ (List.mem_of_getElem? (i := 209) rfl)
  | 5, _ => itb_3 _ (List.mem_of_getElem? (i := 211) rfl)
  | 6, _ => itb_3 _ (List.mem_of_getElem? (i := 213) rfl)
  | 7, _ => itb_3 _ (List.mem_of_getElem? (i := 215) rfl)
  | 8, _ => itb_3 _ (List.mem_of_getElem? (i := 217) rfl)
  | 9, _ => itb_3 _ (List.mem_of_getElem? (i := 219) rfl)
  | 10, _ => itb_3 _ (List.mem_of_getElem? (i := 221) rfl)
  | k + 11, h => absurd h (by omega)
theorem cin11 : ∀ w ∈ wsX110, w ∈ lw_tbl := fun w h => by
  obtain ⟨k, hk, rfl⟩ := List.mem_map.mp h
  exact mX11 k (List.mem_range.mp hk)
set_option maxRecDepth 100000 in
theorem mX12 : ∀ k, k < 20 → u_lay RX12 TX12 k ∈ lw_tbl
  | 0, _ => itb_4 _ (List.mem_of_getElem? (i := 4) rfl)
  | 1, _ => itb_4 _ (List.mem_of_getElem? (i := 6) rfl)
  | 2, _ => itb_4 _ (List.mem_of_getElem? (i := 8) rfl)
  | 3, _ => itb_4 _ (List.mem_of_getElem? (i := 10) rfl)
  | 4, _ => itb_4 _ (List.mem_of_getElem? (i := 12) rfl)
  | 5, _ => itb_4 _ (List.mem_of_getElem? (i := 14) rfl)
  | 6, _ => itb_4 _ (List.mem_of_getElem? (i := 16) rfl)
  | 7, _ => itb_4 _ (List.mem_of_getElem? (i := 18) rfl)
  | 8, _ => itb_4 _ (List.mem_of_getElem? (i := 20) rfl)
  | 9, _ => itb_4 _ (List.mem_of_getElem? (i := 22) rfl)
  | 10, _ => itb_4 _ (List.mem_of_getElem? (i := 24) rfl)
  | 11, _ => itb_4 _ (List.mem_of_getElem? (i := 26) rfl)
  | 12, _ => itb_4 _ (List.mem_of_getElem? (i := 28) rfl)
  | 13, _ => itb_4 _ (List.mem_of_getElem? (i := 30) rfl)
  | 14, _ => itb_4 _ (List.mem_of_getElem? (i := 32) rfl)
  | 15, _ => itb_4 _ (List.mem_of_getElem? (i := 34) rfl)
  | 16, _ => itb_4 _ (List.mem_of_getElem? (i := 36) rfl)
  | 17, _ => itb_4 _ (List.mem_of_getElem? (i := 38) rfl)
  | 18, _ => itb_4 _ (List.mem_of_getElem? (i := 40) rfl)
  | 19, _ => itb_4 _ (List.mem_of_getElem? (i := 42) rfl)
  | k + 20, h => absurd h (by omega)
theorem cin12 : ∀ w ∈ wsX120, w ∈ lw_tbl := fun w h => by
  obtain ⟨k, hk, rfl⟩ := List.mem_map.mp h
  exact mX12 k (List.mem_range.mp hk)
set_option maxRecDepth 100000 in
theorem cinO : ∀ w ∈ wtO, w ∈ lw_tbl := by decide +kernel
theorem cinZA : ∀ w ∈ wtZA, w ∈ lw_tbl := fun w h => (List.mem_append.mp h).elim (fun h => cza_0 w h) (fun h => (List.mem_append.mp h).elim (fun h => cza_1 w h) (fun h => (List.mem_append.mp h).elim (fun h => cza_2 w h) (fun h => (List.mem_append.mp h).elim (fun h => cza_3 w h) (fun h => (List.mem_append.mp h).elim (fun h => cza_4 w h) (fun h => (List.mem_append.mp h).elim (fun h => cza_5 w h) (fun h => (List.mem_append.mp h).elim (fun h => cza_6 w h) (fun h => (List.mem_append.mp h).elim (fun h => cza_7 w h) (fun h => (List.mem_append.mp h).elim (fun h => cza_8 w h) (fun h => (List.mem_append.mp h).elim (fun h => cza_9 w h) (fun h => (List.mem_append.mp h).elim (fun h => cza_10 w h) (fun h => (List.mem_append.mp h).elim (fun h => cza_11 w h) (fun h => (List.mem_append.mp h).elim (fun h => cza_12 w h) (fun h => (List.mem_append.mp h).elim (fun h => cza_13 w h) (fun h => (List.mem_append.mp h).elim (fun h => cza_14 w h) (fun h => (List.mem_append.mp h).elim (fun h => cza_15 w h) (fun h => (List.mem_append.mp h).elim (fun h => cza_16 w h) (fun h => (List.mem_append.mp h).elim (fun h => cza_17 w h) (fun h => (List.mem_append.mp h).elim (fun h => cza_18 w h) (fun h => (List.mem_append.mp h).elim (fun h => cza_19 w h) (fun h => (List.mem_append.mp h).elim (fun h => cza_20 w h) (fun h => (List.mem_append.mp h).elim (fun h => cza_21 w h) (fun h => (List.mem_append.mp h).elim (fun h => cza_22 w h) (fun h => (List.mem_append.mp h).elim (fun h => cza_23 w h) (fun h => (List.mem_append.mp h).elim (fun h => cza_24 w h) (fun h => (List.mem_append.mp h).elim (fun h => cza_25 w h) (fun h => (List.mem_append.mp h).elim (fun h => cza_26 w h) (fun h => (List.mem_append.mp h).elim (fun h => cin0 w h) (fun h => (List.mem_append.mp h).elim (fun h => cin1 w h) (fun h => (List.mem_append.mp h).elim (fun h => cin2 w h) (fun h => (List.mem_append.mp h).elim (fun h => cin3 w h) (fun h => (List.mem_append.mp h).elim (fun h => cin4 w h) (fun h => (List.mem_append.mp h).elim (fun h => cin5 w h) (fun h => (List.mem_append.mp h).elim (fun h => cin6 w h) (fun h => (List.mem_append.mp h).elim (fun h => cin7 w h) (fun h => (List.mem_append.mp h).elim (fun h => cin8 w h) (fun h => (List.mem_append.mp h).elim (fun h => cin9 w h) (fun h => (List.mem_append.mp h).elim (fun h => cin10 w h) (fun h => (List.mem_append.mp h).elim (fun h => cin11 w h) (fun h => cin12 w h)))))))))))))))))))))))))))))))))))))))
