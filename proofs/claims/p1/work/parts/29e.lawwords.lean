set_option maxRecDepth 100000 in
theorem mX4 : ∀ k, k < 18 → u_lay RX4 TX4 k ∈ lw_tbl
  | 0, _ => List.mem_of_getElem? (i := 514) (by decide +kernel)
  | 1, _ => List.mem_of_getElem? (i := 516) (by decide +kernel)
  | 2, _ => List.mem_of_getElem? (i := 518) (by decide +kernel)
  | 3, _ => List.mem_of_getElem? (i := 520) (by decide +kernel)
  | 4, _ => List.mem_of_getElem? (i := 522) (by decide +kernel)
  | 5, _ => List.mem_of_getElem? (i := 524) (by decide +kernel)
  | 6, _ => List.mem_of_getElem? (i := 526) (by decide +kernel)
  | 7, _ => List.mem_of_getElem? (i := 528) (by decide +kernel)
  | 8, _ => List.mem_of_getElem? (i := 530) (by decide +kernel)
  | 9, _ => List.mem_of_getElem? (i := 532) (by decide +kernel)
  | 10, _ => List.mem_of_getElem? (i := 534) (by decide +kernel)
  | 11, _ => List.mem_of_getElem? (i := 536) (by decide +kernel)
  | 12, _ => List.mem_of_getElem? (i := 538) (by decide +kernel)
  | 13, _ => List.mem_of_getElem? (i := 540) (by decide +kernel)
  | 14, _ => List.mem_of_getElem? (i := 542) (by decide +kernel)
  | 15, _ => List.mem_of_getElem? (i := 544) (by decide +kernel)
  | 16, _ => List.mem_of_getElem? (i := 546) (by decide +kernel)
  | 17, _ => List.mem_of_getElem? (i := 548) (by decide +kernel)
  | k + 18, h => absurd h (by omega)
theorem cin4 : ∀ w ∈ wsX40, w ∈ lw_tbl := fun w h => by
  obtain ⟨k, hk, rfl⟩ := List.mem_map.mp h
  exact mX4 k (List.mem_range.mp hk)
set_option maxRecDepth 100000 in
theorem mX10 : ∀ k, k < 16 → u_lay RX10 TX10 k ∈ lw_tbl
  | 0, _ => List.mem_of_getElem? (i := 580) (by decide +kernel)
  | 1, _ => List.mem_of_getElem? (i := 582) (by decide +kernel)
  | 2, _ => List.mem_of_getElem? (i := 584) (by decide +kernel)
  | 3, _ => List.mem_of_getElem? (i := 586) (by decide +kernel)
  | 4, _ => List.mem_of_getElem? (i := 588) (by decide +kernel)
  | 5, _ => List.mem_of_getElem? (i := 590) (by decide +kernel)
  | 6, _ => List.mem_of_getElem? (i := 592) (by decide +kernel)
  | 7, _ => List.mem_of_getElem? (i := 594) (by decide +kernel)
  | 8, _ => List.mem_of_getElem? (i := 596) (by decide +kernel)
  | 9, _ => List.mem_of_getElem? (i := 598) (by decide +kernel)
  | 10, _ => List.mem_of_getElem? (i := 600) (by decide +kernel)
  | 11, _ => List.mem_of_getElem? (i := 602) (by decide +kernel)
  | 12, _ => List.mem_of_getElem? (i := 604) (by decide +kernel)
  | 13, _ => List.mem_of_getElem? (i := 606) (by decide +kernel)
  | 14, _ => List.mem_of_getElem? (i := 608) (by decide +kernel)
  | 15, _ => List.mem_of_getElem? (i := 610) (by decide +kernel)
  | k + 16, h => absurd h (by omega)
theorem cin10 : ∀ w ∈ wsX100, w ∈ lw_tbl := fun w h => by
  obtain ⟨k, hk, rfl⟩ := List.mem_map.mp h
  exact mX10 k (List.mem_range.mp hk)
set_option maxRecDepth 100000 in
theorem mX9 : ∀ k, k < 17 → u_lay RX9 TX9 k ∈ lw_tbl
  | 0, _ => List.mem_of_getElem? (i := 644) (by decide +kernel)
  | 1, _ => List.mem_of_getElem? (i := 646) (by decide +kernel)
  | 2, _ => List.mem_of_getElem? (i := 648) (by decide +kernel)
  | 3, _ => List.mem_of_getElem? (i := 650) (by decide +kernel)
  | 4, _ => List.mem_of_getElem? (i := 652) (by decide +kernel)
  | 5, _ => List.mem_of_getElem? (i := 654) (by decide +kernel)
  | 6, _ => List.mem_of_getElem? (i := 656) (by decide +kernel)
  | 7, _ => List.mem_of_getElem? (i := 658) (by decide +kernel)
  | 8, _ => List.mem_of_getElem? (i := 660) (by decide +kernel)
  | 9, _ => List.mem_of_getElem? (i := 662) (by decide +kernel)
  | 10, _ => List.mem_of_getElem? (i := 664) (by decide +kernel)
  | 11, _ => List.mem_of_getElem? (i := 666) (by decide +kernel)
  | 12, _ => List.mem_of_getElem? (i := 668) (by decide +kernel)
  | 13, _ => List.mem_of_getElem? (i := 670) (by decide +kernel)
  | 14, _ => List.mem_of_getElem? (i := 672) (by decide +kernel)
  | 15, _ => List.mem_of_getElem? (i := 674) (by decide +kernel)
  | 16, _ => List.mem_of_getElem? (i := 676) (by decide +kernel)
  | k + 17, h => absurd h (by omega)
theorem cin9 : ∀ w ∈ wsX90, w ∈ lw_tbl := fun w h => by
  obtain ⟨k, hk, rfl⟩ := List.mem_map.mp h
  exact mX9 k (List.mem_range.mp hk)
set_option maxRecDepth 100000 in
theorem mX7 : ∀ k, k < 13 → u_lay RX7 TX7 k ∈ lw_tbl
  | 0, _ => List.mem_of_getElem? (i := 710) (by decide +kernel)
  | 1, _ => List.mem_of_getElem? (i := 712) (by decide +kernel)
  | 2, _ => List.mem_of_getElem? (i := 714) (by decide +kernel)
  | 3, _ => List.mem_of_getElem? (i := 716) (by decide +kernel)
  | 4, _ => List.mem_of_getElem? (i := 718) (by decide +kernel)
  | 5, _ => List.mem_of_getElem? (i := 720) (by decide +kernel)
  | 6, _ => List.mem_of_getElem? (i := 722) (by decide +kernel)
  | 7, _ => List.mem_of_getElem? (i := 724) (by decide +kernel)
  | 8, _ => List.mem_of_getElem? (i := 726) (by decide +kernel)
  | 9, _ => List.mem_of_getElem? (i := 728) (by decide +kernel)
  | 10, _ => List.mem_of_getElem? (i := 730) (by decide +kernel)
  | 11, _ => List.mem_of_getElem? (i := 732) (by decide +kernel)
  | 12, _ => List.mem_of_getElem? (i := 734) (by decide +kernel)
  | k + 13, h => absurd h (by omega)
theorem cin7 : ∀ w ∈ wsX70, w ∈ lw_tbl := fun w h => by
  obtain ⟨k, hk, rfl⟩ := List.mem_map.mp h
  exact mX7 k (List.mem_range.mp hk)
set_option maxRecDepth 100000 in
theorem mX1 : ∀ k, k < 19 → u_lay RX1 TX1 k ∈ lw_tbl
  | 0, _ => List.mem_of_getElem? (i := 765) (by decide +kernel)
  | 1, _ => List.mem_of_getElem? (i := 767) (by decide +kernel)
  | 2, _ => List.mem_of_getElem? (i := 769) (by decide +kernel)
  | 3, _ => List.mem_of_getElem? (i := 771) (by decide +kernel)
  | 4, _ => List.mem_of_getElem? (i := 773) (by decide +kernel)
  | 5, _ => List.mem_of_getElem? (i := 775) (by decide +kernel)
  | 6, _ => List.mem_of_getElem? (i := 777) (by decide +kernel)
  | 7, _ => List.mem_of_getElem? (i := 779) (by decide +kernel)
  | 8, _ => List.mem_of_getElem? (i := 781) (by decide +kernel)
  | 9, _ => List.mem_of_getElem? (i := 783) (by decide +kernel)
  | 10, _ => List.mem_of_getElem? (i := 785) (by decide +kernel)
  | 11, _ => List.mem_of_getElem? (i := 787) (by decide +kernel)
  | 12, _ => List.mem_of_getElem? (i := 789) (by decide +kernel)
  | 13, _ => List.mem_of_getElem? (i := 791) (by decide +kernel)
  | 14, _ => List.mem_of_getElem? (i := 793) (by decide +kernel)
  | 15, _ => List.mem_of_getElem? (i := 795) (by decide +kernel)
  | 16, _ => List.mem_of_getElem? (i := 797) (by decide +kernel)
  | 17, _ => List.mem_of_getElem? (i := 799) (by decide +kernel)
  | 18, _ => List.mem_of_getElem? (i := 801) (by decide +kernel)
  | k + 19, h => absurd h (by omega)
theorem cin1 : ∀ w ∈ wsX10, w ∈ lw_tbl := fun w h => by
  obtain ⟨k, hk, rfl⟩ := List.mem_map.mp h
  exact mX1 k (List.mem_range.mp hk)
set_option maxRecDepth 100000 in
theorem mX2 : ∀ k, k < 20 → u_lay RX2 TX2 k ∈ lw_tbl
  | 0, _ => List.mem_of_getElem? (i := 838) (by decide +kernel)
  | 1, _ => List.mem_of_getElem? (i := 840) (by decide +kernel)
  | 2, _ => List.mem_of_getElem? (i := 842) (by decide +kernel)
  | 3, _ => List.mem_of_getElem? (i := 844) (by decide +kernel)
  | 4, _ => List.mem_of_getElem? (i := 846) (by decide +kernel)
  | 5, _ => List.mem_of_getElem? (i := 848) (by decide +kernel)
  | 6, _ => List.mem_of_getElem? (i := 850) (by decide +kernel)
  | 7, _ => List.mem_of_getElem? (i := 852) (by decide +kernel)
  | 8, _ => List.mem_of_getElem? (i := 854) (by decide +kernel)
  | 9, _ => List.mem_of_getElem? (i := 856) (by decide +kernel)
  | 10, _ => List.mem_of_getElem? (i := 858) (by decide +kernel)
  | 11, _ => List.mem_of_getElem? (i := 860) (by decide +kernel)
  | 12, _ => List.mem_of_getElem? (i := 862) (by decide +kernel)
  | 13, _ => List.mem_of_getElem? (i := 864) (by decide +kernel)
  | 14, _ => List.mem_of_getElem? (i := 866) (by decide +kernel)
  | 15, _ => List.mem_of_getElem? (i := 868) (by decide +kernel)
  | 16, _ => List.mem_of_getElem? (i := 870) (by decide +kernel)
  | 17, _ => List.mem_of_getElem? (i := 872) (by decide +kernel)
  | 18, _ => List.mem_of_getElem? (i := 874) (by decide +kernel)
  | 19, _ => List.mem_of_getElem? (i := 876) (by decide +kernel)
  | k + 20, h => absurd h (by omega)
theorem cin2 : ∀ w ∈ wsX20, w ∈ lw_tbl := fun w h => by
  obtain ⟨k, hk, rfl⟩ := List.mem_map.mp h
  exact mX2 k (List.mem_range.mp hk)
set_option maxRecDepth 100000 in
theorem mX6 : ∀ k, k < 19 → u_lay RX6 TX6 k ∈ lw_tbl
  | 0, _ => List.mem_of_getElem? (i := 904) (by decide +kernel)
  | 1, _ => List.mem_of_getElem? (i := 906) (by decide +kernel)
  | 2, _ => List.mem_of_getElem? (i := 908) (by decide +kernel)
  | 3, _ => List.mem_of_getElem? (i := 910) (by decide +kernel)
  | 4, _ => List.mem_of_getElem? (i := 912) (by decide +kernel)
  | 5, _ => List.mem_of_getElem? (i := 914) (by decide +kernel)
  | 6, _ => List.mem_of_getElem? (i := 916) (by decide +kernel)
  | 7, _ => List.mem_of_getElem? (i := 918) (by decide +kernel)
  | 8, _ => List.mem_of_getElem? (i := 920) (by decide +kernel)
  | 9, _ => List.mem_of_getElem? (i := 922) (by decide +kernel)
  | 10, _ => List.mem_of_getElem? (i := 924) (by decide +kernel)
  | 11, _ => List.mem_of_getElem? (i := 926) (by decide +kernel)
  | 12, _ => List.mem_of_getElem? (i := 928) (by decide +kernel)
  | 13, _ => List.mem_of_getElem? (i := 930) (by decide +kernel)
  | 14, _ => List.mem_of_getElem? (i := 932) (by decide +kernel)
  | 15, _ => List.mem_of_getElem? (i := 934) (by decide +kernel)
  | 16, _ => List.mem_of_getElem? (i := 936) (by decide +kernel)
  | 17, _ => List.mem_of_getElem? (i := 938) (by decide +kernel)
  | 18, _ => List.mem_of_getElem? (i := 940) (by decide +kernel)
  | k + 19, h => absurd h (by omega)
theorem cin6 : ∀ w ∈ wsX60, w ∈ lw_tbl := fun w h => by
  obtain ⟨k, hk, rfl⟩ := List.mem_map.mp h
  exact mX6 k (List.mem_range.mp hk)
set_option maxRecDepth 100000 in
theorem mX3 : ∀ k, k < 4 → u_lay RX3 TX3 k ∈ lw_tbl
  | 0, _ => List.mem_of_getElem? (i := 1003) (by decide +kernel)
  | 1, _ => List.mem_of_getElem? (i := 1005) (by decide +kernel)
  | 2, _ => List.mem_of_getElem? (i := 1007) (by decide +kernel)
  | 3, _ => List.mem_of_getElem? (i := 1009) (by decide +kernel)
  | k + 4, h => absurd h (by omega)
theorem cin3 : ∀ w ∈ wsX30, w ∈ lw_tbl := fun w h => by
  obtain ⟨k, hk, rfl⟩ := List.mem_map.mp h
  exact mX3 k (List.mem_range.mp hk)
set_option maxRecDepth 100000 in
theorem mX8 : ∀ k, k < 10 → u_lay RX8 TX8 k ∈ lw_tbl
  | 0, _ => List.mem_of_getElem? (i := 1028) (by decide +kernel)
  | 1, _ => List.mem_of_getElem? (i := 1030) (by decide +kernel)
  | 2, _ => List.mem_of_getElem? (i := 1032) (by decide +kernel)
  | 3, _ => List.mem_of_getElem? (i := 1034) (by decide +kernel)
  | 4, _ => List.mem_of_getElem? (i := 1036) (by decide +kernel)
  | 5, _ => List.mem_of_getElem? (i := 1038) (by decide +kernel)
  | 6, _ => List.mem_of_getElem? (i := 1040) (by decide +kernel)
  | 7, _ => List.mem_of_getElem? (i := 1042) (by decide +kernel)
  | 8, _ => List.mem_of_getElem? (i := 1044) (by decide +kernel)
  | 9, _ => List.mem_of_getElem? (i := 1046) (by decide +kernel)
  | k + 10, h => absurd h (by omega)
theorem cin8 : ∀ w ∈ wsX80, w ∈ lw_tbl := fun w h => by
  obtain ⟨k, hk, rfl⟩ := List.mem_map.mp h
  exact mX8 k (List.mem_range.mp hk)
set_option maxRecDepth 100000 in
theorem mX11 : ∀ k, k < 11 → u_lay RX11 TX11 k ∈ lw_tbl
  | 0, _ => List.mem_of_getElem? (i := 1067) (by decide +kernel)
  | 1, _ => List.mem_of_getElem? (i := 1069) (by decide +kernel)
  | 2, _ => List.mem_of_getElem? (i := 1071) (by decide +kernel)
  | 3, _ => List.mem_of_getElem? (i := 1073) (by decide +kernel)
  | 4, _ => List.mem_of_getElem? (i := 1075) (by decide +kernel)
  | 5, _ => List.mem_of_getElem? (i := 1077) (by decide +kernel)
  | 6, _ => List.mem_of_getElem? (i := 1079) (by decide +kernel)
  | 7, _ => List.mem_of_getElem? (i := 1081) (by decide +kernel)
  | 8, _ => List.mem_of_getElem? (i := 1083) (by decide +kernel)
  | 9, _ => List.mem_of_getElem? (i := 1085) (by decide +kernel)
  | 10, _ => List.mem_of_getElem? (i := 1087) (by decide +kernel)
  | k + 11, h => absurd h (by omega)
theorem cin11 : ∀ w ∈ wsX110, w ∈ lw_tbl := fun w h => by
  obtain ⟨k, hk, rfl⟩ := List.mem_map.mp h
  exact mX11 k (List.mem_range.mp hk)
set_option maxRecDepth 100000 in
theorem mX0 : ∀ k, k < 10 → u_lay RX0 TX0 k ∈ lw_tbl
  | 0, _ => List.mem_of_getElem? (i := 968) (by decide +kernel)
  | 1, _ => List.mem_of_getElem? (i := 970) (by decide +kernel)
  | 2, _ => List.mem_of_getElem? (i := 972) (by decide +kernel)
  | 3, _ => List.mem_of_getElem? (i := 974) (by decide +kernel)
  | 4, _ => List.mem_of_getElem? (i := 976) (by decide +kernel)
  | 5, _ => List.mem_of_getElem? (i := 978) (by decide +kernel)
  | 6, _ => List.mem_of_getElem? (i := 980) (by decide +kernel)
  | 7, _ => List.mem_of_getElem? (i := 982) (by decide +kernel)
  | 8, _ => List.mem_of_getElem? (i := 984) (by decide +kernel)
  | 9, _ => List.mem_of_getElem? (i := 986) (by decide +kernel)
  | k + 10, h => absurd h (by omega)
theorem cin0 : ∀ w ∈ wsX00, w ∈ lw_tbl := fun w h => by
  obtain ⟨k, hk, rfl⟩ := List.mem_map.mp h
  exact mX0 k (List.mem_range.mp hk)
set_option maxRecDepth 100000 in
theorem mX5 : ∀ k, k < 1 → u_lay RX5 TX5 k ∈ lw_tbl
  | 0, _ => List.mem_of_getElem? (i := 996) (by decide +kernel)
  | k + 1, h => absurd h (by omega)
theorem cin5 : ∀ w ∈ wsX50, w ∈ lw_tbl := fun w h => by
  obtain ⟨k, hk, rfl⟩ := List.mem_map.mp h
  exact mX5 k (List.mem_range.mp hk)
set_option maxRecDepth 100000 in
theorem cinA : ∀ w ∈ wtA, w ∈ lw_tbl := by decide +kernel
set_option maxRecDepth 100000 in
theorem cinS : ∀ w ∈ wtS, w ∈ lw_tbl := by decide +kernel
set_option maxRecDepth 100000 in
theorem cinO : ∀ w ∈ wtO, w ∈ lw_tbl := by decide +kernel
theorem zsL_in : ∀ w ∈ zsL_law, w ∈ lw_tbl := fun w h => (List.mem_cons.mp h).elim (fun e => by rw [e]; exact zl0_in) (fun h => (List.mem_append.mp h).elim (fun h => zlL_in w h) (fun h => (List.mem_append.mp h).elim (fun h => cin12 w h) (fun h => (List.mem_append.mp h).elim (fun h => cin4 w h) (fun h => (List.mem_append.mp h).elim (fun h => cin10 w h) (fun h => (List.mem_append.mp h).elim (fun h => cin9 w h) (fun h => (List.mem_append.mp h).elim (fun h => cin7 w h) (fun h => (List.mem_append.mp h).elim (fun h => cin1 w h) (fun h => (List.mem_append.mp h).elim (fun h => cin2 w h) (fun h => (List.mem_append.mp h).elim (fun h => cin6 w h) (fun h => (List.mem_append.mp h).elim (fun h => cin3 w h) (fun h => (List.mem_append.mp h).elim (fun h => cin0 w h) (fun h => (List.mem_append.mp h).elim (fun h => cin5 w h) (fun h => (List.mem_append.mp h).elim (fun h => cin8 w h) (fun h => (List.mem_append.mp h).elim (fun h => cin11 w h) (fun h => (List.mem_append.mp h).elim (fun h => cin13 w h) (fun h => (List.mem_append.mp h).elim (fun h => cinA w h) (fun h => (List.mem_append.mp h).elim (fun h => cinO w h) (fun h => cinS w h))))))))))))))))))
