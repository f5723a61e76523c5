theorem zkDX0 : ∀ j, j < 5 → defaultValue (tyX0 j) = vp_V [.null, .int 0, .int 0, .int 0, .int 0] j := by decide +kernel
theorem zkDX1 : ∀ j, j < 7 → defaultValue (tyX1 j) = vp_V [.null, .null, .null, .null, .null, .int 0, .int 0] j := by decide +kernel
theorem zkDX2 : ∀ j, j < 13 → defaultValue (tyX2 j) = vp_V [.null, .null, .null, .null, .null, .null, .null, .null, .null, .null, .int 0, .int 0, .int 0] j := by decide +kernel
theorem zkDX3 : ∀ j, j < 11 → defaultValue (tyX3 j) = vp_V [.null, .null, .null, .null, .null, .null, .null, .null, .int 0, .int 0, .int 0] j := by decide +kernel
theorem zkDX4 : ∀ j, j < 1 → defaultValue (tyX4 j) = vp_V [.null] j := by decide +kernel
theorem zkDX5 : ∀ j, j < 5 → defaultValue (tyX5 j) = vp_V [.null, .null, .int 0, .int 0, .int 0] j := by decide +kernel
theorem zkDX6 : ∀ j, j < 4 → defaultValue (tyX6 j) = vp_V [.int 0, .int 0, .int 0, .null] j := by decide +kernel
theorem zkDX7 : ∀ j, j < 15 → defaultValue (tyX7 j) = vp_V [.int 0, .int 0, .int 0, .int 0, .int 0, .int 0, .int 0, .null, .int 0, .int 0, .int 0, .int 0, .int 0, .int 0, .int 0] j := by decide +kernel
theorem zkDX8 : ∀ j, j < 5 → defaultValue (tyX8 j) = vp_V [.null, .null, .int 0, .int 0, .int 0] j := by decide +kernel
theorem zkDX9 : ∀ j, j < 2 → defaultValue (tyX9 j) = vp_V [.null, .int 0] j := by decide +kernel
theorem zkDX10 : ∀ j, j < 9 → defaultValue (tyX10 j) = vp_V [.null, .null, .int 0, .null, .null, .null, .null, .int 0, .int 0] j := by decide +kernel
theorem zkDX11 : ∀ j, j < 11 → defaultValue (tyX11 j) = vp_V [.null, .null, .null, .null, .null, .null, .null, .null, .null, .null, .null] j := by decide +kernel
theorem zkDX12 : ∀ j, j < 60 → defaultValue (tyX12 j) = vp_V [.int 0, .int 0, .null, .null, .null, .null, .int 0, .null, .null, .null, .null, .null, .int 0, .int 0, .int 0, .int 0, .null, .null, .null, .null, .null, .null, .null, .null, .null, .null, .null, .int 0, .int 0, .null, .null, .null, .null, .int 0, .int 0, .null, .null, .null, .null, .null, .null, .null, .null, .null, .null, .int 0, .int 0, .null, .null, .int 0, .int 0, .null, .null, .int 0, .int 0, .null, .null, .null, .null, .null] j := by decide +kernel
theorem iX0 : ∀ w ∈ u_ws RX0 TX0 5, w ∈ zW := by
  intro w hw
  obtain ⟨k, hk, e⟩ := List.mem_map.mp (show w ∈ (List.range 5).map (u_lay RX0 TX0) from hw)
  subst e
  have hk := List.mem_range.mp hk
  rcases (show k = 0 ∨ k = 1 ∨ k = 2 ∨ k = 3 ∨ k = 4 by omega) with rfl | rfl | rfl | rfl | rfl
  · exact zwC (i := 147) zc_2 rfl rfl
  · exact zwC (i := 149) zc_2 rfl rfl
  · exact zwC (i := 151) zc_2 rfl rfl
  · exact zwC (i := 153) zc_2 rfl rfl
  · exact zwC (i := 155) zc_2 rfl rfl
theorem iX1 : ∀ w ∈ u_ws RX1 TX1 7, w ∈ zW := by
  intro w hw
  obtain ⟨k, hk, e⟩ := List.mem_map.mp (show w ∈ (List.range 7).map (u_lay RX1 TX1) from hw)
  subst e
  have hk := List.mem_range.mp hk
  rcases (show k = 0 ∨ k = 1 ∨ k = 2 ∨ k = 3 ∨ k = 4 ∨ k = 5 ∨ k = 6 by omega) with rfl | rfl | rfl | rfl | rfl | rfl | rfl
  · exact zwC (i := 118) zc_2 rfl rfl
  · exact zwC (i := 120) zc_2 rfl rfl
  · exact zwC (i := 122) zc_2 rfl rfl
  · exact zwC (i := 124) zc_2 rfl rfl
  · exact zwC (i := 126) zc_2 rfl rfl
  · exact zwC (i := 128) zc_2 rfl rfl
  · exact zwC (i := 130) zc_2 rfl rfl
theorem iX2 : ∀ w ∈ u_ws RX2 TX2 13, w ∈ zW := by
  intro w hw
  obtain ⟨k, hk, e⟩ := List.mem_map.mp (show w ∈ (List.range 13).map (u_lay RX2 TX2) from hw)
  subst e
  have hk := List.mem_range.mp hk
  rcases (show k = 0 ∨ k = 1 ∨ k = 2 ∨ k = 3 ∨ k = 4 ∨ k = 5 ∨ k = 6 ∨ k = 7 ∨ k = 8 ∨ k = 9 ∨ k = 10 ∨ k = 11 ∨ k = 12 by omega) with rfl | rfl | rfl | rfl | rfl | rfl | rfl | rfl | rfl | rfl | rfl | rfl | rfl
  · exact zwC (i := 83) zc_1 rfl rfl
  · exact zwC (i := 85) zc_1 rfl rfl
  · exact zwC (i := 87) zc_1 rfl rfl
  · exact zwC (i := 89) zc_1 rfl rfl
  · exact zwC (i := 91) zc_1 rfl rfl
  · exact zwC (i := 93) zc_1 rfl rfl
  · exact zwC (i := 95) zc_1 rfl rfl
  · exact zwC (i := 97) zc_1 rfl rfl
  · exact zwC (i := 99) zc_1 rfl rfl
  · exact zwC (i := 101) zc_1 rfl rfl
  · exact zwC (i := 103) zc_1 rfl rfl
  · exact zwC (i := 105) zc_1 rfl rfl
  · exact zwC (i := 107) zc_1 rfl rfl
theorem iX3 : ∀ w ∈ u_ws RX3 TX3 11, w ∈ zW := by
  intro w hw
  obtain ⟨k, hk, e⟩ := List.mem_map.mp (show w ∈ (List.range 11).map (u_lay RX3 TX3) from hw)
  subst e
  have hk := List.mem_range.mp hk
  rcases (show k = 0 ∨ k = 1 ∨ k = 2 ∨ k = 3 ∨ k = 4 ∨ k = 5 ∨ k = 6 ∨ k = 7 ∨ k = 8 ∨ k = 9 ∨ k = 10 by omega) with rfl | rfl | rfl | rfl | rfl | rfl | rfl | rfl | rfl | rfl | rfl
  · exact zwC (i := 131) zc_1 rfl rfl
  · exact zwC (i := 133) zc_1 rfl rfl
  · exact zwC (i := 135) zc_1 rfl rfl
  · exact zwC (i := 137) zc_1 rfl rfl
  · exact zwC (i := 139) zc_1 rfl rfl
  · exact zwC (i := 141) zc_1 rfl rfl
  · exact zwC (i := 143) zc_1 rfl rfl
  · exact zwC (i := 145) zc_1 rfl rfl
  · exact zwC (i := 147) zc_1 rfl rfl
  · exact zwC (i := 149) zc_1 rfl rfl
  · exact zwC (i := 151) zc_1 rfl rfl
theorem iX4 : ∀ w ∈ u_ws RX4 TX4 1, w ∈ zW := by
  intro w hw
  obtain ⟨k, hk, e⟩ := List.mem_map.mp (show w ∈ (List.range 1).map (u_lay RX4 TX4) from hw)
  subst e
  have hk := List.mem_range.mp hk
  have e : k = 0 := by omega
  subst e
  exact zwC (i := 117) zc_3 rfl rfl
theorem iX5 : ∀ w ∈ u_ws RX5 TX5 5, w ∈ zW := by
  intro w hw
  obtain ⟨k, hk, e⟩ := List.mem_map.mp (show w ∈ (List.range 5).map (u_lay RX5 TX5) from hw)
  subst e
  have hk := List.mem_range.mp hk
  rcases (show k = 0 ∨ k = 1 ∨ k = 2 ∨ k = 3 ∨ k = 4 by omega) with rfl | rfl | rfl | rfl | rfl
  · exact zwC (i := 206) zc_1 rfl rfl
  · exact zwC (i := 208) zc_1 rfl rfl
  · exact zwC (i := 210) zc_1 rfl rfl
  · exact zwC (i := 212) zc_1 rfl rfl
  · exact zwC (i := 214) zc_1 rfl rfl
theorem iX6 : ∀ w ∈ u_ws RX6 TX6 4, w ∈ zW := by
  intro w hw
  obtain ⟨k, hk, e⟩ := List.mem_map.mp (show w ∈ (List.range 4).map (u_lay RX6 TX6) from hw)
  subst e
  have hk := List.mem_range.mp hk
  rcases (show k = 0 ∨ k = 1 ∨ k = 2 ∨ k = 3 by omega) with rfl | rfl | rfl | rfl
  · exact zwC (i := 133) zc_3 rfl rfl
  · exact zwC (i := 135) zc_3 rfl rfl
  · exact zwC (i := 137) zc_3 rfl rfl
  · exact zwC (i := 139) zc_3 rfl rfl
theorem iX7 : ∀ w ∈ u_ws RX7 TX7 15, w ∈ zW := by
  intro w hw
  obtain ⟨k, hk, e⟩ := List.mem_map.mp (show w ∈ (List.range 15).map (u_lay RX7 TX7) from hw)
  subst e
  have hk := List.mem_range.mp hk
  rcases (show k = 0 ∨ k = 1 ∨ k = 2 ∨ k = 3 ∨ k = 4 ∨ k = 5 ∨ k = 6 ∨ k = 7 ∨ k = 8 ∨ k = 9 ∨ k = 10 ∨ k = 11 ∨ k = 12 ∨ k = 13 ∨ k = 14 by omega) with rfl | rfl | rfl | rfl | rfl | rfl | rfl | rfl | rfl | rfl | rfl | rfl | rfl | rfl | rfl
  · exact zwC (i := 42) zc_2 rfl rfl
  · exact zwC (i := 44) zc_2 rfl rfl
  · exact zwC (i := 46) zc_2 rfl rfl
  · exact zwC (i := 48) zc_2 rfl rfl
  · exact zwC (i := 50) zc_2 rfl rfl
  · exact zwC (i := 52) zc_2 rfl rfl
  · exact zwC (i := 54) zc_2 rfl rfl
  · exact zwC (i := 56) zc_2 rfl rfl
  · exact zwC (i := 58) zc_2 rfl rfl
  · exact zwC (i := 60) zc_2 rfl rfl
  · exact zwC (i := 62) zc_2 rfl rfl
  · exact zwC (i := 64) zc_2 rfl rfl
  · exact zwC (i := 66) zc_2 rfl rfl
  · exact zwC (i := 68) zc_2 rfl rfl
  · exact zwC (i := 70) zc_2 rfl rfl
theorem iX8 : ∀ w ∈ u_ws RX8 TX8 5, w ∈ zW := by
  intro w hw
  obtain ⟨k, hk, e⟩ := List.mem_map.mp (show w ∈ (List.range 5).map (u_lay RX8 TX8) from hw)
  subst e
  have hk := List.mem_range.mp hk
  rcases (show k = 0 ∨ k = 1 ∨ k = 2 ∨ k = 3 ∨ k = 4 by omega) with rfl | rfl | rfl | rfl | rfl
  · exact zwC (i := 183) zc_1 rfl rfl
  · exact zwC (i := 185) zc_1 rfl rfl
  · exact zwC (i := 187) zc_1 rfl rfl
  · exact zwC (i := 189) zc_1 rfl rfl
  · exact zwC (i := 191) zc_1 rfl rfl
theorem iX9 : ∀ w ∈ u_ws RX9 TX9 2, w ∈ zW := by
  intro w hw
  obtain ⟨k, hk, e⟩ := List.mem_map.mp (show w ∈ (List.range 2).map (u_lay RX9 TX9) from hw)
  subst e
  have hk := List.mem_range.mp hk
  rcases (show k = 0 ∨ k = 1 by omega) with rfl | rfl
  · exact zwC (i := 166) zc_1 rfl rfl
  · exact zwC (i := 168) zc_1 rfl rfl
theorem iX10 : ∀ w ∈ u_ws RX10 TX10 9, w ∈ zW := by
  intro w hw
  obtain ⟨k, hk, e⟩ := List.mem_map.mp (show w ∈ (List.range 9).map (u_lay RX10 TX10) from hw)
  subst e
  have hk := List.mem_range.mp hk
  rcases (show k = 0 ∨ k = 1 ∨ k = 2 ∨ k = 3 ∨ k = 4 ∨ k = 5 ∨ k = 6 ∨ k = 7 ∨ k = 8 by omega) with rfl | rfl | rfl | rfl | rfl | rfl | rfl | rfl | rfl
  · exact zwC (i := 85) zc_2 rfl rfl
  · exact zwC (i := 87) zc_2 rfl rfl
  · exact zwC (i := 89) zc_2 rfl rfl
  · exact zwC (i := 91) zc_2 rfl rfl
  · exact zwC (i := 93) zc_2 rfl rfl
  · exact zwC (i := 95) zc_2 rfl rfl
  · exact zwC (i := 97) zc_2 rfl rfl
  · exact zwC (i := 99) zc_2 rfl rfl
  · exact zwC (i := 101) zc_2 rfl rfl
theorem iX11 : ∀ w ∈ u_ws RX11 TX11 11, w ∈ zW := by
  intro w hw
  obtain ⟨k, hk, e⟩ := List.mem_map.mp (show w ∈ (List.range 11).map (u_lay RX11 TX11) from hw)
  subst e
  have hk := List.mem_range.mp hk
  rcases (show k = 0 ∨ k = 1 ∨ k = 2 ∨ k = 3 ∨ k = 4 ∨ k = 5 ∨ k = 6 ∨ k = 7 ∨ k = 8 ∨ k = 9 ∨ k = 10 by omega) with rfl | rfl | rfl | rfl | rfl | rfl | rfl | rfl | rfl | rfl | rfl
  · exact zwC (i := 153) zc_3 rfl rfl
  · exact zwC (i := 155) zc_3 rfl rfl
  · exact zwC (i := 157) zc_3 rfl rfl
  · exact zwC (i := 159) zc_3 rfl rfl
  · exact zwC (i := 161) zc_3 rfl rfl
  · exact zwC (i := 163) zc_3 rfl rfl
  · exact zwC (i := 165) zc_3 rfl rfl
  · exact zwC (i := 167) zc_3 rfl rfl
  · exact zwC (i := 169) zc_3 rfl rfl
  · exact zwC (i := 171) zc_3 rfl rfl
  · exact zwC (i := 173) zc_3 rfl rfl
theorem iX12 : ∀ w ∈ u_ws RX12 TX12 60, w ∈ zW := by
  intro w hw
  obtain ⟨k, hk, e⟩ := List.mem_map.mp (show w ∈ (List.range 60).map (u_lay RX12 TX12) from hw)
  subst e
  have hk := List.mem_range.mp hk
  rcases (show k = 0 ∨ k = 1 ∨ k = 2 ∨ k = 3 ∨ k = 4 ∨ k = 5 ∨ k = 6 ∨ k = 7 ∨ k = 8 ∨ k = 9 ∨ k = 10 ∨ k = 11 ∨ k = 12 ∨ k = 13 ∨ k = 14 ∨ k = 15 ∨ k = 16 ∨ k = 17 ∨ k = 18 ∨ k = 19 ∨ k = 20 ∨ k = 21 ∨ k = 22 ∨ k = 23 ∨ k = 24 ∨ k = 25 ∨ k = 26 ∨ k = 27 ∨ k = 28 ∨ k = 29 ∨ k = 30 ∨ k = 31 ∨ k = 32 ∨ k = 33 ∨ k = 34 ∨ k = 35 ∨ k = 36 ∨ k = 37 ∨ k = 38 ∨ k = 39 ∨ k = 40 ∨ k = 41 ∨ k = 42 ∨ k = 43 ∨ k = 44 ∨ k = 45 ∨ k = 46 ∨ k = 47 ∨ k = 48 ∨ k = 49 ∨ k = 50 ∨ k = 51 ∨ k = 52 ∨ k = 53 ∨ k = 54 ∨ k = 55 ∨ k = 56 ∨ k = 57 ∨ k = 58 ∨ k = 59 by omega) with rfl | rfl | rfl | rfl | rfl | rfl | rfl | rfl | rfl | rfl | rfl | rfl | rfl | rfl | rfl | rfl | rfl | rfl | rfl | rfl | rfl | rfl | rfl | rfl | rfl | rfl | rfl | rfl | rfl | rfl | rfl | rfl | rfl | rfl | rfl | rfl | rfl | rfl | rfl | rfl | rfl | rfl | rfl | rfl | rfl | rfl | rfl | rfl | rfl | rfl | rfl | rfl | rfl | rfl | rfl | rfl | rfl | rfl | rfl | rfl
  · exact zwC (i := 81) zc_6 rfl rfl
  · exact zwC (i := 83) zc_6 rfl rfl
  · exact zwC (i := 85) zc_6 rfl rfl
  · exact zwC (i := 87) zc_6 rfl rfl
  · exact zwC (i := 89) zc_6 rfl rfl
  · exact zwC (i := 91) zc_6 rfl rfl
  · exact zwC (i := 93) zc_6 rfl rfl
  · exact zwC (i := 95) zc_6 rfl rfl
  · exact zwC (i := 97) zc_6 rfl rfl
  · exact zwC (i := 99) zc_6 rfl rfl
  · exact zwC (i := 101) zc_6 rfl rfl
  · exact zwC (i := 103) zc_6 rfl rfl
  · exact zwC (i := 105) zc_6 rfl rfl
  · exact zwC (i := 107) zc_6 rfl rfl
  · exact zwC (i := 109) zc_6 rfl rfl
  · exact zwC (i := 111) zc_6 rfl rfl
  · exact zwC (i := 113) zc_6 rfl rfl
  · exact zwC (i := 115) zc_6 rfl rfl
  · exact zwC (i := 117) zc_6 rfl rfl
  · exact zwC (i := 119) zc_6 rfl rfl
  · exact zwC (i := 121) zc_6 rfl rfl
  · exact zwC (i := 123) zc_6 rfl rfl
  · exact zwC (i := 125) zc_6 rfl rfl
  · exact zwC (i := 127) zc_6 rfl rfl
  · exact zwC (i := 129) zc_6 rfl rfl
  · exact zwC (i := 131) zc_6 rfl rfl
  · exact zwC (i := 133) zc_6 rfl rfl
  · exact zwC (i := 135) zc_6 rfl rfl
  · exact zwC (i := 137) zc_6 rfl rfl
  · exact zwC (i := 139) zc_6 rfl rfl
  · exact zwC (i := 141) zc_6 rfl rfl
  · exact zwC (i := 143) zc_6 rfl rfl
  · exact zwC (i := 145) zc_6 rfl rfl
  · exact zwC (i := 147) zc_6 rfl rfl
  · exact zwC (i := 149) zc_6 rfl rfl
  · exact zwC (i := 151) zc_6 rfl rfl
  · exact zwC (i := 153) zc_6 rfl rfl
  · exact zwC (i := 155) zc_6 rfl rfl
  · exact zwC (i := 157) zc_6 rfl rfl
  · exact zwC (i := 159) zc_6 rfl rfl
  · exact zwC (i := 161) zc_6 rfl rfl
  · exact zwC (i := 163) zc_6 rfl rfl
  · exact zwC (i := 165) zc_6 rfl rfl
  · exact zwC (i := 167) zc_6 rfl rfl
  · exact zwC (i := 169) zc_6 rfl rfl
  · exact zwC (i := 171) zc_6 rfl rfl
  · exact zwC (i := 173) zc_6 rfl rfl
  · exact zwC (i := 175) zc_6 rfl rfl
  · exact zwC (i := 177) zc_6 rfl rfl
  · exact zwC (i := 179) zc_6 rfl rfl
  · exact zwC (i := 181) zc_6 rfl rfl
  · exact zwC (i := 183) zc_6 rfl rfl
  · exact zwC (i := 185) zc_6 rfl rfl
  · exact zwC (i := 187) zc_6 rfl rfl
  · exact zwC (i := 189) zc_6 rfl rfl
  · exact zwC (i := 191) zc_6 rfl rfl
  · exact zwC (i := 193) zc_6 rfl rfl
  · exact zwC (i := 195) zc_6 rfl rfl
  · exact zwC (i := 197) zc_6 rfl rfl
  · exact zwC (i := 199) zc_6 rfl rfl
