theorem inT1 {w : Cond} (h : w ∈ tables_1_1) : w ∈ lw_tbl := List.mem_append_right _ (List.mem_append_left _ h)
theorem inT2 {w : Cond} (h : w ∈ tables_1_2) : w ∈ lw_tbl := List.mem_append_right _ (List.mem_append_right _ (List.mem_append_left _ h))
theorem inT3 {w : Cond} (h : w ∈ tables_1_3) : w ∈ lw_tbl := List.mem_append_right _ (List.mem_append_right _ (List.mem_append_right _ (List.mem_append_left _ h)))
theorem inT4 {w : Cond} (h : w ∈ tables_1_4) : w ∈ lw_tbl := List.mem_append_right _ (List.mem_append_right _ (List.mem_append_right _ (List.mem_append_right _ (List.mem_append_left _ h))))
theorem inT5 {w : Cond} (h : w ∈ tables_1_5) : w ∈ lw_tbl := List.mem_append_right _ (List.mem_append_right _ (List.mem_append_right _ (List.mem_append_right _ (List.mem_append_right _ (List.mem_append_left _ h)))))
theorem inT6 {w : Cond} (h : w ∈ tables_1_6) : w ∈ lw_tbl := List.mem_append_right _ (List.mem_append_right _ (List.mem_append_right _ (List.mem_append_right _ (List.mem_append_right _ (List.mem_append_right _ (List.mem_append_left _ h))))))
theorem inT7 {w : Cond} (h : w ∈ tables_1_7) : w ∈ lw_tbl := List.mem_append_right _ (List.mem_append_right _ (List.mem_append_right _ (List.mem_append_right _ (List.mem_append_right _ (List.mem_append_right _ (List.mem_append_right _ h))))))
theorem layX0 : ∀ w ∈ u_ws RX0 TX0 10, w ∈ lw_tbl := by
  intro w hw
  obtain ⟨k, hk, rfl⟩ := List.mem_map.mp hw
  have hk := List.mem_range.mp hk
  match k, hk with
  | 0, _ => exact inT1 (List.mem_of_getElem? (i := 204) (by decide +kernel))
  | 1, _ => exact inT1 (List.mem_of_getElem? (i := 206) (by decide +kernel))
  | 2, _ => exact inT1 (List.mem_of_getElem? (i := 208) (by decide +kernel))
  | 3, _ => exact inT1 (List.mem_of_getElem? (i := 210) (by decide +kernel))
  | 4, _ => exact inT1 (List.mem_of_getElem? (i := 212) (by decide +kernel))
  | 5, _ => exact inT1 (List.mem_of_getElem? (i := 214) (by decide +kernel))
  | 6, _ => exact inT1 (List.mem_of_getElem? (i := 216) (by decide +kernel))
  | 7, _ => exact inT1 (List.mem_of_getElem? (i := 218) (by decide +kernel))
  | 8, _ => exact inT1 (List.mem_of_getElem? (i := 220) (by decide +kernel))
  | 9, _ => exact inT1 (List.mem_of_getElem? (i := 222) (by decide +kernel))
  | k + 10, hk => exact absurd hk (by omega)
theorem layX1 : ∀ w ∈ u_ws RX1 TX1 9, w ∈ lw_tbl := by
  intro w hw
  obtain ⟨k, hk, rfl⟩ := List.mem_map.mp hw
  have hk := List.mem_range.mp hk
  match k, hk with
  | 0, _ => exact inT1 (List.mem_of_getElem? (i := 147) (by decide +kernel))
  | 1, _ => exact inT1 (List.mem_of_getElem? (i := 149) (by decide +kernel))
  | 2, _ => exact inT1 (List.mem_of_getElem? (i := 151) (by decide +kernel))
  | 3, _ => exact inT1 (List.mem_of_getElem? (i := 153) (by decide +kernel))
  | 4, _ => exact inT1 (List.mem_of_getElem? (i := 155) (by decide +kernel))
  | 5, _ => exact inT1 (List.mem_of_getElem? (i := 157) (by decide +kernel))
  | 6, _ => exact inT1 (List.mem_of_getElem? (i := 159) (by decide +kernel))
  | 7, _ => exact inT1 (List.mem_of_getElem? (i := 161) (by decide +kernel))
  | 8, _ => exact inT1 (List.mem_of_getElem? (i := 163) (by decide +kernel))
  | k + 9, hk => exact absurd hk (by omega)
theorem layX2 : ∀ w ∈ u_ws RX2 TX2 3, w ∈ lw_tbl := by
  intro w hw
  obtain ⟨k, hk, rfl⟩ := List.mem_map.mp hw
  have hk := List.mem_range.mp hk
  match k, hk with
  | 0, _ => exact inT3 (List.mem_of_getElem? (i := 98) (by decide +kernel))
  | 1, _ => exact inT3 (List.mem_of_getElem? (i := 100) (by decide +kernel))
  | 2, _ => exact inT3 (List.mem_of_getElem? (i := 102) (by decide +kernel))
  | k + 3, hk => exact absurd hk (by omega)
theorem layX3 : ∀ w ∈ u_ws RX3 TX3 5, w ∈ lw_tbl := by
  intro w hw
  obtain ⟨k, hk, rfl⟩ := List.mem_map.mp hw
  have hk := List.mem_range.mp hk
  match k, hk with
  | 0, _ => exact inT2 (List.mem_of_getElem? (i := 59) (by decide +kernel))
  | 1, _ => exact inT2 (List.mem_of_getElem? (i := 61) (by decide +kernel))
  | 2, _ => exact inT2 (List.mem_of_getElem? (i := 63) (by decide +kernel))
  | 3, _ => exact inT2 (List.mem_of_getElem? (i := 65) (by decide +kernel))
  | 4, _ => exact inT2 (List.mem_of_getElem? (i := 67) (by decide +kernel))
  | k + 5, hk => exact absurd hk (by omega)
theorem layX4 : ∀ w ∈ u_ws RX4 TX4 8, w ∈ lw_tbl := by
  intro w hw
  obtain ⟨k, hk, rfl⟩ := List.mem_map.mp hw
  have hk := List.mem_range.mp hk
  match k, hk with
  | 0, _ => exact inT2 (List.mem_of_getElem? (i := 0) (by decide +kernel))
  | 1, _ => exact inT2 (List.mem_of_getElem? (i := 2) (by decide +kernel))
  | 2, _ => exact inT2 (List.mem_of_getElem? (i := 4) (by decide +kernel))
  | 3, _ => exact inT2 (List.mem_of_getElem? (i := 6) (by decide +kernel))
  | 4, _ => exact inT2 (List.mem_of_getElem? (i := 8) (by decide +kernel))
  | 5, _ => exact inT2 (List.mem_of_getElem? (i := 10) (by decide +kernel))
  | 6, _ => exact inT2 (List.mem_of_getElem? (i := 12) (by decide +kernel))
  | 7, _ => exact inT2 (List.mem_of_getElem? (i := 14) (by decide +kernel))
  | k + 8, hk => exact absurd hk (by omega)
theorem layX5 : ∀ w ∈ u_ws RX5 TX5 4, w ∈ lw_tbl := by
  intro w hw
  obtain ⟨k, hk, rfl⟩ := List.mem_map.mp hw
  have hk := List.mem_range.mp hk
  match k, hk with
  | 0, _ => exact inT3 (List.mem_of_getElem? (i := 158) (by decide +kernel))
  | 1, _ => exact inT3 (List.mem_of_getElem? (i := 160) (by decide +kernel))
  | 2, _ => exact inT3 (List.mem_of_getElem? (i := 162) (by decide +kernel))
  | 3, _ => exact inT3 (List.mem_of_getElem? (i := 164) (by decide +kernel))
  | k + 4, hk => exact absurd hk (by omega)
theorem layX6 : ∀ w ∈ u_ws RX6 TX6 5, w ∈ lw_tbl := by
  intro w hw
  obtain ⟨k, hk, rfl⟩ := List.mem_map.mp hw
  have hk := List.mem_range.mp hk
  match k, hk with
  | 0, _ => exact inT2 (List.mem_of_getElem? (i := 229) (by decide +kernel))
  | 1, _ => exact inT2 (List.mem_of_getElem? (i := 231) (by decide +kernel))
  | 2, _ => exact inT2 (List.mem_of_getElem? (i := 233) (by decide +kernel))
  | 3, _ => exact inT2 (List.mem_of_getElem? (i := 235) (by decide +kernel))
  | 4, _ => exact inT2 (List.mem_of_getElem? (i := 237) (by decide +kernel))
  | k + 5, hk => exact absurd hk (by omega)
theorem layX7 : ∀ w ∈ u_ws RX7 TX7 7, w ∈ lw_tbl := by
  intro w hw
  obtain ⟨k, hk, rfl⟩ := List.mem_map.mp hw
  have hk := List.mem_range.mp hk
  match k, hk with
  | 0, _ => exact inT2 (List.mem_of_getElem? (i := 32) (by decide +kernel))
  | 1, _ => exact inT2 (List.mem_of_getElem? (i := 34) (by decide +kernel))
  | 2, _ => exact inT2 (List.mem_of_getElem? (i := 36) (by decide +kernel))
  | 3, _ => exact inT2 (List.mem_of_getElem? (i := 38) (by decide +kernel))
  | 4, _ => exact inT2 (List.mem_of_getElem? (i := 40) (by decide +kernel))
  | 5, _ => exact inT2 (List.mem_of_getElem? (i := 42) (by decide +kernel))
  | 6, _ => exact inT2 (List.mem_of_getElem? (i := 44) (by decide +kernel))
  | k + 7, hk => exact absurd hk (by omega)
theorem layX8 : ∀ w ∈ u_ws RX8 TX8 2, w ∈ lw_tbl := by
  intro w hw
  obtain ⟨k, hk, rfl⟩ := List.mem_map.mp hw
  have hk := List.mem_range.mp hk
  match k, hk with
  | 0, _ => exact inT1 (List.mem_of_getElem? (i := 44) (by decide +kernel))
  | 1, _ => exact inT1 (List.mem_of_getElem? (i := 46) (by decide +kernel))
  | k + 2, hk => exact absurd hk (by omega)
theorem layX9 : ∀ w ∈ u_ws RX9 TX9 6, w ∈ lw_tbl := by
  intro w hw
  obtain ⟨k, hk, rfl⟩ := List.mem_map.mp hw
  have hk := List.mem_range.mp hk
  match k, hk with
  | 0, _ => exact inT3 (List.mem_of_getElem? (i := 57) (by decide +kernel))
  | 1, _ => exact inT3 (List.mem_of_getElem? (i := 59) (by decide +kernel))
  | 2, _ => exact inT3 (List.mem_of_getElem? (i := 61) (by decide +kernel))
  | 3, _ => exact inT3 (List.mem_of_getElem? (i := 63) (by decide +kernel))
  | 4, _ => exact inT3 (List.mem_of_getElem? (i := 65) (by decide +kernel))
  | 5, _ => exact inT3 (List.mem_of_getElem? (i := 67) (by decide +kernel))
  | k + 6, hk => exact absurd hk (by omega)
theorem layX10 : ∀ w ∈ u_ws RX10 TX10 6, w ∈ lw_tbl := by
  intro w hw
  obtain ⟨k, hk, rfl⟩ := List.mem_map.mp hw
  have hk := List.mem_range.mp hk
  match k, hk with
  | 0, _ => exact inT1 (List.mem_of_getElem? (i := 122) (by decide +kernel))
  | 1, _ => exact inT1 (List.mem_of_getElem? (i := 124) (by decide +kernel))
  | 2, _ => exact inT1 (List.mem_of_getElem? (i := 126) (by decide +kernel))
  | 3, _ => exact inT1 (List.mem_of_getElem? (i := 128) (by decide +kernel))
  | 4, _ => exact inT1 (List.mem_of_getElem? (i := 130) (by decide +kernel))
  | 5, _ => exact inT1 (List.mem_of_getElem? (i := 132) (by decide +kernel))
  | k + 6, hk => exact absurd hk (by omega)
theorem layX11 : ∀ w ∈ u_ws RX11 TX11 12, w ∈ lw_tbl := by
  intro w hw
  obtain ⟨k, hk, rfl⟩ := List.mem_map.mp hw
  have hk := List.mem_range.mp hk
  match k, hk with
  | 0, _ => exact inT2 (List.mem_of_getElem? (i := 82) (by decide +kernel))
  | 1, _ => exact inT2 (List.mem_of_getElem? (i := 84) (by decide +kernel))
  | 2, _ => exact inT2 (List.mem_of_getElem? (i := 86) (by decide +kernel))
  | 3, _ => exact inT2 (List.mem_of_getElem? (i := 88) (by decide +kernel))
  | 4, _ => exact inT2 (List.mem_of_getElem? (i := 90) (by decide +kernel))
  | 5, _ => exact inT2 (List.mem_of_getElem? (i := 92) (by decide +kernel))
  | 6, _ => exact inT2 (List.mem_of_getElem? (i := 94) (by decide +kernel))
  | 7, _ => exact inT2 (List.mem_of_getElem? (i := 96) (by decide +kernel))
  | 8, _ => exact inT2 (List.mem_of_getElem? (i := 98) (by decide +kernel))
  | 9, _ => exact inT2 (List.mem_of_getElem? (i := 100) (by decide +kernel))
  | 10, _ => exact inT2 (List.mem_of_getElem? (i := 102) (by decide +kernel))
  | 11, _ => exact inT2 (List.mem_of_getElem? (i := 104) (by decide +kernel))
  | k + 12, hk => exact absurd hk (by omega)
theorem layX12 : ∀ w ∈ u_ws RX12 TX12 35, w ∈ lw_tbl := by
  intro w hw
  obtain ⟨k, hk, rfl⟩ := List.mem_map.mp hw
  have hk := List.mem_range.mp hk
  match k, hk with
  | 0, _ => exact inT5 (List.mem_of_getElem? (i := 92) (by decide +kernel))
  | 1, _ => exact inT5 (List.mem_of_getElem? (i := 94) (by decide +kernel))
  | 2, _ => exact inT5 (List.mem_of_getElem? (i := 96) (by decide +kernel))
  | 3, _ => exact inT5 (List.mem_of_getElem? (i := 98) (by decide +kernel))
  | 4, _ => exact inT5 (List.mem_of_getElem? (i := 100) (by decide +kernel))
  | 5, _ => exact inT5 (List.mem_of_getElem? (i := 102) (by decide +kernel))
  | 6, _ => exact inT5 (List.mem_of_getElem? (i := 104) (by decide +kernel))
  | 7, _ => exact inT5 (List.mem_of_getElem? (i := 106) (by decide +kernel))
  | 8, _ => exact inT5 (List.mem_of_getElem? (i := 108) (by decide +kernel))
  | 9, _ => exact inT5 (List.mem_of_getElem? (i := 110) (by decide +kernel))
  | 10, _ => exact inT5 (List.mem_of_getElem? (i := 112) (by decide +kernel))
  | 11, _ => exact inT5 (List.mem_of_getElem? (i := 114) (by decide +kernel))
  | 12, _ => exact inT5 (List.mem_of_getElem? (i := 116) (by decide +kernel))
  | 13, _ => exact inT5 (List.mem_of_getElem? (i := 118) (by decide +kernel))
  | 14, _ => exact inT5 (List.mem_of_getElem? (i := 120) (by decide +kernel))
  | 15, _ => exact inT5 (List.mem_of_getElem? (i := 122) (by decide +kernel))
  | 16, _ => exact inT5 (List.mem_of_getElem? (i := 124) (by decide +kernel))
  | 17, _ => exact inT5 (List.mem_of_getElem? (i := 126) (by decide +kernel))
  | 18, _ => exact inT5 (List.mem_of_getElem? (i := 128) (by decide +kernel))
  | 19, _ => exact inT5 (List.mem_of_getElem? (i := 130) (by decide +kernel))
  | 20, _ => exact inT5 (List.mem_of_getElem? (i := 132) (by decide +kernel))
  | 21, _ => exact inT5 (List.mem_of_getElem? (i := 134) (by decide +kernel))
  | 22, _ => exact inT5 (List.mem_of_getElem? (i := 136) (by decide +kernel))
  | 23, _ => exact inT5 (List.mem_of_getElem? (i := 138) (by decide +kernel))
  | 24, _ => exact inT5 (List.mem_of_getElem? (i := 140) (by decide +kernel))
  | 25, _ => exact inT5 (List.mem_of_getElem? (i := 142) (by decide +kernel))
  | 26, _ => exact inT5 (List.mem_of_getElem? (i := 144) (by decide +kernel))
  | 27, _ => exact inT5 (List.mem_of_getElem? (i := 146) (by decide +kernel))
  | 28, _ => exact inT5 (List.mem_of_getElem? (i := 148) (by decide +kernel))
  | 29, _ => exact inT5 (List.mem_of_getElem? (i := 150) (by decide +kernel))
  | 30, _ => exact inT5 (List.mem_of_getElem? (i := 152) (by decide +kernel))
  | 31, _ => exact inT5 (List.mem_of_getElem? (i := 154) (by decide +kernel))
  | 32, _ => exact inT5 (List.mem_of_getElem? (i := 156) (by decide +kernel))
  | 33, _ => exact inT5 (List.mem_of_getElem? (i := 158) (by decide +kernel))
  | 34, _ => exact inT5 (List.mem_of_getElem? (i := 160) (by decide +kernel))
  | k + 35, hk => exact absurd hk (by omega)
theorem fX8_11 : FL RX8 11 8 0 (.array .byte) true := ⟨RX8, TX8, 2, tyX8, rfl, by decide, layX8, tyX8_ok, nmX8, inT1 (List.mem_of_getElem? (i := 38) (by decide +kernel)), by decide +kernel, rfl, rfl⟩
theorem fX8_15 : FL RX8 15 8 1 (.int) false := ⟨RX8, TX8, 2, tyX8, rfl, by decide, layX8, tyX8_ok, nmX8, inT1 (List.mem_of_getElem? (i := 39) (by decide +kernel)), by decide +kernel, rfl, rfl⟩
theorem fX7_34 : FL RX7 34 8 1 (.int) false := ⟨RX8, TX8, 2, tyX8, rfl, by decide, layX8, tyX8_ok, nmX8, inT1 (List.mem_of_getElem? (i := 40) (by decide +kernel)), by decide +kernel, rfl, rfl⟩
theorem fX11_72 : FL RX11 72 8 1 (.int) false := ⟨RX8, TX8, 2, tyX8, rfl, by decide, layX8, tyX8_ok, nmX8, inT1 (List.mem_of_getElem? (i := 41) (by decide +kernel)), by decide +kernel, rfl, rfl⟩
theorem fX10_45 : FL RX10 45 8 1 (.int) false := ⟨RX8, TX8, 2, tyX8, rfl, by decide, layX8, tyX8_ok, nmX8, inT1 (List.mem_of_getElem? (i := 42) (by decide +kernel)), by decide +kernel, rfl, rfl⟩
theorem fX1_68 : FL RX1 68 8 1 (.int) false := ⟨RX8, TX8, 2, tyX8, rfl, by decide, layX8, tyX8_ok, nmX8, inT1 (List.mem_of_getElem? (i := 43) (by decide +kernel)), by decide +kernel, rfl, rfl⟩
theorem fX10_9 : FL RX10 9 10 0 (.array .long) true := ⟨RX10, TX10, 6, tyX10, rfl, by decide, layX10, tyX10_ok, nmX10, inT1 (List.mem_of_getElem? (i := 116) (by decide +kernel)), by decide +kernel, rfl, rfl⟩
theorem fX10_13 : FL RX10 13 10 1 (.array .int) true := ⟨RX10, TX10, 6, tyX10, rfl, by decide, layX10, tyX10_ok, nmX10, inT1 (List.mem_of_getElem? (i := 117) (by decide +kernel)), by decide +kernel, rfl, rfl⟩
theorem fX10_17 : FL RX10 17 10 2 (.array .int) true := ⟨RX10, TX10, 6, tyX10, rfl, by decide, layX10, tyX10_ok, nmX10, inT1 (List.mem_of_getElem? (i := 118) (by decide +kernel)), by decide +kernel, rfl, rfl⟩
theorem fX10_20 : FL RX10 20 10 3 (.array .long) true := ⟨RX10, TX10, 6, tyX10, rfl, by decide, layX10, tyX10_ok, nmX10, inT1 (List.mem_of_getElem? (i := 119) (by decide +kernel)), by decide +kernel, rfl, rfl⟩
theorem fX10_23 : FL RX10 23 10 4 (.int) false := ⟨RX10, TX10, 6, tyX10, rfl, by decide, layX10, tyX10_ok, nmX10, inT1 (List.mem_of_getElem? (i := 120) (by decide +kernel)), by decide +kernel, rfl, rfl⟩
theorem fX10_27 : FL RX10 27 10 5 (.int) false := ⟨RX10, TX10, 6, tyX10, rfl, by decide, layX10, tyX10_ok, nmX10, inT1 (List.mem_of_getElem? (i := 121) (by decide +kernel)), by decide +kernel, rfl, rfl⟩
theorem fX1_14 : FL RX1 14 1 0 (.object "FoamArms$Tokens") true := ⟨RX1, TX1, 9, tyX1, rfl, by decide, layX1, tyX1_ok, nmX1, inT1 (List.mem_of_getElem? (i := 137) (by decide +kernel)), by decide +kernel, rfl, rfl⟩
theorem fX1_20 : FL RX1 20 1 1 (.array .long) true := ⟨RX1, TX1, 9, tyX1, rfl, by decide, layX1, tyX1_ok, nmX1, inT1 (List.mem_of_getElem? (i := 138) (by decide +kernel)), by decide +kernel, rfl, rfl⟩
theorem fX1_24 : FL RX1 24 1 2 (.array .int) true := ⟨RX1, TX1, 9, tyX1, rfl, by decide, layX1, tyX1_ok, nmX1, inT1 (List.mem_of_getElem? (i := 139) (by decide +kernel)), by decide +kernel, rfl, rfl⟩
theorem fX1_28 : FL RX1 28 1 3 (.array .int) true := ⟨RX1, TX1, 9, tyX1, rfl, by decide, layX1, tyX1_ok, nmX1, inT1 (List.mem_of_getElem? (i := 140) (by decide +kernel)), by decide +kernel, rfl, rfl⟩
theorem fX1_31 : FL RX1 31 1 4 (.int) false := ⟨RX1, TX1, 9, tyX1, rfl, by decide, layX1, tyX1_ok, nmX1, inT1 (List.mem_of_getElem? (i := 141) (by decide +kernel)), by decide +kernel, rfl, rfl⟩
theorem fX1_35 : FL RX1 35 1 5 (.int) false := ⟨RX1, TX1, 9, tyX1, rfl, by decide, layX1, tyX1_ok, nmX1, inT1 (List.mem_of_getElem? (i := 142) (by decide +kernel)), by decide +kernel, rfl, rfl⟩
theorem fX1_38 : FL RX1 38 1 6 (.int) false := ⟨RX1, TX1, 9, tyX1, rfl, by decide, layX1, tyX1_ok, nmX1, inT1 (List.mem_of_getElem? (i := 143) (by decide +kernel)), by decide +kernel, rfl, rfl⟩
theorem fX1_41 : FL RX1 41 1 7 (.int) false := ⟨RX1, TX1, 9, tyX1, rfl, by decide, layX1, tyX1_ok, nmX1, inT1 (List.mem_of_getElem? (i := 144) (by decide +kernel)), by decide +kernel, rfl, rfl⟩
theorem fX1_44 : FL RX1 44 1 8 (.int) false := ⟨RX1, TX1, 9, tyX1, rfl, by decide, layX1, tyX1_ok, nmX1, inT1 (List.mem_of_getElem? (i := 145) (by decide +kernel)), by decide +kernel, rfl, rfl⟩
theorem fX11_83 : FL RX11 83 1 8 (.int) false := ⟨RX1, TX1, 9, tyX1, rfl, by decide, layX1, tyX1_ok, nmX1, inT1 (List.mem_of_getElem? (i := 146) (by decide +kernel)), by decide +kernel, rfl, rfl⟩
theorem fX0_11 : FL RX0 11 0 0 (.array (.object "FoamArms$Foam")) true := ⟨RX0, TX0, 10, tyX0, rfl, by decide, layX0, tyX0_ok, nmX0, inT1 (List.mem_of_getElem? (i := 181) (by decide +kernel)), by decide +kernel, rfl, rfl⟩
theorem fX0_17 : FL RX0 17 0 1 (.array (.object "FoamArms$Thing")) true := ⟨RX0, TX0, 10, tyX0, rfl, by decide, layX0, tyX0_ok, nmX0, inT1 (List.mem_of_getElem? (i := 182) (by decide +kernel)), by decide +kernel, rfl, rfl⟩
theorem fX0_23 : FL RX0 23 0 2 (.array (.object "FoamArms$Box")) true := ⟨RX0, TX0, 10, tyX0, rfl, by decide, layX0, tyX0_ok, nmX0, inT1 (List.mem_of_getElem? (i := 183) (by decide +kernel)), by decide +kernel, rfl, rfl⟩
theorem fX0_29 : FL RX0 29 0 3 (.array (.object "FoamArms$Drop")) true := ⟨RX0, TX0, 10, tyX0, rfl, by decide, layX0, tyX0_ok, nmX0, inT1 (List.mem_of_getElem? (i := 184) (by decide +kernel)), by decide +kernel, rfl, rfl⟩
theorem fX0_33 : FL RX0 33 0 4 (.int) false := ⟨RX0, TX0, 10, tyX0, rfl, by decide, layX0, tyX0_ok, nmX0, inT1 (List.mem_of_getElem? (i := 185) (by decide +kernel)), by decide +kernel, rfl, rfl⟩
theorem fX1_97 : FL RX1 97 0 4 (.int) false := ⟨RX0, TX0, 10, tyX0, rfl, by decide, layX0, tyX0_ok, nmX0, inT1 (List.mem_of_getElem? (i := 186) (by decide +kernel)), by decide +kernel, rfl, rfl⟩
theorem fX11_99 : FL RX11 99 0 4 (.int) false := ⟨RX0, TX0, 10, tyX0, rfl, by decide, layX0, tyX0_ok, nmX0, inT1 (List.mem_of_getElem? (i := 187) (by decide +kernel)), by decide +kernel, rfl, rfl⟩
theorem fX0_37 : FL RX0 37 0 5 (.int) false := ⟨RX0, TX0, 10, tyX0, rfl, by decide, layX0, tyX0_ok, nmX0, inT1 (List.mem_of_getElem? (i := 188) (by decide +kernel)), by decide +kernel, rfl, rfl⟩
theorem fX3_30 : FL RX3 30 0 5 (.int) false := ⟨RX0, TX0, 10, tyX0, rfl, by decide, layX0, tyX0_ok, nmX0, inT1 (List.mem_of_getElem? (i := 189) (by decide +kernel)), by decide +kernel, rfl, rfl⟩
theorem fX11_102 : FL RX11 102 0 5 (.int) false := ⟨RX0, TX0, 10, tyX0, rfl, by decide, layX0, tyX0_ok, nmX0, inT1 (List.mem_of_getElem? (i := 190) (by decide +kernel)), by decide +kernel, rfl, rfl⟩
theorem fX1_145 : FL RX1 145 0 5 (.int) false := ⟨RX0, TX0, 10, tyX0, rfl, by decide, layX0, tyX0_ok, nmX0, inT1 (List.mem_of_getElem? (i := 191) (by decide +kernel)), by decide +kernel, rfl, rfl⟩
theorem fX0_40 : FL RX0 40 0 6 (.int) false := ⟨RX0, TX0, 10, tyX0, rfl, by decide, layX0, tyX0_ok, nmX0, inT1 (List.mem_of_getElem? (i := 192) (by decide +kernel)), by decide +kernel, rfl, rfl⟩
theorem fX3_37 : FL RX3 37 0 6 (.int) false := ⟨RX0, TX0, 10, tyX0, rfl, by decide, layX0, tyX0_ok, nmX0, inT1 (List.mem_of_getElem? (i := 193) (by decide +kernel)), by decide +kernel, rfl, rfl⟩
theorem fX11_105 : FL RX11 105 0 6 (.int) false := ⟨RX0, TX0, 10, tyX0, rfl, by decide, layX0, tyX0_ok, nmX0, inT1 (List.mem_of_getElem? (i := 194) (by decide +kernel)), by decide +kernel, rfl, rfl⟩
theorem fX1_168 : FL RX1 168 0 6 (.int) false := ⟨RX0, TX0, 10, tyX0, rfl, by decide, layX0, tyX0_ok, nmX0, inT1 (List.mem_of_getElem? (i := 195) (by decide +kernel)), by decide +kernel, rfl, rfl⟩
theorem fX0_43 : FL RX0 43 0 7 (.int) false := ⟨RX0, TX0, 10, tyX0, rfl, by decide, layX0, tyX0_ok, nmX0, inT1 (List.mem_of_getElem? (i := 196) (by decide +kernel)), by decide +kernel, rfl, rfl⟩
theorem fX11_108 : FL RX11 108 0 7 (.int) false := ⟨RX0, TX0, 10, tyX0, rfl, by decide, layX0, tyX0_ok, nmX0, inT1 (List.mem_of_getElem? (i := 197) (by decide +kernel)), by decide +kernel, rfl, rfl⟩
theorem fX1_203 : FL RX1 203 0 7 (.int) false := ⟨RX0, TX0, 10, tyX0, rfl, by decide, layX0, tyX0_ok, nmX0, inT1 (List.mem_of_getElem? (i := 198) (by decide +kernel)), by decide +kernel, rfl, rfl⟩
theorem fX0_46 : FL RX0 46 0 8 (.int) false := ⟨RX0, TX0, 10, tyX0, rfl, by decide, layX0, tyX0_ok, nmX0, inT1 (List.mem_of_getElem? (i := 199) (by decide +kernel)), by decide +kernel, rfl, rfl⟩
theorem fX1_56 : FL RX1 56 0 8 (.int) false := ⟨RX0, TX0, 10, tyX0, rfl, by decide, layX0, tyX0_ok, nmX0, inT1 (List.mem_of_getElem? (i := 200) (by decide +kernel)), by decide +kernel, rfl, rfl⟩
theorem fX11_88 : FL RX11 88 0 8 (.int) false := ⟨RX0, TX0, 10, tyX0, rfl, by decide, layX0, tyX0_ok, nmX0, inT1 (List.mem_of_getElem? (i := 201) (by decide +kernel)), by decide +kernel, rfl, rfl⟩
theorem fX0_49 : FL RX0 49 0 9 (.int) false := ⟨RX0, TX0, 10, tyX0, rfl, by decide, layX0, tyX0_ok, nmX0, inT1 (List.mem_of_getElem? (i := 202) (by decide +kernel)), by decide +kernel, rfl, rfl⟩
theorem fX11_267 : FL RX11 267 0 9 (.int) false := ⟨RX0, TX0, 10, tyX0, rfl, by decide, layX0, tyX0_ok, nmX0, inT1 (List.mem_of_getElem? (i := 203) (by decide +kernel)), by decide +kernel, rfl, rfl⟩
theorem fX4_11 : FL RX4 11 4 0 (.array .int) true := ⟨RX4, TX4, 8, tyX4, rfl, by decide, layX4, tyX4_ok, nmX4, inT1 (List.mem_of_getElem? (i := 231) (by decide +kernel)), by decide +kernel, rfl, rfl⟩
theorem fX4_15 : FL RX4 15 4 1 (.array .int) true := ⟨RX4, TX4, 8, tyX4, rfl, by decide, layX4, tyX4_ok, nmX4, inT1 (List.mem_of_getElem? (i := 232) (by decide +kernel)), by decide +kernel, rfl, rfl⟩
theorem fX4_18 : FL RX4 18 4 2 (.array .long) true := ⟨RX4, TX4, 8, tyX4, rfl, by decide, layX4, tyX4_ok, nmX4, inT1 (List.mem_of_getElem? (i := 233) (by decide +kernel)), by decide +kernel, rfl, rfl⟩
theorem fX4_22 : FL RX4 22 4 3 (.int) false := ⟨RX4, TX4, 8, tyX4, rfl, by decide, layX4, tyX4_ok, nmX4, inT1 (List.mem_of_getElem? (i := 234) (by decide +kernel)), by decide +kernel, rfl, rfl⟩
theorem fX4_26 : FL RX4 26 4 4 (.long) false := ⟨RX4, TX4, 8, tyX4, rfl, by decide, layX4, tyX4_ok, nmX4, inT1 (List.mem_of_getElem? (i := 235) (by decide +kernel)), by decide +kernel, rfl, rfl⟩
theorem fX4_30 : FL RX4 30 4 5 (.long) false := ⟨RX4, TX4, 8, tyX4, rfl, by decide, layX4, tyX4_ok, nmX4, inT1 (List.mem_of_getElem? (i := 236) (by decide +kernel)), by decide +kernel, rfl, rfl⟩
theorem fX4_33 : FL RX4 33 4 6 (.int) false := ⟨RX4, TX4, 8, tyX4, rfl, by decide, layX4, tyX4_ok, nmX4, inT1 (List.mem_of_getElem? (i := 237) (by decide +kernel)), by decide +kernel, rfl, rfl⟩
theorem fX4_36 : FL RX4 36 4 7 (.int) false := ⟨RX4, TX4, 8, tyX4, rfl, by decide, layX4, tyX4_ok, nmX4, inT1 (List.mem_of_getElem? (i := 238) (by decide +kernel)), by decide +kernel, rfl, rfl⟩
theorem fX11_284 : FL RX11 284 4 7 (.int) false := ⟨RX4, TX4, 8, tyX4, rfl, by decide, layX4, tyX4_ok, nmX4, inT1 (List.mem_of_getElem? (i := 239) (by decide +kernel)), by decide +kernel, rfl, rfl⟩
theorem fX7_11 : FL RX7 11 7 0 (.array .int) true := ⟨RX7, TX7, 7, tyX7, rfl, by decide, layX7, tyX7_ok, nmX7, inT2 (List.mem_of_getElem? (i := 23) (by decide +kernel)), by decide +kernel, rfl, rfl⟩
theorem fX7_15 : FL RX7 15 7 1 (.array .int) true := ⟨RX7, TX7, 7, tyX7, rfl, by decide, layX7, tyX7_ok, nmX7, inT2 (List.mem_of_getElem? (i := 24) (by decide +kernel)), by decide +kernel, rfl, rfl⟩
theorem fX7_18 : FL RX7 18 7 2 (.array .int) true := ⟨RX7, TX7, 7, tyX7, rfl, by decide, layX7, tyX7_ok, nmX7, inT2 (List.mem_of_getElem? (i := 25) (by decide +kernel)), by decide +kernel, rfl, rfl⟩
theorem fX7_21 : FL RX7 21 7 3 (.array .int) true := ⟨RX7, TX7, 7, tyX7, rfl, by decide, layX7, tyX7_ok, nmX7, inT2 (List.mem_of_getElem? (i := 26) (by decide +kernel)), by decide +kernel, rfl, rfl⟩
theorem fX7_24 : FL RX7 24 7 4 (.array .int) true := ⟨RX7, TX7, 7, tyX7, rfl, by decide, layX7, tyX7_ok, nmX7, inT2 (List.mem_of_getElem? (i := 27) (by decide +kernel)), by decide +kernel, rfl, rfl⟩
theorem fX7_27 : FL RX7 27 7 5 (.array .int) true := ⟨RX7, TX7, 7, tyX7, rfl, by decide, layX7, tyX7_ok, nmX7, inT2 (List.mem_of_getElem? (i := 28) (by decide +kernel)), by decide +kernel, rfl, rfl⟩
theorem fX11_216 : FL RX11 216 7 5 (.array .int) true := ⟨RX7, TX7, 7, tyX7, rfl, by decide, layX7, tyX7_ok, nmX7, inT2 (List.mem_of_getElem? (i := 29) (by decide +kernel)), by decide +kernel, rfl, rfl⟩
theorem fX7_30 : FL RX7 30 7 6 (.int) false := ⟨RX7, TX7, 7, tyX7, rfl, by decide, layX7, tyX7_ok, nmX7, inT2 (List.mem_of_getElem? (i := 30) (by decide +kernel)), by decide +kernel, rfl, rfl⟩
theorem fX11_198 : FL RX11 198 7 6 (.int) false := ⟨RX7, TX7, 7, tyX7, rfl, by decide, layX7, tyX7_ok, nmX7, inT2 (List.mem_of_getElem? (i := 31) (by decide +kernel)), by decide +kernel, rfl, rfl⟩
theorem fX3_11 : FL RX3 11 3 0 (.array .int) true := ⟨RX3, TX3, 5, tyX3, rfl, by decide, layX3, tyX3_ok, nmX3, inT2 (List.mem_of_getElem? (i := 53) (by decide +kernel)), by decide +kernel, rfl, rfl⟩
theorem fX3_17 : FL RX3 17 3 1 (.array .int) true := ⟨RX3, TX3, 5, tyX3, rfl, by decide, layX3, tyX3_ok, nmX3, inT2 (List.mem_of_getElem? (i := 54) (by decide +kernel)), by decide +kernel, rfl, rfl⟩
theorem fX3_20 : FL RX3 20 3 2 (.int) false := ⟨RX3, TX3, 5, tyX3, rfl, by decide, layX3, tyX3_ok, nmX3, inT2 (List.mem_of_getElem? (i := 55) (by decide +kernel)), by decide +kernel, rfl, rfl⟩
theorem fX3_24 : FL RX3 24 3 3 (.int) false := ⟨RX3, TX3, 5, tyX3, rfl, by decide, layX3, tyX3_ok, nmX3, inT2 (List.mem_of_getElem? (i := 56) (by decide +kernel)), by decide +kernel, rfl, rfl⟩
theorem fX3_27 : FL RX3 27 3 4 (.int) false := ⟨RX3, TX3, 5, tyX3, rfl, by decide, layX3, tyX3_ok, nmX3, inT2 (List.mem_of_getElem? (i := 57) (by decide +kernel)), by decide +kernel, rfl, rfl⟩
theorem fX11_225 : FL RX11 225 3 4 (.int) false := ⟨RX3, TX3, 5, tyX3, rfl, by decide, layX3, tyX3_ok, nmX3, inT2 (List.mem_of_getElem? (i := 58) (by decide +kernel)), by decide +kernel, rfl, rfl⟩
theorem fX11_10 : FL RX11 10 11 0 (.object "FoamArms$Tape") true := ⟨RX11, TX11, 12, tyX11, rfl, by decide, layX11, tyX11_ok, nmX11, inT2 (List.mem_of_getElem? (i := 70) (by decide +kernel)), by decide +kernel, rfl, rfl⟩
theorem fX11_19 : FL RX11 19 11 1 (.object "FoamArms$BookReader") true := ⟨RX11, TX11, 12, tyX11, rfl, by decide, layX11, tyX11_ok, nmX11, inT2 (List.mem_of_getElem? (i := 71) (by decide +kernel)), by decide +kernel, rfl, rfl⟩
theorem fX11_25 : FL RX11 25 11 2 (.array (.object "FoamArms$Book")) true := ⟨RX11, TX11, 12, tyX11, rfl, by decide, layX11, tyX11_ok, nmX11, inT2 (List.mem_of_getElem? (i := 72) (by decide +kernel)), by decide +kernel, rfl, rfl⟩
theorem fX11_30 : FL RX11 30 11 3 (.object "FoamArms$Book") true := ⟨RX11, TX11, 12, tyX11, rfl, by decide, layX11, tyX11_ok, nmX11, inT2 (List.mem_of_getElem? (i := 73) (by decide +kernel)), by decide +kernel, rfl, rfl⟩
theorem fX11_37 : FL RX11 37 11 4 (.object "FoamArms$Cushion") true := ⟨RX11, TX11, 12, tyX11, rfl, by decide, layX11, tyX11_ok, nmX11, inT2 (List.mem_of_getElem? (i := 74) (by decide +kernel)), by decide +kernel, rfl, rfl⟩
theorem fX11_44 : FL RX11 44 11 5 (.object "FoamArms$PadChoice") true := ⟨RX11, TX11, 12, tyX11, rfl, by decide, layX11, tyX11_ok, nmX11, inT2 (List.mem_of_getElem? (i := 75) (by decide +kernel)), by decide +kernel, rfl, rfl⟩
theorem fX11_51 : FL RX11 51 11 6 (.object "FoamArms$BoxChoice") true := ⟨RX11, TX11, 12, tyX11, rfl, by decide, layX11, tyX11_ok, nmX11, inT2 (List.mem_of_getElem? (i := 76) (by decide +kernel)), by decide +kernel, rfl, rfl⟩
theorem fX11_55 : FL RX11 55 11 7 (.array .int) true := ⟨RX11, TX11, 12, tyX11, rfl, by decide, layX11, tyX11_ok, nmX11, inT2 (List.mem_of_getElem? (i := 77) (by decide +kernel)), by decide +kernel, rfl, rfl⟩
theorem fX11_59 : FL RX11 59 11 8 (.int) false := ⟨RX11, TX11, 12, tyX11, rfl, by decide, layX11, tyX11_ok, nmX11, inT2 (List.mem_of_getElem? (i := 78) (by decide +kernel)), by decide +kernel, rfl, rfl⟩
theorem fX11_63 : FL RX11 63 11 9 (.int) false := ⟨RX11, TX11, 12, tyX11, rfl, by decide, layX11, tyX11_ok, nmX11, inT2 (List.mem_of_getElem? (i := 79) (by decide +kernel)), by decide +kernel, rfl, rfl⟩
theorem fX11_66 : FL RX11 66 11 10 (.int) false := ⟨RX11, TX11, 12, tyX11, rfl, by decide, layX11, tyX11_ok, nmX11, inT2 (List.mem_of_getElem? (i := 80) (by decide +kernel)), by decide +kernel, rfl, rfl⟩
theorem fX11_69 : FL RX11 69 11 11 (.int) false := ⟨RX11, TX11, 12, tyX11, rfl, by decide, layX11, tyX11_ok, nmX11, inT2 (List.mem_of_getElem? (i := 81) (by decide +kernel)), by decide +kernel, rfl, rfl⟩
theorem fX6_11 : FL RX6 11 6 0 (.array .int) true := ⟨RX6, TX6, 5, tyX6, rfl, by decide, layX6, tyX6_ok, nmX6, inT2 (List.mem_of_getElem? (i := 219) (by decide +kernel)), by decide +kernel, rfl, rfl⟩
theorem fX6_15 : FL RX6 15 6 1 (.array .int) true := ⟨RX6, TX6, 5, tyX6, rfl, by decide, layX6, tyX6_ok, nmX6, inT2 (List.mem_of_getElem? (i := 220) (by decide +kernel)), by decide +kernel, rfl, rfl⟩
theorem fX6_18 : FL RX6 18 6 2 (.int) false := ⟨RX6, TX6, 5, tyX6, rfl, by decide, layX6, tyX6_ok, nmX6, inT2 (List.mem_of_getElem? (i := 221) (by decide +kernel)), by decide +kernel, rfl, rfl⟩
theorem fX1_131 : FL RX1 131 6 2 (.int) false := ⟨RX6, TX6, 5, tyX6, rfl, by decide, layX6, tyX6_ok, nmX6, inT2 (List.mem_of_getElem? (i := 222) (by decide +kernel)), by decide +kernel, rfl, rfl⟩
theorem fX6_22 : FL RX6 22 6 3 (.int) false := ⟨RX6, TX6, 5, tyX6, rfl, by decide, layX6, tyX6_ok, nmX6, inT2 (List.mem_of_getElem? (i := 223) (by decide +kernel)), by decide +kernel, rfl, rfl⟩
theorem fX4_59 : FL RX4 59 6 3 (.int) false := ⟨RX6, TX6, 5, tyX6, rfl, by decide, layX6, tyX6_ok, nmX6, inT2 (List.mem_of_getElem? (i := 224) (by decide +kernel)), by decide +kernel, rfl, rfl⟩
theorem fX1_117 : FL RX1 117 6 3 (.int) false := ⟨RX6, TX6, 5, tyX6, rfl, by decide, layX6, tyX6_ok, nmX6, inT2 (List.mem_of_getElem? (i := 225) (by decide +kernel)), by decide +kernel, rfl, rfl⟩
theorem fX6_25 : FL RX6 25 6 4 (.int) false := ⟨RX6, TX6, 5, tyX6, rfl, by decide, layX6, tyX6_ok, nmX6, inT2 (List.mem_of_getElem? (i := 226) (by decide +kernel)), by decide +kernel, rfl, rfl⟩
theorem fX7_49 : FL RX7 49 6 4 (.int) false := ⟨RX6, TX6, 5, tyX6, rfl, by decide, layX6, tyX6_ok, nmX6, inT2 (List.mem_of_getElem? (i := 227) (by decide +kernel)), by decide +kernel, rfl, rfl⟩
theorem fX1_120 : FL RX1 120 6 4 (.int) false := ⟨RX6, TX6, 5, tyX6, rfl, by decide, layX6, tyX6_ok, nmX6, inT2 (List.mem_of_getElem? (i := 228) (by decide +kernel)), by decide +kernel, rfl, rfl⟩
theorem fX9_9 : FL RX9 9 9 0 (.array .int) true := ⟨RX9, TX9, 6, tyX9, rfl, by decide, layX9, tyX9_ok, nmX9, inT3 (List.mem_of_getElem? (i := 40) (by decide +kernel)), by decide +kernel, rfl, rfl⟩
theorem fX7_59 : FL RX7 59 9 0 (.array .int) true := ⟨RX9, TX9, 6, tyX9, rfl, by decide, layX9, tyX9_ok, nmX9, inT3 (List.mem_of_getElem? (i := 41) (by decide +kernel)), by decide +kernel, rfl, rfl⟩
theorem fX1_154 : FL RX1 154 9 0 (.array .int) true := ⟨RX9, TX9, 6, tyX9, rfl, by decide, layX9, tyX9_ok, nmX9, inT3 (List.mem_of_getElem? (i := 42) (by decide +kernel)), by decide +kernel, rfl, rfl⟩
theorem fX9_17 : FL RX9 17 9 1 (.array (.object "FoamArms$Foam")) true := ⟨RX9, TX9, 6, tyX9, rfl, by decide, layX9, tyX9_ok, nmX9, inT3 (List.mem_of_getElem? (i := 43) (by decide +kernel)), by decide +kernel, rfl, rfl⟩
theorem fX4_43 : FL RX4 43 9 1 (.array (.object "FoamArms$Foam")) true := ⟨RX9, TX9, 6, tyX9, rfl, by decide, layX9, tyX9_ok, nmX9, inT3 (List.mem_of_getElem? (i := 44) (by decide +kernel)), by decide +kernel, rfl, rfl⟩
theorem fX9_21 : FL RX9 21 9 2 (.array .int) true := ⟨RX9, TX9, 6, tyX9, rfl, by decide, layX9, tyX9_ok, nmX9, inT3 (List.mem_of_getElem? (i := 45) (by decide +kernel)), by decide +kernel, rfl, rfl⟩
theorem fX4_49 : FL RX4 49 9 2 (.array .int) true := ⟨RX9, TX9, 6, tyX9, rfl, by decide, layX9, tyX9_ok, nmX9, inT3 (List.mem_of_getElem? (i := 46) (by decide +kernel)), by decide +kernel, rfl, rfl⟩
theorem fX9_24 : FL RX9 24 9 3 (.array .int) true := ⟨RX9, TX9, 6, tyX9, rfl, by decide, layX9, tyX9_ok, nmX9, inT3 (List.mem_of_getElem? (i := 47) (by decide +kernel)), by decide +kernel, rfl, rfl⟩
theorem fX4_52 : FL RX4 52 9 3 (.array .int) true := ⟨RX9, TX9, 6, tyX9, rfl, by decide, layX9, tyX9_ok, nmX9, inT3 (List.mem_of_getElem? (i := 48) (by decide +kernel)), by decide +kernel, rfl, rfl⟩
theorem fX9_27 : FL RX9 27 9 4 (.int) false := ⟨RX9, TX9, 6, tyX9, rfl, by decide, layX9, tyX9_ok, nmX9, inT3 (List.mem_of_getElem? (i := 49) (by decide +kernel)), by decide +kernel, rfl, rfl⟩
theorem fX4_101 : FL RX4 101 9 4 (.int) false := ⟨RX9, TX9, 6, tyX9, rfl, by decide, layX9, tyX9_ok, nmX9, inT3 (List.mem_of_getElem? (i := 50) (by decide +kernel)), by decide +kernel, rfl, rfl⟩
theorem fX11_135 : FL RX11 135 9 4 (.int) false := ⟨RX9, TX9, 6, tyX9, rfl, by decide, layX9, tyX9_ok, nmX9, inT3 (List.mem_of_getElem? (i := 51) (by decide +kernel)), by decide +kernel, rfl, rfl⟩
theorem fX1_151 : FL RX1 151 9 4 (.int) false := ⟨RX9, TX9, 6, tyX9, rfl, by decide, layX9, tyX9_ok, nmX9, inT3 (List.mem_of_getElem? (i := 52) (by decide +kernel)), by decide +kernel, rfl, rfl⟩
theorem fX9_31 : FL RX9 31 9 5 (.int) false := ⟨RX9, TX9, 6, tyX9, rfl, by decide, layX9, tyX9_ok, nmX9, inT3 (List.mem_of_getElem? (i := 53) (by decide +kernel)), by decide +kernel, rfl, rfl⟩
theorem fX4_107 : FL RX4 107 9 5 (.int) false := ⟨RX9, TX9, 6, tyX9, rfl, by decide, layX9, tyX9_ok, nmX9, inT3 (List.mem_of_getElem? (i := 54) (by decide +kernel)), by decide +kernel, rfl, rfl⟩
theorem fX1_161 : FL RX1 161 9 5 (.int) false := ⟨RX9, TX9, 6, tyX9, rfl, by decide, layX9, tyX9_ok, nmX9, inT3 (List.mem_of_getElem? (i := 55) (by decide +kernel)), by decide +kernel, rfl, rfl⟩
theorem fX11_183 : FL RX11 183 9 5 (.int) false := ⟨RX9, TX9, 6, tyX9, rfl, by decide, layX9, tyX9_ok, nmX9, inT3 (List.mem_of_getElem? (i := 56) (by decide +kernel)), by decide +kernel, rfl, rfl⟩
theorem fX2_9 : FL RX2 9 2 0 (.array .int) true := ⟨RX2, TX2, 3, tyX2, rfl, by decide, layX2, tyX2_ok, nmX2, inT3 (List.mem_of_getElem? (i := 88) (by decide +kernel)), by decide +kernel, rfl, rfl⟩
theorem fX9_38 : FL RX9 38 2 0 (.array .int) true := ⟨RX2, TX2, 3, tyX2, rfl, by decide, layX2, tyX2_ok, nmX2, inT3 (List.mem_of_getElem? (i := 89) (by decide +kernel)), by decide +kernel, rfl, rfl⟩
theorem fX7_54 : FL RX7 54 2 0 (.array .int) true := ⟨RX2, TX2, 3, tyX2, rfl, by decide, layX2, tyX2_ok, nmX2, inT3 (List.mem_of_getElem? (i := 90) (by decide +kernel)), by decide +kernel, rfl, rfl⟩
theorem fX1_174 : FL RX1 174 2 0 (.array .int) true := ⟨RX2, TX2, 3, tyX2, rfl, by decide, layX2, tyX2_ok, nmX2, inT3 (List.mem_of_getElem? (i := 91) (by decide +kernel)), by decide +kernel, rfl, rfl⟩
theorem fX2_15 : FL RX2 15 2 1 (.int) false := ⟨RX2, TX2, 3, tyX2, rfl, by decide, layX2, tyX2_ok, nmX2, inT3 (List.mem_of_getElem? (i := 92) (by decide +kernel)), by decide +kernel, rfl, rfl⟩
theorem fX3_42 : FL RX3 42 2 1 (.int) false := ⟨RX2, TX2, 3, tyX2, rfl, by decide, layX2, tyX2_ok, nmX2, inT3 (List.mem_of_getElem? (i := 93) (by decide +kernel)), by decide +kernel, rfl, rfl⟩
theorem fX1_177 : FL RX1 177 2 1 (.int) false := ⟨RX2, TX2, 3, tyX2, rfl, by decide, layX2, tyX2_ok, nmX2, inT3 (List.mem_of_getElem? (i := 94) (by decide +kernel)), by decide +kernel, rfl, rfl⟩
theorem fX2_19 : FL RX2 19 2 2 (.int) false := ⟨RX2, TX2, 3, tyX2, rfl, by decide, layX2, tyX2_ok, nmX2, inT3 (List.mem_of_getElem? (i := 95) (by decide +kernel)), by decide +kernel, rfl, rfl⟩
theorem fX1_178 : FL RX1 178 2 2 (.int) false := ⟨RX2, TX2, 3, tyX2, rfl, by decide, layX2, tyX2_ok, nmX2, inT3 (List.mem_of_getElem? (i := 96) (by decide +kernel)), by decide +kernel, rfl, rfl⟩
theorem fX11_229 : FL RX11 229 2 2 (.int) false := ⟨RX2, TX2, 3, tyX2, rfl, by decide, layX2, tyX2_ok, nmX2, inT3 (List.mem_of_getElem? (i := 97) (by decide +kernel)), by decide +kernel, rfl, rfl⟩
theorem fX5_7 : FL RX5 7 5 0 (.int) false := ⟨RX5, TX5, 4, tyX5, rfl, by decide, layX5, tyX5_ok, nmX5, inT3 (List.mem_of_getElem? (i := 146) (by decide +kernel)), by decide +kernel, rfl, rfl⟩
theorem fX1_209 : FL RX1 209 5 0 (.int) false := ⟨RX5, TX5, 4, tyX5, rfl, by decide, layX5, tyX5_ok, nmX5, inT3 (List.mem_of_getElem? (i := 147) (by decide +kernel)), by decide +kernel, rfl, rfl⟩
theorem fX11_163 : FL RX11 163 5 0 (.int) false := ⟨RX5, TX5, 4, tyX5, rfl, by decide, layX5, tyX5_ok, nmX5, inT3 (List.mem_of_getElem? (i := 148) (by decide +kernel)), by decide +kernel, rfl, rfl⟩
theorem fX5_13 : FL RX5 13 5 1 (.int) false := ⟨RX5, TX5, 4, tyX5, rfl, by decide, layX5, tyX5_ok, nmX5, inT3 (List.mem_of_getElem? (i := 149) (by decide +kernel)), by decide +kernel, rfl, rfl⟩
theorem fX1_212 : FL RX1 212 5 1 (.int) false := ⟨RX5, TX5, 4, tyX5, rfl, by decide, layX5, tyX5_ok, nmX5, inT3 (List.mem_of_getElem? (i := 150) (by decide +kernel)), by decide +kernel, rfl, rfl⟩
theorem fX11_275 : FL RX11 275 5 1 (.int) false := ⟨RX5, TX5, 4, tyX5, rfl, by decide, layX5, tyX5_ok, nmX5, inT3 (List.mem_of_getElem? (i := 151) (by decide +kernel)), by decide +kernel, rfl, rfl⟩
theorem fX5_16 : FL RX5 16 5 2 (.int) false := ⟨RX5, TX5, 4, tyX5, rfl, by decide, layX5, tyX5_ok, nmX5, inT3 (List.mem_of_getElem? (i := 152) (by decide +kernel)), by decide +kernel, rfl, rfl⟩
theorem fX1_215 : FL RX1 215 5 2 (.int) false := ⟨RX5, TX5, 4, tyX5, rfl, by decide, layX5, tyX5_ok, nmX5, inT3 (List.mem_of_getElem? (i := 153) (by decide +kernel)), by decide +kernel, rfl, rfl⟩
theorem fX11_281 : FL RX11 281 5 2 (.int) false := ⟨RX5, TX5, 4, tyX5, rfl, by decide, layX5, tyX5_ok, nmX5, inT3 (List.mem_of_getElem? (i := 154) (by decide +kernel)), by decide +kernel, rfl, rfl⟩
theorem fX5_19 : FL RX5 19 5 3 (.int) false := ⟨RX5, TX5, 4, tyX5, rfl, by decide, layX5, tyX5_ok, nmX5, inT3 (List.mem_of_getElem? (i := 155) (by decide +kernel)), by decide +kernel, rfl, rfl⟩
theorem fX1_218 : FL RX1 218 5 3 (.int) false := ⟨RX5, TX5, 4, tyX5, rfl, by decide, layX5, tyX5_ok, nmX5, inT3 (List.mem_of_getElem? (i := 156) (by decide +kernel)), by decide +kernel, rfl, rfl⟩
theorem fX11_278 : FL RX11 278 5 3 (.int) false := ⟨RX5, TX5, 4, tyX5, rfl, by decide, layX5, tyX5_ok, nmX5, inT3 (List.mem_of_getElem? (i := 157) (by decide +kernel)), by decide +kernel, rfl, rfl⟩
theorem fX12_55 : FL RX12 55 12 0 (.int) false := ⟨RX12, TX12, 35, tyX12, rfl, by decide, layX12, tyX12_ok, nmX12, inT5 (List.mem_of_getElem? (i := 57) (by decide +kernel)), by decide +kernel, rfl, rfl⟩
theorem fX12_7 : FL RX12 7 12 1 (.array .int) true := ⟨RX12, TX12, 35, tyX12, rfl, by decide, layX12, tyX12_ok, nmX12, inT5 (List.mem_of_getElem? (i := 58) (by decide +kernel)), by decide +kernel, rfl, rfl⟩
theorem fX12_13 : FL RX12 13 12 2 (.array .int) true := ⟨RX12, TX12, 35, tyX12, rfl, by decide, layX12, tyX12_ok, nmX12, inT5 (List.mem_of_getElem? (i := 59) (by decide +kernel)), by decide +kernel, rfl, rfl⟩
theorem fX12_16 : FL RX12 16 12 3 (.array .int) true := ⟨RX12, TX12, 35, tyX12, rfl, by decide, layX12, tyX12_ok, nmX12, inT5 (List.mem_of_getElem? (i := 60) (by decide +kernel)), by decide +kernel, rfl, rfl⟩
theorem fX12_58 : FL RX12 58 12 4 (.int) false := ⟨RX12, TX12, 35, tyX12, rfl, by decide, layX12, tyX12_ok, nmX12, inT5 (List.mem_of_getElem? (i := 61) (by decide +kernel)), by decide +kernel, rfl, rfl⟩
theorem fX12_69 : FL RX12 69 12 5 (.int) false := ⟨RX12, TX12, 35, tyX12, rfl, by decide, layX12, tyX12_ok, nmX12, inT5 (List.mem_of_getElem? (i := 62) (by decide +kernel)), by decide +kernel, rfl, rfl⟩
theorem fX12_205 : FL RX12 205 12 6 (.int) false := ⟨RX12, TX12, 35, tyX12, rfl, by decide, layX12, tyX12_ok, nmX12, inT5 (List.mem_of_getElem? (i := 63) (by decide +kernel)), by decide +kernel, rfl, rfl⟩
theorem fX12_72 : FL RX12 72 12 7 (.int) false := ⟨RX12, TX12, 35, tyX12, rfl, by decide, layX12, tyX12_ok, nmX12, inT5 (List.mem_of_getElem? (i := 64) (by decide +kernel)), by decide +kernel, rfl, rfl⟩
theorem fX12_75 : FL RX12 75 12 8 (.int) false := ⟨RX12, TX12, 35, tyX12, rfl, by decide, layX12, tyX12_ok, nmX12, inT5 (List.mem_of_getElem? (i := 65) (by decide +kernel)), by decide +kernel, rfl, rfl⟩
theorem fX12_78 : FL RX12 78 12 9 (.int) false := ⟨RX12, TX12, 35, tyX12, rfl, by decide, layX12, tyX12_ok, nmX12, inT5 (List.mem_of_getElem? (i := 66) (by decide +kernel)), by decide +kernel, rfl, rfl⟩
theorem fX12_81 : FL RX12 81 12 10 (.int) false := ⟨RX12, TX12, 35, tyX12, rfl, by decide, layX12, tyX12_ok, nmX12, inT5 (List.mem_of_getElem? (i := 67) (by decide +kernel)), by decide +kernel, rfl, rfl⟩
theorem fX12_98 : FL RX12 98 12 11 (.int) false := ⟨RX12, TX12, 35, tyX12, rfl, by decide, layX12, tyX12_ok, nmX12, inT5 (List.mem_of_getElem? (i := 68) (by decide +kernel)), by decide +kernel, rfl, rfl⟩
theorem fX12_91 : FL RX12 91 12 12 (.int) false := ⟨RX12, TX12, 35, tyX12, rfl, by decide, layX12, tyX12_ok, nmX12, inT5 (List.mem_of_getElem? (i := 69) (by decide +kernel)), by decide +kernel, rfl, rfl⟩
theorem fX12_139 : FL RX12 139 12 13 (.int) false := ⟨RX12, TX12, 35, tyX12, rfl, by decide, layX12, tyX12_ok, nmX12, inT5 (List.mem_of_getElem? (i := 70) (by decide +kernel)), by decide +kernel, rfl, rfl⟩
theorem fX12_142 : FL RX12 142 12 14 (.int) false := ⟨RX12, TX12, 35, tyX12, rfl, by decide, layX12, tyX12_ok, nmX12, inT5 (List.mem_of_getElem? (i := 71) (by decide +kernel)), by decide +kernel, rfl, rfl⟩
theorem fX12_94 : FL RX12 94 12 15 (.long) false := ⟨RX12, TX12, 35, tyX12, rfl, by decide, layX12, tyX12_ok, nmX12, inT5 (List.mem_of_getElem? (i := 72) (by decide +kernel)), by decide +kernel, rfl, rfl⟩
theorem fX12_151 : FL RX12 151 12 16 (.int) false := ⟨RX12, TX12, 35, tyX12, rfl, by decide, layX12, tyX12_ok, nmX12, inT5 (List.mem_of_getElem? (i := 73) (by decide +kernel)), by decide +kernel, rfl, rfl⟩
theorem fX12_19 : FL RX12 19 12 17 (.array .long) true := ⟨RX12, TX12, 35, tyX12, rfl, by decide, layX12, tyX12_ok, nmX12, inT5 (List.mem_of_getElem? (i := 74) (by decide +kernel)), by decide +kernel, rfl, rfl⟩
theorem fX12_211 : FL RX12 211 12 18 (.int) false := ⟨RX12, TX12, 35, tyX12, rfl, by decide, layX12, tyX12_ok, nmX12, inT5 (List.mem_of_getElem? (i := 75) (by decide +kernel)), by decide +kernel, rfl, rfl⟩
theorem fX12_23 : FL RX12 23 12 19 (.array .int) true := ⟨RX12, TX12, 35, tyX12, rfl, by decide, layX12, tyX12_ok, nmX12, inT5 (List.mem_of_getElem? (i := 76) (by decide +kernel)), by decide +kernel, rfl, rfl⟩
theorem fX12_26 : FL RX12 26 12 20 (.array .long) true := ⟨RX12, TX12, 35, tyX12, rfl, by decide, layX12, tyX12_ok, nmX12, inT5 (List.mem_of_getElem? (i := 77) (by decide +kernel)), by decide +kernel, rfl, rfl⟩
theorem fX12_220 : FL RX12 220 12 21 (.int) false := ⟨RX12, TX12, 35, tyX12, rfl, by decide, layX12, tyX12_ok, nmX12, inT5 (List.mem_of_getElem? (i := 78) (by decide +kernel)), by decide +kernel, rfl, rfl⟩
theorem fX12_239 : FL RX12 239 12 22 (.int) false := ⟨RX12, TX12, 35, tyX12, rfl, by decide, layX12, tyX12_ok, nmX12, inT5 (List.mem_of_getElem? (i := 79) (by decide +kernel)), by decide +kernel, rfl, rfl⟩
theorem fX12_242 : FL RX12 242 12 23 (.int) false := ⟨RX12, TX12, 35, tyX12, rfl, by decide, layX12, tyX12_ok, nmX12, inT5 (List.mem_of_getElem? (i := 80) (by decide +kernel)), by decide +kernel, rfl, rfl⟩
theorem fX12_245 : FL RX12 245 12 24 (.int) false := ⟨RX12, TX12, 35, tyX12, rfl, by decide, layX12, tyX12_ok, nmX12, inT5 (List.mem_of_getElem? (i := 81) (by decide +kernel)), by decide +kernel, rfl, rfl⟩
theorem fX12_29 : FL RX12 29 12 25 (.int) false := ⟨RX12, TX12, 35, tyX12, rfl, by decide, layX12, tyX12_ok, nmX12, inT5 (List.mem_of_getElem? (i := 82) (by decide +kernel)), by decide +kernel, rfl, rfl⟩
theorem fX12_33 : FL RX12 33 12 26 (.array .int) true := ⟨RX12, TX12, 35, tyX12, rfl, by decide, layX12, tyX12_ok, nmX12, inT5 (List.mem_of_getElem? (i := 83) (by decide +kernel)), by decide +kernel, rfl, rfl⟩
theorem fX12_36 : FL RX12 36 12 27 (.array .int) true := ⟨RX12, TX12, 35, tyX12, rfl, by decide, layX12, tyX12_ok, nmX12, inT5 (List.mem_of_getElem? (i := 84) (by decide +kernel)), by decide +kernel, rfl, rfl⟩
theorem fX12_39 : FL RX12 39 12 28 (.array .int) true := ⟨RX12, TX12, 35, tyX12, rfl, by decide, layX12, tyX12_ok, nmX12, inT5 (List.mem_of_getElem? (i := 85) (by decide +kernel)), by decide +kernel, rfl, rfl⟩
theorem fX12_42 : FL RX12 42 12 29 (.array .int) true := ⟨RX12, TX12, 35, tyX12, rfl, by decide, layX12, tyX12_ok, nmX12, inT5 (List.mem_of_getElem? (i := 86) (by decide +kernel)), by decide +kernel, rfl, rfl⟩
theorem fX12_45 : FL RX12 45 12 30 (.array .int) true := ⟨RX12, TX12, 35, tyX12, rfl, by decide, layX12, tyX12_ok, nmX12, inT5 (List.mem_of_getElem? (i := 87) (by decide +kernel)), by decide +kernel, rfl, rfl⟩
theorem fX12_48 : FL RX12 48 12 31 (.array .int) true := ⟨RX12, TX12, 35, tyX12, rfl, by decide, layX12, tyX12_ok, nmX12, inT5 (List.mem_of_getElem? (i := 88) (by decide +kernel)), by decide +kernel, rfl, rfl⟩
theorem fX12_51 : FL RX12 51 12 32 (.array .boolean) true := ⟨RX12, TX12, 35, tyX12, rfl, by decide, layX12, tyX12_ok, nmX12, inT5 (List.mem_of_getElem? (i := 89) (by decide +kernel)), by decide +kernel, rfl, rfl⟩
theorem fX12_283 : FL RX12 283 12 33 (.boolean) false := ⟨RX12, TX12, 35, tyX12, rfl, by decide, layX12, tyX12_ok, nmX12, inT5 (List.mem_of_getElem? (i := 90) (by decide +kernel)), by decide +kernel, rfl, rfl⟩
theorem fX12_293 : FL RX12 293 12 34 (.int) false := ⟨RX12, TX12, 35, tyX12, rfl, by decide, layX12, tyX12_ok, nmX12, inT5 (List.mem_of_getElem? (i := 91) (by decide +kernel)), by decide +kernel, rfl, rfl⟩
abbrev mX11_init : MT := (yX11_init, cX11_init, 1, none)
theorem Y_X11_init : YL yX11_init cX11_init 1 none 0 := ⟨inT1 (List.mem_of_getElem? (i := 28) (by decide +kernel)), inT1 (List.mem_of_getElem? (i := 1) (by decide +kernel)), by decide +kernel, by decide +kernel, by decide +kernel, by decide +kernel⟩
abbrev mX8_init : MT := (yX8_init, cX8_init, 1, none)
theorem Y_X8_init : YL yX8_init cX8_init 1 none 0 := ⟨inT1 (List.mem_of_getElem? (i := 36) (by decide +kernel)), inT1 (List.mem_of_getElem? (i := 2) (by decide +kernel)), by decide +kernel, by decide +kernel, by decide +kernel, by decide +kernel⟩
abbrev mX1_init : MT := (yX1_init, cX1_init, 1, none)
theorem Y_X1_init : YL yX1_init cX1_init 1 none 0 := ⟨inT1 (List.mem_of_getElem? (i := 54) (by decide +kernel)), inT1 (List.mem_of_getElem? (i := 3) (by decide +kernel)), by decide +kernel, by decide +kernel, by decide +kernel, by decide +kernel⟩
abbrev mX10_init : MT := (yX10_init, cX10_init, 5, none)
theorem Y_X10_init : YL yX10_init cX10_init 5 none 0 := ⟨inT1 (List.mem_of_getElem? (i := 60) (by decide +kernel)), inT1 (List.mem_of_getElem? (i := 4) (by decide +kernel)), by decide +kernel, by decide +kernel, by decide +kernel, by decide +kernel⟩
abbrev mJ0_length_8abf5 : MT := (yJ0_length_8abf5, cJ0_length_8abf5, 1, (some .int))
theorem Y_J0_length_8abf5 : YL yJ0_length_8abf5 cJ0_length_8abf5 1 (some .int) 0 := ⟨inT1 (List.mem_of_getElem? (i := 66) (by decide +kernel)), inT1 (List.mem_of_getElem? (i := 5) (by decide +kernel)), by decide +kernel, by decide +kernel, by decide +kernel, by decide +kernel⟩
abbrev mJ0_coder_7d493 : MT := (yJ0_coder_7d493, cJ0_coder_7d493, 1, (some .byte))
theorem Y_J0_coder_7d493 : YL yJ0_coder_7d493 cJ0_coder_7d493 1 (some .byte) 0 := ⟨inT1 (List.mem_of_getElem? (i := 70) (by decide +kernel)), inT1 (List.mem_of_getElem? (i := 5) (by decide +kernel)), by decide +kernel, by decide +kernel, by decide +kernel, by decide +kernel⟩
abbrev mJ0_charAt_5068e : MT := (yJ0_charAt_5068e, cJ0_charAt_5068e, 2, (some .char))
theorem Y_J0_charAt_5068e : YL yJ0_charAt_5068e cJ0_charAt_5068e 2 (some .char) 1 := ⟨inT1 (List.mem_of_getElem? (i := 76) (by decide +kernel)), inT1 (List.mem_of_getElem? (i := 5) (by decide +kernel)), by decide +kernel, by decide +kernel, by decide +kernel, by decide +kernel⟩
abbrev mJ0_isLatin1_aae02 : MT := (yJ0_isLatin1_aae02, cJ0_isLatin1_aae02, 1, (some .boolean))
theorem Y_J0_isLatin1_aae02 : YL yJ0_isLatin1_aae02 cJ0_isLatin1_aae02 1 (some .boolean) 0 := ⟨inT1 (List.mem_of_getElem? (i := 80) (by decide +kernel)), inT1 (List.mem_of_getElem? (i := 5) (by decide +kernel)), by decide +kernel, by decide +kernel, by decide +kernel, by decide +kernel⟩
abbrev mJ1_charAt_3b067 : MT := (yJ1_charAt_3b067, cJ1_charAt_3b067, 2, (some .char))
theorem Y_J1_charAt_3b067 : YL yJ1_charAt_3b067 cJ1_charAt_3b067 2 (some .char) 2 := ⟨inT1 (List.mem_of_getElem? (i := 83) (by decide +kernel)), inT1 (List.mem_of_getElem? (i := 6) (by decide +kernel)), by decide +kernel, by decide +kernel, by decide +kernel, by decide +kernel⟩
abbrev mJ0_checkIndex_df160 : MT := (yJ0_checkIndex_df160, cJ0_checkIndex_df160, 2, none)
theorem Y_J0_checkIndex_df160 : YL yJ0_checkIndex_df160 cJ0_checkIndex_df160 2 none 2 := ⟨inT1 (List.mem_of_getElem? (i := 86) (by decide +kernel)), inT1 (List.mem_of_getElem? (i := 5) (by decide +kernel)), by decide +kernel, by decide +kernel, by decide +kernel, by decide +kernel⟩
abbrev mJ3_checkIndex_8e157 : MT := (yJ3_checkIndex_8e157, cJ3_checkIndex_8e157, 3, (some .int))
theorem Y_J3_checkIndex_8e157 : YL yJ3_checkIndex_8e157 cJ3_checkIndex_8e157 3 (some .int) 3 := ⟨inT1 (List.mem_of_getElem? (i := 91) (by decide +kernel)), inT1 (List.mem_of_getElem? (i := 7) (by decide +kernel)), by decide +kernel, by decide +kernel, by decide +kernel, by decide +kernel⟩
abbrev mJ2_charAt_3b067 : MT := (yJ2_charAt_3b067, cJ2_charAt_3b067, 2, (some .char))
theorem Y_J2_charAt_3b067 : YL yJ2_charAt_3b067 cJ2_charAt_3b067 2 (some .char) 2 := ⟨inT1 (List.mem_of_getElem? (i := 94) (by decide +kernel)), inT1 (List.mem_of_getElem? (i := 8) (by decide +kernel)), by decide +kernel, by decide +kernel, by decide +kernel, by decide +kernel⟩
abbrev mJ2_checkIndex_2214a : MT := (yJ2_checkIndex_2214a, cJ2_checkIndex_2214a, 2, none)
theorem Y_J2_checkIndex_2214a : YL yJ2_checkIndex_2214a cJ2_checkIndex_2214a 2 none 2 := ⟨inT1 (List.mem_of_getElem? (i := 97) (by decide +kernel)), inT1 (List.mem_of_getElem? (i := 8) (by decide +kernel)), by decide +kernel, by decide +kernel, by decide +kernel, by decide +kernel⟩
abbrev mJ2_length_9d52b : MT := (yJ2_length_9d52b, cJ2_length_9d52b, 1, (some .int))
theorem Y_J2_length_9d52b : YL yJ2_length_9d52b cJ2_length_9d52b 1 (some .int) 1 := ⟨inT1 (List.mem_of_getElem? (i := 100) (by decide +kernel)), inT1 (List.mem_of_getElem? (i := 8) (by decide +kernel)), by decide +kernel, by decide +kernel, by decide +kernel, by decide +kernel⟩
abbrev mJ2_getChar_3b067 : MT := (yJ2_getChar_3b067, cJ2_getChar_3b067, 2, (some .char))
theorem Y_J2_getChar_3b067 : YL yJ2_getChar_3b067 cJ2_getChar_3b067 2 (some .char) 2 := ⟨inT1 (List.mem_of_getElem? (i := 104) (by decide +kernel)), inT1 (List.mem_of_getElem? (i := 8) (by decide +kernel)), by decide +kernel, by decide +kernel, by decide +kernel, by decide +kernel⟩
abbrev mX10_withLetter : MT := (yX10_withLetter, cX10_withLetter, 3, (some .long))
theorem Y_X10_withLetter : YL yX10_withLetter cX10_withLetter 3 (some .long) 2 := ⟨inT1 (List.mem_of_getElem? (i := 113) (by decide +kernel)), inT1 (List.mem_of_getElem? (i := 4) (by decide +kernel)), by decide +kernel, by decide +kernel, by decide +kernel, by decide +kernel⟩
abbrev mX0_init : MT := (yX0_init, cX0_init, 1, none)
theorem Y_X0_init : YL yX0_init cX0_init 1 none 0 := ⟨inT1 (List.mem_of_getElem? (i := 171) (by decide +kernel)), inT1 (List.mem_of_getElem? (i := 9) (by decide +kernel)), by decide +kernel, by decide +kernel, by decide +kernel, by decide +kernel⟩
abbrev mX4_init : MT := (yX4_init, cX4_init, 1, none)
theorem Y_X4_init : YL yX4_init cX4_init 1 none 0 := ⟨inT1 (List.mem_of_getElem? (i := 229) (by decide +kernel)), inT1 (List.mem_of_getElem? (i := 10) (by decide +kernel)), by decide +kernel, by decide +kernel, by decide +kernel, by decide +kernel⟩
abbrev mX7_init : MT := (yX7_init, cX7_init, 2, none)
theorem Y_X7_init : YL yX7_init cX7_init 2 none 0 := ⟨inT2 (List.mem_of_getElem? (i := 21) (by decide +kernel)), inT1 (List.mem_of_getElem? (i := 11) (by decide +kernel)), by decide +kernel, by decide +kernel, by decide +kernel, by decide +kernel⟩
abbrev mX3_init : MT := (yX3_init, cX3_init, 1, none)
theorem Y_X3_init : YL yX3_init cX3_init 1 none 0 := ⟨inT2 (List.mem_of_getElem? (i := 51) (by decide +kernel)), inT1 (List.mem_of_getElem? (i := 12) (by decide +kernel)), by decide +kernel, by decide +kernel, by decide +kernel, by decide +kernel⟩
abbrev mX11_feed : MT := (yX11_feed, cX11_feed, 6, (some .int))
theorem Y_X11_feed : YL yX11_feed cX11_feed 6 (some .int) 5 := ⟨inT2 (List.mem_of_getElem? (i := 110) (by decide +kernel)), inT1 (List.mem_of_getElem? (i := 1) (by decide +kernel)), by decide +kernel, by decide +kernel, by decide +kernel, by decide +kernel⟩
abbrev mX8_add : MT := (yX8_add, cX8_add, 3, none)
theorem Y_X8_add : YL yX8_add cX8_add 3 none 1 := ⟨inT2 (List.mem_of_getElem? (i := 114) (by decide +kernel)), inT1 (List.mem_of_getElem? (i := 2) (by decide +kernel)), by decide +kernel, by decide +kernel, by decide +kernel, by decide +kernel⟩
abbrev mX11_end : MT := (yX11_end, cX11_end, 2, (some .boolean))
theorem Y_X11_end : YL yX11_end cX11_end 2 (some .boolean) 1 := ⟨inT2 (List.mem_of_getElem? (i := 118) (by decide +kernel)), inT1 (List.mem_of_getElem? (i := 1) (by decide +kernel)), by decide +kernel, by decide +kernel, by decide +kernel, by decide +kernel⟩
abbrev mX11_next : MT := (yX11_next, cX11_next, 2, (some .int))
theorem Y_X11_next : YL yX11_next cX11_next 2 (some .int) 1 := ⟨inT2 (List.mem_of_getElem? (i := 122) (by decide +kernel)), inT1 (List.mem_of_getElem? (i := 1) (by decide +kernel)), by decide +kernel, by decide +kernel, by decide +kernel, by decide +kernel⟩
abbrev mX11_book : MT := (yX11_book, cX11_book, 3, (some .int))
theorem Y_X11_book : YL yX11_book cX11_book 3 (some .int) 0 := ⟨inT2 (List.mem_of_getElem? (i := 126) (by decide +kernel)), inT1 (List.mem_of_getElem? (i := 1) (by decide +kernel)), by decide +kernel, by decide +kernel, by decide +kernel, by decide +kernel⟩
abbrev mX1_readBook : MT := (yX1_readBook, cX1_readBook, 3, (some (.object "FoamArms$Book")))
theorem Y_X1_readBook : YL yX1_readBook cX1_readBook 3 (some (.object "FoamArms$Book")) 1 := ⟨inT2 (List.mem_of_getElem? (i := 130) (by decide +kernel)), inT1 (List.mem_of_getElem? (i := 3) (by decide +kernel)), by decide +kernel, by decide +kernel, by decide +kernel, by decide +kernel⟩
abbrev mX10_scan : MT := (yX10_scan, cX10_scan, 4, none)
theorem Y_X10_scan : YL yX10_scan cX10_scan 4 none 1 := ⟨inT2 (List.mem_of_getElem? (i := 136) (by decide +kernel)), inT1 (List.mem_of_getElem? (i := 4) (by decide +kernel)), by decide +kernel, by decide +kernel, by decide +kernel, by decide +kernel⟩
abbrev mJ9_min_7cf53 : MT := (yJ9_min_7cf53, cJ9_min_7cf53, 2, (some .int))
theorem Y_J9_min_7cf53 : YL yJ9_min_7cf53 cJ9_min_7cf53 2 (some .int) 2 := ⟨inT2 (List.mem_of_getElem? (i := 139) (by decide +kernel)), inT1 (List.mem_of_getElem? (i := 14) (by decide +kernel)), by decide +kernel, by decide +kernel, by decide +kernel, by decide +kernel⟩
abbrev mX8_byteAt : MT := (yX8_byteAt, cX8_byteAt, 2, (some .int))
theorem Y_X8_byteAt : YL yX8_byteAt cX8_byteAt 2 (some .int) 1 := ⟨inT2 (List.mem_of_getElem? (i := 143) (by decide +kernel)), inT1 (List.mem_of_getElem? (i := 2) (by decide +kernel)), by decide +kernel, by decide +kernel, by decide +kernel, by decide +kernel⟩
abbrev mX10_isLetter : MT := (yX10_isLetter, cX10_isLetter, 1, (some .boolean))
theorem Y_X10_isLetter : YL yX10_isLetter cX10_isLetter 1 (some .boolean) 1 := ⟨inT2 (List.mem_of_getElem? (i := 146) (by decide +kernel)), inT1 (List.mem_of_getElem? (i := 4) (by decide +kernel)), by decide +kernel, by decide +kernel, by decide +kernel, by decide +kernel⟩
abbrev mX10_isDigit : MT := (yX10_isDigit, cX10_isDigit, 1, (some .boolean))
theorem Y_X10_isDigit : YL yX10_isDigit cX10_isDigit 1 (some .boolean) 1 := ⟨inT2 (List.mem_of_getElem? (i := 149) (by decide +kernel)), inT1 (List.mem_of_getElem? (i := 4) (by decide +kernel)), by decide +kernel, by decide +kernel, by decide +kernel, by decide +kernel⟩
abbrev mX10_scanRun : MT := (yX10_scanRun, cX10_scanRun, 11, (some .int))
theorem Y_X10_scanRun : YL yX10_scanRun cX10_scanRun 11 (some .int) 2 := ⟨inT2 (List.mem_of_getElem? (i := 153) (by decide +kernel)), inT1 (List.mem_of_getElem? (i := 4) (by decide +kernel)), by decide +kernel, by decide +kernel, by decide +kernel, by decide +kernel⟩
abbrev mX10_kindOfWord : MT := (yX10_kindOfWord, cX10_kindOfWord, 4, (some .int))
theorem Y_X10_kindOfWord : YL yX10_kindOfWord cX10_kindOfWord 4 (some .int) 1 := ⟨inT2 (List.mem_of_getElem? (i := 159) (by decide +kernel)), inT1 (List.mem_of_getElem? (i := 4) (by decide +kernel)), by decide +kernel, by decide +kernel, by decide +kernel, by decide +kernel⟩
abbrev mX10_add : MT := (yX10_add, cX10_add, 5, none)
theorem Y_X10_add : YL yX10_add cX10_add 5 none 3 := ⟨inT2 (List.mem_of_getElem? (i := 163) (by decide +kernel)), inT1 (List.mem_of_getElem? (i := 4) (by decide +kernel)), by decide +kernel, by decide +kernel, by decide +kernel, by decide +kernel⟩
abbrev mJ9_max_7cf53 : MT := (yJ9_max_7cf53, cJ9_max_7cf53, 2, (some .int))
theorem Y_J9_max_7cf53 : YL yJ9_max_7cf53 cJ9_max_7cf53 2 (some .int) 2 := ⟨inT2 (List.mem_of_getElem? (i := 166) (by decide +kernel)), inT1 (List.mem_of_getElem? (i := 14) (by decide +kernel)), by decide +kernel, by decide +kernel, by decide +kernel, by decide +kernel⟩
abbrev mX10_isBlank : MT := (yX10_isBlank, cX10_isBlank, 1, (some .boolean))
theorem Y_X10_isBlank : YL yX10_isBlank cX10_isBlank 1 (some .boolean) 1 := ⟨inT2 (List.mem_of_getElem? (i := 169) (by decide +kernel)), inT1 (List.mem_of_getElem? (i := 4) (by decide +kernel)), by decide +kernel, by decide +kernel, by decide +kernel, by decide +kernel⟩
abbrev mX10_kindOfSign : MT := (yX10_kindOfSign, cX10_kindOfSign, 1, (some .int))
theorem Y_X10_kindOfSign : YL yX10_kindOfSign cX10_kindOfSign 1 (some .int) 1 := ⟨inT2 (List.mem_of_getElem? (i := 172) (by decide +kernel)), inT1 (List.mem_of_getElem? (i := 4) (by decide +kernel)), by decide +kernel, by decide +kernel, by decide +kernel, by decide +kernel⟩
abbrev mX1_isNow : MT := (yX1_isNow, cX1_isNow, 2, (some .boolean))
theorem Y_X1_isNow : YL yX1_isNow cX1_isNow 2 (some .boolean) 1 := ⟨inT2 (List.mem_of_getElem? (i := 176) (by decide +kernel)), inT1 (List.mem_of_getElem? (i := 3) (by decide +kernel)), by decide +kernel, by decide +kernel, by decide +kernel, by decide +kernel⟩
abbrev mX10_kindAt : MT := (yX10_kindAt, cX10_kindAt, 2, (some .int))
theorem Y_X10_kindAt : YL yX10_kindAt cX10_kindAt 2 (some .int) 1 := ⟨inT2 (List.mem_of_getElem? (i := 180) (by decide +kernel)), inT1 (List.mem_of_getElem? (i := 4) (by decide +kernel)), by decide +kernel, by decide +kernel, by decide +kernel, by decide +kernel⟩
abbrev mX1_readLine : MT := (yX1_readLine, cX1_readLine, 2, (some .boolean))
theorem Y_X1_readLine : YL yX1_readLine cX1_readLine 2 (some .boolean) 1 := ⟨inT2 (List.mem_of_getElem? (i := 184) (by decide +kernel)), inT1 (List.mem_of_getElem? (i := 3) (by decide +kernel)), by decide +kernel, by decide +kernel, by decide +kernel, by decide +kernel⟩
abbrev mX1_readFoam : MT := (yX1_readFoam, cX1_readFoam, 4, (some .boolean))
theorem Y_X1_readFoam : YL yX1_readFoam cX1_readFoam 4 (some .boolean) 1 := ⟨inT2 (List.mem_of_getElem? (i := 188) (by decide +kernel)), inT1 (List.mem_of_getElem? (i := 3) (by decide +kernel)), by decide +kernel, by decide +kernel, by decide +kernel, by decide +kernel⟩
abbrev mX1_readFirstWord : MT := (yX1_readFirstWord, cX1_readFirstWord, 3, (some .boolean))
theorem Y_X1_readFirstWord : YL yX1_readFirstWord cX1_readFirstWord 3 (some .boolean) 2 := ⟨inT2 (List.mem_of_getElem? (i := 192) (by decide +kernel)), inT1 (List.mem_of_getElem? (i := 3) (by decide +kernel)), by decide +kernel, by decide +kernel, by decide +kernel, by decide +kernel⟩
abbrev mX1_refuse : MT := (yX1_refuse, cX1_refuse, 3, (some .boolean))
theorem Y_X1_refuse : YL yX1_refuse cX1_refuse 3 (some .boolean) 2 := ⟨inT2 (List.mem_of_getElem? (i := 196) (by decide +kernel)), inT1 (List.mem_of_getElem? (i := 3) (by decide +kernel)), by decide +kernel, by decide +kernel, by decide +kernel, by decide +kernel⟩
abbrev mX1_readNewName : MT := (yX1_readNewName, cX1_readNewName, 5, (some .boolean))
theorem Y_X1_readNewName : YL yX1_readNewName cX1_readNewName 5 (some .boolean) 2 := ⟨inT2 (List.mem_of_getElem? (i := 200) (by decide +kernel)), inT1 (List.mem_of_getElem? (i := 3) (by decide +kernel)), by decide +kernel, by decide +kernel, by decide +kernel, by decide +kernel⟩
abbrev mX1_readToken : MT := (yX1_readToken, cX1_readToken, 2, (some .boolean))
theorem Y_X1_readToken : YL yX1_readToken cX1_readToken 2 (some .boolean) 1 := ⟨inT2 (List.mem_of_getElem? (i := 204) (by decide +kernel)), inT1 (List.mem_of_getElem? (i := 3) (by decide +kernel)), by decide +kernel, by decide +kernel, by decide +kernel, by decide +kernel⟩
abbrev mX10_valueAt : MT := (yX10_valueAt, cX10_valueAt, 2, (some .long))
theorem Y_X10_valueAt : YL yX10_valueAt cX10_valueAt 2 (some .long) 1 := ⟨inT2 (List.mem_of_getElem? (i := 208) (by decide +kernel)), inT1 (List.mem_of_getElem? (i := 4) (by decide +kernel)), by decide +kernel, by decide +kernel, by decide +kernel, by decide +kernel⟩
abbrev mX1_placeOfName : MT := (yX1_placeOfName, cX1_placeOfName, 4, (some .int))
theorem Y_X1_placeOfName : YL yX1_placeOfName cX1_placeOfName 4 (some .int) 1 := ⟨inT2 (List.mem_of_getElem? (i := 212) (by decide +kernel)), inT1 (List.mem_of_getElem? (i := 3) (by decide +kernel)), by decide +kernel, by decide +kernel, by decide +kernel, by decide +kernel⟩
abbrev mX6_init : MT := (yX6_init, cX6_init, 1, none)
theorem Y_X6_init : YL yX6_init cX6_init 1 none 0 := ⟨inT2 (List.mem_of_getElem? (i := 217) (by decide +kernel)), inT1 (List.mem_of_getElem? (i := 15) (by decide +kernel)), by decide +kernel, by decide +kernel, by decide +kernel, by decide +kernel⟩
abbrev mX1_readPoint : MT := (yX1_readPoint, cX1_readPoint, 3, (some .boolean))
theorem Y_X1_readPoint : YL yX1_readPoint cX1_readPoint 3 (some .boolean) 1 := ⟨inT3 (List.mem_of_getElem? (i := 3) (by decide +kernel)), inT1 (List.mem_of_getElem? (i := 3) (by decide +kernel)), by decide +kernel, by decide +kernel, by decide +kernel, by decide +kernel⟩
abbrev mX6_leastPercent : MT := (yX6_leastPercent, cX6_leastPercent, 1, (some .int))
theorem Y_X6_leastPercent : YL yX6_leastPercent cX6_leastPercent 1 (some .int) 0 := ⟨inT3 (List.mem_of_getElem? (i := 7) (by decide +kernel)), inT1 (List.mem_of_getElem? (i := 15) (by decide +kernel)), by decide +kernel, by decide +kernel, by decide +kernel, by decide +kernel⟩
abbrev mX1_readNumber : MT := (yX1_readNumber, cX1_readNumber, 3, (some .boolean))
theorem Y_X1_readNumber : YL yX1_readNumber cX1_readNumber 3 (some .boolean) 2 := ⟨inT3 (List.mem_of_getElem? (i := 11) (by decide +kernel)), inT1 (List.mem_of_getElem? (i := 3) (by decide +kernel)), by decide +kernel, by decide +kernel, by decide +kernel, by decide +kernel⟩
abbrev mX6_leastPush : MT := (yX6_leastPush, cX6_leastPush, 1, (some .int))
theorem Y_X6_leastPush : YL yX6_leastPush cX6_leastPush 1 (some .int) 0 := ⟨inT3 (List.mem_of_getElem? (i := 15) (by decide +kernel)), inT1 (List.mem_of_getElem? (i := 15) (by decide +kernel)), by decide +kernel, by decide +kernel, by decide +kernel, by decide +kernel⟩
abbrev mX6_addPoint : MT := (yX6_addPoint, cX6_addPoint, 3, none)
theorem Y_X6_addPoint : YL yX6_addPoint cX6_addPoint 3 none 2 := ⟨inT3 (List.mem_of_getElem? (i := 20) (by decide +kernel)), inT1 (List.mem_of_getElem? (i := 15) (by decide +kernel)), by decide +kernel, by decide +kernel, by decide +kernel, by decide +kernel⟩
abbrev mX1_readNumberOf : MT := (yX1_readNumberOf, cX1_readNumberOf, 4, (some .boolean))
theorem Y_X1_readNumberOf : YL yX1_readNumberOf cX1_readNumberOf 4 (some .boolean) 3 := ⟨inT3 (List.mem_of_getElem? (i := 24) (by decide +kernel)), inT1 (List.mem_of_getElem? (i := 3) (by decide +kernel)), by decide +kernel, by decide +kernel, by decide +kernel, by decide +kernel⟩
abbrev mX0_addFoam : MT := (yX0_addFoam, cX0_addFoam, 2, none)
theorem Y_X0_addFoam : YL yX0_addFoam cX0_addFoam 2 none 1 := ⟨inT3 (List.mem_of_getElem? (i := 28) (by decide +kernel)), inT1 (List.mem_of_getElem? (i := 9) (by decide +kernel)), by decide +kernel, by decide +kernel, by decide +kernel, by decide +kernel⟩
abbrev mX1_readThing : MT := (yX1_readThing, cX1_readThing, 3, (some .boolean))
theorem Y_X1_readThing : YL yX1_readThing cX1_readThing 3 (some .boolean) 1 := ⟨inT3 (List.mem_of_getElem? (i := 32) (by decide +kernel)), inT1 (List.mem_of_getElem? (i := 3) (by decide +kernel)), by decide +kernel, by decide +kernel, by decide +kernel, by decide +kernel⟩
abbrev mX9_init : MT := (yX9_init, cX9_init, 1, none)
theorem Y_X9_init : YL yX9_init cX9_init 1 none 0 := ⟨inT3 (List.mem_of_getElem? (i := 37) (by decide +kernel)), inT1 (List.mem_of_getElem? (i := 16) (by decide +kernel)), by decide +kernel, by decide +kernel, by decide +kernel, by decide +kernel⟩
abbrev mX1_readSizesOf : MT := (yX1_readSizesOf, cX1_readSizesOf, 4, (some .boolean))
theorem Y_X1_readSizesOf : YL yX1_readSizesOf cX1_readSizesOf 4 (some .boolean) 2 := ⟨inT3 (List.mem_of_getElem? (i := 73) (by decide +kernel)), inT1 (List.mem_of_getElem? (i := 3) (by decide +kernel)), by decide +kernel, by decide +kernel, by decide +kernel, by decide +kernel⟩
abbrev mX0_addThing : MT := (yX0_addThing, cX0_addThing, 2, none)
theorem Y_X0_addThing : YL yX0_addThing cX0_addThing 2 none 1 := ⟨inT3 (List.mem_of_getElem? (i := 77) (by decide +kernel)), inT1 (List.mem_of_getElem? (i := 9) (by decide +kernel)), by decide +kernel, by decide +kernel, by decide +kernel, by decide +kernel⟩
abbrev mX1_readBox : MT := (yX1_readBox, cX1_readBox, 3, (some .boolean))
theorem Y_X1_readBox : YL yX1_readBox cX1_readBox 3 (some .boolean) 1 := ⟨inT3 (List.mem_of_getElem? (i := 81) (by decide +kernel)), inT1 (List.mem_of_getElem? (i := 3) (by decide +kernel)), by decide +kernel, by decide +kernel, by decide +kernel, by decide +kernel⟩
abbrev mX2_init : MT := (yX2_init, cX2_init, 1, none)
theorem Y_X2_init : YL yX2_init cX2_init 1 none 0 := ⟨inT3 (List.mem_of_getElem? (i := 86) (by decide +kernel)), inT1 (List.mem_of_getElem? (i := 17) (by decide +kernel)), by decide +kernel, by decide +kernel, by decide +kernel, by decide +kernel⟩
abbrev mX0_addBox : MT := (yX0_addBox, cX0_addBox, 2, none)
theorem Y_X0_addBox : YL yX0_addBox cX0_addBox 2 none 1 := ⟨inT3 (List.mem_of_getElem? (i := 108) (by decide +kernel)), inT1 (List.mem_of_getElem? (i := 9) (by decide +kernel)), by decide +kernel, by decide +kernel, by decide +kernel, by decide +kernel⟩
abbrev mX1_readPad : MT := (yX1_readPad, cX1_readPad, 6, (some .boolean))
theorem Y_X1_readPad : YL yX1_readPad cX1_readPad 6 (some .boolean) 1 := ⟨inT3 (List.mem_of_getElem? (i := 112) (by decide +kernel)), inT1 (List.mem_of_getElem? (i := 3) (by decide +kernel)), by decide +kernel, by decide +kernel, by decide +kernel, by decide +kernel⟩
abbrev mX1_readToldName : MT := (yX1_readToldName, cX1_readToldName, 3, (some .boolean))
theorem Y_X1_readToldName : YL yX1_readToldName cX1_readToldName 3 (some .boolean) 1 := ⟨inT3 (List.mem_of_getElem? (i := 116) (by decide +kernel)), inT1 (List.mem_of_getElem? (i := 3) (by decide +kernel)), by decide +kernel, by decide +kernel, by decide +kernel, by decide +kernel⟩
abbrev mX0_thingAt : MT := (yX0_thingAt, cX0_thingAt, 2, (some (.object "FoamArms$Thing")))
theorem Y_X0_thingAt : YL yX0_thingAt cX0_thingAt 2 (some (.object "FoamArms$Thing")) 1 := ⟨inT3 (List.mem_of_getElem? (i := 120) (by decide +kernel)), inT1 (List.mem_of_getElem? (i := 9) (by decide +kernel)), by decide +kernel, by decide +kernel, by decide +kernel, by decide +kernel⟩
abbrev mX9_foamOn : MT := (yX9_foamOn, cX9_foamOn, 2, (some (.object "FoamArms$Foam")))
theorem Y_X9_foamOn : YL yX9_foamOn cX9_foamOn 2 (some (.object "FoamArms$Foam")) 1 := ⟨inT3 (List.mem_of_getElem? (i := 124) (by decide +kernel)), inT1 (List.mem_of_getElem? (i := 16) (by decide +kernel)), by decide +kernel, by decide +kernel, by decide +kernel, by decide +kernel⟩
abbrev mX11_isSide : MT := (yX11_isSide, cX11_isSide, 1, (some .boolean))
theorem Y_X11_isSide : YL yX11_isSide cX11_isSide 1 (some .boolean) 1 := ⟨inT3 (List.mem_of_getElem? (i := 127) (by decide +kernel)), inT1 (List.mem_of_getElem? (i := 1) (by decide +kernel)), by decide +kernel, by decide +kernel, by decide +kernel, by decide +kernel⟩
abbrev mX0_foamAt : MT := (yX0_foamAt, cX0_foamAt, 2, (some (.object "FoamArms$Foam")))
theorem Y_X0_foamAt : YL yX0_foamAt cX0_foamAt 2 (some (.object "FoamArms$Foam")) 1 := ⟨inT3 (List.mem_of_getElem? (i := 131) (by decide +kernel)), inT1 (List.mem_of_getElem? (i := 9) (by decide +kernel)), by decide +kernel, by decide +kernel, by decide +kernel, by decide +kernel⟩
abbrev mX9_putPad : MT := (yX9_putPad, cX9_putPad, 5, none)
theorem Y_X9_putPad : YL yX9_putPad cX9_putPad 5 none 4 := ⟨inT3 (List.mem_of_getElem? (i := 135) (by decide +kernel)), inT1 (List.mem_of_getElem? (i := 16) (by decide +kernel)), by decide +kernel, by decide +kernel, by decide +kernel, by decide +kernel⟩
abbrev mX1_readDrop : MT := (yX1_readDrop, cX1_readDrop, 3, (some .boolean))
theorem Y_X1_readDrop : YL yX1_readDrop cX1_readDrop 3 (some .boolean) 1 := ⟨inT3 (List.mem_of_getElem? (i := 139) (by decide +kernel)), inT1 (List.mem_of_getElem? (i := 3) (by decide +kernel)), by decide +kernel, by decide +kernel, by decide +kernel, by decide +kernel⟩
abbrev mX5_init : MT := (yX5_init, cX5_init, 1, none)
theorem Y_X5_init : YL yX5_init cX5_init 1 none 0 := ⟨inT3 (List.mem_of_getElem? (i := 144) (by decide +kernel)), inT1 (List.mem_of_getElem? (i := 18) (by decide +kernel)), by decide +kernel, by decide +kernel, by decide +kernel, by decide +kernel⟩
abbrev mX0_addDrop : MT := (yX0_addDrop, cX0_addDrop, 2, none)
theorem Y_X0_addDrop : YL yX0_addDrop cX0_addDrop 2 none 1 := ⟨inT3 (List.mem_of_getElem? (i := 170) (by decide +kernel)), inT1 (List.mem_of_getElem? (i := 9) (by decide +kernel)), by decide +kernel, by decide +kernel, by decide +kernel, by decide +kernel⟩
abbrev mX1_placeOfFault : MT := (yX1_placeOfFault, cX1_placeOfFault, 1, (some .int))
theorem Y_X1_placeOfFault : YL yX1_placeOfFault cX1_placeOfFault 1 (some .int) 0 := ⟨inT3 (List.mem_of_getElem? (i := 174) (by decide +kernel)), inT1 (List.mem_of_getElem? (i := 3) (by decide +kernel)), by decide +kernel, by decide +kernel, by decide +kernel, by decide +kernel⟩
abbrev mX10_placeAt : MT := (yX10_placeAt, cX10_placeAt, 2, (some .int))
theorem Y_X10_placeAt : YL yX10_placeAt cX10_placeAt 2 (some .int) 1 := ⟨inT3 (List.mem_of_getElem? (i := 178) (by decide +kernel)), inT1 (List.mem_of_getElem? (i := 4) (by decide +kernel)), by decide +kernel, by decide +kernel, by decide +kernel, by decide +kernel⟩
abbrev mX11_keepBook : MT := (yX11_keepBook, cX11_keepBook, 2, none)
theorem Y_X11_keepBook : YL yX11_keepBook cX11_keepBook 2 none 1 := ⟨inT3 (List.mem_of_getElem? (i := 182) (by decide +kernel)), inT1 (List.mem_of_getElem? (i := 1) (by decide +kernel)), by decide +kernel, by decide +kernel, by decide +kernel, by decide +kernel⟩
abbrev mX11_fault : MT := (yX11_fault, cX11_fault, 1, (some .int))
theorem Y_X11_fault : YL yX11_fault cX11_fault 1 (some .int) 0 := ⟨inT3 (List.mem_of_getElem? (i := 186) (by decide +kernel)), inT1 (List.mem_of_getElem? (i := 1) (by decide +kernel)), by decide +kernel, by decide +kernel, by decide +kernel, by decide +kernel⟩
abbrev mX11_many : MT := (yX11_many, cX11_many, 4, (some .int))
theorem Y_X11_many : YL yX11_many cX11_many 4 (some .int) 2 := ⟨inT3 (List.mem_of_getElem? (i := 190) (by decide +kernel)), inT1 (List.mem_of_getElem? (i := 1) (by decide +kernel)), by decide +kernel, by decide +kernel, by decide +kernel, by decide +kernel⟩
abbrev mX11_asOf : MT := (yX11_asOf, cX11_asOf, 3, (some (.object "FoamArms$Book")))
theorem Y_X11_asOf : YL yX11_asOf cX11_asOf 3 (some (.object "FoamArms$Book")) 1 := ⟨inT3 (List.mem_of_getElem? (i := 194) (by decide +kernel)), inT1 (List.mem_of_getElem? (i := 1) (by decide +kernel)), by decide +kernel, by decide +kernel, by decide +kernel, by decide +kernel⟩
abbrev mX11_push : MT := (yX11_push, cX11_push, 7, (some .int))
theorem Y_X11_push : YL yX11_push cX11_push 7 (some .int) 4 := ⟨inT3 (List.mem_of_getElem? (i := 199) (by decide +kernel)), inT1 (List.mem_of_getElem? (i := 1) (by decide +kernel)), by decide +kernel, by decide +kernel, by decide +kernel, by decide +kernel⟩
abbrev mX11_isKept : MT := (yX11_isKept, cX11_isKept, 1, (some .boolean))
theorem Y_X11_isKept : YL yX11_isKept cX11_isKept 1 (some .boolean) 1 := ⟨inT3 (List.mem_of_getElem? (i := 203) (by decide +kernel)), inT1 (List.mem_of_getElem? (i := 1) (by decide +kernel)), by decide +kernel, by decide +kernel, by decide +kernel, by decide +kernel⟩
abbrev mX6_pushAt : MT := (yX6_pushAt, cX6_pushAt, 5, (some .int))
theorem Y_X6_pushAt : YL yX6_pushAt cX6_pushAt 5 (some .int) 1 := ⟨inT3 (List.mem_of_getElem? (i := 207) (by decide +kernel)), inT1 (List.mem_of_getElem? (i := 15) (by decide +kernel)), by decide +kernel, by decide +kernel, by decide +kernel, by decide +kernel⟩
abbrev mX11_squeeze : MT := (yX11_squeeze, cX11_squeeze, 7, (some .int))
theorem Y_X11_squeeze : YL yX11_squeeze cX11_squeeze 7 (some .int) 5 := ⟨inT3 (List.mem_of_getElem? (i := 211) (by decide +kernel)), inT1 (List.mem_of_getElem? (i := 1) (by decide +kernel)), by decide +kernel, by decide +kernel, by decide +kernel, by decide +kernel⟩
abbrev mX11_putOnPad : MT := (yX11_putOnPad, cX11_putOnPad, 5, (some (.object "FoamArms$Thing")))
theorem Y_X11_putOnPad : YL yX11_putOnPad cX11_putOnPad 5 (some (.object "FoamArms$Thing")) 3 := ⟨inT3 (List.mem_of_getElem? (i := 215) (by decide +kernel)), inT1 (List.mem_of_getElem? (i := 1) (by decide +kernel)), by decide +kernel, by decide +kernel, by decide +kernel, by decide +kernel⟩
abbrev mX4_layPad : MT := (yX4_layPad, cX4_layPad, 3, none)
theorem Y_X4_layPad : YL yX4_layPad cX4_layPad 3 none 2 := ⟨inT3 (List.mem_of_getElem? (i := 221) (by decide +kernel)), inT1 (List.mem_of_getElem? (i := 10) (by decide +kernel)), by decide +kernel, by decide +kernel, by decide +kernel, by decide +kernel⟩
abbrev mX4_layFoam : MT := (yX4_layFoam, cX4_layFoam, 5, none)
theorem Y_X4_layFoam : YL yX4_layFoam cX4_layFoam 5 none 3 := ⟨inT3 (List.mem_of_getElem? (i := 226) (by decide +kernel)), inT1 (List.mem_of_getElem? (i := 10) (by decide +kernel)), by decide +kernel, by decide +kernel, by decide +kernel, by decide +kernel⟩
abbrev mX6_lastPercent : MT := (yX6_lastPercent, cX6_lastPercent, 1, (some .int))
theorem Y_X6_lastPercent : YL yX6_lastPercent cX6_lastPercent 1 (some .int) 0 := ⟨inT3 (List.mem_of_getElem? (i := 230) (by decide +kernel)), inT1 (List.mem_of_getElem? (i := 15) (by decide +kernel)), by decide +kernel, by decide +kernel, by decide +kernel, by decide +kernel⟩
abbrev mX4_wearTo : MT := (yX4_wearTo, cX4_wearTo, 3, none)
theorem Y_X4_wearTo : YL yX4_wearTo cX4_wearTo 3 none 1 := ⟨inT3 (List.mem_of_getElem? (i := 237) (by decide +kernel)), inT1 (List.mem_of_getElem? (i := 10) (by decide +kernel)), by decide +kernel, by decide +kernel, by decide +kernel, by decide +kernel⟩
abbrev mX11_isHeight : MT := (yX11_isHeight, cX11_isHeight, 1, (some .boolean))
theorem Y_X11_isHeight : YL yX11_isHeight cX11_isHeight 1 (some .boolean) 1 := ⟨inT4 (List.mem_of_getElem? (i := 0) (by decide +kernel)), inT1 (List.mem_of_getElem? (i := 1) (by decide +kernel)), by decide +kernel, by decide +kernel, by decide +kernel, by decide +kernel⟩
abbrev mX4_squeezeOf : MT := (yX4_squeezeOf, cX4_squeezeOf, 5, (some .int))
theorem Y_X4_squeezeOf : YL yX4_squeezeOf cX4_squeezeOf 5 (some .int) 3 := ⟨inT4 (List.mem_of_getElem? (i := 5) (by decide +kernel)), inT1 (List.mem_of_getElem? (i := 10) (by decide +kernel)), by decide +kernel, by decide +kernel, by decide +kernel, by decide +kernel⟩
abbrev mX11_blow : MT := (yX11_blow, cX11_blow, 7, (some .int))
theorem Y_X11_blow : YL yX11_blow cX11_blow 7 (some .int) 5 := ⟨inT4 (List.mem_of_getElem? (i := 12) (by decide +kernel)), inT1 (List.mem_of_getElem? (i := 1) (by decide +kernel)), by decide +kernel, by decide +kernel, by decide +kernel, by decide +kernel⟩
abbrev mX4_blowOf : MT := (yX4_blowOf, cX4_blowOf, 3, (some .int))
theorem Y_X4_blowOf : YL yX4_blowOf cX4_blowOf 3 (some .int) 2 := ⟨inT4 (List.mem_of_getElem? (i := 16) (by decide +kernel)), inT1 (List.mem_of_getElem? (i := 10) (by decide +kernel)), by decide +kernel, by decide +kernel, by decide +kernel, by decide +kernel⟩
abbrev mX4_blowAt : MT := (yX4_blowAt, cX4_blowAt, 3, (some .int))
theorem Y_X4_blowAt : YL yX4_blowAt cX4_blowAt 3 (some .int) 2 := ⟨inT4 (List.mem_of_getElem? (i := 21) (by decide +kernel)), inT1 (List.mem_of_getElem? (i := 10) (by decide +kernel)), by decide +kernel, by decide +kernel, by decide +kernel, by decide +kernel⟩
abbrev mJ9_min_f86c9 : MT := (yJ9_min_f86c9, cJ9_min_f86c9, 4, (some .long))
theorem Y_J9_min_f86c9 : YL yJ9_min_f86c9 cJ9_min_f86c9 4 (some .long) 2 := ⟨inT4 (List.mem_of_getElem? (i := 26) (by decide +kernel)), inT1 (List.mem_of_getElem? (i := 14) (by decide +kernel)), by decide +kernel, by decide +kernel, by decide +kernel, by decide +kernel⟩
abbrev mX11_again : MT := (yX11_again, cX11_again, 7, (some .int))
theorem Y_X11_again : YL yX11_again cX11_again 7 (some .int) 4 := ⟨inT4 (List.mem_of_getElem? (i := 30) (by decide +kernel)), inT1 (List.mem_of_getElem? (i := 1) (by decide +kernel)), by decide +kernel, by decide +kernel, by decide +kernel, by decide +kernel⟩
abbrev mX4_holds : MT := (yX4_holds, cX4_holds, 4, (some .boolean))
theorem Y_X4_holds : YL yX4_holds cX4_holds 4 (some .boolean) 2 := ⟨inT4 (List.mem_of_getElem? (i := 34) (by decide +kernel)), inT1 (List.mem_of_getElem? (i := 10) (by decide +kernel)), by decide +kernel, by decide +kernel, by decide +kernel, by decide +kernel⟩
abbrev mX4_wearByBlow : MT := (yX4_wearByBlow, cX4_wearByBlow, 1, none)
theorem Y_X4_wearByBlow : YL yX4_wearByBlow cX4_wearByBlow 1 none 0 := ⟨inT4 (List.mem_of_getElem? (i := 39) (by decide +kernel)), inT1 (List.mem_of_getElem? (i := 10) (by decide +kernel)), by decide +kernel, by decide +kernel, by decide +kernel, by decide +kernel⟩
abbrev mX11_breaks : MT := (yX11_breaks, cX11_breaks, 8, (some .int))
theorem Y_X11_breaks : YL yX11_breaks cX11_breaks 8 (some .int) 2 := ⟨inT4 (List.mem_of_getElem? (i := 43) (by decide +kernel)), inT1 (List.mem_of_getElem? (i := 1) (by decide +kernel)), by decide +kernel, by decide +kernel, by decide +kernel, by decide +kernel⟩
abbrev mX0_dropAt : MT := (yX0_dropAt, cX0_dropAt, 2, (some (.object "FoamArms$Drop")))
theorem Y_X0_dropAt : YL yX0_dropAt cX0_dropAt 2 (some (.object "FoamArms$Drop")) 1 := ⟨inT4 (List.mem_of_getElem? (i := 47) (by decide +kernel)), inT1 (List.mem_of_getElem? (i := 9) (by decide +kernel)), by decide +kernel, by decide +kernel, by decide +kernel, by decide +kernel⟩
abbrev mX11_timeThatBreaks : MT := (yX11_timeThatBreaks, cX11_timeThatBreaks, 4, (some .int))
theorem Y_X11_timeThatBreaks : YL yX11_timeThatBreaks cX11_timeThatBreaks 4 (some .int) 2 := ⟨inT4 (List.mem_of_getElem? (i := 51) (by decide +kernel)), inT1 (List.mem_of_getElem? (i := 1) (by decide +kernel)), by decide +kernel, by decide +kernel, by decide +kernel, by decide +kernel⟩
abbrev mX11_breaksAt : MT := (yX11_breaksAt, cX11_breaksAt, 1, (some .int))
theorem Y_X11_breaksAt : YL yX11_breaksAt cX11_breaksAt 1 (some .int) 0 := ⟨inT4 (List.mem_of_getElem? (i := 55) (by decide +kernel)), inT1 (List.mem_of_getElem? (i := 1) (by decide +kernel)), by decide +kernel, by decide +kernel, by decide +kernel, by decide +kernel⟩
abbrev mX11_spans : MT := (yX11_spans, cX11_spans, 8, (some .int))
theorem Y_X11_spans : YL yX11_spans cX11_spans 8 (some .int) 4 := ⟨inT4 (List.mem_of_getElem? (i := 59) (by decide +kernel)), inT1 (List.mem_of_getElem? (i := 1) (by decide +kernel)), by decide +kernel, by decide +kernel, by decide +kernel, by decide +kernel⟩
abbrev mX11_tapeTellsSpans : MT := (yX11_tapeTellsSpans, cX11_tapeTellsSpans, 2, (some .boolean))
theorem Y_X11_tapeTellsSpans : YL yX11_tapeTellsSpans cX11_tapeTellsSpans 2 (some .boolean) 0 := ⟨inT4 (List.mem_of_getElem? (i := 63) (by decide +kernel)), inT1 (List.mem_of_getElem? (i := 1) (by decide +kernel)), by decide +kernel, by decide +kernel, by decide +kernel, by decide +kernel⟩
abbrev mX11_weightsThatHold : MT := (yX11_weightsThatHold, cX11_weightsThatHold, 9, (some .int))
theorem Y_X11_weightsThatHold : YL yX11_weightsThatHold cX11_weightsThatHold 9 (some .int) 4 := ⟨inT4 (List.mem_of_getElem? (i := 68) (by decide +kernel)), inT1 (List.mem_of_getElem? (i := 1) (by decide +kernel)), by decide +kernel, by decide +kernel, by decide +kernel, by decide +kernel⟩
abbrev mX11_highest : MT := (yX11_highest, cX11_highest, 5, (some .int))
theorem Y_X11_highest : YL yX11_highest cX11_highest 5 (some .int) 3 := ⟨inT4 (List.mem_of_getElem? (i := 74) (by decide +kernel)), inT1 (List.mem_of_getElem? (i := 1) (by decide +kernel)), by decide +kernel, by decide +kernel, by decide +kernel, by decide +kernel⟩
abbrev mX4_greatestHeight : MT := (yX4_greatestHeight, cX4_greatestHeight, 6, (some .int))
theorem Y_X4_greatestHeight : YL yX4_greatestHeight cX4_greatestHeight 6 (some .int) 2 := ⟨inT4 (List.mem_of_getElem? (i := 78) (by decide +kernel)), inT1 (List.mem_of_getElem? (i := 10) (by decide +kernel)), by decide +kernel, by decide +kernel, by decide +kernel, by decide +kernel⟩
abbrev mX4_isWithin : MT := (yX4_isWithin, cX4_isWithin, 6, (some .boolean))
theorem Y_X4_isWithin : YL yX4_isWithin cX4_isWithin 6 (some .boolean) 3 := ⟨inT4 (List.mem_of_getElem? (i := 82) (by decide +kernel)), inT1 (List.mem_of_getElem? (i := 10) (by decide +kernel)), by decide +kernel, by decide +kernel, by decide +kernel, by decide +kernel⟩
abbrev mX11_recorded : MT := (yX11_recorded, cX11_recorded, 10, (some .int))
theorem Y_X11_recorded : YL yX11_recorded cX11_recorded 10 (some .int) 6 := ⟨inT4 (List.mem_of_getElem? (i := 86) (by decide +kernel)), inT1 (List.mem_of_getElem? (i := 1) (by decide +kernel)), by decide +kernel, by decide +kernel, by decide +kernel, by decide +kernel⟩
abbrev mX11_pads : MT := (yX11_pads, cX11_pads, 11, (some .int))
theorem Y_X11_pads : YL yX11_pads cX11_pads 11 (some .int) 5 := ⟨inT4 (List.mem_of_getElem? (i := 90) (by decide +kernel)), inT1 (List.mem_of_getElem? (i := 1) (by decide +kernel)), by decide +kernel, by decide +kernel, by decide +kernel, by decide +kernel⟩
abbrev mX0_boxAt : MT := (yX0_boxAt, cX0_boxAt, 2, (some (.object "FoamArms$Box")))
theorem Y_X0_boxAt : YL yX0_boxAt cX0_boxAt 2 (some (.object "FoamArms$Box")) 1 := ⟨inT4 (List.mem_of_getElem? (i := 94) (by decide +kernel)), inT1 (List.mem_of_getElem? (i := 9) (by decide +kernel)), by decide +kernel, by decide +kernel, by decide +kernel, by decide +kernel⟩
abbrev mX7_readKinds : MT := (yX7_readKinds, cX7_readKinds, 6, (some .boolean))
theorem Y_X7_readKinds : YL yX7_readKinds cX7_readKinds 6 (some .boolean) 2 := ⟨inT4 (List.mem_of_getElem? (i := 98) (by decide +kernel)), inT1 (List.mem_of_getElem? (i := 11) (by decide +kernel)), by decide +kernel, by decide +kernel, by decide +kernel, by decide +kernel⟩
abbrev mX11_layKind : MT := (yX11_layKind, cX11_layKind, 4, none)
theorem Y_X11_layKind : YL yX11_layKind cX11_layKind 4 none 3 := ⟨inT4 (List.mem_of_getElem? (i := 104) (by decide +kernel)), inT1 (List.mem_of_getElem? (i := 1) (by decide +kernel)), by decide +kernel, by decide +kernel, by decide +kernel, by decide +kernel⟩
abbrev mX7_foamOf : MT := (yX7_foamOf, cX7_foamOf, 2, (some .int))
theorem Y_X7_foamOf : YL yX7_foamOf cX7_foamOf 2 (some .int) 1 := ⟨inT4 (List.mem_of_getElem? (i := 108) (by decide +kernel)), inT1 (List.mem_of_getElem? (i := 11) (by decide +kernel)), by decide +kernel, by decide +kernel, by decide +kernel, by decide +kernel⟩
abbrev mX7_thickOf : MT := (yX7_thickOf, cX7_thickOf, 2, (some .int))
theorem Y_X7_thickOf : YL yX7_thickOf cX7_thickOf 2 (some .int) 1 := ⟨inT4 (List.mem_of_getElem? (i := 112) (by decide +kernel)), inT1 (List.mem_of_getElem? (i := 11) (by decide +kernel)), by decide +kernel, by decide +kernel, by decide +kernel, by decide +kernel⟩
abbrev mX7_judge : MT := (yX7_judge, cX7_judge, 4, none)
theorem Y_X7_judge : YL yX7_judge cX7_judge 4 none 3 := ⟨inT4 (List.mem_of_getElem? (i := 117) (by decide +kernel)), inT1 (List.mem_of_getElem? (i := 11) (by decide +kernel)), by decide +kernel, by decide +kernel, by decide +kernel, by decide +kernel⟩
abbrev mX7_choose : MT := (yX7_choose, cX7_choose, 6, (some .int))
theorem Y_X7_choose : YL yX7_choose cX7_choose 6 (some .int) 2 := ⟨inT4 (List.mem_of_getElem? (i := 121) (by decide +kernel)), inT1 (List.mem_of_getElem? (i := 11) (by decide +kernel)), by decide +kernel, by decide +kernel, by decide +kernel, by decide +kernel⟩
abbrev mX7_choosePair : MT := (yX7_choosePair, cX7_choosePair, 6, (some .int))
theorem Y_X7_choosePair : YL yX7_choosePair cX7_choosePair 6 (some .int) 2 := ⟨inT4 (List.mem_of_getElem? (i := 125) (by decide +kernel)), inT1 (List.mem_of_getElem? (i := 11) (by decide +kernel)), by decide +kernel, by decide +kernel, by decide +kernel, by decide +kernel⟩
abbrev mX11_padAt : MT := (yX11_padAt, cX11_padAt, 2, (some .int))
theorem Y_X11_padAt : YL yX11_padAt cX11_padAt 2 (some .int) 1 := ⟨inT4 (List.mem_of_getElem? (i := 129) (by decide +kernel)), inT1 (List.mem_of_getElem? (i := 1) (by decide +kernel)), by decide +kernel, by decide +kernel, by decide +kernel, by decide +kernel⟩
abbrev mX11_boxes : MT := (yX11_boxes, cX11_boxes, 5, (some .int))
theorem Y_X11_boxes : YL yX11_boxes cX11_boxes 5 (some .int) 3 := ⟨inT4 (List.mem_of_getElem? (i := 133) (by decide +kernel)), inT1 (List.mem_of_getElem? (i := 1) (by decide +kernel)), by decide +kernel, by decide +kernel, by decide +kernel, by decide +kernel⟩
abbrev mX3_take : MT := (yX3_take, cX3_take, 7, none)
theorem Y_X3_take : YL yX3_take cX3_take 7 none 2 := ⟨inT4 (List.mem_of_getElem? (i := 137) (by decide +kernel)), inT1 (List.mem_of_getElem? (i := 12) (by decide +kernel)), by decide +kernel, by decide +kernel, by decide +kernel, by decide +kernel⟩
abbrev mX9_goesInto : MT := (yX9_goesInto, cX9_goesInto, 5, (some .boolean))
theorem Y_X9_goesInto : YL yX9_goesInto cX9_goesInto 5 (some .boolean) 2 := ⟨inT4 (List.mem_of_getElem? (i := 144) (by decide +kernel)), inT1 (List.mem_of_getElem? (i := 16) (by decide +kernel)), by decide +kernel, by decide +kernel, by decide +kernel, by decide +kernel⟩
abbrev mX9_fits : MT := (yX9_fits, cX9_fits, 4, (some .boolean))
theorem Y_X9_fits : YL yX9_fits cX9_fits 4 (some .boolean) 3 := ⟨inT4 (List.mem_of_getElem? (i := 148) (by decide +kernel)), inT1 (List.mem_of_getElem? (i := 16) (by decide +kernel)), by decide +kernel, by decide +kernel, by decide +kernel, by decide +kernel⟩
abbrev mX3_choose : MT := (yX3_choose, cX3_choose, 6, (some .int))
theorem Y_X3_choose : YL yX3_choose cX3_choose 6 (some .int) 1 := ⟨inT4 (List.mem_of_getElem? (i := 152) (by decide +kernel)), inT1 (List.mem_of_getElem? (i := 12) (by decide +kernel)), by decide +kernel, by decide +kernel, by decide +kernel, by decide +kernel⟩
abbrev mJ6_bitCount_0f7a4 : MT := (yJ6_bitCount_0f7a4, cJ6_bitCount_0f7a4, 1, (some .int))
theorem Y_J6_bitCount_0f7a4 : YL yJ6_bitCount_0f7a4 cJ6_bitCount_0f7a4 1 (some .int) 1 := ⟨inT4 (List.mem_of_getElem? (i := 155) (by decide +kernel)), inT1 (List.mem_of_getElem? (i := 19) (by decide +kernel)), by decide +kernel, by decide +kernel, by decide +kernel, by decide +kernel⟩
abbrev mX3_costOf : MT := (yX3_costOf, cX3_costOf, 5, (some .int))
theorem Y_X3_costOf : YL yX3_costOf cX3_costOf 5 (some .int) 1 := ⟨inT4 (List.mem_of_getElem? (i := 162) (by decide +kernel)), inT1 (List.mem_of_getElem? (i := 12) (by decide +kernel)), by decide +kernel, by decide +kernel, by decide +kernel, by decide +kernel⟩
abbrev mX3_cheapestOf : MT := (yX3_cheapestOf, cX3_cheapestOf, 4, (some .int))
theorem Y_X3_cheapestOf : YL yX3_cheapestOf cX3_cheapestOf 4 (some .int) 1 := ⟨inT4 (List.mem_of_getElem? (i := 166) (by decide +kernel)), inT1 (List.mem_of_getElem? (i := 12) (by decide +kernel)), by decide +kernel, by decide +kernel, by decide +kernel, by decide +kernel⟩
abbrev mX11_boxSet : MT := (yX11_boxSet, cX11_boxSet, 1, (some .int))
theorem Y_X11_boxSet : YL yX11_boxSet cX11_boxSet 1 (some .int) 0 := ⟨inT4 (List.mem_of_getElem? (i := 170) (by decide +kernel)), inT1 (List.mem_of_getElem? (i := 1) (by decide +kernel)), by decide +kernel, by decide +kernel, by decide +kernel, by decide +kernel⟩
abbrev mX11_stack : MT := (yX11_stack, cX11_stack, 7, (some .int))
theorem Y_X11_stack : YL yX11_stack cX11_stack 7 (some .int) 4 := ⟨inT4 (List.mem_of_getElem? (i := 174) (by decide +kernel)), inT1 (List.mem_of_getElem? (i := 1) (by decide +kernel)), by decide +kernel, by decide +kernel, by decide +kernel, by decide +kernel⟩
abbrev mX11_dayOfFall : MT := (yX11_dayOfFall, cX11_dayOfFall, 4, (some .int))
theorem Y_X11_dayOfFall : YL yX11_dayOfFall cX11_dayOfFall 4 (some .int) 2 := ⟨inT4 (List.mem_of_getElem? (i := 179) (by decide +kernel)), inT1 (List.mem_of_getElem? (i := 1) (by decide +kernel)), by decide +kernel, by decide +kernel, by decide +kernel, by decide +kernel⟩
abbrev mX11_proved : MT := (yX11_proved, cX11_proved, 6, (some .int))
theorem Y_X11_proved : YL yX11_proved cX11_proved 6 (some .int) 2 := ⟨inT4 (List.mem_of_getElem? (i := 183) (by decide +kernel)), inT1 (List.mem_of_getElem? (i := 1) (by decide +kernel)), by decide +kernel, by decide +kernel, by decide +kernel, by decide +kernel⟩
abbrev mX11_power : MT := (yX11_power, cX11_power, 6, (some .long))
theorem Y_X11_power : YL yX11_power cX11_power 6 (some .long) 2 := ⟨inT4 (List.mem_of_getElem? (i := 187) (by decide +kernel)), inT1 (List.mem_of_getElem? (i := 1) (by decide +kernel)), by decide +kernel, by decide +kernel, by decide +kernel, by decide +kernel⟩
abbrev mX11_needed : MT := (yX11_needed, cX11_needed, 8, (some .int))
theorem Y_X11_needed : YL yX11_needed cX11_needed 8 (some .int) 2 := ⟨inT4 (List.mem_of_getElem? (i := 191) (by decide +kernel)), inT1 (List.mem_of_getElem? (i := 1) (by decide +kernel)), by decide +kernel, by decide +kernel, by decide +kernel, by decide +kernel⟩
abbrev mX11_count : MT := (yX11_count, cX11_count, 2, (some .int))
theorem Y_X11_count : YL yX11_count cX11_count 2 (some .int) 1 := ⟨inT4 (List.mem_of_getElem? (i := 197) (by decide +kernel)), inT1 (List.mem_of_getElem? (i := 1) (by decide +kernel)), by decide +kernel, by decide +kernel, by decide +kernel, by decide +kernel⟩
abbrev mX11_journey : MT := (yX11_journey, cX11_journey, 8, (some .long))
theorem Y_X11_journey : YL yX11_journey cX11_journey 8 (some .long) 2 := ⟨inT4 (List.mem_of_getElem? (i := 205) (by decide +kernel)), inT1 (List.mem_of_getElem? (i := 1) (by decide +kernel)), by decide +kernel, by decide +kernel, by decide +kernel, by decide +kernel⟩
abbrev mX11_tapeTellsLegs : MT := (yX11_tapeTellsLegs, cX11_tapeTellsLegs, 3, (some .boolean))
theorem Y_X11_tapeTellsLegs : YL yX11_tapeTellsLegs cX11_tapeTellsLegs 3 (some .boolean) 0 := ⟨inT4 (List.mem_of_getElem? (i := 209) (by decide +kernel)), inT1 (List.mem_of_getElem? (i := 1) (by decide +kernel)), by decide +kernel, by decide +kernel, by decide +kernel, by decide +kernel⟩
abbrev mX11_sharesOfLeg : MT := (yX11_sharesOfLeg, cX11_sharesOfLeg, 2, (some .int))
theorem Y_X11_sharesOfLeg : YL yX11_sharesOfLeg cX11_sharesOfLeg 2 (some .int) 1 := ⟨inT4 (List.mem_of_getElem? (i := 213) (by decide +kernel)), inT1 (List.mem_of_getElem? (i := 1) (by decide +kernel)), by decide +kernel, by decide +kernel, by decide +kernel, by decide +kernel⟩
abbrev mX11_shareOfLeg : MT := (yX11_shareOfLeg, cX11_shareOfLeg, 3, (some .int))
theorem Y_X11_shareOfLeg : YL yX11_shareOfLeg cX11_shareOfLeg 3 (some .int) 2 := ⟨inT4 (List.mem_of_getElem? (i := 217) (by decide +kernel)), inT1 (List.mem_of_getElem? (i := 1) (by decide +kernel)), by decide +kernel, by decide +kernel, by decide +kernel, by decide +kernel⟩
abbrev mX11_heightOfLeg : MT := (yX11_heightOfLeg, cX11_heightOfLeg, 3, (some .int))
theorem Y_X11_heightOfLeg : YL yX11_heightOfLeg cX11_heightOfLeg 3 (some .int) 2 := ⟨inT4 (List.mem_of_getElem? (i := 221) (by decide +kernel)), inT1 (List.mem_of_getElem? (i := 1) (by decide +kernel)), by decide +kernel, by decide +kernel, by decide +kernel, by decide +kernel⟩
abbrev mX11_heldSharesOfLeg : MT := (yX11_heldSharesOfLeg, cX11_heldSharesOfLeg, 5, (some .int))
theorem Y_X11_heldSharesOfLeg : YL yX11_heldSharesOfLeg cX11_heldSharesOfLeg 5 (some .int) 2 := ⟨inT5 (List.mem_of_getElem? (i := 50) (by decide +kernel)), inT1 (List.mem_of_getElem? (i := 1) (by decide +kernel)), by decide +kernel, by decide +kernel, by decide +kernel, by decide +kernel⟩
abbrev mX12_init : MT := (yX12_init, cX12_init, 1, none)
theorem Y_X12_init : YL yX12_init cX12_init 1 none 0 := ⟨inT5 (List.mem_of_getElem? (i := 55) (by decide +kernel)), inT1 (List.mem_of_getElem? (i := 13) (by decide +kernel)), by decide +kernel, by decide +kernel, by decide +kernel, by decide +kernel⟩
abbrev mX12_thrown : MT := (yX12_thrown, cX12_thrown, 1, (some .int))
theorem Y_X12_thrown : YL yX12_thrown cX12_thrown 1 (some .int) 0 := ⟨inT5 (List.mem_of_getElem? (i := 167) (by decide +kernel)), inT1 (List.mem_of_getElem? (i := 13) (by decide +kernel)), by decide +kernel, by decide +kernel, by decide +kernel, by decide +kernel⟩
abbrev mX12_feed : MT := (yX12_feed, cX12_feed, 6, (some .int))
theorem Y_X12_feed : YL yX12_feed cX12_feed 6 (some .int) 5 := ⟨inT5 (List.mem_of_getElem? (i := 171) (by decide +kernel)), inT1 (List.mem_of_getElem? (i := 13) (by decide +kernel)), by decide +kernel, by decide +kernel, by decide +kernel, by decide +kernel⟩
abbrev mX12_come : MT := (yX12_come, cX12_come, 3, none)
theorem Y_X12_come : YL yX12_come cX12_come 3 none 1 := ⟨inT5 (List.mem_of_getElem? (i := 175) (by decide +kernel)), inT1 (List.mem_of_getElem? (i := 13) (by decide +kernel)), by decide +kernel, by decide +kernel, by decide +kernel, by decide +kernel⟩
abbrev mX12_end : MT := (yX12_end, cX12_end, 2, (some .boolean))
theorem Y_X12_end : YL yX12_end cX12_end 2 (some .boolean) 1 := ⟨inT5 (List.mem_of_getElem? (i := 179) (by decide +kernel)), inT1 (List.mem_of_getElem? (i := 13) (by decide +kernel)), by decide +kernel, by decide +kernel, by decide +kernel, by decide +kernel⟩
abbrev mX12_next : MT := (yX12_next, cX12_next, 2, (some .int))
theorem Y_X12_next : YL yX12_next cX12_next 2 (some .int) 1 := ⟨inT5 (List.mem_of_getElem? (i := 183) (by decide +kernel)), inT1 (List.mem_of_getElem? (i := 13) (by decide +kernel)), by decide +kernel, by decide +kernel, by decide +kernel, by decide +kernel⟩
abbrev mX12_isIn : MT := (yX12_isIn, cX12_isIn, 3, (some .boolean))
theorem Y_X12_isIn : YL yX12_isIn cX12_isIn 3 (some .boolean) 3 := ⟨inT5 (List.mem_of_getElem? (i := 186) (by decide +kernel)), inT1 (List.mem_of_getElem? (i := 13) (by decide +kernel)), by decide +kernel, by decide +kernel, by decide +kernel, by decide +kernel⟩
abbrev mX12_book : MT := (yX12_book, cX12_book, 3, (some .int))
theorem Y_X12_book : YL yX12_book cX12_book 3 (some .int) 0 := ⟨inT5 (List.mem_of_getElem? (i := 190) (by decide +kernel)), inT1 (List.mem_of_getElem? (i := 13) (by decide +kernel)), by decide +kernel, by decide +kernel, by decide +kernel, by decide +kernel⟩
abbrev mX12_take : MT := (yX12_take, cX12_take, 2, (some .int))
theorem Y_X12_take : YL yX12_take cX12_take 2 (some .int) 0 := ⟨inT5 (List.mem_of_getElem? (i := 194) (by decide +kernel)), inT1 (List.mem_of_getElem? (i := 13) (by decide +kernel)), by decide +kernel, by decide +kernel, by decide +kernel, by decide +kernel⟩
abbrev mX12_at : MT := (yX12_at, cX12_at, 1, (some .int))
theorem Y_X12_at : YL yX12_at cX12_at 1 (some .int) 1 := ⟨inT5 (List.mem_of_getElem? (i := 197) (by decide +kernel)), inT1 (List.mem_of_getElem? (i := 13) (by decide +kernel)), by decide +kernel, by decide +kernel, by decide +kernel, by decide +kernel⟩
abbrev mX12_go : MT := (yX12_go, cX12_go, 5, none)
theorem Y_X12_go : YL yX12_go cX12_go 5 none 0 := ⟨inT5 (List.mem_of_getElem? (i := 201) (by decide +kernel)), inT1 (List.mem_of_getElem? (i := 13) (by decide +kernel)), by decide +kernel, by decide +kernel, by decide +kernel, by decide +kernel⟩
abbrev mX12_isLetter : MT := (yX12_isLetter, cX12_isLetter, 1, (some .boolean))
theorem Y_X12_isLetter : YL yX12_isLetter cX12_isLetter 1 (some .boolean) 1 := ⟨inT5 (List.mem_of_getElem? (i := 204) (by decide +kernel)), inT1 (List.mem_of_getElem? (i := 13) (by decide +kernel)), by decide +kernel, by decide +kernel, by decide +kernel, by decide +kernel⟩
abbrev mX12_isDigit : MT := (yX12_isDigit, cX12_isDigit, 1, (some .boolean))
theorem Y_X12_isDigit : YL yX12_isDigit cX12_isDigit 1 (some .boolean) 1 := ⟨inT5 (List.mem_of_getElem? (i := 207) (by decide +kernel)), inT1 (List.mem_of_getElem? (i := 13) (by decide +kernel)), by decide +kernel, by decide +kernel, by decide +kernel, by decide +kernel⟩
abbrev mX12_byteAt : MT := (yX12_byteAt, cX12_byteAt, 2, (some .int))
theorem Y_X12_byteAt : YL yX12_byteAt cX12_byteAt 2 (some .int) 1 := ⟨inT5 (List.mem_of_getElem? (i := 211) (by decide +kernel)), inT1 (List.mem_of_getElem? (i := 13) (by decide +kernel)), by decide +kernel, by decide +kernel, by decide +kernel, by decide +kernel⟩
abbrev mX12_readLine : MT := (yX12_readLine, cX12_readLine, 2, (some .boolean))
theorem Y_X12_readLine : YL yX12_readLine cX12_readLine 2 (some .boolean) 0 := ⟨inT5 (List.mem_of_getElem? (i := 217) (by decide +kernel)), inT1 (List.mem_of_getElem? (i := 13) (by decide +kernel)), by decide +kernel, by decide +kernel, by decide +kernel, by decide +kernel⟩
abbrev mX12_isFoam : MT := (yX12_isFoam, cX12_isFoam, 1, (some .boolean))
theorem Y_X12_isFoam : YL yX12_isFoam cX12_isFoam 1 (some .boolean) 0 := ⟨inT5 (List.mem_of_getElem? (i := 221) (by decide +kernel)), inT1 (List.mem_of_getElem? (i := 13) (by decide +kernel)), by decide +kernel, by decide +kernel, by decide +kernel, by decide +kernel⟩
abbrev mX12_spelt : MT := (yX12_spelt, cX12_spelt, 7, (some .long))
theorem Y_X12_spelt : YL yX12_spelt cX12_spelt 7 (some .long) 5 := ⟨inT5 (List.mem_of_getElem? (i := 224) (by decide +kernel)), inT1 (List.mem_of_getElem? (i := 13) (by decide +kernel)), by decide +kernel, by decide +kernel, by decide +kernel, by decide +kernel⟩
abbrev mX12_isKey : MT := (yX12_isKey, cX12_isKey, 3, (some .boolean))
theorem Y_X12_isKey : YL yX12_isKey cX12_isKey 3 (some .boolean) 1 := ⟨inT5 (List.mem_of_getElem? (i := 228) (by decide +kernel)), inT1 (List.mem_of_getElem? (i := 13) (by decide +kernel)), by decide +kernel, by decide +kernel, by decide +kernel, by decide +kernel⟩
abbrev mX12_readFoam : MT := (yX12_readFoam, cX12_readFoam, 4, (some .boolean))
theorem Y_X12_readFoam : YL yX12_readFoam cX12_readFoam 4 (some .boolean) 0 := ⟨inT5 (List.mem_of_getElem? (i := 232) (by decide +kernel)), inT1 (List.mem_of_getElem? (i := 13) (by decide +kernel)), by decide +kernel, by decide +kernel, by decide +kernel, by decide +kernel⟩
abbrev mX12_bad : MT := (yX12_bad, cX12_bad, 2, (some .boolean))
theorem Y_X12_bad : YL yX12_bad cX12_bad 2 (some .boolean) 1 := ⟨inT5 (List.mem_of_getElem? (i := 236) (by decide +kernel)), inT1 (List.mem_of_getElem? (i := 13) (by decide +kernel)), by decide +kernel, by decide +kernel, by decide +kernel, by decide +kernel⟩
abbrev mX12_readName : MT := (yX12_readName, cX12_readName, 2, (some .boolean))
theorem Y_X12_readName : YL yX12_readName cX12_readName 2 (some .boolean) 1 := ⟨inT6 (List.mem_of_getElem? (i := 0) (by decide +kernel)), inT1 (List.mem_of_getElem? (i := 13) (by decide +kernel)), by decide +kernel, by decide +kernel, by decide +kernel, by decide +kernel⟩
abbrev mX12_isTaken : MT := (yX12_isTaken, cX12_isTaken, 1, (some .boolean))
theorem Y_X12_isTaken : YL yX12_isTaken cX12_isTaken 1 (some .boolean) 0 := ⟨inT6 (List.mem_of_getElem? (i := 4) (by decide +kernel)), inT1 (List.mem_of_getElem? (i := 13) (by decide +kernel)), by decide +kernel, by decide +kernel, by decide +kernel, by decide +kernel⟩
abbrev mX12_isThing : MT := (yX12_isThing, cX12_isThing, 1, (some .boolean))
theorem Y_X12_isThing : YL yX12_isThing cX12_isThing 1 (some .boolean) 0 := ⟨inT6 (List.mem_of_getElem? (i := 8) (by decide +kernel)), inT1 (List.mem_of_getElem? (i := 13) (by decide +kernel)), by decide +kernel, by decide +kernel, by decide +kernel, by decide +kernel⟩
abbrev mX12_isBox : MT := (yX12_isBox, cX12_isBox, 1, (some .boolean))
theorem Y_X12_isBox : YL yX12_isBox cX12_isBox 1 (some .boolean) 0 := ⟨inT6 (List.mem_of_getElem? (i := 12) (by decide +kernel)), inT1 (List.mem_of_getElem? (i := 13) (by decide +kernel)), by decide +kernel, by decide +kernel, by decide +kernel, by decide +kernel⟩
abbrev mX12_isPad : MT := (yX12_isPad, cX12_isPad, 1, (some .boolean))
theorem Y_X12_isPad : YL yX12_isPad cX12_isPad 1 (some .boolean) 0 := ⟨inT6 (List.mem_of_getElem? (i := 16) (by decide +kernel)), inT1 (List.mem_of_getElem? (i := 13) (by decide +kernel)), by decide +kernel, by decide +kernel, by decide +kernel, by decide +kernel⟩
abbrev mX12_isDrop : MT := (yX12_isDrop, cX12_isDrop, 1, (some .boolean))
theorem Y_X12_isDrop : YL yX12_isDrop cX12_isDrop 1 (some .boolean) 0 := ⟨inT6 (List.mem_of_getElem? (i := 20) (by decide +kernel)), inT1 (List.mem_of_getElem? (i := 13) (by decide +kernel)), by decide +kernel, by decide +kernel, by decide +kernel, by decide +kernel⟩
abbrev mX12_weighs : MT := (yX12_weighs, cX12_weighs, 0, (some .long))
theorem Y_X12_weighs : YL yX12_weighs cX12_weighs 0 (some .long) 0 := ⟨inT6 (List.mem_of_getElem? (i := 23) (by decide +kernel)), inT1 (List.mem_of_getElem? (i := 13) (by decide +kernel)), by decide +kernel, by decide +kernel, by decide +kernel, by decide +kernel⟩
abbrev mX12_find : MT := (yX12_find, cX12_find, 3, (some .int))
theorem Y_X12_find : YL yX12_find cX12_find 3 (some .int) 1 := ⟨inT6 (List.mem_of_getElem? (i := 28) (by decide +kernel)), inT1 (List.mem_of_getElem? (i := 13) (by decide +kernel)), by decide +kernel, by decide +kernel, by decide +kernel, by decide +kernel⟩
abbrev mX12_readPoint : MT := (yX12_readPoint, cX12_readPoint, 4, (some .boolean))
theorem Y_X12_readPoint : YL yX12_readPoint cX12_readPoint 4 (some .boolean) 2 := ⟨inT6 (List.mem_of_getElem? (i := 32) (by decide +kernel)), inT1 (List.mem_of_getElem? (i := 13) (by decide +kernel)), by decide +kernel, by decide +kernel, by decide +kernel, by decide +kernel⟩
abbrev mX12_readNumber : MT := (yX12_readNumber, cX12_readNumber, 3, (some .boolean))
theorem Y_X12_readNumber : YL yX12_readNumber cX12_readNumber 3 (some .boolean) 2 := ⟨inT6 (List.mem_of_getElem? (i := 36) (by decide +kernel)), inT1 (List.mem_of_getElem? (i := 13) (by decide +kernel)), by decide +kernel, by decide +kernel, by decide +kernel, by decide +kernel⟩
abbrev mX12_readInto : MT := (yX12_readInto, cX12_readInto, 4, (some .boolean))
theorem Y_X12_readInto : YL yX12_readInto cX12_readInto 4 (some .boolean) 3 := ⟨inT6 (List.mem_of_getElem? (i := 40) (by decide +kernel)), inT1 (List.mem_of_getElem? (i := 13) (by decide +kernel)), by decide +kernel, by decide +kernel, by decide +kernel, by decide +kernel⟩
abbrev mX12_isSign : MT := (yX12_isSign, cX12_isSign, 2, (some .boolean))
theorem Y_X12_isSign : YL yX12_isSign cX12_isSign 2 (some .boolean) 1 := ⟨inT6 (List.mem_of_getElem? (i := 44) (by decide +kernel)), inT1 (List.mem_of_getElem? (i := 13) (by decide +kernel)), by decide +kernel, by decide +kernel, by decide +kernel, by decide +kernel⟩
abbrev mX12_readKey : MT := (yX12_readKey, cX12_readKey, 3, (some .boolean))
theorem Y_X12_readKey : YL yX12_readKey cX12_readKey 3 (some .boolean) 1 := ⟨inT6 (List.mem_of_getElem? (i := 49) (by decide +kernel)), inT1 (List.mem_of_getElem? (i := 13) (by decide +kernel)), by decide +kernel, by decide +kernel, by decide +kernel, by decide +kernel⟩
abbrev mX12_readThing : MT := (yX12_readThing, cX12_readThing, 4, (some .boolean))
theorem Y_X12_readThing : YL yX12_readThing cX12_readThing 4 (some .boolean) 0 := ⟨inT6 (List.mem_of_getElem? (i := 53) (by decide +kernel)), inT1 (List.mem_of_getElem? (i := 13) (by decide +kernel)), by decide +kernel, by decide +kernel, by decide +kernel, by decide +kernel⟩
abbrev mX12_readBox : MT := (yX12_readBox, cX12_readBox, 4, (some .boolean))
theorem Y_X12_readBox : YL yX12_readBox cX12_readBox 4 (some .boolean) 0 := ⟨inT6 (List.mem_of_getElem? (i := 57) (by decide +kernel)), inT1 (List.mem_of_getElem? (i := 13) (by decide +kernel)), by decide +kernel, by decide +kernel, by decide +kernel, by decide +kernel⟩
abbrev mX12_readPad : MT := (yX12_readPad, cX12_readPad, 3, (some .boolean))
theorem Y_X12_readPad : YL yX12_readPad cX12_readPad 3 (some .boolean) 0 := ⟨inT6 (List.mem_of_getElem? (i := 61) (by decide +kernel)), inT1 (List.mem_of_getElem? (i := 13) (by decide +kernel)), by decide +kernel, by decide +kernel, by decide +kernel, by decide +kernel⟩
abbrev mX12_readTold : MT := (yX12_readTold, cX12_readTold, 2, (some .boolean))
theorem Y_X12_readTold : YL yX12_readTold cX12_readTold 2 (some .boolean) 1 := ⟨inT6 (List.mem_of_getElem? (i := 65) (by decide +kernel)), inT1 (List.mem_of_getElem? (i := 13) (by decide +kernel)), by decide +kernel, by decide +kernel, by decide +kernel, by decide +kernel⟩
abbrev mX12_readDrop : MT := (yX12_readDrop, cX12_readDrop, 3, (some .boolean))
theorem Y_X12_readDrop : YL yX12_readDrop cX12_readDrop 3 (some .boolean) 0 := ⟨inT6 (List.mem_of_getElem? (i := 69) (by decide +kernel)), inT1 (List.mem_of_getElem? (i := 13) (by decide +kernel)), by decide +kernel, by decide +kernel, by decide +kernel, by decide +kernel⟩
abbrev mX12_fault : MT := (yX12_fault, cX12_fault, 1, (some .int))
theorem Y_X12_fault : YL yX12_fault cX12_fault 1 (some .int) 0 := ⟨inT6 (List.mem_of_getElem? (i := 73) (by decide +kernel)), inT1 (List.mem_of_getElem? (i := 13) (by decide +kernel)), by decide +kernel, by decide +kernel, by decide +kernel, by decide +kernel⟩
abbrev mX12_many : MT := (yX12_many, cX12_many, 3, (some .int))
theorem Y_X12_many : YL yX12_many cX12_many 3 (some .int) 2 := ⟨inT6 (List.mem_of_getElem? (i := 77) (by decide +kernel)), inT1 (List.mem_of_getElem? (i := 13) (by decide +kernel)), by decide +kernel, by decide +kernel, by decide +kernel, by decide +kernel⟩
abbrev mX12_isBooked : MT := (yX12_isBooked, cX12_isBooked, 3, (some .boolean))
theorem Y_X12_isBooked : YL yX12_isBooked cX12_isBooked 3 (some .boolean) 1 := ⟨inT6 (List.mem_of_getElem? (i := 81) (by decide +kernel)), inT1 (List.mem_of_getElem? (i := 13) (by decide +kernel)), by decide +kernel, by decide +kernel, by decide +kernel, by decide +kernel⟩
abbrev mX12_of : MT := (yX12_of, cX12_of, 2, (some .int))
theorem Y_X12_of : YL yX12_of cX12_of 2 (some .int) 1 := ⟨inT6 (List.mem_of_getElem? (i := 85) (by decide +kernel)), inT1 (List.mem_of_getElem? (i := 13) (by decide +kernel)), by decide +kernel, by decide +kernel, by decide +kernel, by decide +kernel⟩
abbrev mX12_push : MT := (yX12_push, cX12_push, 5, (some .int))
theorem Y_X12_push : YL yX12_push cX12_push 5 (some .int) 4 := ⟨inT6 (List.mem_of_getElem? (i := 89) (by decide +kernel)), inT1 (List.mem_of_getElem? (i := 13) (by decide +kernel)), by decide +kernel, by decide +kernel, by decide +kernel, by decide +kernel⟩
abbrev mX12_has : MT := (yX12_has, cX12_has, 4, (some .boolean))
theorem Y_X12_has : YL yX12_has cX12_has 4 (some .boolean) 3 := ⟨inT6 (List.mem_of_getElem? (i := 93) (by decide +kernel)), inT1 (List.mem_of_getElem? (i := 13) (by decide +kernel)), by decide +kernel, by decide +kernel, by decide +kernel, by decide +kernel⟩
abbrev mX12_lay : MT := (yX12_lay, cX12_lay, 10, none)
theorem Y_X12_lay : YL yX12_lay cX12_lay 10 none 2 := ⟨inT6 (List.mem_of_getElem? (i := 97) (by decide +kernel)), inT1 (List.mem_of_getElem? (i := 13) (by decide +kernel)), by decide +kernel, by decide +kernel, by decide +kernel, by decide +kernel⟩
abbrev mX12_squeeze : MT := (yX12_squeeze, cX12_squeeze, 6, (some .int))
theorem Y_X12_squeeze : YL yX12_squeeze cX12_squeeze 6 (some .int) 5 := ⟨inT6 (List.mem_of_getElem? (i := 101) (by decide +kernel)), inT1 (List.mem_of_getElem? (i := 13) (by decide +kernel)), by decide +kernel, by decide +kernel, by decide +kernel, by decide +kernel⟩
abbrev mX12_isDropped : MT := (yX12_isDropped, cX12_isDropped, 5, (some .boolean))
theorem Y_X12_isDropped : YL yX12_isDropped cX12_isDropped 5 (some .boolean) 4 := ⟨inT6 (List.mem_of_getElem? (i := 105) (by decide +kernel)), inT1 (List.mem_of_getElem? (i := 13) (by decide +kernel)), by decide +kernel, by decide +kernel, by decide +kernel, by decide +kernel⟩
abbrev mX12_takePad : MT := (yX12_takePad, cX12_takePad, 4, (some .boolean))
theorem Y_X12_takePad : YL yX12_takePad cX12_takePad 4 (some .boolean) 2 := ⟨inT6 (List.mem_of_getElem? (i := 109) (by decide +kernel)), inT1 (List.mem_of_getElem? (i := 13) (by decide +kernel)), by decide +kernel, by decide +kernel, by decide +kernel, by decide +kernel⟩
abbrev mX12_weightOf : MT := (yX12_weightOf, cX12_weightOf, 2, (some .int))
theorem Y_X12_weightOf : YL yX12_weightOf cX12_weightOf 2 (some .int) 1 := ⟨inT6 (List.mem_of_getElem? (i := 113) (by decide +kernel)), inT1 (List.mem_of_getElem? (i := 13) (by decide +kernel)), by decide +kernel, by decide +kernel, by decide +kernel, by decide +kernel⟩
abbrev mX12_squeezed : MT := (yX12_squeezed, cX12_squeezed, 10, (some .int))
theorem Y_X12_squeezed : YL yX12_squeezed cX12_squeezed 10 (some .int) 4 := ⟨inT6 (List.mem_of_getElem? (i := 117) (by decide +kernel)), inT1 (List.mem_of_getElem? (i := 13) (by decide +kernel)), by decide +kernel, by decide +kernel, by decide +kernel, by decide +kernel⟩
abbrev mX12_blow : MT := (yX12_blow, cX12_blow, 7, (some .int))
theorem Y_X12_blow : YL yX12_blow cX12_blow 7 (some .int) 5 := ⟨inT6 (List.mem_of_getElem? (i := 123) (by decide +kernel)), inT1 (List.mem_of_getElem? (i := 13) (by decide +kernel)), by decide +kernel, by decide +kernel, by decide +kernel, by decide +kernel⟩
abbrev mX12_blowAt : MT := (yX12_blowAt, cX12_blowAt, 8, (some .int))
theorem Y_X12_blowAt : YL yX12_blowAt cX12_blowAt 8 (some .int) 3 := ⟨inT6 (List.mem_of_getElem? (i := 128) (by decide +kernel)), inT1 (List.mem_of_getElem? (i := 13) (by decide +kernel)), by decide +kernel, by decide +kernel, by decide +kernel, by decide +kernel⟩
abbrev mX12_again : MT := (yX12_again, cX12_again, 7, (some .int))
theorem Y_X12_again : YL yX12_again cX12_again 7 (some .int) 4 := ⟨inT6 (List.mem_of_getElem? (i := 135) (by decide +kernel)), inT1 (List.mem_of_getElem? (i := 13) (by decide +kernel)), by decide +kernel, by decide +kernel, by decide +kernel, by decide +kernel⟩
abbrev mX12_markOf : MT := (yX12_markOf, cX12_markOf, 2, (some .int))
theorem Y_X12_markOf : YL yX12_markOf cX12_markOf 2 (some .int) 1 := ⟨inT6 (List.mem_of_getElem? (i := 139) (by decide +kernel)), inT1 (List.mem_of_getElem? (i := 13) (by decide +kernel)), by decide +kernel, by decide +kernel, by decide +kernel, by decide +kernel⟩
abbrev mX12_holds : MT := (yX12_holds, cX12_holds, 5, (some .boolean))
theorem Y_X12_holds : YL yX12_holds cX12_holds 5 (some .boolean) 3 := ⟨inT6 (List.mem_of_getElem? (i := 143) (by decide +kernel)), inT1 (List.mem_of_getElem? (i := 13) (by decide +kernel)), by decide +kernel, by decide +kernel, by decide +kernel, by decide +kernel⟩
abbrev mX12_keepsOf : MT := (yX12_keepsOf, cX12_keepsOf, 2, (some .int))
theorem Y_X12_keepsOf : YL yX12_keepsOf cX12_keepsOf 2 (some .int) 1 := ⟨inT6 (List.mem_of_getElem? (i := 147) (by decide +kernel)), inT1 (List.mem_of_getElem? (i := 13) (by decide +kernel)), by decide +kernel, by decide +kernel, by decide +kernel, by decide +kernel⟩
abbrev mX12_breaks : MT := (yX12_breaks, cX12_breaks, 8, (some .int))
theorem Y_X12_breaks : YL yX12_breaks cX12_breaks 8 (some .int) 2 := ⟨inT6 (List.mem_of_getElem? (i := 151) (by decide +kernel)), inT1 (List.mem_of_getElem? (i := 13) (by decide +kernel)), by decide +kernel, by decide +kernel, by decide +kernel, by decide +kernel⟩
abbrev mX12_breaksAt : MT := (yX12_breaksAt, cX12_breaksAt, 1, (some .int))
theorem Y_X12_breaksAt : YL yX12_breaksAt cX12_breaksAt 1 (some .int) 0 := ⟨inT6 (List.mem_of_getElem? (i := 155) (by decide +kernel)), inT1 (List.mem_of_getElem? (i := 13) (by decide +kernel)), by decide +kernel, by decide +kernel, by decide +kernel, by decide +kernel⟩
abbrev mX12_spans : MT := (yX12_spans, cX12_spans, 10, (some .int))
theorem Y_X12_spans : YL yX12_spans cX12_spans 10 (some .int) 4 := ⟨inT6 (List.mem_of_getElem? (i := 159) (by decide +kernel)), inT1 (List.mem_of_getElem? (i := 13) (by decide +kernel)), by decide +kernel, by decide +kernel, by decide +kernel, by decide +kernel⟩
abbrev mX12_highest : MT := (yX12_highest, cX12_highest, 7, (some .int))
theorem Y_X12_highest : YL yX12_highest cX12_highest 7 (some .int) 3 := ⟨inT6 (List.mem_of_getElem? (i := 163) (by decide +kernel)), inT1 (List.mem_of_getElem? (i := 13) (by decide +kernel)), by decide +kernel, by decide +kernel, by decide +kernel, by decide +kernel⟩
abbrev mX12_recorded : MT := (yX12_recorded, cX12_recorded, 10, (some .int))
theorem Y_X12_recorded : YL yX12_recorded cX12_recorded 10 (some .int) 6 := ⟨inT6 (List.mem_of_getElem? (i := 167) (by decide +kernel)), inT1 (List.mem_of_getElem? (i := 13) (by decide +kernel)), by decide +kernel, by decide +kernel, by decide +kernel, by decide +kernel⟩
abbrev mX12_above : MT := (yX12_above, cX12_above, 7, (some .int))
theorem Y_X12_above : YL yX12_above cX12_above 7 (some .int) 2 := ⟨inT6 (List.mem_of_getElem? (i := 171) (by decide +kernel)), inT1 (List.mem_of_getElem? (i := 13) (by decide +kernel)), by decide +kernel, by decide +kernel, by decide +kernel, by decide +kernel⟩
abbrev mX12_pads : MT := (yX12_pads, cX12_pads, 15, (some .int))
theorem Y_X12_pads : YL yX12_pads cX12_pads 15 (some .int) 5 := ⟨inT6 (List.mem_of_getElem? (i := 175) (by decide +kernel)), inT1 (List.mem_of_getElem? (i := 13) (by decide +kernel)), by decide +kernel, by decide +kernel, by decide +kernel, by decide +kernel⟩
abbrev mX12_padAt : MT := (yX12_padAt, cX12_padAt, 2, (some .int))
theorem Y_X12_padAt : YL yX12_padAt cX12_padAt 2 (some .int) 1 := ⟨inT6 (List.mem_of_getElem? (i := 179) (by decide +kernel)), inT1 (List.mem_of_getElem? (i := 13) (by decide +kernel)), by decide +kernel, by decide +kernel, by decide +kernel, by decide +kernel⟩
abbrev mX12_boxes : MT := (yX12_boxes, cX12_boxes, 9, (some .int))
theorem Y_X12_boxes : YL yX12_boxes cX12_boxes 9 (some .int) 3 := ⟨inT6 (List.mem_of_getElem? (i := 183) (by decide +kernel)), inT1 (List.mem_of_getElem? (i := 13) (by decide +kernel)), by decide +kernel, by decide +kernel, by decide +kernel, by decide +kernel⟩
abbrev mX12_costOf : MT := (yX12_costOf, cX12_costOf, 8, (some .int))
theorem Y_X12_costOf : YL yX12_costOf cX12_costOf 8 (some .int) 2 := ⟨inT6 (List.mem_of_getElem? (i := 187) (by decide +kernel)), inT1 (List.mem_of_getElem? (i := 13) (by decide +kernel)), by decide +kernel, by decide +kernel, by decide +kernel, by decide +kernel⟩
abbrev mX12_goesInto : MT := (yX12_goesInto, cX12_goesInto, 5, (some .boolean))
theorem Y_X12_goesInto : YL yX12_goesInto cX12_goesInto 5 (some .boolean) 3 := ⟨inT6 (List.mem_of_getElem? (i := 191) (by decide +kernel)), inT1 (List.mem_of_getElem? (i := 13) (by decide +kernel)), by decide +kernel, by decide +kernel, by decide +kernel, by decide +kernel⟩
abbrev mX12_fits : MT := (yX12_fits, cX12_fits, 11, (some .boolean))
theorem Y_X12_fits : YL yX12_fits cX12_fits 11 (some .boolean) 4 := ⟨inT6 (List.mem_of_getElem? (i := 195) (by decide +kernel)), inT1 (List.mem_of_getElem? (i := 13) (by decide +kernel)), by decide +kernel, by decide +kernel, by decide +kernel, by decide +kernel⟩
abbrev mX12_boxSet : MT := (yX12_boxSet, cX12_boxSet, 1, (some .int))
theorem Y_X12_boxSet : YL yX12_boxSet cX12_boxSet 1 (some .int) 0 := ⟨inT6 (List.mem_of_getElem? (i := 199) (by decide +kernel)), inT1 (List.mem_of_getElem? (i := 13) (by decide +kernel)), by decide +kernel, by decide +kernel, by decide +kernel, by decide +kernel⟩
abbrev mX12_stack : MT := (yX12_stack, cX12_stack, 7, (some .int))
theorem Y_X12_stack : YL yX12_stack cX12_stack 7 (some .int) 4 := ⟨inT6 (List.mem_of_getElem? (i := 203) (by decide +kernel)), inT1 (List.mem_of_getElem? (i := 13) (by decide +kernel)), by decide +kernel, by decide +kernel, by decide +kernel, by decide +kernel⟩
abbrev mX12_journey : MT := (yX12_journey, cX12_journey, 11, (some .long))
theorem Y_X12_journey : YL yX12_journey cX12_journey 11 (some .long) 2 := ⟨inT6 (List.mem_of_getElem? (i := 207) (by decide +kernel)), inT1 (List.mem_of_getElem? (i := 13) (by decide +kernel)), by decide +kernel, by decide +kernel, by decide +kernel, by decide +kernel⟩
abbrev mX12_heightAt : MT := (yX12_heightAt, cX12_heightAt, 3, (some .int))
theorem Y_X12_heightAt : YL yX12_heightAt cX12_heightAt 3 (some .int) 2 := ⟨inT6 (List.mem_of_getElem? (i := 211) (by decide +kernel)), inT1 (List.mem_of_getElem? (i := 13) (by decide +kernel)), by decide +kernel, by decide +kernel, by decide +kernel, by decide +kernel⟩
abbrev mX12_proved : MT := (yX12_proved, cX12_proved, 4, (some .int))
theorem Y_X12_proved : YL yX12_proved cX12_proved 4 (some .int) 2 := ⟨inT6 (List.mem_of_getElem? (i := 216) (by decide +kernel)), inT1 (List.mem_of_getElem? (i := 13) (by decide +kernel)), by decide +kernel, by decide +kernel, by decide +kernel, by decide +kernel⟩
abbrev mX12_power : MT := (yX12_power, cX12_power, 6, (some .long))
theorem Y_X12_power : YL yX12_power cX12_power 6 (some .long) 2 := ⟨inT6 (List.mem_of_getElem? (i := 219) (by decide +kernel)), inT1 (List.mem_of_getElem? (i := 13) (by decide +kernel)), by decide +kernel, by decide +kernel, by decide +kernel, by decide +kernel⟩
abbrev mX12_needed : MT := (yX12_needed, cX12_needed, 6, (some .int))
theorem Y_X12_needed : YL yX12_needed cX12_needed 6 (some .int) 2 := ⟨inT6 (List.mem_of_getElem? (i := 223) (by decide +kernel)), inT1 (List.mem_of_getElem? (i := 13) (by decide +kernel)), by decide +kernel, by decide +kernel, by decide +kernel, by decide +kernel⟩
abbrev mX12_count : MT := (yX12_count, cX12_count, 2, (some .int))
theorem Y_X12_count : YL yX12_count cX12_count 2 (some .int) 1 := ⟨inT6 (List.mem_of_getElem? (i := 228) (by decide +kernel)), inT1 (List.mem_of_getElem? (i := 13) (by decide +kernel)), by decide +kernel, by decide +kernel, by decide +kernel, by decide +kernel⟩
theorem vL_15 : IL RL 15 yX11_init := ⟨inT1 (List.mem_of_getElem? (i := 26) (by decide +kernel)), inT1 (List.mem_of_getElem? (i := 27) (by decide +kernel)), rfl⟩
theorem oX11_1 : Cond.methodLink RX11 1 Lib.objectInit ∈ lw_tbl := inT1 (List.mem_of_getElem? (i := 29) (by decide +kernel))
theorem vX11_9 : INL RX11 9 yX8_init := ⟨⟨"FoamArms", inT1 (List.mem_of_getElem? (i := 34) (by decide +kernel))⟩, inT1 (List.mem_of_getElem? (i := 35) (by decide +kernel)), rfl⟩
theorem oX8_3 : Cond.methodLink RX8 3 Lib.objectInit ∈ lw_tbl := inT1 (List.mem_of_getElem? (i := 37) (by decide +kernel))
theorem vX11_18 : INL RX11 18 yX1_init := ⟨⟨"FoamArms", inT1 (List.mem_of_getElem? (i := 52) (by decide +kernel))⟩, inT1 (List.mem_of_getElem? (i := 53) (by decide +kernel)), rfl⟩
theorem oX1_5 : Cond.methodLink RX1 5 Lib.objectInit ∈ lw_tbl := inT1 (List.mem_of_getElem? (i := 55) (by decide +kernel))
theorem vX1_13 : IL RX1 13 yX10_init := ⟨inT1 (List.mem_of_getElem? (i := 58) (by decide +kernel)), inT1 (List.mem_of_getElem? (i := 59) (by decide +kernel)), rfl⟩
theorem oX10_1 : Cond.methodLink RX10 1 Lib.objectInit ∈ lw_tbl := inT1 (List.mem_of_getElem? (i := 61) (by decide +kernel))
theorem vJ0_495 : SL RJ0 495 yJ1_charAt_3b067 := ⟨inT1 (List.mem_of_getElem? (i := 81) (by decide +kernel)), inT1 (List.mem_of_getElem? (i := 82) (by decide +kernel))⟩
theorem vJ1_9 : SL RJ1 9 yJ0_checkIndex_df160 := ⟨inT1 (List.mem_of_getElem? (i := 84) (by decide +kernel)), inT1 (List.mem_of_getElem? (i := 85) (by decide +kernel))⟩
theorem vJ0_1059 : SL RJ0 1059 yJ3_checkIndex_8e157 := ⟨inT1 (List.mem_of_getElem? (i := 89) (by decide +kernel)), inT1 (List.mem_of_getElem? (i := 90) (by decide +kernel))⟩
theorem vJ0_498 : SL RJ0 498 yJ2_charAt_3b067 := ⟨inT1 (List.mem_of_getElem? (i := 92) (by decide +kernel)), inT1 (List.mem_of_getElem? (i := 93) (by decide +kernel))⟩
theorem vJ2_67 : SL RJ2 67 yJ2_checkIndex_2214a := ⟨inT1 (List.mem_of_getElem? (i := 95) (by decide +kernel)), inT1 (List.mem_of_getElem? (i := 96) (by decide +kernel))⟩
theorem vJ2_48 : SL RJ2 48 yJ2_length_9d52b := ⟨inT1 (List.mem_of_getElem? (i := 98) (by decide +kernel)), inT1 (List.mem_of_getElem? (i := 99) (by decide +kernel))⟩
theorem vJ2_414 : SL RJ2 414 yJ0_checkIndex_df160 := ⟨inT1 (List.mem_of_getElem? (i := 101) (by decide +kernel)), inT1 (List.mem_of_getElem? (i := 85) (by decide +kernel))⟩
theorem vJ2_71 : SL RJ2 71 yJ2_getChar_3b067 := ⟨inT1 (List.mem_of_getElem? (i := 102) (by decide +kernel)), inT1 (List.mem_of_getElem? (i := 103) (by decide +kernel))⟩
theorem vX10_41 : SL RX10 41 yX10_withLetter := ⟨inT1 (List.mem_of_getElem? (i := 111) (by decide +kernel)), inT1 (List.mem_of_getElem? (i := 112) (by decide +kernel))⟩
theorem vX11_29 : INL RX11 29 yX0_init := ⟨⟨"FoamArms", inT1 (List.mem_of_getElem? (i := 169) (by decide +kernel))⟩, inT1 (List.mem_of_getElem? (i := 170) (by decide +kernel)), rfl⟩
theorem oX0_1 : Cond.methodLink RX0 1 Lib.objectInit ∈ lw_tbl := inT1 (List.mem_of_getElem? (i := 172) (by decide +kernel))
theorem vX11_36 : INL RX11 36 yX4_init := ⟨⟨"FoamArms", inT1 (List.mem_of_getElem? (i := 227) (by decide +kernel))⟩, inT1 (List.mem_of_getElem? (i := 228) (by decide +kernel)), rfl⟩
theorem oX4_3 : Cond.methodLink RX4 3 Lib.objectInit ∈ lw_tbl := inT1 (List.mem_of_getElem? (i := 230) (by decide +kernel))
theorem vX11_43 : IL RX11 43 yX7_init := ⟨inT2 (List.mem_of_getElem? (i := 19) (by decide +kernel)), inT2 (List.mem_of_getElem? (i := 20) (by decide +kernel)), rfl⟩
theorem oX7_3 : Cond.methodLink RX7 3 Lib.objectInit ∈ lw_tbl := inT2 (List.mem_of_getElem? (i := 22) (by decide +kernel))
theorem vX11_50 : INL RX11 50 yX3_init := ⟨⟨"FoamArms", inT2 (List.mem_of_getElem? (i := 49) (by decide +kernel))⟩, inT2 (List.mem_of_getElem? (i := 50) (by decide +kernel)), rfl⟩
theorem oX3_3 : Cond.methodLink RX3 3 Lib.objectInit ∈ lw_tbl := inT2 (List.mem_of_getElem? (i := 52) (by decide +kernel))
theorem vL_19 : VL RL 19 yX11_feed 11 := ⟨inT2 (List.mem_of_getElem? (i := 107) (by decide +kernel)), inT2 (List.mem_of_getElem? (i := 108) (by decide +kernel)), inT2 (List.mem_of_getElem? (i := 109) (by decide +kernel)), _, rfl, rfl⟩
theorem vX11_75 : VL RX11 75 yX8_add 8 := ⟨inT2 (List.mem_of_getElem? (i := 111) (by decide +kernel)), inT2 (List.mem_of_getElem? (i := 112) (by decide +kernel)), inT2 (List.mem_of_getElem? (i := 113) (by decide +kernel)), _, rfl, rfl⟩
theorem vL_24 : VL RL 24 yX11_end 11 := ⟨inT2 (List.mem_of_getElem? (i := 115) (by decide +kernel)), inT2 (List.mem_of_getElem? (i := 116) (by decide +kernel)), inT2 (List.mem_of_getElem? (i := 117) (by decide +kernel)), _, rfl, rfl⟩
theorem vL_29 : VL RL 29 yX11_next 11 := ⟨inT2 (List.mem_of_getElem? (i := 119) (by decide +kernel)), inT2 (List.mem_of_getElem? (i := 120) (by decide +kernel)), inT2 (List.mem_of_getElem? (i := 121) (by decide +kernel)), _, rfl, rfl⟩
theorem vL_34 : VL RL 34 yX11_book 11 := ⟨inT2 (List.mem_of_getElem? (i := 123) (by decide +kernel)), inT2 (List.mem_of_getElem? (i := 124) (by decide +kernel)), inT2 (List.mem_of_getElem? (i := 125) (by decide +kernel)), _, rfl, rfl⟩
theorem vX11_79 : VL RX11 79 yX1_readBook 1 := ⟨inT2 (List.mem_of_getElem? (i := 127) (by decide +kernel)), inT2 (List.mem_of_getElem? (i := 128) (by decide +kernel)), inT2 (List.mem_of_getElem? (i := 129) (by decide +kernel)), _, rfl, rfl⟩
theorem vX1_47 : INL RX1 47 yX0_init := ⟨⟨"FoamArms", inT2 (List.mem_of_getElem? (i := 132) (by decide +kernel))⟩, inT1 (List.mem_of_getElem? (i := 170) (by decide +kernel)), rfl⟩
theorem vX1_48 : VL RX1 48 yX10_scan 10 := ⟨inT2 (List.mem_of_getElem? (i := 133) (by decide +kernel)), inT2 (List.mem_of_getElem? (i := 134) (by decide +kernel)), inT2 (List.mem_of_getElem? (i := 135) (by decide +kernel)), _, rfl, rfl⟩
theorem vX10_48 : SL RX10 48 yJ9_min_7cf53 := ⟨inT2 (List.mem_of_getElem? (i := 137) (by decide +kernel)), inT2 (List.mem_of_getElem? (i := 138) (by decide +kernel))⟩
theorem vX10_54 : VL RX10 54 yX8_byteAt 8 := ⟨inT2 (List.mem_of_getElem? (i := 140) (by decide +kernel)), inT2 (List.mem_of_getElem? (i := 141) (by decide +kernel)), inT2 (List.mem_of_getElem? (i := 142) (by decide +kernel)), _, rfl, rfl⟩
theorem vX10_58 : SL RX10 58 yX10_isLetter := ⟨inT2 (List.mem_of_getElem? (i := 144) (by decide +kernel)), inT2 (List.mem_of_getElem? (i := 145) (by decide +kernel))⟩
theorem vX10_62 : SL RX10 62 yX10_isDigit := ⟨inT2 (List.mem_of_getElem? (i := 147) (by decide +kernel)), inT2 (List.mem_of_getElem? (i := 148) (by decide +kernel))⟩
theorem vX10_65 : VL RX10 65 yX10_scanRun 10 := ⟨inT2 (List.mem_of_getElem? (i := 150) (by decide +kernel)), inT2 (List.mem_of_getElem? (i := 152) (by decide +kernel)), List.mem_of_getElem? (i := 0) (by decide +kernel), _, rfl, rfl⟩
theorem vX10_86 : VL RX10 86 yX10_kindOfWord 10 := ⟨inT2 (List.mem_of_getElem? (i := 156) (by decide +kernel)), inT2 (List.mem_of_getElem? (i := 158) (by decide +kernel)), List.mem_of_getElem? (i := 1) (by decide +kernel), _, rfl, rfl⟩
theorem vX10_78 : VL RX10 78 yX10_add 10 := ⟨inT2 (List.mem_of_getElem? (i := 160) (by decide +kernel)), inT2 (List.mem_of_getElem? (i := 162) (by decide +kernel)), List.mem_of_getElem? (i := 2) (by decide +kernel), _, rfl, rfl⟩
theorem vX10_69 : SL RX10 69 yJ9_max_7cf53 := ⟨inT2 (List.mem_of_getElem? (i := 164) (by decide +kernel)), inT2 (List.mem_of_getElem? (i := 165) (by decide +kernel))⟩
theorem vX10_72 : SL RX10 72 yX10_isBlank := ⟨inT2 (List.mem_of_getElem? (i := 167) (by decide +kernel)), inT2 (List.mem_of_getElem? (i := 168) (by decide +kernel))⟩
theorem vX10_75 : SL RX10 75 yX10_kindOfSign := ⟨inT2 (List.mem_of_getElem? (i := 170) (by decide +kernel)), inT2 (List.mem_of_getElem? (i := 171) (by decide +kernel))⟩
theorem vX1_52 : VL RX1 52 yX1_isNow 1 := ⟨inT2 (List.mem_of_getElem? (i := 173) (by decide +kernel)), inT2 (List.mem_of_getElem? (i := 175) (by decide +kernel)), List.mem_of_getElem? (i := 3) (by decide +kernel), _, rfl, rfl⟩
theorem vX1_79 : VL RX1 79 yX10_kindAt 10 := ⟨inT2 (List.mem_of_getElem? (i := 177) (by decide +kernel)), inT2 (List.mem_of_getElem? (i := 178) (by decide +kernel)), inT2 (List.mem_of_getElem? (i := 179) (by decide +kernel)), _, rfl, rfl⟩
theorem vX1_61 : VL RX1 61 yX1_readLine 1 := ⟨inT2 (List.mem_of_getElem? (i := 181) (by decide +kernel)), inT2 (List.mem_of_getElem? (i := 183) (by decide +kernel)), List.mem_of_getElem? (i := 4) (by decide +kernel), _, rfl, rfl⟩
theorem vX1_82 : VL RX1 82 yX1_readFoam 1 := ⟨inT2 (List.mem_of_getElem? (i := 185) (by decide +kernel)), inT2 (List.mem_of_getElem? (i := 187) (by decide +kernel)), List.mem_of_getElem? (i := 5) (by decide +kernel), _, rfl, rfl⟩
theorem vX1_100 : VL RX1 100 yX1_readFirstWord 1 := ⟨inT2 (List.mem_of_getElem? (i := 189) (by decide +kernel)), inT2 (List.mem_of_getElem? (i := 191) (by decide +kernel)), List.mem_of_getElem? (i := 6) (by decide +kernel), _, rfl, rfl⟩
theorem vX1_71 : VL RX1 71 yX1_refuse 1 := ⟨inT2 (List.mem_of_getElem? (i := 193) (by decide +kernel)), inT2 (List.mem_of_getElem? (i := 195) (by decide +kernel)), List.mem_of_getElem? (i := 7) (by decide +kernel), _, rfl, rfl⟩
theorem vX1_103 : VL RX1 103 yX1_readNewName 1 := ⟨inT2 (List.mem_of_getElem? (i := 197) (by decide +kernel)), inT2 (List.mem_of_getElem? (i := 199) (by decide +kernel)), List.mem_of_getElem? (i := 8) (by decide +kernel), _, rfl, rfl⟩
theorem vX1_65 : VL RX1 65 yX1_readToken 1 := ⟨inT2 (List.mem_of_getElem? (i := 201) (by decide +kernel)), inT2 (List.mem_of_getElem? (i := 203) (by decide +kernel)), List.mem_of_getElem? (i := 9) (by decide +kernel), _, rfl, rfl⟩
theorem vX1_225 : VL RX1 225 yX10_valueAt 10 := ⟨inT2 (List.mem_of_getElem? (i := 205) (by decide +kernel)), inT2 (List.mem_of_getElem? (i := 206) (by decide +kernel)), inT2 (List.mem_of_getElem? (i := 207) (by decide +kernel)), _, rfl, rfl⟩
theorem vX1_229 : VL RX1 229 yX1_placeOfName 1 := ⟨inT2 (List.mem_of_getElem? (i := 209) (by decide +kernel)), inT2 (List.mem_of_getElem? (i := 211) (by decide +kernel)), List.mem_of_getElem? (i := 10) (by decide +kernel), _, rfl, rfl⟩
theorem vX1_108 : INL RX1 108 yX6_init := ⟨⟨"FoamArms", inT2 (List.mem_of_getElem? (i := 215) (by decide +kernel))⟩, inT2 (List.mem_of_getElem? (i := 216) (by decide +kernel)), rfl⟩
theorem oX6_3 : Cond.methodLink RX6 3 Lib.objectInit ∈ lw_tbl := inT2 (List.mem_of_getElem? (i := 218) (by decide +kernel))
theorem vX1_109 : VL RX1 109 yX1_readPoint 1 := ⟨inT3 (List.mem_of_getElem? (i := 0) (by decide +kernel)), inT3 (List.mem_of_getElem? (i := 2) (by decide +kernel)), List.mem_of_getElem? (i := 11) (by decide +kernel), _, rfl, rfl⟩
theorem vX1_127 : VL RX1 127 yX6_leastPercent 6 := ⟨inT3 (List.mem_of_getElem? (i := 4) (by decide +kernel)), inT3 (List.mem_of_getElem? (i := 5) (by decide +kernel)), inT3 (List.mem_of_getElem? (i := 6) (by decide +kernel)), _, rfl, rfl⟩
theorem vX1_134 : VL RX1 134 yX1_readNumber 1 := ⟨inT3 (List.mem_of_getElem? (i := 8) (by decide +kernel)), inT3 (List.mem_of_getElem? (i := 10) (by decide +kernel)), List.mem_of_getElem? (i := 12) (by decide +kernel), _, rfl, rfl⟩
theorem vX1_137 : VL RX1 137 yX6_leastPush 6 := ⟨inT3 (List.mem_of_getElem? (i := 12) (by decide +kernel)), inT3 (List.mem_of_getElem? (i := 13) (by decide +kernel)), inT3 (List.mem_of_getElem? (i := 14) (by decide +kernel)), _, rfl, rfl⟩
theorem vX1_141 : VL RX1 141 yX6_addPoint 6 := ⟨inT3 (List.mem_of_getElem? (i := 17) (by decide +kernel)), inT3 (List.mem_of_getElem? (i := 18) (by decide +kernel)), inT3 (List.mem_of_getElem? (i := 19) (by decide +kernel)), _, rfl, rfl⟩
theorem vX1_113 : VL RX1 113 yX1_readNumberOf 1 := ⟨inT3 (List.mem_of_getElem? (i := 21) (by decide +kernel)), inT3 (List.mem_of_getElem? (i := 23) (by decide +kernel)), List.mem_of_getElem? (i := 13) (by decide +kernel), _, rfl, rfl⟩
theorem vX1_123 : VL RX1 123 yX0_addFoam 0 := ⟨inT3 (List.mem_of_getElem? (i := 25) (by decide +kernel)), inT3 (List.mem_of_getElem? (i := 26) (by decide +kernel)), inT3 (List.mem_of_getElem? (i := 27) (by decide +kernel)), _, rfl, rfl⟩
theorem vX1_85 : VL RX1 85 yX1_readThing 1 := ⟨inT3 (List.mem_of_getElem? (i := 29) (by decide +kernel)), inT3 (List.mem_of_getElem? (i := 31) (by decide +kernel)), List.mem_of_getElem? (i := 14) (by decide +kernel), _, rfl, rfl⟩
theorem vX1_150 : INL RX1 150 yX9_init := ⟨⟨"FoamArms", inT3 (List.mem_of_getElem? (i := 35) (by decide +kernel))⟩, inT3 (List.mem_of_getElem? (i := 36) (by decide +kernel)), rfl⟩
theorem oX9_3 : Cond.methodLink RX9 3 Lib.objectInit ∈ lw_tbl := inT3 (List.mem_of_getElem? (i := 38) (by decide +kernel))
theorem vX1_157 : VL RX1 157 yX1_readSizesOf 1 := ⟨inT3 (List.mem_of_getElem? (i := 70) (by decide +kernel)), inT3 (List.mem_of_getElem? (i := 72) (by decide +kernel)), List.mem_of_getElem? (i := 15) (by decide +kernel), _, rfl, rfl⟩
theorem vX1_164 : VL RX1 164 yX0_addThing 0 := ⟨inT3 (List.mem_of_getElem? (i := 74) (by decide +kernel)), inT3 (List.mem_of_getElem? (i := 75) (by decide +kernel)), inT3 (List.mem_of_getElem? (i := 76) (by decide +kernel)), _, rfl, rfl⟩
theorem vX1_88 : VL RX1 88 yX1_readBox 1 := ⟨inT3 (List.mem_of_getElem? (i := 78) (by decide +kernel)), inT3 (List.mem_of_getElem? (i := 80) (by decide +kernel)), List.mem_of_getElem? (i := 16) (by decide +kernel), _, rfl, rfl⟩
theorem vX1_173 : INL RX1 173 yX2_init := ⟨⟨"FoamArms", inT3 (List.mem_of_getElem? (i := 84) (by decide +kernel))⟩, inT3 (List.mem_of_getElem? (i := 85) (by decide +kernel)), rfl⟩
theorem oX2_3 : Cond.methodLink RX2 3 Lib.objectInit ∈ lw_tbl := inT3 (List.mem_of_getElem? (i := 87) (by decide +kernel))
theorem vX1_181 : VL RX1 181 yX0_addBox 0 := ⟨inT3 (List.mem_of_getElem? (i := 105) (by decide +kernel)), inT3 (List.mem_of_getElem? (i := 106) (by decide +kernel)), inT3 (List.mem_of_getElem? (i := 107) (by decide +kernel)), _, rfl, rfl⟩
theorem vX1_91 : VL RX1 91 yX1_readPad 1 := ⟨inT3 (List.mem_of_getElem? (i := 109) (by decide +kernel)), inT3 (List.mem_of_getElem? (i := 111) (by decide +kernel)), List.mem_of_getElem? (i := 17) (by decide +kernel), _, rfl, rfl⟩
theorem vX1_185 : VL RX1 185 yX1_readToldName 1 := ⟨inT3 (List.mem_of_getElem? (i := 113) (by decide +kernel)), inT3 (List.mem_of_getElem? (i := 115) (by decide +kernel)), List.mem_of_getElem? (i := 18) (by decide +kernel), _, rfl, rfl⟩
theorem vX1_188 : VL RX1 188 yX0_thingAt 0 := ⟨inT3 (List.mem_of_getElem? (i := 117) (by decide +kernel)), inT3 (List.mem_of_getElem? (i := 118) (by decide +kernel)), inT3 (List.mem_of_getElem? (i := 119) (by decide +kernel)), _, rfl, rfl⟩
theorem vX1_192 : VL RX1 192 yX9_foamOn 9 := ⟨inT3 (List.mem_of_getElem? (i := 121) (by decide +kernel)), inT3 (List.mem_of_getElem? (i := 122) (by decide +kernel)), inT3 (List.mem_of_getElem? (i := 123) (by decide +kernel)), _, rfl, rfl⟩
theorem vX9_34 : SNL RX9 34 yX11_isSide := ⟨⟨"FoamArms", inT3 (List.mem_of_getElem? (i := 125) (by decide +kernel))⟩, inT3 (List.mem_of_getElem? (i := 126) (by decide +kernel))⟩
theorem vX1_196 : VL RX1 196 yX0_foamAt 0 := ⟨inT3 (List.mem_of_getElem? (i := 128) (by decide +kernel)), inT3 (List.mem_of_getElem? (i := 129) (by decide +kernel)), inT3 (List.mem_of_getElem? (i := 130) (by decide +kernel)), _, rfl, rfl⟩
theorem vX1_199 : VL RX1 199 yX9_putPad 9 := ⟨inT3 (List.mem_of_getElem? (i := 132) (by decide +kernel)), inT3 (List.mem_of_getElem? (i := 133) (by decide +kernel)), inT3 (List.mem_of_getElem? (i := 134) (by decide +kernel)), _, rfl, rfl⟩
theorem vX1_94 : VL RX1 94 yX1_readDrop 1 := ⟨inT3 (List.mem_of_getElem? (i := 136) (by decide +kernel)), inT3 (List.mem_of_getElem? (i := 138) (by decide +kernel)), List.mem_of_getElem? (i := 19) (by decide +kernel), _, rfl, rfl⟩
theorem vX1_208 : INL RX1 208 yX5_init := ⟨⟨"FoamArms", inT3 (List.mem_of_getElem? (i := 142) (by decide +kernel))⟩, inT3 (List.mem_of_getElem? (i := 143) (by decide +kernel)), rfl⟩
theorem oX5_1 : Cond.methodLink RX5 1 Lib.objectInit ∈ lw_tbl := inT3 (List.mem_of_getElem? (i := 145) (by decide +kernel))
theorem vX1_221 : VL RX1 221 yX0_addDrop 0 := ⟨inT3 (List.mem_of_getElem? (i := 167) (by decide +kernel)), inT3 (List.mem_of_getElem? (i := 168) (by decide +kernel)), inT3 (List.mem_of_getElem? (i := 169) (by decide +kernel)), _, rfl, rfl⟩
theorem vX11_84 : VL RX11 84 yX1_placeOfFault 1 := ⟨inT3 (List.mem_of_getElem? (i := 171) (by decide +kernel)), inT3 (List.mem_of_getElem? (i := 172) (by decide +kernel)), inT3 (List.mem_of_getElem? (i := 173) (by decide +kernel)), _, rfl, rfl⟩
theorem vX1_75 : VL RX1 75 yX10_placeAt 10 := ⟨inT3 (List.mem_of_getElem? (i := 175) (by decide +kernel)), inT3 (List.mem_of_getElem? (i := 176) (by decide +kernel)), inT3 (List.mem_of_getElem? (i := 177) (by decide +kernel)), _, rfl, rfl⟩
theorem vX11_91 : VL RX11 91 yX11_keepBook 11 := ⟨inT3 (List.mem_of_getElem? (i := 179) (by decide +kernel)), inT3 (List.mem_of_getElem? (i := 181) (by decide +kernel)), List.mem_of_getElem? (i := 20) (by decide +kernel), _, rfl, rfl⟩
theorem vL_39 : VL RL 39 yX11_fault 11 := ⟨inT3 (List.mem_of_getElem? (i := 183) (by decide +kernel)), inT3 (List.mem_of_getElem? (i := 184) (by decide +kernel)), inT3 (List.mem_of_getElem? (i := 185) (by decide +kernel)), _, rfl, rfl⟩
theorem vL_43 : VL RL 43 yX11_many 11 := ⟨inT3 (List.mem_of_getElem? (i := 187) (by decide +kernel)), inT3 (List.mem_of_getElem? (i := 188) (by decide +kernel)), inT3 (List.mem_of_getElem? (i := 189) (by decide +kernel)), _, rfl, rfl⟩
theorem vX11_95 : VL RX11 95 yX11_asOf 11 := ⟨inT3 (List.mem_of_getElem? (i := 191) (by decide +kernel)), inT3 (List.mem_of_getElem? (i := 193) (by decide +kernel)), List.mem_of_getElem? (i := 21) (by decide +kernel), _, rfl, rfl⟩
theorem vX11_270 : SL RX11 270 yJ9_min_7cf53 := ⟨inT3 (List.mem_of_getElem? (i := 195) (by decide +kernel)), inT2 (List.mem_of_getElem? (i := 138) (by decide +kernel))⟩
theorem vL_48 : VL RL 48 yX11_push 11 := ⟨inT3 (List.mem_of_getElem? (i := 196) (by decide +kernel)), inT3 (List.mem_of_getElem? (i := 197) (by decide +kernel)), inT3 (List.mem_of_getElem? (i := 198) (by decide +kernel)), _, rfl, rfl⟩
theorem vX11_111 : VL RX11 111 yX0_foamAt 0 := ⟨inT3 (List.mem_of_getElem? (i := 200) (by decide +kernel)), inT3 (List.mem_of_getElem? (i := 129) (by decide +kernel)), inT3 (List.mem_of_getElem? (i := 130) (by decide +kernel)), _, rfl, rfl⟩
theorem vX11_115 : SL RX11 115 yX11_isKept := ⟨inT3 (List.mem_of_getElem? (i := 201) (by decide +kernel)), inT3 (List.mem_of_getElem? (i := 202) (by decide +kernel))⟩
theorem vX11_119 : VL RX11 119 yX6_pushAt 6 := ⟨inT3 (List.mem_of_getElem? (i := 204) (by decide +kernel)), inT3 (List.mem_of_getElem? (i := 205) (by decide +kernel)), inT3 (List.mem_of_getElem? (i := 206) (by decide +kernel)), _, rfl, rfl⟩
theorem vL_53 : VL RL 53 yX11_squeeze 11 := ⟨inT3 (List.mem_of_getElem? (i := 208) (by decide +kernel)), inT3 (List.mem_of_getElem? (i := 209) (by decide +kernel)), inT3 (List.mem_of_getElem? (i := 210) (by decide +kernel)), _, rfl, rfl⟩
theorem vX11_125 : VL RX11 125 yX11_putOnPad 11 := ⟨inT3 (List.mem_of_getElem? (i := 212) (by decide +kernel)), inT3 (List.mem_of_getElem? (i := 214) (by decide +kernel)), List.mem_of_getElem? (i := 22) (by decide +kernel), _, rfl, rfl⟩
theorem vX11_155 : VL RX11 155 yX0_thingAt 0 := ⟨inT3 (List.mem_of_getElem? (i := 216) (by decide +kernel)), inT3 (List.mem_of_getElem? (i := 118) (by decide +kernel)), inT3 (List.mem_of_getElem? (i := 119) (by decide +kernel)), _, rfl, rfl⟩
theorem vX11_213 : SL RX11 213 yX11_isSide := ⟨inT3 (List.mem_of_getElem? (i := 217) (by decide +kernel)), inT3 (List.mem_of_getElem? (i := 126) (by decide +kernel))⟩
theorem vX11_252 : VL RX11 252 yX4_layPad 4 := ⟨inT3 (List.mem_of_getElem? (i := 218) (by decide +kernel)), inT3 (List.mem_of_getElem? (i := 219) (by decide +kernel)), inT3 (List.mem_of_getElem? (i := 220) (by decide +kernel)), _, rfl, rfl⟩
theorem vX4_39 : SNL RX4 39 yX11_isSide := ⟨⟨"FoamArms", inT3 (List.mem_of_getElem? (i := 222) (by decide +kernel))⟩, inT3 (List.mem_of_getElem? (i := 126) (by decide +kernel))⟩
theorem vX4_55 : VL RX4 55 yX4_layFoam 4 := ⟨inT3 (List.mem_of_getElem? (i := 223) (by decide +kernel)), inT3 (List.mem_of_getElem? (i := 224) (by decide +kernel)), inT3 (List.mem_of_getElem? (i := 225) (by decide +kernel)), _, rfl, rfl⟩
theorem vX4_62 : VL RX4 62 yX6_lastPercent 6 := ⟨inT3 (List.mem_of_getElem? (i := 227) (by decide +kernel)), inT3 (List.mem_of_getElem? (i := 228) (by decide +kernel)), inT3 (List.mem_of_getElem? (i := 229) (by decide +kernel)), _, rfl, rfl⟩
theorem vX6_28 : VL RX6 28 yX6_leastPercent 6 := ⟨inT3 (List.mem_of_getElem? (i := 231) (by decide +kernel)), inT3 (List.mem_of_getElem? (i := 5) (by decide +kernel)), inT3 (List.mem_of_getElem? (i := 6) (by decide +kernel)), _, rfl, rfl⟩
theorem vX4_66 : SL RX4 66 yJ9_min_7cf53 := ⟨inT3 (List.mem_of_getElem? (i := 232) (by decide +kernel)), inT2 (List.mem_of_getElem? (i := 138) (by decide +kernel))⟩
theorem vX4_72 : VL RX4 72 yX6_pushAt 6 := ⟨inT3 (List.mem_of_getElem? (i := 233) (by decide +kernel)), inT3 (List.mem_of_getElem? (i := 205) (by decide +kernel)), inT3 (List.mem_of_getElem? (i := 206) (by decide +kernel)), _, rfl, rfl⟩
theorem vX4_76 : VL RX4 76 yX4_wearTo 4 := ⟨inT3 (List.mem_of_getElem? (i := 234) (by decide +kernel)), inT3 (List.mem_of_getElem? (i := 235) (by decide +kernel)), inT3 (List.mem_of_getElem? (i := 236) (by decide +kernel)), _, rfl, rfl⟩
theorem vX11_129 : SL RX11 129 yX11_isHeight := ⟨inT3 (List.mem_of_getElem? (i := 238) (by decide +kernel)), inT3 (List.mem_of_getElem? (i := 239) (by decide +kernel))⟩
theorem vX11_132 : VL RX11 132 yX4_wearTo 4 := ⟨inT4 (List.mem_of_getElem? (i := 1) (by decide +kernel)), inT3 (List.mem_of_getElem? (i := 235) (by decide +kernel)), inT3 (List.mem_of_getElem? (i := 236) (by decide +kernel)), _, rfl, rfl⟩
theorem vX11_140 : VL RX11 140 yX4_squeezeOf 4 := ⟨inT4 (List.mem_of_getElem? (i := 2) (by decide +kernel)), inT4 (List.mem_of_getElem? (i := 3) (by decide +kernel)), inT4 (List.mem_of_getElem? (i := 4) (by decide +kernel)), _, rfl, rfl⟩
theorem vX4_80 : SL RX4 80 yJ9_max_7cf53 := ⟨inT4 (List.mem_of_getElem? (i := 6) (by decide +kernel)), inT2 (List.mem_of_getElem? (i := 165) (by decide +kernel))⟩
theorem vL_57 : VL RL 57 yX11_blow 11 := ⟨inT4 (List.mem_of_getElem? (i := 9) (by decide +kernel)), inT4 (List.mem_of_getElem? (i := 10) (by decide +kernel)), inT4 (List.mem_of_getElem? (i := 11) (by decide +kernel)), _, rfl, rfl⟩
theorem vX11_144 : VL RX11 144 yX4_blowOf 4 := ⟨inT4 (List.mem_of_getElem? (i := 13) (by decide +kernel)), inT4 (List.mem_of_getElem? (i := 14) (by decide +kernel)), inT4 (List.mem_of_getElem? (i := 15) (by decide +kernel)), _, rfl, rfl⟩
theorem vX4_87 : VL RX4 87 yX4_squeezeOf 4 := ⟨inT4 (List.mem_of_getElem? (i := 17) (by decide +kernel)), inT4 (List.mem_of_getElem? (i := 3) (by decide +kernel)), inT4 (List.mem_of_getElem? (i := 4) (by decide +kernel)), _, rfl, rfl⟩
theorem vX4_91 : VL RX4 91 yX4_blowAt 4 := ⟨inT4 (List.mem_of_getElem? (i := 18) (by decide +kernel)), inT4 (List.mem_of_getElem? (i := 19) (by decide +kernel)), inT4 (List.mem_of_getElem? (i := 20) (by decide +kernel)), _, rfl, rfl⟩
theorem vX4_98 : SL RX4 98 yJ9_min_f86c9 := ⟨inT4 (List.mem_of_getElem? (i := 24) (by decide +kernel)), inT4 (List.mem_of_getElem? (i := 25) (by decide +kernel))⟩
theorem vL_61 : VL RL 61 yX11_again 11 := ⟨inT4 (List.mem_of_getElem? (i := 27) (by decide +kernel)), inT4 (List.mem_of_getElem? (i := 28) (by decide +kernel)), inT4 (List.mem_of_getElem? (i := 29) (by decide +kernel)), _, rfl, rfl⟩
theorem vX11_148 : VL RX11 148 yX4_holds 4 := ⟨inT4 (List.mem_of_getElem? (i := 31) (by decide +kernel)), inT4 (List.mem_of_getElem? (i := 32) (by decide +kernel)), inT4 (List.mem_of_getElem? (i := 33) (by decide +kernel)), _, rfl, rfl⟩
theorem vX4_104 : VL RX4 104 yX4_blowOf 4 := ⟨inT4 (List.mem_of_getElem? (i := 35) (by decide +kernel)), inT4 (List.mem_of_getElem? (i := 14) (by decide +kernel)), inT4 (List.mem_of_getElem? (i := 15) (by decide +kernel)), _, rfl, rfl⟩
theorem vX11_152 : VL RX11 152 yX4_wearByBlow 4 := ⟨inT4 (List.mem_of_getElem? (i := 36) (by decide +kernel)), inT4 (List.mem_of_getElem? (i := 37) (by decide +kernel)), inT4 (List.mem_of_getElem? (i := 38) (by decide +kernel)), _, rfl, rfl⟩
theorem vL_65 : VL RL 65 yX11_breaks 11 := ⟨inT4 (List.mem_of_getElem? (i := 40) (by decide +kernel)), inT4 (List.mem_of_getElem? (i := 41) (by decide +kernel)), inT4 (List.mem_of_getElem? (i := 42) (by decide +kernel)), _, rfl, rfl⟩
theorem vX11_159 : VL RX11 159 yX0_dropAt 0 := ⟨inT4 (List.mem_of_getElem? (i := 44) (by decide +kernel)), inT4 (List.mem_of_getElem? (i := 45) (by decide +kernel)), inT4 (List.mem_of_getElem? (i := 46) (by decide +kernel)), _, rfl, rfl⟩
theorem vX11_168 : VL RX11 168 yX11_timeThatBreaks 11 := ⟨inT4 (List.mem_of_getElem? (i := 48) (by decide +kernel)), inT4 (List.mem_of_getElem? (i := 50) (by decide +kernel)), List.mem_of_getElem? (i := 23) (by decide +kernel), _, rfl, rfl⟩
theorem vL_69 : VL RL 69 yX11_breaksAt 11 := ⟨inT4 (List.mem_of_getElem? (i := 52) (by decide +kernel)), inT4 (List.mem_of_getElem? (i := 53) (by decide +kernel)), inT4 (List.mem_of_getElem? (i := 54) (by decide +kernel)), _, rfl, rfl⟩
theorem vL_73 : VL RL 73 yX11_spans 11 := ⟨inT4 (List.mem_of_getElem? (i := 56) (by decide +kernel)), inT4 (List.mem_of_getElem? (i := 57) (by decide +kernel)), inT4 (List.mem_of_getElem? (i := 58) (by decide +kernel)), _, rfl, rfl⟩
theorem vX11_172 : VL RX11 172 yX11_tapeTellsSpans 11 := ⟨inT4 (List.mem_of_getElem? (i := 60) (by decide +kernel)), inT4 (List.mem_of_getElem? (i := 62) (by decide +kernel)), List.mem_of_getElem? (i := 24) (by decide +kernel), _, rfl, rfl⟩
theorem vX11_176 : VL RX11 176 yX8_byteAt 8 := ⟨inT4 (List.mem_of_getElem? (i := 64) (by decide +kernel)), inT2 (List.mem_of_getElem? (i := 141) (by decide +kernel)), inT2 (List.mem_of_getElem? (i := 142) (by decide +kernel)), _, rfl, rfl⟩
theorem vX11_179 : VL RX11 179 yX11_weightsThatHold 11 := ⟨inT4 (List.mem_of_getElem? (i := 65) (by decide +kernel)), inT4 (List.mem_of_getElem? (i := 67) (by decide +kernel)), List.mem_of_getElem? (i := 25) (by decide +kernel), _, rfl, rfl⟩
theorem vX11_287 : SL RX11 287 yJ9_max_7cf53 := ⟨inT4 (List.mem_of_getElem? (i := 69) (by decide +kernel)), inT2 (List.mem_of_getElem? (i := 165) (by decide +kernel))⟩
theorem vX11_290 : VL RX11 290 yX4_blowAt 4 := ⟨inT4 (List.mem_of_getElem? (i := 70) (by decide +kernel)), inT4 (List.mem_of_getElem? (i := 19) (by decide +kernel)), inT4 (List.mem_of_getElem? (i := 20) (by decide +kernel)), _, rfl, rfl⟩
theorem vL_77 : VL RL 77 yX11_highest 11 := ⟨inT4 (List.mem_of_getElem? (i := 71) (by decide +kernel)), inT4 (List.mem_of_getElem? (i := 72) (by decide +kernel)), inT4 (List.mem_of_getElem? (i := 73) (by decide +kernel)), _, rfl, rfl⟩
theorem vX11_186 : VL RX11 186 yX4_greatestHeight 4 := ⟨inT4 (List.mem_of_getElem? (i := 75) (by decide +kernel)), inT4 (List.mem_of_getElem? (i := 76) (by decide +kernel)), inT4 (List.mem_of_getElem? (i := 77) (by decide +kernel)), _, rfl, rfl⟩
theorem vX4_110 : VL RX4 110 yX4_isWithin 4 := ⟨inT4 (List.mem_of_getElem? (i := 79) (by decide +kernel)), inT4 (List.mem_of_getElem? (i := 81) (by decide +kernel)), List.mem_of_getElem? (i := 26) (by decide +kernel), _, rfl, rfl⟩
theorem vL_82 : VL RL 82 yX11_recorded 11 := ⟨inT4 (List.mem_of_getElem? (i := 83) (by decide +kernel)), inT4 (List.mem_of_getElem? (i := 84) (by decide +kernel)), inT4 (List.mem_of_getElem? (i := 85) (by decide +kernel)), _, rfl, rfl⟩
theorem vL_87 : VL RL 87 yX11_pads 11 := ⟨inT4 (List.mem_of_getElem? (i := 87) (by decide +kernel)), inT4 (List.mem_of_getElem? (i := 88) (by decide +kernel)), inT4 (List.mem_of_getElem? (i := 89) (by decide +kernel)), _, rfl, rfl⟩
theorem vX11_190 : VL RX11 190 yX0_boxAt 0 := ⟨inT4 (List.mem_of_getElem? (i := 91) (by decide +kernel)), inT4 (List.mem_of_getElem? (i := 92) (by decide +kernel)), inT4 (List.mem_of_getElem? (i := 93) (by decide +kernel)), _, rfl, rfl⟩
theorem vX11_194 : VL RX11 194 yX7_readKinds 7 := ⟨inT4 (List.mem_of_getElem? (i := 95) (by decide +kernel)), inT4 (List.mem_of_getElem? (i := 96) (by decide +kernel)), inT4 (List.mem_of_getElem? (i := 97) (by decide +kernel)), _, rfl, rfl⟩
theorem vX7_39 : VL RX7 39 yX8_byteAt 8 := ⟨inT4 (List.mem_of_getElem? (i := 99) (by decide +kernel)), inT2 (List.mem_of_getElem? (i := 141) (by decide +kernel)), inT2 (List.mem_of_getElem? (i := 142) (by decide +kernel)), _, rfl, rfl⟩
theorem vX7_43 : VL RX7 43 yX0_foamAt 0 := ⟨inT4 (List.mem_of_getElem? (i := 100) (by decide +kernel)), inT3 (List.mem_of_getElem? (i := 129) (by decide +kernel)), inT3 (List.mem_of_getElem? (i := 130) (by decide +kernel)), _, rfl, rfl⟩
theorem vX11_201 : VL RX11 201 yX11_layKind 11 := ⟨inT4 (List.mem_of_getElem? (i := 101) (by decide +kernel)), inT4 (List.mem_of_getElem? (i := 103) (by decide +kernel)), List.mem_of_getElem? (i := 27) (by decide +kernel), _, rfl, rfl⟩
theorem vX11_293 : VL RX11 293 yX7_foamOf 7 := ⟨inT4 (List.mem_of_getElem? (i := 105) (by decide +kernel)), inT4 (List.mem_of_getElem? (i := 106) (by decide +kernel)), inT4 (List.mem_of_getElem? (i := 107) (by decide +kernel)), _, rfl, rfl⟩
theorem vX11_296 : VL RX11 296 yX7_thickOf 7 := ⟨inT4 (List.mem_of_getElem? (i := 109) (by decide +kernel)), inT4 (List.mem_of_getElem? (i := 110) (by decide +kernel)), inT4 (List.mem_of_getElem? (i := 111) (by decide +kernel)), _, rfl, rfl⟩
theorem vX11_299 : VL RX11 299 yX4_layFoam 4 := ⟨inT4 (List.mem_of_getElem? (i := 113) (by decide +kernel)), inT3 (List.mem_of_getElem? (i := 224) (by decide +kernel)), inT3 (List.mem_of_getElem? (i := 225) (by decide +kernel)), _, rfl, rfl⟩
theorem vX11_205 : VL RX11 205 yX7_judge 7 := ⟨inT4 (List.mem_of_getElem? (i := 114) (by decide +kernel)), inT4 (List.mem_of_getElem? (i := 115) (by decide +kernel)), inT4 (List.mem_of_getElem? (i := 116) (by decide +kernel)), _, rfl, rfl⟩
theorem vX11_209 : VL RX11 209 yX7_choose 7 := ⟨inT4 (List.mem_of_getElem? (i := 118) (by decide +kernel)), inT4 (List.mem_of_getElem? (i := 119) (by decide +kernel)), inT4 (List.mem_of_getElem? (i := 120) (by decide +kernel)), _, rfl, rfl⟩
theorem vX7_64 : VL RX7 64 yX7_choosePair 7 := ⟨inT4 (List.mem_of_getElem? (i := 122) (by decide +kernel)), inT4 (List.mem_of_getElem? (i := 124) (by decide +kernel)), List.mem_of_getElem? (i := 28) (by decide +kernel), _, rfl, rfl⟩
theorem vL_91 : VL RL 91 yX11_padAt 11 := ⟨inT4 (List.mem_of_getElem? (i := 126) (by decide +kernel)), inT4 (List.mem_of_getElem? (i := 127) (by decide +kernel)), inT4 (List.mem_of_getElem? (i := 128) (by decide +kernel)), _, rfl, rfl⟩
theorem vL_95 : VL RL 95 yX11_boxes 11 := ⟨inT4 (List.mem_of_getElem? (i := 130) (by decide +kernel)), inT4 (List.mem_of_getElem? (i := 131) (by decide +kernel)), inT4 (List.mem_of_getElem? (i := 132) (by decide +kernel)), _, rfl, rfl⟩
theorem vX11_219 : VL RX11 219 yX3_take 3 := ⟨inT4 (List.mem_of_getElem? (i := 134) (by decide +kernel)), inT4 (List.mem_of_getElem? (i := 135) (by decide +kernel)), inT4 (List.mem_of_getElem? (i := 136) (by decide +kernel)), _, rfl, rfl⟩
theorem vX3_31 : SL RX3 31 yJ9_min_7cf53 := ⟨inT4 (List.mem_of_getElem? (i := 138) (by decide +kernel)), inT2 (List.mem_of_getElem? (i := 138) (by decide +kernel))⟩
theorem vX3_38 : VL RX3 38 yX0_boxAt 0 := ⟨inT4 (List.mem_of_getElem? (i := 139) (by decide +kernel)), inT4 (List.mem_of_getElem? (i := 92) (by decide +kernel)), inT4 (List.mem_of_getElem? (i := 93) (by decide +kernel)), _, rfl, rfl⟩
theorem vX3_47 : VL RX3 47 yX0_thingAt 0 := ⟨inT4 (List.mem_of_getElem? (i := 140) (by decide +kernel)), inT3 (List.mem_of_getElem? (i := 118) (by decide +kernel)), inT3 (List.mem_of_getElem? (i := 119) (by decide +kernel)), _, rfl, rfl⟩
theorem vX3_51 : VL RX3 51 yX9_goesInto 9 := ⟨inT4 (List.mem_of_getElem? (i := 141) (by decide +kernel)), inT4 (List.mem_of_getElem? (i := 142) (by decide +kernel)), inT4 (List.mem_of_getElem? (i := 143) (by decide +kernel)), _, rfl, rfl⟩
theorem vX9_43 : VL RX9 43 yX9_fits 9 := ⟨inT4 (List.mem_of_getElem? (i := 145) (by decide +kernel)), inT4 (List.mem_of_getElem? (i := 147) (by decide +kernel)), List.mem_of_getElem? (i := 29) (by decide +kernel), _, rfl, rfl⟩
theorem vX11_223 : VL RX11 223 yX3_choose 3 := ⟨inT4 (List.mem_of_getElem? (i := 149) (by decide +kernel)), inT4 (List.mem_of_getElem? (i := 150) (by decide +kernel)), inT4 (List.mem_of_getElem? (i := 151) (by decide +kernel)), _, rfl, rfl⟩
theorem vX3_57 : SL RX3 57 yJ6_bitCount_0f7a4 := ⟨inT4 (List.mem_of_getElem? (i := 153) (by decide +kernel)), inT4 (List.mem_of_getElem? (i := 154) (by decide +kernel))⟩
theorem vX3_63 : VL RX3 63 yX3_costOf 3 := ⟨inT4 (List.mem_of_getElem? (i := 159) (by decide +kernel)), inT4 (List.mem_of_getElem? (i := 161) (by decide +kernel)), List.mem_of_getElem? (i := 30) (by decide +kernel), _, rfl, rfl⟩
theorem vX3_66 : VL RX3 66 yX3_cheapestOf 3 := ⟨inT4 (List.mem_of_getElem? (i := 163) (by decide +kernel)), inT4 (List.mem_of_getElem? (i := 165) (by decide +kernel)), List.mem_of_getElem? (i := 31) (by decide +kernel), _, rfl, rfl⟩
theorem vL_99 : VL RL 99 yX11_boxSet 11 := ⟨inT4 (List.mem_of_getElem? (i := 167) (by decide +kernel)), inT4 (List.mem_of_getElem? (i := 168) (by decide +kernel)), inT4 (List.mem_of_getElem? (i := 169) (by decide +kernel)), _, rfl, rfl⟩
theorem vL_103 : VL RL 103 yX11_stack 11 := ⟨inT4 (List.mem_of_getElem? (i := 171) (by decide +kernel)), inT4 (List.mem_of_getElem? (i := 172) (by decide +kernel)), inT4 (List.mem_of_getElem? (i := 173) (by decide +kernel)), _, rfl, rfl⟩
theorem vX11_234 : VL RX11 234 yX11_dayOfFall 11 := ⟨inT4 (List.mem_of_getElem? (i := 176) (by decide +kernel)), inT4 (List.mem_of_getElem? (i := 178) (by decide +kernel)), List.mem_of_getElem? (i := 32) (by decide +kernel), _, rfl, rfl⟩
theorem vL_116 : VL RL 116 yX11_proved 11 := ⟨inT4 (List.mem_of_getElem? (i := 180) (by decide +kernel)), inT4 (List.mem_of_getElem? (i := 181) (by decide +kernel)), inT4 (List.mem_of_getElem? (i := 182) (by decide +kernel)), _, rfl, rfl⟩
theorem vX11_262 : SL RX11 262 yX11_power := ⟨inT4 (List.mem_of_getElem? (i := 185) (by decide +kernel)), inT4 (List.mem_of_getElem? (i := 186) (by decide +kernel))⟩
theorem vL_120 : VL RL 120 yX11_needed 11 := ⟨inT4 (List.mem_of_getElem? (i := 188) (by decide +kernel)), inT4 (List.mem_of_getElem? (i := 189) (by decide +kernel)), inT4 (List.mem_of_getElem? (i := 190) (by decide +kernel)), _, rfl, rfl⟩
theorem vL_124 : VL RL 124 yX11_count 11 := ⟨inT4 (List.mem_of_getElem? (i := 194) (by decide +kernel)), inT4 (List.mem_of_getElem? (i := 195) (by decide +kernel)), inT4 (List.mem_of_getElem? (i := 196) (by decide +kernel)), _, rfl, rfl⟩
theorem vL_107 : SL RL 107 yL_journey := ⟨inT4 (List.mem_of_getElem? (i := 198) (by decide +kernel)), inT4 (List.mem_of_getElem? (i := 199) (by decide +kernel))⟩
theorem vL_7 : VL RL 7 yX11_journey 11 := ⟨inT4 (List.mem_of_getElem? (i := 202) (by decide +kernel)), inT4 (List.mem_of_getElem? (i := 203) (by decide +kernel)), inT4 (List.mem_of_getElem? (i := 204) (by decide +kernel)), _, rfl, rfl⟩
theorem vX11_237 : VL RX11 237 yX11_tapeTellsLegs 11 := ⟨inT4 (List.mem_of_getElem? (i := 206) (by decide +kernel)), inT4 (List.mem_of_getElem? (i := 208) (by decide +kernel)), List.mem_of_getElem? (i := 33) (by decide +kernel), _, rfl, rfl⟩
theorem vX11_249 : VL RX11 249 yX11_sharesOfLeg 11 := ⟨inT4 (List.mem_of_getElem? (i := 210) (by decide +kernel)), inT4 (List.mem_of_getElem? (i := 212) (by decide +kernel)), List.mem_of_getElem? (i := 34) (by decide +kernel), _, rfl, rfl⟩
theorem vX11_306 : VL RX11 306 yX11_shareOfLeg 11 := ⟨inT4 (List.mem_of_getElem? (i := 214) (by decide +kernel)), inT4 (List.mem_of_getElem? (i := 216) (by decide +kernel)), List.mem_of_getElem? (i := 35) (by decide +kernel), _, rfl, rfl⟩
theorem vX11_303 : VL RX11 303 yX11_heightOfLeg 11 := ⟨inT4 (List.mem_of_getElem? (i := 218) (by decide +kernel)), inT4 (List.mem_of_getElem? (i := 220) (by decide +kernel)), List.mem_of_getElem? (i := 36) (by decide +kernel), _, rfl, rfl⟩
theorem vX11_256 : VL RX11 256 yX11_heldSharesOfLeg 11 := ⟨inT5 (List.mem_of_getElem? (i := 47) (by decide +kernel)), inT5 (List.mem_of_getElem? (i := 49) (by decide +kernel)), List.mem_of_getElem? (i := 38) (by decide +kernel), _, rfl, rfl⟩
theorem vL_18 : IL RL 18 yX12_init := ⟨inT5 (List.mem_of_getElem? (i := 53) (by decide +kernel)), inT5 (List.mem_of_getElem? (i := 54) (by decide +kernel)), rfl⟩
theorem oX12_1 : Cond.methodLink RX12 1 Lib.objectInit ∈ lw_tbl := inT5 (List.mem_of_getElem? (i := 56) (by decide +kernel))
theorem vL_113 : VL RL 113 yX12_thrown 12 := ⟨inT5 (List.mem_of_getElem? (i := 164) (by decide +kernel)), inT5 (List.mem_of_getElem? (i := 165) (by decide +kernel)), inT5 (List.mem_of_getElem? (i := 166) (by decide +kernel)), _, rfl, rfl⟩
theorem vL_23 : VL RL 23 yX12_feed 12 := ⟨inT5 (List.mem_of_getElem? (i := 168) (by decide +kernel)), inT5 (List.mem_of_getElem? (i := 169) (by decide +kernel)), inT5 (List.mem_of_getElem? (i := 170) (by decide +kernel)), _, rfl, rfl⟩
theorem vX12_61 : VL RX12 61 yX12_come 12 := ⟨inT5 (List.mem_of_getElem? (i := 172) (by decide +kernel)), inT5 (List.mem_of_getElem? (i := 174) (by decide +kernel)), List.mem_of_getElem? (i := 39) (by decide +kernel), _, rfl, rfl⟩
theorem vL_28 : VL RL 28 yX12_end 12 := ⟨inT5 (List.mem_of_getElem? (i := 176) (by decide +kernel)), inT5 (List.mem_of_getElem? (i := 177) (by decide +kernel)), inT5 (List.mem_of_getElem? (i := 178) (by decide +kernel)), _, rfl, rfl⟩
theorem vL_33 : VL RL 33 yX12_next 12 := ⟨inT5 (List.mem_of_getElem? (i := 180) (by decide +kernel)), inT5 (List.mem_of_getElem? (i := 181) (by decide +kernel)), inT5 (List.mem_of_getElem? (i := 182) (by decide +kernel)), _, rfl, rfl⟩
theorem vX12_65 : SL RX12 65 yX12_isIn := ⟨inT5 (List.mem_of_getElem? (i := 184) (by decide +kernel)), inT5 (List.mem_of_getElem? (i := 185) (by decide +kernel))⟩
theorem vL_38 : VL RL 38 yX12_book 12 := ⟨inT5 (List.mem_of_getElem? (i := 187) (by decide +kernel)), inT5 (List.mem_of_getElem? (i := 188) (by decide +kernel)), inT5 (List.mem_of_getElem? (i := 189) (by decide +kernel)), _, rfl, rfl⟩
theorem vX12_201 : VL RX12 201 yX12_take 12 := ⟨inT5 (List.mem_of_getElem? (i := 191) (by decide +kernel)), inT5 (List.mem_of_getElem? (i := 193) (by decide +kernel)), List.mem_of_getElem? (i := 40) (by decide +kernel), _, rfl, rfl⟩
theorem vX12_154 : SL RX12 154 yX12_at := ⟨inT5 (List.mem_of_getElem? (i := 195) (by decide +kernel)), inT5 (List.mem_of_getElem? (i := 196) (by decide +kernel))⟩
theorem vX12_148 : VL RX12 148 yX12_go 12 := ⟨inT5 (List.mem_of_getElem? (i := 198) (by decide +kernel)), inT5 (List.mem_of_getElem? (i := 200) (by decide +kernel)), List.mem_of_getElem? (i := 41) (by decide +kernel), _, rfl, rfl⟩
theorem vX12_84 : SL RX12 84 yX12_isLetter := ⟨inT5 (List.mem_of_getElem? (i := 202) (by decide +kernel)), inT5 (List.mem_of_getElem? (i := 203) (by decide +kernel))⟩
theorem vX12_88 : SL RX12 88 yX12_isDigit := ⟨inT5 (List.mem_of_getElem? (i := 205) (by decide +kernel)), inT5 (List.mem_of_getElem? (i := 206) (by decide +kernel))⟩
theorem vX12_101 : VL RX12 101 yX12_byteAt 12 := ⟨inT5 (List.mem_of_getElem? (i := 208) (by decide +kernel)), inT5 (List.mem_of_getElem? (i := 210) (by decide +kernel)), List.mem_of_getElem? (i := 42) (by decide +kernel), _, rfl, rfl⟩
theorem vX12_208 : VL RX12 208 yX12_readLine 12 := ⟨inT5 (List.mem_of_getElem? (i := 214) (by decide +kernel)), inT5 (List.mem_of_getElem? (i := 216) (by decide +kernel)), List.mem_of_getElem? (i := 43) (by decide +kernel), _, rfl, rfl⟩
theorem vX12_119 : VL RX12 119 yX12_isFoam 12 := ⟨inT5 (List.mem_of_getElem? (i := 218) (by decide +kernel)), inT5 (List.mem_of_getElem? (i := 220) (by decide +kernel)), List.mem_of_getElem? (i := 44) (by decide +kernel), _, rfl, rfl⟩
theorem vX12_109 : SL RX12 109 yX12_spelt := ⟨inT5 (List.mem_of_getElem? (i := 222) (by decide +kernel)), inT5 (List.mem_of_getElem? (i := 223) (by decide +kernel))⟩
theorem vX12_113 : VL RX12 113 yX12_isKey 12 := ⟨inT5 (List.mem_of_getElem? (i := 225) (by decide +kernel)), inT5 (List.mem_of_getElem? (i := 227) (by decide +kernel)), List.mem_of_getElem? (i := 45) (by decide +kernel), _, rfl, rfl⟩
theorem vX12_186 : VL RX12 186 yX12_readFoam 12 := ⟨inT5 (List.mem_of_getElem? (i := 229) (by decide +kernel)), inT5 (List.mem_of_getElem? (i := 231) (by decide +kernel)), List.mem_of_getElem? (i := 46) (by decide +kernel), _, rfl, rfl⟩
theorem vX12_145 : VL RX12 145 yX12_bad 12 := ⟨inT5 (List.mem_of_getElem? (i := 233) (by decide +kernel)), inT5 (List.mem_of_getElem? (i := 235) (by decide +kernel)), List.mem_of_getElem? (i := 47) (by decide +kernel), _, rfl, rfl⟩
theorem vX12_174 : VL RX12 174 yX12_readName 12 := ⟨inT5 (List.mem_of_getElem? (i := 237) (by decide +kernel)), inT5 (List.mem_of_getElem? (i := 239) (by decide +kernel)), List.mem_of_getElem? (i := 48) (by decide +kernel), _, rfl, rfl⟩
theorem vX12_157 : VL RX12 157 yX12_isTaken 12 := ⟨inT6 (List.mem_of_getElem? (i := 1) (by decide +kernel)), inT6 (List.mem_of_getElem? (i := 3) (by decide +kernel)), List.mem_of_getElem? (i := 49) (by decide +kernel), _, rfl, rfl⟩
theorem vX12_123 : VL RX12 123 yX12_isThing 12 := ⟨inT6 (List.mem_of_getElem? (i := 5) (by decide +kernel)), inT6 (List.mem_of_getElem? (i := 7) (by decide +kernel)), List.mem_of_getElem? (i := 50) (by decide +kernel), _, rfl, rfl⟩
theorem vX12_126 : VL RX12 126 yX12_isBox 12 := ⟨inT6 (List.mem_of_getElem? (i := 9) (by decide +kernel)), inT6 (List.mem_of_getElem? (i := 11) (by decide +kernel)), List.mem_of_getElem? (i := 51) (by decide +kernel), _, rfl, rfl⟩
theorem vX12_129 : VL RX12 129 yX12_isPad 12 := ⟨inT6 (List.mem_of_getElem? (i := 13) (by decide +kernel)), inT6 (List.mem_of_getElem? (i := 15) (by decide +kernel)), List.mem_of_getElem? (i := 52) (by decide +kernel), _, rfl, rfl⟩
theorem vX12_132 : VL RX12 132 yX12_isDrop 12 := ⟨inT6 (List.mem_of_getElem? (i := 17) (by decide +kernel)), inT6 (List.mem_of_getElem? (i := 19) (by decide +kernel)), List.mem_of_getElem? (i := 53) (by decide +kernel), _, rfl, rfl⟩
theorem vX12_135 : SL RX12 135 yX12_weighs := ⟨inT6 (List.mem_of_getElem? (i := 21) (by decide +kernel)), inT6 (List.mem_of_getElem? (i := 22) (by decide +kernel))⟩
theorem vX12_160 : VL RX12 160 yX12_find 12 := ⟨inT6 (List.mem_of_getElem? (i := 25) (by decide +kernel)), inT6 (List.mem_of_getElem? (i := 27) (by decide +kernel)), List.mem_of_getElem? (i := 54) (by decide +kernel), _, rfl, rfl⟩
theorem vX12_177 : VL RX12 177 yX12_readPoint 12 := ⟨inT6 (List.mem_of_getElem? (i := 29) (by decide +kernel)), inT6 (List.mem_of_getElem? (i := 31) (by decide +kernel)), List.mem_of_getElem? (i := 55) (by decide +kernel), _, rfl, rfl⟩
theorem vX12_163 : VL RX12 163 yX12_readNumber 12 := ⟨inT6 (List.mem_of_getElem? (i := 33) (by decide +kernel)), inT6 (List.mem_of_getElem? (i := 35) (by decide +kernel)), List.mem_of_getElem? (i := 56) (by decide +kernel), _, rfl, rfl⟩
theorem vX12_167 : VL RX12 167 yX12_readInto 12 := ⟨inT6 (List.mem_of_getElem? (i := 37) (by decide +kernel)), inT6 (List.mem_of_getElem? (i := 39) (by decide +kernel)), List.mem_of_getElem? (i := 57) (by decide +kernel), _, rfl, rfl⟩
theorem vX12_170 : VL RX12 170 yX12_isSign 12 := ⟨inT6 (List.mem_of_getElem? (i := 41) (by decide +kernel)), inT6 (List.mem_of_getElem? (i := 43) (by decide +kernel)), List.mem_of_getElem? (i := 58) (by decide +kernel), _, rfl, rfl⟩
theorem vX12_180 : VL RX12 180 yX12_readKey 12 := ⟨inT6 (List.mem_of_getElem? (i := 46) (by decide +kernel)), inT6 (List.mem_of_getElem? (i := 48) (by decide +kernel)), List.mem_of_getElem? (i := 59) (by decide +kernel), _, rfl, rfl⟩
theorem vX12_189 : VL RX12 189 yX12_readThing 12 := ⟨inT6 (List.mem_of_getElem? (i := 50) (by decide +kernel)), inT6 (List.mem_of_getElem? (i := 52) (by decide +kernel)), List.mem_of_getElem? (i := 60) (by decide +kernel), _, rfl, rfl⟩
theorem vX12_192 : VL RX12 192 yX12_readBox 12 := ⟨inT6 (List.mem_of_getElem? (i := 54) (by decide +kernel)), inT6 (List.mem_of_getElem? (i := 56) (by decide +kernel)), List.mem_of_getElem? (i := 61) (by decide +kernel), _, rfl, rfl⟩
theorem vX12_195 : VL RX12 195 yX12_readPad 12 := ⟨inT6 (List.mem_of_getElem? (i := 58) (by decide +kernel)), inT6 (List.mem_of_getElem? (i := 60) (by decide +kernel)), List.mem_of_getElem? (i := 62) (by decide +kernel), _, rfl, rfl⟩
theorem vX12_183 : VL RX12 183 yX12_readTold 12 := ⟨inT6 (List.mem_of_getElem? (i := 62) (by decide +kernel)), inT6 (List.mem_of_getElem? (i := 64) (by decide +kernel)), List.mem_of_getElem? (i := 63) (by decide +kernel), _, rfl, rfl⟩
theorem vX12_198 : VL RX12 198 yX12_readDrop 12 := ⟨inT6 (List.mem_of_getElem? (i := 66) (by decide +kernel)), inT6 (List.mem_of_getElem? (i := 68) (by decide +kernel)), List.mem_of_getElem? (i := 64) (by decide +kernel), _, rfl, rfl⟩
theorem vL_42 : VL RL 42 yX12_fault 12 := ⟨inT6 (List.mem_of_getElem? (i := 70) (by decide +kernel)), inT6 (List.mem_of_getElem? (i := 71) (by decide +kernel)), inT6 (List.mem_of_getElem? (i := 72) (by decide +kernel)), _, rfl, rfl⟩
theorem vL_47 : VL RL 47 yX12_many 12 := ⟨inT6 (List.mem_of_getElem? (i := 74) (by decide +kernel)), inT6 (List.mem_of_getElem? (i := 75) (by decide +kernel)), inT6 (List.mem_of_getElem? (i := 76) (by decide +kernel)), _, rfl, rfl⟩
theorem vX12_214 : VL RX12 214 yX12_isBooked 12 := ⟨inT6 (List.mem_of_getElem? (i := 78) (by decide +kernel)), inT6 (List.mem_of_getElem? (i := 80) (by decide +kernel)), List.mem_of_getElem? (i := 65) (by decide +kernel), _, rfl, rfl⟩
theorem vX12_217 : VL RX12 217 yX12_of 12 := ⟨inT6 (List.mem_of_getElem? (i := 82) (by decide +kernel)), inT6 (List.mem_of_getElem? (i := 84) (by decide +kernel)), List.mem_of_getElem? (i := 66) (by decide +kernel), _, rfl, rfl⟩
theorem vL_52 : VL RL 52 yX12_push 12 := ⟨inT6 (List.mem_of_getElem? (i := 86) (by decide +kernel)), inT6 (List.mem_of_getElem? (i := 87) (by decide +kernel)), inT6 (List.mem_of_getElem? (i := 88) (by decide +kernel)), _, rfl, rfl⟩
theorem vX12_223 : VL RX12 223 yX12_has 12 := ⟨inT6 (List.mem_of_getElem? (i := 90) (by decide +kernel)), inT6 (List.mem_of_getElem? (i := 92) (by decide +kernel)), List.mem_of_getElem? (i := 67) (by decide +kernel), _, rfl, rfl⟩
theorem vX12_226 : VL RX12 226 yX12_lay 12 := ⟨inT6 (List.mem_of_getElem? (i := 94) (by decide +kernel)), inT6 (List.mem_of_getElem? (i := 96) (by decide +kernel)), List.mem_of_getElem? (i := 68) (by decide +kernel), _, rfl, rfl⟩
theorem vL_56 : VL RL 56 yX12_squeeze 12 := ⟨inT6 (List.mem_of_getElem? (i := 98) (by decide +kernel)), inT6 (List.mem_of_getElem? (i := 99) (by decide +kernel)), inT6 (List.mem_of_getElem? (i := 100) (by decide +kernel)), _, rfl, rfl⟩
theorem vX12_248 : VL RX12 248 yX12_isDropped 12 := ⟨inT6 (List.mem_of_getElem? (i := 102) (by decide +kernel)), inT6 (List.mem_of_getElem? (i := 104) (by decide +kernel)), List.mem_of_getElem? (i := 69) (by decide +kernel), _, rfl, rfl⟩
theorem vX12_252 : VL RX12 252 yX12_takePad 12 := ⟨inT6 (List.mem_of_getElem? (i := 106) (by decide +kernel)), inT6 (List.mem_of_getElem? (i := 108) (by decide +kernel)), List.mem_of_getElem? (i := 70) (by decide +kernel), _, rfl, rfl⟩
theorem vX12_255 : VL RX12 255 yX12_weightOf 12 := ⟨inT6 (List.mem_of_getElem? (i := 110) (by decide +kernel)), inT6 (List.mem_of_getElem? (i := 112) (by decide +kernel)), List.mem_of_getElem? (i := 71) (by decide +kernel), _, rfl, rfl⟩
theorem vX12_258 : VL RX12 258 yX12_squeezed 12 := ⟨inT6 (List.mem_of_getElem? (i := 114) (by decide +kernel)), inT6 (List.mem_of_getElem? (i := 116) (by decide +kernel)), List.mem_of_getElem? (i := 72) (by decide +kernel), _, rfl, rfl⟩
theorem vL_60 : VL RL 60 yX12_blow 12 := ⟨inT6 (List.mem_of_getElem? (i := 120) (by decide +kernel)), inT6 (List.mem_of_getElem? (i := 121) (by decide +kernel)), inT6 (List.mem_of_getElem? (i := 122) (by decide +kernel)), _, rfl, rfl⟩
theorem vX12_262 : VL RX12 262 yX12_squeeze 12 := ⟨inT6 (List.mem_of_getElem? (i := 124) (by decide +kernel)), inT6 (List.mem_of_getElem? (i := 99) (by decide +kernel)), inT6 (List.mem_of_getElem? (i := 100) (by decide +kernel)), _, rfl, rfl⟩
theorem vX12_266 : VL RX12 266 yX12_blowAt 12 := ⟨inT6 (List.mem_of_getElem? (i := 125) (by decide +kernel)), inT6 (List.mem_of_getElem? (i := 127) (by decide +kernel)), List.mem_of_getElem? (i := 73) (by decide +kernel), _, rfl, rfl⟩
theorem vL_64 : VL RL 64 yX12_again 12 := ⟨inT6 (List.mem_of_getElem? (i := 132) (by decide +kernel)), inT6 (List.mem_of_getElem? (i := 133) (by decide +kernel)), inT6 (List.mem_of_getElem? (i := 134) (by decide +kernel)), _, rfl, rfl⟩
theorem vX12_270 : VL RX12 270 yX12_markOf 12 := ⟨inT6 (List.mem_of_getElem? (i := 136) (by decide +kernel)), inT6 (List.mem_of_getElem? (i := 138) (by decide +kernel)), List.mem_of_getElem? (i := 74) (by decide +kernel), _, rfl, rfl⟩
theorem vX12_273 : VL RX12 273 yX12_holds 12 := ⟨inT6 (List.mem_of_getElem? (i := 140) (by decide +kernel)), inT6 (List.mem_of_getElem? (i := 142) (by decide +kernel)), List.mem_of_getElem? (i := 75) (by decide +kernel), _, rfl, rfl⟩
theorem vX12_276 : VL RX12 276 yX12_keepsOf 12 := ⟨inT6 (List.mem_of_getElem? (i := 144) (by decide +kernel)), inT6 (List.mem_of_getElem? (i := 146) (by decide +kernel)), List.mem_of_getElem? (i := 76) (by decide +kernel), _, rfl, rfl⟩
theorem vL_68 : VL RL 68 yX12_breaks 12 := ⟨inT6 (List.mem_of_getElem? (i := 148) (by decide +kernel)), inT6 (List.mem_of_getElem? (i := 149) (by decide +kernel)), inT6 (List.mem_of_getElem? (i := 150) (by decide +kernel)), _, rfl, rfl⟩
theorem vL_72 : VL RL 72 yX12_breaksAt 12 := ⟨inT6 (List.mem_of_getElem? (i := 152) (by decide +kernel)), inT6 (List.mem_of_getElem? (i := 153) (by decide +kernel)), inT6 (List.mem_of_getElem? (i := 154) (by decide +kernel)), _, rfl, rfl⟩
theorem vL_76 : VL RL 76 yX12_spans 12 := ⟨inT6 (List.mem_of_getElem? (i := 156) (by decide +kernel)), inT6 (List.mem_of_getElem? (i := 157) (by decide +kernel)), inT6 (List.mem_of_getElem? (i := 158) (by decide +kernel)), _, rfl, rfl⟩
theorem vL_81 : VL RL 81 yX12_highest 12 := ⟨inT6 (List.mem_of_getElem? (i := 160) (by decide +kernel)), inT6 (List.mem_of_getElem? (i := 161) (by decide +kernel)), inT6 (List.mem_of_getElem? (i := 162) (by decide +kernel)), _, rfl, rfl⟩
theorem vL_86 : VL RL 86 yX12_recorded 12 := ⟨inT6 (List.mem_of_getElem? (i := 164) (by decide +kernel)), inT6 (List.mem_of_getElem? (i := 165) (by decide +kernel)), inT6 (List.mem_of_getElem? (i := 166) (by decide +kernel)), _, rfl, rfl⟩
theorem vX12_279 : VL RX12 279 yX12_above 12 := ⟨inT6 (List.mem_of_getElem? (i := 168) (by decide +kernel)), inT6 (List.mem_of_getElem? (i := 170) (by decide +kernel)), List.mem_of_getElem? (i := 77) (by decide +kernel), _, rfl, rfl⟩
theorem vL_90 : VL RL 90 yX12_pads 12 := ⟨inT6 (List.mem_of_getElem? (i := 172) (by decide +kernel)), inT6 (List.mem_of_getElem? (i := 173) (by decide +kernel)), inT6 (List.mem_of_getElem? (i := 174) (by decide +kernel)), _, rfl, rfl⟩
theorem vL_94 : VL RL 94 yX12_padAt 12 := ⟨inT6 (List.mem_of_getElem? (i := 176) (by decide +kernel)), inT6 (List.mem_of_getElem? (i := 177) (by decide +kernel)), inT6 (List.mem_of_getElem? (i := 178) (by decide +kernel)), _, rfl, rfl⟩
theorem vL_98 : VL RL 98 yX12_boxes 12 := ⟨inT6 (List.mem_of_getElem? (i := 180) (by decide +kernel)), inT6 (List.mem_of_getElem? (i := 181) (by decide +kernel)), inT6 (List.mem_of_getElem? (i := 182) (by decide +kernel)), _, rfl, rfl⟩
theorem vX12_290 : VL RX12 290 yX12_costOf 12 := ⟨inT6 (List.mem_of_getElem? (i := 184) (by decide +kernel)), inT6 (List.mem_of_getElem? (i := 186) (by decide +kernel)), List.mem_of_getElem? (i := 78) (by decide +kernel), _, rfl, rfl⟩
theorem vX12_296 : VL RX12 296 yX12_goesInto 12 := ⟨inT6 (List.mem_of_getElem? (i := 188) (by decide +kernel)), inT6 (List.mem_of_getElem? (i := 190) (by decide +kernel)), List.mem_of_getElem? (i := 79) (by decide +kernel), _, rfl, rfl⟩
theorem vX12_287 : VL RX12 287 yX12_fits 12 := ⟨inT6 (List.mem_of_getElem? (i := 192) (by decide +kernel)), inT6 (List.mem_of_getElem? (i := 194) (by decide +kernel)), List.mem_of_getElem? (i := 80) (by decide +kernel), _, rfl, rfl⟩
theorem vL_102 : VL RL 102 yX12_boxSet 12 := ⟨inT6 (List.mem_of_getElem? (i := 196) (by decide +kernel)), inT6 (List.mem_of_getElem? (i := 197) (by decide +kernel)), inT6 (List.mem_of_getElem? (i := 198) (by decide +kernel)), _, rfl, rfl⟩
theorem vL_106 : VL RL 106 yX12_stack 12 := ⟨inT6 (List.mem_of_getElem? (i := 200) (by decide +kernel)), inT6 (List.mem_of_getElem? (i := 201) (by decide +kernel)), inT6 (List.mem_of_getElem? (i := 202) (by decide +kernel)), _, rfl, rfl⟩
theorem vL_112 : VL RL 112 yX12_journey 12 := ⟨inT6 (List.mem_of_getElem? (i := 204) (by decide +kernel)), inT6 (List.mem_of_getElem? (i := 205) (by decide +kernel)), inT6 (List.mem_of_getElem? (i := 206) (by decide +kernel)), _, rfl, rfl⟩
theorem vX12_299 : VL RX12 299 yX12_heightAt 12 := ⟨inT6 (List.mem_of_getElem? (i := 208) (by decide +kernel)), inT6 (List.mem_of_getElem? (i := 210) (by decide +kernel)), List.mem_of_getElem? (i := 81) (by decide +kernel), _, rfl, rfl⟩
theorem vL_119 : VL RL 119 yX12_proved 12 := ⟨inT6 (List.mem_of_getElem? (i := 213) (by decide +kernel)), inT6 (List.mem_of_getElem? (i := 214) (by decide +kernel)), inT6 (List.mem_of_getElem? (i := 215) (by decide +kernel)), _, rfl, rfl⟩
theorem vX12_304 : SL RX12 304 yX12_power := ⟨inT6 (List.mem_of_getElem? (i := 217) (by decide +kernel)), inT6 (List.mem_of_getElem? (i := 218) (by decide +kernel))⟩
theorem vL_123 : VL RL 123 yX12_needed 12 := ⟨inT6 (List.mem_of_getElem? (i := 220) (by decide +kernel)), inT6 (List.mem_of_getElem? (i := 221) (by decide +kernel)), inT6 (List.mem_of_getElem? (i := 222) (by decide +kernel)), _, rfl, rfl⟩
theorem vL_127 : VL RL 127 yX12_count 12 := ⟨inT6 (List.mem_of_getElem? (i := 225) (by decide +kernel)), inT6 (List.mem_of_getElem? (i := 226) (by decide +kernel)), inT6 (List.mem_of_getElem? (i := 227) (by decide +kernel)), _, rfl, rfl⟩
theorem oI_inst : Cond.instanceMethod Lib.objectInit ∈ lw_tbl := inT1 (List.mem_of_getElem? (i := 30) (by decide +kernel))
theorem oI_code : Cond.code Lib.objectInit ⟨#[0xb1]⟩ 1 none ∈ lw_tbl := inT1 (List.mem_of_getElem? (i := 31) (by decide +kernel))
theorem nL_8 : NL RL 8 11 12 [.null, .null, .null, .null, .null, .null, .null, .null, .int 0, .int 0, .int 0, .int 0] := ⟨RX11, TX11, tyX11, rfl, layX11, tyX11_ok, inT1 (List.mem_of_getElem? (i := 24) (by decide +kernel)), inT1 (List.mem_of_getElem? (i := 25) (by decide +kernel)), inT1 (List.mem_of_getElem? (i := 1) (by decide +kernel)), rfl, by decide +kernel, rfl⟩
theorem nX11_7 : NL RX11 7 8 2 [.null, .int 0] := ⟨RX8, TX8, tyX8, rfl, layX8, tyX8_ok, inT1 (List.mem_of_getElem? (i := 32) (by decide +kernel)), inT1 (List.mem_of_getElem? (i := 33) (by decide +kernel)), inT1 (List.mem_of_getElem? (i := 2) (by decide +kernel)), rfl, by decide +kernel, rfl⟩
theorem nX11_16 : NL RX11 16 1 9 [.null, .null, .null, .null, .int 0, .int 0, .int 0, .int 0, .int 0] := ⟨RX1, TX1, tyX1, rfl, layX1, tyX1_ok, inT1 (List.mem_of_getElem? (i := 50) (by decide +kernel)), inT1 (List.mem_of_getElem? (i := 51) (by decide +kernel)), inT1 (List.mem_of_getElem? (i := 3) (by decide +kernel)), rfl, by decide +kernel, rfl⟩
theorem nX1_11 : NL RX1 11 10 6 [.null, .null, .null, .null, .int 0, .int 0] := ⟨RX10, TX10, tyX10, rfl, layX10, tyX10_ok, inT1 (List.mem_of_getElem? (i := 56) (by decide +kernel)), inT1 (List.mem_of_getElem? (i := 57) (by decide +kernel)), inT1 (List.mem_of_getElem? (i := 4) (by decide +kernel)), rfl, by decide +kernel, rfl⟩
theorem nX11_23 : NL RX11 23 0 10 [.null, .null, .null, .null, .int 0, .int 0, .int 0, .int 0, .int 0, .int 0] := ⟨RX0, TX0, tyX0, rfl, layX0, tyX0_ok, inT1 (List.mem_of_getElem? (i := 166) (by decide +kernel)), inT1 (List.mem_of_getElem? (i := 168) (by decide +kernel)), inT1 (List.mem_of_getElem? (i := 9) (by decide +kernel)), rfl, by decide +kernel, rfl⟩
theorem qX11_23 : Cond.classLink RX11 23 "FoamArms$Book" ∈ lw_tbl := inT1 (List.mem_of_getElem? (i := 166) (by decide +kernel))
theorem qX0_9 : Cond.classLink RX0 9 "FoamArms$Foam" ∈ lw_tbl := inT1 (List.mem_of_getElem? (i := 173) (by decide +kernel))
theorem qX0_15 : Cond.classLink RX0 15 "FoamArms$Thing" ∈ lw_tbl := inT1 (List.mem_of_getElem? (i := 175) (by decide +kernel))
theorem qX0_21 : Cond.classLink RX0 21 "FoamArms$Box" ∈ lw_tbl := inT1 (List.mem_of_getElem? (i := 177) (by decide +kernel))
theorem qX0_27 : Cond.classLink RX0 27 "FoamArms$Drop" ∈ lw_tbl := inT1 (List.mem_of_getElem? (i := 179) (by decide +kernel))
theorem nX11_34 : NL RX11 34 4 8 [.null, .null, .null, .int 0, .long 0, .long 0, .int 0, .int 0] := ⟨RX4, TX4, tyX4, rfl, layX4, tyX4_ok, inT1 (List.mem_of_getElem? (i := 225) (by decide +kernel)), inT1 (List.mem_of_getElem? (i := 226) (by decide +kernel)), inT1 (List.mem_of_getElem? (i := 10) (by decide +kernel)), rfl, by decide +kernel, rfl⟩
theorem nX11_41 : NL RX11 41 7 7 [.null, .null, .null, .null, .null, .null, .int 0] := ⟨RX7, TX7, tyX7, rfl, layX7, tyX7_ok, inT2 (List.mem_of_getElem? (i := 17) (by decide +kernel)), inT2 (List.mem_of_getElem? (i := 18) (by decide +kernel)), inT1 (List.mem_of_getElem? (i := 11) (by decide +kernel)), rfl, by decide +kernel, rfl⟩
theorem nX11_48 : NL RX11 48 3 5 [.null, .null, .int 0, .int 0, .int 0] := ⟨RX3, TX3, tyX3, rfl, layX3, tyX3_ok, inT2 (List.mem_of_getElem? (i := 47) (by decide +kernel)), inT2 (List.mem_of_getElem? (i := 48) (by decide +kernel)), inT1 (List.mem_of_getElem? (i := 12) (by decide +kernel)), rfl, by decide +kernel, rfl⟩
theorem nX1_1 : NL RX1 1 0 10 [.null, .null, .null, .null, .int 0, .int 0, .int 0, .int 0, .int 0, .int 0] := ⟨RX0, TX0, tyX0, rfl, layX0, tyX0_ok, inT2 (List.mem_of_getElem? (i := 131) (by decide +kernel)), inT1 (List.mem_of_getElem? (i := 168) (by decide +kernel)), inT1 (List.mem_of_getElem? (i := 9) (by decide +kernel)), rfl, by decide +kernel, rfl⟩
theorem nX1_106 : NL RX1 106 6 5 [.null, .null, .int 0, .int 0, .int 0] := ⟨RX6, TX6, tyX6, rfl, layX6, tyX6_ok, inT2 (List.mem_of_getElem? (i := 213) (by decide +kernel)), inT2 (List.mem_of_getElem? (i := 214) (by decide +kernel)), inT1 (List.mem_of_getElem? (i := 15) (by decide +kernel)), rfl, by decide +kernel, rfl⟩
theorem nX1_148 : NL RX1 148 9 6 [.null, .null, .null, .null, .int 0, .int 0] := ⟨RX9, TX9, tyX9, rfl, layX9, tyX9_ok, inT3 (List.mem_of_getElem? (i := 33) (by decide +kernel)), inT3 (List.mem_of_getElem? (i := 34) (by decide +kernel)), inT1 (List.mem_of_getElem? (i := 16) (by decide +kernel)), rfl, by decide +kernel, rfl⟩
theorem qX9_15 : Cond.classLink RX9 15 "FoamArms$Foam" ∈ lw_tbl := inT3 (List.mem_of_getElem? (i := 39) (by decide +kernel))
theorem nX1_171 : NL RX1 171 2 3 [.null, .int 0, .int 0] := ⟨RX2, TX2, tyX2, rfl, layX2, tyX2_ok, inT3 (List.mem_of_getElem? (i := 82) (by decide +kernel)), inT3 (List.mem_of_getElem? (i := 83) (by decide +kernel)), inT1 (List.mem_of_getElem? (i := 17) (by decide +kernel)), rfl, by decide +kernel, rfl⟩
theorem nX1_206 : NL RX1 206 5 4 [.int 0, .int 0, .int 0, .int 0] := ⟨RX5, TX5, tyX5, rfl, layX5, tyX5_ok, inT3 (List.mem_of_getElem? (i := 140) (by decide +kernel)), inT3 (List.mem_of_getElem? (i := 141) (by decide +kernel)), inT1 (List.mem_of_getElem? (i := 18) (by decide +kernel)), rfl, by decide +kernel, rfl⟩
theorem nL_16 : NL RL 16 12 35 [.int 0, .null, .null, .null, .int 0, .int 0, .int 0, .int 0, .int 0, .int 0, .int 0, .int 0, .int 0, .int 0, .int 0, .long 0, .int 0, .null, .int 0, .null, .null, .int 0, .int 0, .int 0, .int 0, .int 0, .null, .null, .null, .null, .null, .null, .null, .int 0, .int 0] := ⟨RX12, TX12, tyX12, rfl, layX12, tyX12_ok, inT5 (List.mem_of_getElem? (i := 51) (by decide +kernel)), inT5 (List.mem_of_getElem? (i := 52) (by decide +kernel)), inT1 (List.mem_of_getElem? (i := 13) (by decide +kernel)), rfl, by decide +kernel, rfl⟩
theorem ao_4 : Cond.arrayOver (.object "FoamArms$Foam") ∈ lw_tbl := inT1 (List.mem_of_getElem? (i := 174) (by decide +kernel))
theorem ao_5 : Cond.arrayOver (.object "FoamArms$Thing") ∈ lw_tbl := inT1 (List.mem_of_getElem? (i := 176) (by decide +kernel))
theorem ao_6 : Cond.arrayOver (.object "FoamArms$Box") ∈ lw_tbl := inT1 (List.mem_of_getElem? (i := 178) (by decide +kernel))
theorem ao_7 : Cond.arrayOver (.object "FoamArms$Drop") ∈ lw_tbl := inT1 (List.mem_of_getElem? (i := 180) (by decide +kernel))
theorem ao_8 : Cond.arrayOver (.object "FoamArms$Book") ∈ lw_tbl := inT1 (List.mem_of_getElem? (i := 167) (by decide +kernel))
theorem ac_byte : Cond.arrayClass .byte ∈ lw_tbl := inT1 (List.mem_of_getElem? (i := 49) (by decide +kernel))
theorem ac_long : Cond.arrayClass .long ∈ lw_tbl := inT1 (List.mem_of_getElem? (i := 135) (by decide +kernel))
theorem ac_int : Cond.arrayClass .int ∈ lw_tbl := inT1 (List.mem_of_getElem? (i := 136) (by decide +kernel))
theorem ac_boolean : Cond.arrayClass .boolean ∈ lw_tbl := inT5 (List.mem_of_getElem? (i := 163) (by decide +kernel))
theorem kX10_90 : Cond.constantLong RX10 90 (32) ∈ lw_tbl := inT1 (List.mem_of_getElem? (i := 114) (by decide +kernel))
theorem kX10_92 : Cond.constantLong RX10 92 (97) ∈ lw_tbl := inT1 (List.mem_of_getElem? (i := 115) (by decide +kernel))
theorem kX10_82 : Cond.constantLong RX10 82 (10) ∈ lw_tbl := inT2 (List.mem_of_getElem? (i := 154) (by decide +kernel))
theorem kX10_84 : Cond.constantLong RX10 84 (48) ∈ lw_tbl := inT2 (List.mem_of_getElem? (i := 155) (by decide +kernel))
theorem kX1_140 : Cond.constant RX1 140 (60000) ∈ lw_tbl := inT3 (List.mem_of_getElem? (i := 16) (by decide +kernel))
theorem kX4_83 : Cond.constantLong RX4 83 (2) ∈ lw_tbl := inT4 (List.mem_of_getElem? (i := 7) (by decide +kernel))
theorem kX4_85 : Cond.constantLong RX4 85 (100) ∈ lw_tbl := inT4 (List.mem_of_getElem? (i := 8) (by decide +kernel))
theorem kX4_94 : Cond.constantLong RX4 94 (2000000000) ∈ lw_tbl := inT4 (List.mem_of_getElem? (i := 22) (by decide +kernel))
theorem kX4_96 : Cond.constantLong RX4 96 (10) ∈ lw_tbl := inT4 (List.mem_of_getElem? (i := 23) (by decide +kernel))
theorem kJ6_265 : Cond.constant RJ6 265 (1431655765) ∈ lw_tbl := inT4 (List.mem_of_getElem? (i := 156) (by decide +kernel))
theorem kJ6_266 : Cond.constant RJ6 266 (858993459) ∈ lw_tbl := inT4 (List.mem_of_getElem? (i := 157) (by decide +kernel))
theorem kJ6_267 : Cond.constant RJ6 267 (252645135) ∈ lw_tbl := inT4 (List.mem_of_getElem? (i := 158) (by decide +kernel))
theorem kX11_228 : Cond.constant RX11 228 (60000) ∈ lw_tbl := inT4 (List.mem_of_getElem? (i := 175) (by decide +kernel))
theorem kX11_260 : Cond.constantLong RX11 260 (100) ∈ lw_tbl := inT4 (List.mem_of_getElem? (i := 184) (by decide +kernel))
theorem kX11_266 : Cond.constant RX11 266 (1000000) ∈ lw_tbl := inT4 (List.mem_of_getElem? (i := 192) (by decide +kernel))
theorem kX11_247 : Cond.constantLong RX11 247 (1000000000000000) ∈ lw_tbl := inT4 (List.mem_of_getElem? (i := 193) (by decide +kernel))
theorem kX12_105 : Cond.constantLong RX12 105 (27) ∈ lw_tbl := inT5 (List.mem_of_getElem? (i := 212) (by decide +kernel))
theorem kX12_107 : Cond.constantLong RX12 107 (96) ∈ lw_tbl := inT5 (List.mem_of_getElem? (i := 213) (by decide +kernel))
theorem kX12_117 : Cond.constantLong RX12 117 (19) ∈ lw_tbl := inT6 (List.mem_of_getElem? (i := 24) (by decide +kernel))
theorem kX12_173 : Cond.constant RX12 173 (60000) ∈ lw_tbl := inT6 (List.mem_of_getElem? (i := 45) (by decide +kernel))
theorem kX12_230 : Cond.constantLong RX12 230 (2) ∈ lw_tbl := inT6 (List.mem_of_getElem? (i := 118) (by decide +kernel))
theorem kX12_232 : Cond.constantLong RX12 232 (100) ∈ lw_tbl := inT6 (List.mem_of_getElem? (i := 119) (by decide +kernel))
theorem kX12_234 : Cond.constantLong RX12 234 (10) ∈ lw_tbl := inT6 (List.mem_of_getElem? (i := 129) (by decide +kernel))
theorem kX12_236 : Cond.constantLong RX12 236 (2000000000) ∈ lw_tbl := inT6 (List.mem_of_getElem? (i := 130) (by decide +kernel))
theorem kX12_238 : Cond.constant RX12 238 (2000000000) ∈ lw_tbl := inT6 (List.mem_of_getElem? (i := 131) (by decide +kernel))
theorem kX12_302 : Cond.constantLong RX12 302 (1000000000000000) ∈ lw_tbl := inT6 (List.mem_of_getElem? (i := 212) (by decide +kernel))
theorem kX12_308 : Cond.constant RX12 308 (1000000) ∈ lw_tbl := inT6 (List.mem_of_getElem? (i := 224) (by decide +kernel))
