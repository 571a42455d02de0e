theorem zu_X0 : ∀ w ∈ u_ws RX0 TX0 3, w ∈ zw := by
  intro w hw
  obtain ⟨k, hk, rfl⟩ := List.mem_map.mp hw
  have hk := List.mem_range.mp hk
  match k, hk with
  | 0, _ => exact zw_in 66 (by decide +kernel) (by decide +kernel)
  | 1, _ => exact zw_in 68 (by decide +kernel) (by decide +kernel)
  | 2, _ => exact zw_in 70 (by decide +kernel) (by decide +kernel)
  | k + 3, hk => exact absurd hk (by omega)
theorem zu_X1 : ∀ w ∈ u_ws RX1 TX1 3, w ∈ zw := by
  intro w hw
  obtain ⟨k, hk, rfl⟩ := List.mem_map.mp hw
  have hk := List.mem_range.mp hk
  match k, hk with
  | 0, _ => exact zw_in 170 (by decide +kernel) (by decide +kernel)
  | 1, _ => exact zw_in 172 (by decide +kernel) (by decide +kernel)
  | 2, _ => exact zw_in 168 (by decide +kernel) (by decide +kernel)
  | k + 3, hk => exact absurd hk (by omega)
theorem zu_X2 : ∀ w ∈ u_ws RX2 TX2 2, w ∈ zw := by
  intro w hw
  obtain ⟨k, hk, rfl⟩ := List.mem_map.mp hw
  have hk := List.mem_range.mp hk
  match k, hk with
  | 0, _ => exact zw_in 228 (by decide +kernel) (by decide +kernel)
  | 1, _ => exact zw_in 230 (by decide +kernel) (by decide +kernel)
  | k + 2, hk => exact absurd hk (by omega)
theorem zu_X4 : ∀ w ∈ u_ws RX4 TX4 6, w ∈ zw := by
  intro w hw
  obtain ⟨k, hk, rfl⟩ := List.mem_map.mp hw
  have hk := List.mem_range.mp hk
  match k, hk with
  | 0, _ => exact zw_in 92 (by decide +kernel) (by decide +kernel)
  | 1, _ => exact zw_in 94 (by decide +kernel) (by decide +kernel)
  | 2, _ => exact zw_in 96 (by decide +kernel) (by decide +kernel)
  | 3, _ => exact zw_in 98 (by decide +kernel) (by decide +kernel)
  | 4, _ => exact zw_in 100 (by decide +kernel) (by decide +kernel)
  | 5, _ => exact zw_in 102 (by decide +kernel) (by decide +kernel)
  | k + 6, hk => exact absurd hk (by omega)
theorem zu_X6 : ∀ w ∈ u_ws RX6 TX6 3, w ∈ zw := by
  intro w hw
  obtain ⟨k, hk, rfl⟩ := List.mem_map.mp hw
  have hk := List.mem_range.mp hk
  match k, hk with
  | 0, _ => exact zw_in 187 (by decide +kernel) (by decide +kernel)
  | 1, _ => exact zw_in 188 (by decide +kernel) (by decide +kernel)
  | 2, _ => exact zw_in 185 (by decide +kernel) (by decide +kernel)
  | k + 3, hk => exact absurd hk (by omega)
theorem zu_X7 : ∀ w ∈ u_ws RX7 TX7 8, w ∈ zw := by
  intro w hw
  obtain ⟨k, hk, rfl⟩ := List.mem_map.mp hw
  have hk := List.mem_range.mp hk
  match k, hk with
  | 0, _ => exact zw_in 113 (by decide +kernel) (by decide +kernel)
  | 1, _ => exact zw_in 115 (by decide +kernel) (by decide +kernel)
  | 2, _ => exact zw_in 117 (by decide +kernel) (by decide +kernel)
  | 3, _ => exact zw_in 119 (by decide +kernel) (by decide +kernel)
  | 4, _ => exact zw_in 121 (by decide +kernel) (by decide +kernel)
  | 5, _ => exact zw_in 123 (by decide +kernel) (by decide +kernel)
  | 6, _ => exact zw_in 125 (by decide +kernel) (by decide +kernel)
  | 7, _ => exact zw_in 127 (by decide +kernel) (by decide +kernel)
  | k + 8, hk => exact absurd hk (by omega)
theorem zu_X8 : ∀ w ∈ u_ws RX8 TX8 20, w ∈ zw := by
  intro w hw
  obtain ⟨k, hk, rfl⟩ := List.mem_map.mp hw
  have hk := List.mem_range.mp hk
  match k, hk with
  | 0, _ => exact zw_in 434 (by decide +kernel) (by decide +kernel)
  | 1, _ => exact zw_in 436 (by decide +kernel) (by decide +kernel)
  | 2, _ => exact zw_in 438 (by decide +kernel) (by decide +kernel)
  | 3, _ => exact zw_in 440 (by decide +kernel) (by decide +kernel)
  | 4, _ => exact zw_in 442 (by decide +kernel) (by decide +kernel)
  | 5, _ => exact zw_in 444 (by decide +kernel) (by decide +kernel)
  | 6, _ => exact zw_in 446 (by decide +kernel) (by decide +kernel)
  | 7, _ => exact zw_in 448 (by decide +kernel) (by decide +kernel)
  | 8, _ => exact zw_in 450 (by decide +kernel) (by decide +kernel)
  | 9, _ => exact zw_in 452 (by decide +kernel) (by decide +kernel)
  | 10, _ => exact zw_in 454 (by decide +kernel) (by decide +kernel)
  | 11, _ => exact zw_in 456 (by decide +kernel) (by decide +kernel)
  | 12, _ => exact zw_in 458 (by decide +kernel) (by decide +kernel)
  | 13, _ => exact zw_in 460 (by decide +kernel) (by decide +kernel)
  | 14, _ => exact zw_in 462 (by decide +kernel) (by decide +kernel)
  | 15, _ => exact zw_in 464 (by decide +kernel) (by decide +kernel)
  | 16, _ => exact zw_in 466 (by decide +kernel) (by decide +kernel)
  | 17, _ => exact zw_in 468 (by decide +kernel) (by decide +kernel)
  | 18, _ => exact zw_in 470 (by decide +kernel) (by decide +kernel)
  | 19, _ => exact zw_in 472 (by decide +kernel) (by decide +kernel)
  | k + 20, hk => exact absurd hk (by omega)
theorem zf_X0_9_0 : zf RX0 9 0 0 := ⟨_, _, _, "ProbeRacks$Held", rfl, by decide, zu_X0, Or.inl (zw_in 60 (by decide +kernel) (by decide +kernel)), Or.inl rfl⟩
theorem zfw_X0_9_0 : zfw RX0 9 0 0 .int false := ⟨_, _, _, "ProbeRacks$Held", tyX0, rfl, by decide, zu_X0, Or.inl (zw_in 60 (by decide +kernel) (by decide +kernel)), Or.inl rfl, tyX0_ok, nmX0, rfl, rfl, fun h => by cases h⟩
theorem zf_X7_76_0 : zf RX7 76 0 0 := ⟨_, _, _, "ProbeRacks$Held", rfl, by decide, zu_X0, Or.inr (by decide +kernel), Or.inl rfl⟩
theorem zfw_X7_76_0 : zfw RX7 76 0 0 .int false := ⟨_, _, _, "ProbeRacks$Held", tyX0, rfl, by decide, zu_X0, Or.inr ⟨rfl, by decide +kernel⟩, Or.inl rfl, tyX0_ok, nmX0, rfl, rfl, fun h => by cases h⟩
theorem zf_X0_19_0 : zf RX0 19 0 1 := ⟨_, _, _, "ProbeRacks$Held", rfl, by decide, zu_X0, Or.inl (zw_in 62 (by decide +kernel) (by decide +kernel)), Or.inl rfl⟩
theorem zfw_X0_19_0 : zfw RX0 19 0 1 .long false := ⟨_, _, _, "ProbeRacks$Held", tyX0, rfl, by decide, zu_X0, Or.inl (zw_in 62 (by decide +kernel) (by decide +kernel)), Or.inl rfl, tyX0_ok, nmX0, rfl, rfl, fun h => by cases h⟩
theorem zf_X7_90_0 : zf RX7 90 0 1 := ⟨_, _, _, "ProbeRacks$Held", rfl, by decide, zu_X0, Or.inr (by decide +kernel), Or.inl rfl⟩
theorem zfw_X7_90_0 : zfw RX7 90 0 1 .long false := ⟨_, _, _, "ProbeRacks$Held", tyX0, rfl, by decide, zu_X0, Or.inr ⟨rfl, by decide +kernel⟩, Or.inl rfl, tyX0_ok, nmX0, rfl, rfl, fun h => by cases h⟩
theorem zf_X0_23_0 : zf RX0 23 0 2 := ⟨_, _, _, "ProbeRacks$Held", rfl, by decide, zu_X0, Or.inl (zw_in 64 (by decide +kernel) (by decide +kernel)), Or.inl rfl⟩
theorem zfw_X0_23_0 : zfw RX0 23 0 2 (.object "ProbeRacks$Thing") false := ⟨_, _, _, "ProbeRacks$Held", tyX0, rfl, by decide, zu_X0, Or.inl (zw_in 64 (by decide +kernel) (by decide +kernel)), Or.inl rfl, tyX0_ok, nmX0, rfl, rfl, fun h => by cases h⟩
theorem zf_X7_51_0 : zf RX7 51 0 2 := ⟨_, _, _, "ProbeRacks$Held", rfl, by decide, zu_X0, Or.inr (by decide +kernel), Or.inl rfl⟩
theorem zfw_X7_51_0 : zfw RX7 51 0 2 (.object "ProbeRacks$Thing") false := ⟨_, _, _, "ProbeRacks$Held", tyX0, rfl, by decide, zu_X0, Or.inr ⟨rfl, by decide +kernel⟩, Or.inl rfl, tyX0_ok, nmX0, rfl, rfl, fun h => by cases h⟩
theorem zf_X4_9_3 : zf RX4 9 3 0 := ⟨_, _, _, "ProbeRacks$Step", rfl, by decide, zu_X4, Or.inl (zw_in 80 (by decide +kernel) (by decide +kernel)), Or.inl rfl⟩
theorem zfw_X4_9_3 : zfw RX4 9 3 0 .int false := ⟨_, _, _, "ProbeRacks$Step", tyX4, rfl, by decide, zu_X4, Or.inl (zw_in 80 (by decide +kernel) (by decide +kernel)), Or.inl rfl, tyX4_ok, nmX4, rfl, rfl, fun h => by cases h⟩
theorem zf_X7_197_3 : zf RX7 197 3 0 := ⟨_, _, _, "ProbeRacks$Step", rfl, by decide, zu_X4, Or.inr (by decide +kernel), Or.inl rfl⟩
theorem zfw_X7_197_3 : zfw RX7 197 3 0 .int false := ⟨_, _, _, "ProbeRacks$Step", tyX4, rfl, by decide, zu_X4, Or.inr ⟨rfl, by decide +kernel⟩, Or.inl rfl, tyX4_ok, nmX4, rfl, rfl, fun h => by cases h⟩
theorem zf_X4_15_3 : zf RX4 15 3 1 := ⟨_, _, _, "ProbeRacks$Step", rfl, by decide, zu_X4, Or.inl (zw_in 82 (by decide +kernel) (by decide +kernel)), Or.inl rfl⟩
theorem zfw_X4_15_3 : zfw RX4 15 3 1 .int false := ⟨_, _, _, "ProbeRacks$Step", tyX4, rfl, by decide, zu_X4, Or.inl (zw_in 82 (by decide +kernel) (by decide +kernel)), Or.inl rfl, tyX4_ok, nmX4, rfl, rfl, fun h => by cases h⟩
theorem zf_X7_194_3 : zf RX7 194 3 1 := ⟨_, _, _, "ProbeRacks$Step", rfl, by decide, zu_X4, Or.inr (by decide +kernel), Or.inl rfl⟩
theorem zfw_X7_194_3 : zfw RX7 194 3 1 .int false := ⟨_, _, _, "ProbeRacks$Step", tyX4, rfl, by decide, zu_X4, Or.inr ⟨rfl, by decide +kernel⟩, Or.inl rfl, tyX4_ok, nmX4, rfl, rfl, fun h => by cases h⟩
theorem zf_X4_18_3 : zf RX4 18 3 2 := ⟨_, _, _, "ProbeRacks$Step", rfl, by decide, zu_X4, Or.inl (zw_in 84 (by decide +kernel) (by decide +kernel)), Or.inl rfl⟩
theorem zfw_X4_18_3 : zfw RX4 18 3 2 .int false := ⟨_, _, _, "ProbeRacks$Step", tyX4, rfl, by decide, zu_X4, Or.inl (zw_in 84 (by decide +kernel) (by decide +kernel)), Or.inl rfl, tyX4_ok, nmX4, rfl, rfl, fun h => by cases h⟩
theorem zf_X7_200_3 : zf RX7 200 3 2 := ⟨_, _, _, "ProbeRacks$Step", rfl, by decide, zu_X4, Or.inr (by decide +kernel), Or.inl rfl⟩
theorem zfw_X7_200_3 : zfw RX7 200 3 2 .int false := ⟨_, _, _, "ProbeRacks$Step", tyX4, rfl, by decide, zu_X4, Or.inr ⟨rfl, by decide +kernel⟩, Or.inl rfl, tyX4_ok, nmX4, rfl, rfl, fun h => by cases h⟩
theorem zf_X4_21_3 : zf RX4 21 3 3 := ⟨_, _, _, "ProbeRacks$Step", rfl, by decide, zu_X4, Or.inl (zw_in 86 (by decide +kernel) (by decide +kernel)), Or.inl rfl⟩
theorem zfw_X4_21_3 : zfw RX4 21 3 3 .int false := ⟨_, _, _, "ProbeRacks$Step", tyX4, rfl, by decide, zu_X4, Or.inl (zw_in 86 (by decide +kernel) (by decide +kernel)), Or.inl rfl, tyX4_ok, nmX4, rfl, rfl, fun h => by cases h⟩
theorem zf_X7_206_3 : zf RX7 206 3 3 := ⟨_, _, _, "ProbeRacks$Step", rfl, by decide, zu_X4, Or.inr (by decide +kernel), Or.inl rfl⟩
theorem zfw_X7_206_3 : zfw RX7 206 3 3 .int false := ⟨_, _, _, "ProbeRacks$Step", tyX4, rfl, by decide, zu_X4, Or.inr ⟨rfl, by decide +kernel⟩, Or.inl rfl, tyX4_ok, nmX4, rfl, rfl, fun h => by cases h⟩
theorem zf_X4_24_3 : zf RX4 24 3 4 := ⟨_, _, _, "ProbeRacks$Step", rfl, by decide, zu_X4, Or.inl (zw_in 88 (by decide +kernel) (by decide +kernel)), Or.inl rfl⟩
theorem zfw_X4_24_3 : zfw RX4 24 3 4 .int false := ⟨_, _, _, "ProbeRacks$Step", tyX4, rfl, by decide, zu_X4, Or.inl (zw_in 88 (by decide +kernel) (by decide +kernel)), Or.inl rfl, tyX4_ok, nmX4, rfl, rfl, fun h => by cases h⟩
theorem zf_X7_203_3 : zf RX7 203 3 4 := ⟨_, _, _, "ProbeRacks$Step", rfl, by decide, zu_X4, Or.inr (by decide +kernel), Or.inl rfl⟩
theorem zfw_X7_203_3 : zfw RX7 203 3 4 .int false := ⟨_, _, _, "ProbeRacks$Step", tyX4, rfl, by decide, zu_X4, Or.inr ⟨rfl, by decide +kernel⟩, Or.inl rfl, tyX4_ok, nmX4, rfl, rfl, fun h => by cases h⟩
theorem zf_X4_27_3 : zf RX4 27 3 5 := ⟨_, _, _, "ProbeRacks$Step", rfl, by decide, zu_X4, Or.inl (zw_in 90 (by decide +kernel) (by decide +kernel)), Or.inl rfl⟩
theorem zfw_X4_27_3 : zfw RX4 27 3 5 .int false := ⟨_, _, _, "ProbeRacks$Step", tyX4, rfl, by decide, zu_X4, Or.inl (zw_in 90 (by decide +kernel) (by decide +kernel)), Or.inl rfl, tyX4_ok, nmX4, rfl, rfl, fun h => by cases h⟩
theorem zf_X7_145_3 : zf RX7 145 3 5 := ⟨_, _, _, "ProbeRacks$Step", rfl, by decide, zu_X4, Or.inr (by decide +kernel), Or.inl rfl⟩
theorem zfw_X7_145_3 : zfw RX7 145 3 5 .int false := ⟨_, _, _, "ProbeRacks$Step", tyX4, rfl, by decide, zu_X4, Or.inr ⟨rfl, by decide +kernel⟩, Or.inl rfl, tyX4_ok, nmX4, rfl, rfl, fun h => by cases h⟩
theorem zf_X7_11_5 : zf RX7 11 5 0 := ⟨_, _, _, "ProbeRacks", rfl, by decide, zu_X7, Or.inl (zw_in 105 (by decide +kernel) (by decide +kernel)), Or.inl rfl⟩
theorem zfw_X7_11_5 : zfw RX7 11 5 0 (.array (.object "ProbeRacks$Thing")) true := ⟨_, _, _, "ProbeRacks", tyX7, rfl, by decide, zu_X7, Or.inl (zw_in 105 (by decide +kernel) (by decide +kernel)), Or.inl rfl, tyX7_ok, nmX7, rfl, rfl, fun _ => rfl⟩
theorem zf_X7_18_5 : zf RX7 18 5 1 := ⟨_, _, _, "ProbeRacks", rfl, by decide, zu_X7, Or.inl (zw_in 106 (by decide +kernel) (by decide +kernel)), Or.inl rfl⟩
theorem zfw_X7_18_5 : zfw RX7 18 5 1 (.object "ProbeRacks$Held") true := ⟨_, _, _, "ProbeRacks", tyX7, rfl, by decide, zu_X7, Or.inl (zw_in 106 (by decide +kernel) (by decide +kernel)), Or.inl rfl, tyX7_ok, nmX7, rfl, rfl, fun _ => rfl⟩
theorem zf_X7_22_5 : zf RX7 22 5 2 := ⟨_, _, _, "ProbeRacks", rfl, by decide, zu_X7, Or.inl (zw_in 107 (by decide +kernel) (by decide +kernel)), Or.inl rfl⟩
theorem zfw_X7_22_5 : zfw RX7 22 5 2 (.object "ProbeRacks$Held") true := ⟨_, _, _, "ProbeRacks", tyX7, rfl, by decide, zu_X7, Or.inl (zw_in 107 (by decide +kernel) (by decide +kernel)), Or.inl rfl, tyX7_ok, nmX7, rfl, rfl, fun _ => rfl⟩
theorem zf_X7_27_5 : zf RX7 27 5 3 := ⟨_, _, _, "ProbeRacks", rfl, by decide, zu_X7, Or.inl (zw_in 108 (by decide +kernel) (by decide +kernel)), Or.inl rfl⟩
theorem zfw_X7_27_5 : zfw RX7 27 5 3 (.array (.object "ProbeRacks$Step")) true := ⟨_, _, _, "ProbeRacks", tyX7, rfl, by decide, zu_X7, Or.inl (zw_in 108 (by decide +kernel) (by decide +kernel)), Or.inl rfl, tyX7_ok, nmX7, rfl, rfl, fun _ => rfl⟩
theorem zf_X7_32_5 : zf RX7 32 5 4 := ⟨_, _, _, "ProbeRacks", rfl, by decide, zu_X7, Or.inl (zw_in 109 (by decide +kernel) (by decide +kernel)), Or.inl rfl⟩
theorem zfw_X7_32_5 : zfw RX7 32 5 4 (.array .int) true := ⟨_, _, _, "ProbeRacks", tyX7, rfl, by decide, zu_X7, Or.inl (zw_in 109 (by decide +kernel) (by decide +kernel)), Or.inl rfl, tyX7_ok, nmX7, rfl, rfl, fun _ => rfl⟩
theorem zf_X7_131_5 : zf RX7 131 5 5 := ⟨_, _, _, "ProbeRacks", rfl, by decide, zu_X7, Or.inl (zw_in 110 (by decide +kernel) (by decide +kernel)), Or.inl rfl⟩
theorem zfw_X7_131_5 : zfw RX7 131 5 5 .int false := ⟨_, _, _, "ProbeRacks", tyX7, rfl, by decide, zu_X7, Or.inl (zw_in 110 (by decide +kernel) (by decide +kernel)), Or.inl rfl, tyX7_ok, nmX7, rfl, rfl, fun h => by cases h⟩
theorem zf_X7_59_5 : zf RX7 59 5 6 := ⟨_, _, _, "ProbeRacks", rfl, by decide, zu_X7, Or.inl (zw_in 111 (by decide +kernel) (by decide +kernel)), Or.inl rfl⟩
theorem zfw_X7_59_5 : zfw RX7 59 5 6 .int false := ⟨_, _, _, "ProbeRacks", tyX7, rfl, by decide, zu_X7, Or.inl (zw_in 111 (by decide +kernel) (by decide +kernel)), Or.inl rfl, tyX7_ok, nmX7, rfl, rfl, fun h => by cases h⟩
theorem zf_X7_148_5 : zf RX7 148 5 7 := ⟨_, _, _, "ProbeRacks", rfl, by decide, zu_X7, Or.inl (zw_in 112 (by decide +kernel) (by decide +kernel)), Or.inl rfl⟩
theorem zfw_X7_148_5 : zfw RX7 148 5 7 .int false := ⟨_, _, _, "ProbeRacks", tyX7, rfl, by decide, zu_X7, Or.inl (zw_in 112 (by decide +kernel) (by decide +kernel)), Or.inl rfl, tyX7_ok, nmX7, rfl, rfl, fun h => by cases h⟩
theorem zf_X1_7_1 : zf RX1 7 1 2 := ⟨_, _, _, "ProbeRacks$NumberRow", rfl, by decide, zu_X1, Or.inl (zw_in 153 (by decide +kernel) (by decide +kernel)), Or.inl rfl⟩
theorem zfw_X1_7_1 : zfw RX1 7 1 2 (.array .long) true := ⟨_, _, _, "ProbeRacks$NumberRow", tyX1, rfl, by decide, zu_X1, Or.inl (zw_in 153 (by decide +kernel) (by decide +kernel)), Or.inl rfl, tyX1_ok, nmX1, rfl, rfl, fun _ => rfl⟩
theorem zf_X7_165_1 : zf RX7 165 1 2 := ⟨_, _, _, "ProbeRacks$NumberRow", rfl, by decide, zu_X1, Or.inr (by decide +kernel), Or.inl rfl⟩
theorem zf_X3_7_1 : zf RX3 7 1 0 := ⟨_, _, _, "ProbeRacks$Row", rfl, by decide, zu_X1, Or.inl (zw_in 155 (by decide +kernel) (by decide +kernel)), Or.inl rfl⟩
theorem zfw_X3_7_1 : zfw RX3 7 1 0 .int true := ⟨_, _, _, "ProbeRacks$Row", tyX1, rfl, by decide, zu_X1, Or.inl (zw_in 155 (by decide +kernel) (by decide +kernel)), Or.inl rfl, tyX1_ok, nmX1, rfl, rfl, fun _ => rfl⟩
theorem zf_X3_7_4 : zf RX3 7 4 0 := ⟨_, _, _, "ProbeRacks$Row", rfl, by decide, zu_X6, Or.inl (zw_in 155 (by decide +kernel) (by decide +kernel)), Or.inl rfl⟩
theorem zfw_X3_7_4 : zfw RX3 7 4 0 .int true := ⟨_, _, _, "ProbeRacks$Row", tyX6, rfl, by decide, zu_X6, Or.inl (zw_in 155 (by decide +kernel) (by decide +kernel)), Or.inl rfl, tyX6_ok, nmX6, rfl, rfl, fun _ => rfl⟩
theorem zf_X7_153_1 : zf RX7 153 1 0 := ⟨_, _, _, "ProbeRacks$Row", rfl, by decide, zu_X1, Or.inl (zw_in 156 (by decide +kernel) (by decide +kernel)), Or.inl rfl⟩
theorem zf_X7_153_4 : zf RX7 153 4 0 := ⟨_, _, _, "ProbeRacks$Row", rfl, by decide, zu_X6, Or.inl (zw_in 156 (by decide +kernel) (by decide +kernel)), Or.inl rfl⟩
theorem zf_X7_164_1 : zf RX7 164 1 0 := ⟨_, _, _, "ProbeRacks$NumberRow", rfl, by decide, zu_X1, Or.inl (zw_in 157 (by decide +kernel) (by decide +kernel)), Or.inr (zw_in 158 (by decide +kernel) (by decide +kernel))⟩
theorem zf_X7_181_4 : zf RX7 181 4 0 := ⟨_, _, _, "ProbeRacks$ThingRow", rfl, by decide, zu_X6, Or.inl (zw_in 159 (by decide +kernel) (by decide +kernel)), Or.inr (zw_in 160 (by decide +kernel) (by decide +kernel))⟩
theorem zf_X3_13_1 : zf RX3 13 1 1 := ⟨_, _, _, "ProbeRacks$Row", rfl, by decide, zu_X1, Or.inl (zw_in 161 (by decide +kernel) (by decide +kernel)), Or.inl rfl⟩
theorem zfw_X3_13_1 : zfw RX3 13 1 1 .int true := ⟨_, _, _, "ProbeRacks$Row", tyX1, rfl, by decide, zu_X1, Or.inl (zw_in 161 (by decide +kernel) (by decide +kernel)), Or.inl rfl, tyX1_ok, nmX1, rfl, rfl, fun _ => rfl⟩
theorem zf_X3_13_4 : zf RX3 13 4 1 := ⟨_, _, _, "ProbeRacks$Row", rfl, by decide, zu_X6, Or.inl (zw_in 161 (by decide +kernel) (by decide +kernel)), Or.inl rfl⟩
theorem zfw_X3_13_4 : zfw RX3 13 4 1 .int true := ⟨_, _, _, "ProbeRacks$Row", tyX6, rfl, by decide, zu_X6, Or.inl (zw_in 161 (by decide +kernel) (by decide +kernel)), Or.inl rfl, tyX6_ok, nmX6, rfl, rfl, fun _ => rfl⟩
theorem zf_X0_38_1 : zf RX0 38 1 1 := ⟨_, _, _, "ProbeRacks$Row", rfl, by decide, zu_X1, Or.inl (zw_in 162 (by decide +kernel) (by decide +kernel)), Or.inl rfl⟩
theorem zf_X0_38_4 : zf RX0 38 4 1 := ⟨_, _, _, "ProbeRacks$Row", rfl, by decide, zu_X6, Or.inl (zw_in 162 (by decide +kernel) (by decide +kernel)), Or.inl rfl⟩
theorem zf_X7_161_1 : zf RX7 161 1 1 := ⟨_, _, _, "ProbeRacks$Row", rfl, by decide, zu_X1, Or.inl (zw_in 163 (by decide +kernel) (by decide +kernel)), Or.inl rfl⟩
theorem zf_X7_161_4 : zf RX7 161 4 1 := ⟨_, _, _, "ProbeRacks$Row", rfl, by decide, zu_X6, Or.inl (zw_in 163 (by decide +kernel) (by decide +kernel)), Or.inl rfl⟩
theorem zf_X7_180_4 : zf RX7 180 4 1 := ⟨_, _, _, "ProbeRacks$ThingRow", rfl, by decide, zu_X6, Or.inl (zw_in 164 (by decide +kernel) (by decide +kernel)), Or.inr (zw_in 165 (by decide +kernel) (by decide +kernel))⟩
theorem zf_X7_186_1 : zf RX7 186 1 1 := ⟨_, _, _, "ProbeRacks$NumberRow", rfl, by decide, zu_X1, Or.inl (zw_in 166 (by decide +kernel) (by decide +kernel)), Or.inr (zw_in 167 (by decide +kernel) (by decide +kernel))⟩
theorem zf_X6_9_4 : zf RX6 9 4 2 := ⟨_, _, _, "ProbeRacks$ThingRow", rfl, by decide, zu_X6, Or.inl (zw_in 183 (by decide +kernel) (by decide +kernel)), Or.inl rfl⟩
theorem zfw_X6_9_4 : zfw RX6 9 4 2 (.array (.object "ProbeRacks$Thing")) true := ⟨_, _, _, "ProbeRacks$ThingRow", tyX6, rfl, by decide, zu_X6, Or.inl (zw_in 183 (by decide +kernel) (by decide +kernel)), Or.inl rfl, tyX6_ok, nmX6, rfl, rfl, fun _ => rfl⟩
theorem zf_X7_169_4 : zf RX7 169 4 2 := ⟨_, _, _, "ProbeRacks$ThingRow", rfl, by decide, zu_X6, Or.inr (by decide +kernel), Or.inl rfl⟩
theorem zf_X2_7_2 : zf RX2 7 2 0 := ⟨_, _, _, "ProbeRacks$Probe", rfl, by decide, zu_X2, Or.inl (zw_in 223 (by decide +kernel) (by decide +kernel)), Or.inl rfl⟩
theorem zfw_X2_7_2 : zfw RX2 7 2 0 .int true := ⟨_, _, _, "ProbeRacks$Probe", tyX2, rfl, by decide, zu_X2, Or.inl (zw_in 223 (by decide +kernel) (by decide +kernel)), Or.inl rfl, tyX2_ok, nmX2, rfl, rfl, fun _ => rfl⟩
theorem zf_X0_33_2 : zf RX0 33 2 0 := ⟨_, _, _, "ProbeRacks$Probe", rfl, by decide, zu_X2, Or.inr (by decide +kernel), Or.inl rfl⟩
theorem zf_X2_13_2 : zf RX2 13 2 1 := ⟨_, _, _, "ProbeRacks$Probe", rfl, by decide, zu_X2, Or.inl (zw_in 225 (by decide +kernel) (by decide +kernel)), Or.inl rfl⟩
theorem zfw_X2_13_2 : zfw RX2 13 2 1 .boolean true := ⟨_, _, _, "ProbeRacks$Probe", tyX2, rfl, by decide, zu_X2, Or.inl (zw_in 225 (by decide +kernel) (by decide +kernel)), Or.inl rfl, tyX2_ok, nmX2, rfl, rfl, fun _ => rfl⟩
theorem zf_X0_29_2 : zf RX0 29 2 1 := ⟨_, _, _, "ProbeRacks$Probe", rfl, by decide, zu_X2, Or.inr (by decide +kernel), Or.inl rfl⟩
theorem zf_X7_154_2 : zf RX7 154 2 1 := ⟨_, _, _, "ProbeRacks$Probe", rfl, by decide, zu_X2, Or.inr (by decide +kernel), Or.inl rfl⟩
theorem zg_goes : Cond.fieldLink RX7 158 "ProbeRacks" "GOES_INTO" "[I" ∈ zw := (zw_in 288 (by decide +kernel) (by decide +kernel))
theorem zf_X8_7_6 : zf RX8 7 6 0 := ⟨_, _, _, "ProbeRacksModel", rfl, by decide, zu_X8, Or.inl (zw_in 414 (by decide +kernel) (by decide +kernel)), Or.inl rfl⟩
theorem zfw_X8_7_6 : zfw RX8 7 6 0 (.array .int) true := ⟨_, _, _, "ProbeRacksModel", tyX8, rfl, by decide, zu_X8, Or.inl (zw_in 414 (by decide +kernel) (by decide +kernel)), Or.inl rfl, tyX8_ok, nmX8, rfl, rfl, fun _ => rfl⟩
theorem zf_X8_13_6 : zf RX8 13 6 1 := ⟨_, _, _, "ProbeRacksModel", rfl, by decide, zu_X8, Or.inl (zw_in 415 (by decide +kernel) (by decide +kernel)), Or.inl rfl⟩
theorem zfw_X8_13_6 : zfw RX8 13 6 1 (.array .int) true := ⟨_, _, _, "ProbeRacksModel", tyX8, rfl, by decide, zu_X8, Or.inl (zw_in 415 (by decide +kernel) (by decide +kernel)), Or.inl rfl, tyX8_ok, nmX8, rfl, rfl, fun _ => rfl⟩
theorem zf_X8_69_6 : zf RX8 69 6 2 := ⟨_, _, _, "ProbeRacksModel", rfl, by decide, zu_X8, Or.inl (zw_in 416 (by decide +kernel) (by decide +kernel)), Or.inl rfl⟩
theorem zfw_X8_69_6 : zfw RX8 69 6 2 .int false := ⟨_, _, _, "ProbeRacksModel", tyX8, rfl, by decide, zu_X8, Or.inl (zw_in 416 (by decide +kernel) (by decide +kernel)), Or.inl rfl, tyX8_ok, nmX8, rfl, rfl, fun h => by cases h⟩
theorem zf_X8_75_6 : zf RX8 75 6 3 := ⟨_, _, _, "ProbeRacksModel", rfl, by decide, zu_X8, Or.inl (zw_in 417 (by decide +kernel) (by decide +kernel)), Or.inl rfl⟩
theorem zfw_X8_75_6 : zfw RX8 75 6 3 .int false := ⟨_, _, _, "ProbeRacksModel", tyX8, rfl, by decide, zu_X8, Or.inl (zw_in 417 (by decide +kernel) (by decide +kernel)), Or.inl rfl, tyX8_ok, nmX8, rfl, rfl, fun h => by cases h⟩
theorem zf_X8_78_6 : zf RX8 78 6 4 := ⟨_, _, _, "ProbeRacksModel", rfl, by decide, zu_X8, Or.inl (zw_in 418 (by decide +kernel) (by decide +kernel)), Or.inl rfl⟩
theorem zfw_X8_78_6 : zfw RX8 78 6 4 .long false := ⟨_, _, _, "ProbeRacksModel", tyX8, rfl, by decide, zu_X8, Or.inl (zw_in 418 (by decide +kernel) (by decide +kernel)), Or.inl rfl, tyX8_ok, nmX8, rfl, rfl, fun h => by cases h⟩
theorem zf_X8_72_6 : zf RX8 72 6 5 := ⟨_, _, _, "ProbeRacksModel", rfl, by decide, zu_X8, Or.inl (zw_in 419 (by decide +kernel) (by decide +kernel)), Or.inl rfl⟩
theorem zfw_X8_72_6 : zfw RX8 72 6 5 .int false := ⟨_, _, _, "ProbeRacksModel", tyX8, rfl, by decide, zu_X8, Or.inl (zw_in 419 (by decide +kernel) (by decide +kernel)), Or.inl rfl, tyX8_ok, nmX8, rfl, rfl, fun h => by cases h⟩
theorem zf_X8_92_6 : zf RX8 92 6 6 := ⟨_, _, _, "ProbeRacksModel", rfl, by decide, zu_X8, Or.inl (zw_in 420 (by decide +kernel) (by decide +kernel)), Or.inl rfl⟩
theorem zfw_X8_92_6 : zfw RX8 92 6 6 .int false := ⟨_, _, _, "ProbeRacksModel", tyX8, rfl, by decide, zu_X8, Or.inl (zw_in 420 (by decide +kernel) (by decide +kernel)), Or.inl rfl, tyX8_ok, nmX8, rfl, rfl, fun h => by cases h⟩
theorem zf_X8_16_6 : zf RX8 16 6 7 := ⟨_, _, _, "ProbeRacksModel", rfl, by decide, zu_X8, Or.inl (zw_in 421 (by decide +kernel) (by decide +kernel)), Or.inl rfl⟩
theorem zfw_X8_16_6 : zfw RX8 16 6 7 (.array .boolean) true := ⟨_, _, _, "ProbeRacksModel", tyX8, rfl, by decide, zu_X8, Or.inl (zw_in 421 (by decide +kernel) (by decide +kernel)), Or.inl rfl, tyX8_ok, nmX8, rfl, rfl, fun _ => rfl⟩
theorem zf_X8_54_6 : zf RX8 54 6 8 := ⟨_, _, _, "ProbeRacksModel", rfl, by decide, zu_X8, Or.inl (zw_in 422 (by decide +kernel) (by decide +kernel)), Or.inl rfl⟩
theorem zfw_X8_54_6 : zfw RX8 54 6 8 .int false := ⟨_, _, _, "ProbeRacksModel", tyX8, rfl, by decide, zu_X8, Or.inl (zw_in 422 (by decide +kernel) (by decide +kernel)), Or.inl rfl, tyX8_ok, nmX8, rfl, rfl, fun h => by cases h⟩
theorem zf_X8_20_6 : zf RX8 20 6 9 := ⟨_, _, _, "ProbeRacksModel", rfl, by decide, zu_X8, Or.inl (zw_in 423 (by decide +kernel) (by decide +kernel)), Or.inl rfl⟩
theorem zfw_X8_20_6 : zfw RX8 20 6 9 (.array .int) true := ⟨_, _, _, "ProbeRacksModel", tyX8, rfl, by decide, zu_X8, Or.inl (zw_in 423 (by decide +kernel) (by decide +kernel)), Or.inl rfl, tyX8_ok, nmX8, rfl, rfl, fun _ => rfl⟩
theorem zf_X8_23_6 : zf RX8 23 6 10 := ⟨_, _, _, "ProbeRacksModel", rfl, by decide, zu_X8, Or.inl (zw_in 424 (by decide +kernel) (by decide +kernel)), Or.inl rfl⟩
theorem zfw_X8_23_6 : zfw RX8 23 6 10 (.array .int) true := ⟨_, _, _, "ProbeRacksModel", tyX8, rfl, by decide, zu_X8, Or.inl (zw_in 424 (by decide +kernel) (by decide +kernel)), Or.inl rfl, tyX8_ok, nmX8, rfl, rfl, fun _ => rfl⟩
theorem zf_X8_27_6 : zf RX8 27 6 11 := ⟨_, _, _, "ProbeRacksModel", rfl, by decide, zu_X8, Or.inl (zw_in 425 (by decide +kernel) (by decide +kernel)), Or.inl rfl⟩
theorem zfw_X8_27_6 : zfw RX8 27 6 11 (.array .long) true := ⟨_, _, _, "ProbeRacksModel", tyX8, rfl, by decide, zu_X8, Or.inl (zw_in 425 (by decide +kernel) (by decide +kernel)), Or.inl rfl, tyX8_ok, nmX8, rfl, rfl, fun _ => rfl⟩
theorem zf_X8_170_6 : zf RX8 170 6 12 := ⟨_, _, _, "ProbeRacksModel", rfl, by decide, zu_X8, Or.inl (zw_in 426 (by decide +kernel) (by decide +kernel)), Or.inl rfl⟩
theorem zfw_X8_170_6 : zfw RX8 170 6 12 .int false := ⟨_, _, _, "ProbeRacksModel", tyX8, rfl, by decide, zu_X8, Or.inl (zw_in 426 (by decide +kernel) (by decide +kernel)), Or.inl rfl, tyX8_ok, nmX8, rfl, rfl, fun h => by cases h⟩
theorem zf_X8_31_6 : zf RX8 31 6 13 := ⟨_, _, _, "ProbeRacksModel", rfl, by decide, zu_X8, Or.inl (zw_in 427 (by decide +kernel) (by decide +kernel)), Or.inl rfl⟩
theorem zfw_X8_31_6 : zfw RX8 31 6 13 (.array .int) true := ⟨_, _, _, "ProbeRacksModel", tyX8, rfl, by decide, zu_X8, Or.inl (zw_in 427 (by decide +kernel) (by decide +kernel)), Or.inl rfl, tyX8_ok, nmX8, rfl, rfl, fun _ => rfl⟩
theorem zf_X8_176_6 : zf RX8 176 6 14 := ⟨_, _, _, "ProbeRacksModel", rfl, by decide, zu_X8, Or.inl (zw_in 428 (by decide +kernel) (by decide +kernel)), Or.inl rfl⟩
theorem zfw_X8_176_6 : zfw RX8 176 6 14 .int false := ⟨_, _, _, "ProbeRacksModel", tyX8, rfl, by decide, zu_X8, Or.inl (zw_in 428 (by decide +kernel) (by decide +kernel)), Or.inl rfl, tyX8_ok, nmX8, rfl, rfl, fun h => by cases h⟩
theorem zf_X8_34_6 : zf RX8 34 6 15 := ⟨_, _, _, "ProbeRacksModel", rfl, by decide, zu_X8, Or.inl (zw_in 429 (by decide +kernel) (by decide +kernel)), Or.inl rfl⟩
theorem zfw_X8_34_6 : zfw RX8 34 6 15 (.array .int) true := ⟨_, _, _, "ProbeRacksModel", tyX8, rfl, by decide, zu_X8, Or.inl (zw_in 429 (by decide +kernel) (by decide +kernel)), Or.inl rfl, tyX8_ok, nmX8, rfl, rfl, fun _ => rfl⟩
theorem zf_X8_46_6 : zf RX8 46 6 16 := ⟨_, _, _, "ProbeRacksModel", rfl, by decide, zu_X8, Or.inl (zw_in 430 (by decide +kernel) (by decide +kernel)), Or.inl rfl⟩
theorem zfw_X8_46_6 : zfw RX8 46 6 16 .int false := ⟨_, _, _, "ProbeRacksModel", tyX8, rfl, by decide, zu_X8, Or.inl (zw_in 430 (by decide +kernel) (by decide +kernel)), Or.inl rfl, tyX8_ok, nmX8, rfl, rfl, fun h => by cases h⟩
theorem zf_X8_37_6 : zf RX8 37 6 17 := ⟨_, _, _, "ProbeRacksModel", rfl, by decide, zu_X8, Or.inl (zw_in 431 (by decide +kernel) (by decide +kernel)), Or.inl rfl⟩
theorem zfw_X8_37_6 : zfw RX8 37 6 17 (.array .int) true := ⟨_, _, _, "ProbeRacksModel", tyX8, rfl, by decide, zu_X8, Or.inl (zw_in 431 (by decide +kernel) (by decide +kernel)), Or.inl rfl, tyX8_ok, nmX8, rfl, rfl, fun _ => rfl⟩
theorem zf_X8_147_6 : zf RX8 147 6 18 := ⟨_, _, _, "ProbeRacksModel", rfl, by decide, zu_X8, Or.inl (zw_in 432 (by decide +kernel) (by decide +kernel)), Or.inl rfl⟩
theorem zfw_X8_147_6 : zfw RX8 147 6 18 .int false := ⟨_, _, _, "ProbeRacksModel", tyX8, rfl, by decide, zu_X8, Or.inl (zw_in 432 (by decide +kernel) (by decide +kernel)), Or.inl rfl, tyX8_ok, nmX8, rfl, rfl, fun h => by cases h⟩
theorem zf_X8_150_6 : zf RX8 150 6 19 := ⟨_, _, _, "ProbeRacksModel", rfl, by decide, zu_X8, Or.inl (zw_in 433 (by decide +kernel) (by decide +kernel)), Or.inl rfl⟩
theorem zfw_X8_150_6 : zfw RX8 150 6 19 .int false := ⟨_, _, _, "ProbeRacksModel", tyX8, rfl, by decide, zu_X8, Or.inl (zw_in 433 (by decide +kernel) (by decide +kernel)), Or.inl rfl, tyX8_ok, nmX8, rfl, rfl, fun h => by cases h⟩
theorem zk_L_7 : Cond.classLink RL 7 RX7 ∈ zw := (zw_in 44 (by decide +kernel) (by decide +kernel))
theorem zn_L_7 : zn RL 7 5 8 [.null, .null, .null, .null, .null, .int 0, .int 0, .int 0] := ⟨_, _, tyX7, rfl, zu_X7, tyX7_ok, zk_L_7, (zw_in 45 (by decide +kernel) (by decide +kernel)), (zw_in 35 (by decide +kernel) (by decide +kernel)), fun j hj => by rcases (show j = 0 ∨ j = 1 ∨ j = 2 ∨ j = 3 ∨ j = 4 ∨ j = 5 ∨ j = 6 ∨ j = 7 by omega) with rfl | rfl | rfl | rfl | rfl | rfl | rfl | rfl <;> rfl⟩
theorem zm_L_9 : zm RL 9 yX7_init cX7_init 2 none 0 := ⟨(zw_in 48 (by decide +kernel) (by decide +kernel)), Or.inl (zw_in 46 (by decide +kernel) (by decide +kernel)), (zw_in 35 (by decide +kernel) (by decide +kernel)), by decide +kernel, by decide⟩
theorem zkyX7_init : yX7_init.name = "<init>" ∧ Cond.instanceMethod yX7_init ∈ zw := ⟨rfl, (zw_in 47 (by decide +kernel) (by decide +kernel))⟩
theorem zo_X7_1 : Cond.methodLink RX7 1 objectInit ∈ zw := (zw_in 49 (by decide +kernel) (by decide +kernel))
theorem zk_X7_9 : Cond.classLink RX7 9 RX5 ∈ zw := (zw_in 52 (by decide +kernel) (by decide +kernel))
theorem zk_X7_15 : Cond.classLink RX7 15 RX0 ∈ zw := (zw_in 54 (by decide +kernel) (by decide +kernel))
theorem zn_X7_15 : zn RX7 15 0 3 [.int 0, .long 0, .null] := ⟨_, _, tyX0, rfl, zu_X0, tyX0_ok, zk_X7_15, (zw_in 55 (by decide +kernel) (by decide +kernel)), (zw_in 36 (by decide +kernel) (by decide +kernel)), fun j hj => by rcases (show j = 0 ∨ j = 1 ∨ j = 2 by omega) with rfl | rfl | rfl <;> rfl⟩
theorem zm_X7_17 : zm RX7 17 yX0_init cX0_init 1 none 0 := ⟨(zw_in 58 (by decide +kernel) (by decide +kernel)), Or.inr (by decide +kernel), (zw_in 36 (by decide +kernel) (by decide +kernel)), by decide +kernel, by decide⟩
theorem zkyX0_init : yX0_init.name = "<init>" ∧ Cond.instanceMethod yX0_init ∈ zw := ⟨rfl, (zw_in 57 (by decide +kernel) (by decide +kernel))⟩
theorem zo_X0_3 : Cond.methodLink RX0 3 objectInit ∈ zw := (zw_in 59 (by decide +kernel) (by decide +kernel))
theorem zk_X7_25 : Cond.classLink RX7 25 RX4 ∈ zw := (zw_in 73 (by decide +kernel) (by decide +kernel))
theorem zn_X7_25 : zn RX7 25 3 6 [.int 0, .int 0, .int 0, .int 0, .int 0, .int 0] := ⟨_, _, tyX4, rfl, zu_X4, tyX4_ok, zk_X7_25, (zw_in 75 (by decide +kernel) (by decide +kernel)), (zw_in 37 (by decide +kernel) (by decide +kernel)), fun j hj => by rcases (show j = 0 ∨ j = 1 ∨ j = 2 ∨ j = 3 ∨ j = 4 ∨ j = 5 by omega) with rfl | rfl | rfl | rfl | rfl | rfl <;> rfl⟩
theorem zm_X7_31 : zm RX7 31 yX4_init cX4_init 1 none 0 := ⟨(zw_in 78 (by decide +kernel) (by decide +kernel)), Or.inr (by decide +kernel), (zw_in 37 (by decide +kernel) (by decide +kernel)), by decide +kernel, by decide⟩
theorem zkyX4_init : yX4_init.name = "<init>" ∧ Cond.instanceMethod yX4_init ∈ zw := ⟨rfl, (zw_in 77 (by decide +kernel) (by decide +kernel))⟩
theorem zo_X4_3 : Cond.methodLink RX4 3 objectInit ∈ zw := (zw_in 79 (by decide +kernel) (by decide +kernel))
theorem za_int : Cond.arrayClass .int ∈ zw := (zw_in 130 (by decide +kernel) (by decide +kernel))
theorem zm_L_13 : zm RL 13 yX7_rack cX7_rack 4 (some .int) 3 := ⟨(zw_in 134 (by decide +kernel) (by decide +kernel)), Or.inl (zw_in 131 (by decide +kernel) (by decide +kernel)), (zw_in 35 (by decide +kernel) (by decide +kernel)), by decide +kernel, by decide⟩
theorem zkyX7_rack : Cond.instanceMethod yX7_rack ∈ zw ∧ Cond.selects yX7_rack.cls yX7_rack yX7_rack ∈ zw := ⟨(zw_in 132 (by decide +kernel) (by decide +kernel)), (zw_in 133 (by decide +kernel) (by decide +kernel))⟩
theorem zm_X7_36 : zm RX7 36 yX7_isRack cX7_isRack 1 (some .boolean) 1 := ⟨(zw_in 137 (by decide +kernel) (by decide +kernel)), Or.inl (zw_in 135 (by decide +kernel) (by decide +kernel)), (zw_in 35 (by decide +kernel) (by decide +kernel)), by decide +kernel, by decide⟩
theorem zkyX7_isRack : Cond.static yX7_isRack ∈ zw := (zw_in 136 (by decide +kernel) (by decide +kernel))
theorem zm_X7_40 : zm RX7 40 yX7_isNumberKind cX7_isNumberKind 1 (some .boolean) 1 := ⟨(zw_in 140 (by decide +kernel) (by decide +kernel)), Or.inl (zw_in 138 (by decide +kernel) (by decide +kernel)), (zw_in 35 (by decide +kernel) (by decide +kernel)), by decide +kernel, by decide⟩
theorem zkyX7_isNumberKind : Cond.static yX7_isNumberKind ∈ zw := (zw_in 139 (by decide +kernel) (by decide +kernel))
theorem zk_X7_43 : Cond.classLink RX7 43 RX1 ∈ zw := (zw_in 141 (by decide +kernel) (by decide +kernel))
theorem zn_X7_43 : zn RX7 43 1 3 [.int 0, .int 0, .null] := ⟨_, _, tyX1, rfl, zu_X1, tyX1_ok, zk_X7_43, (zw_in 142 (by decide +kernel) (by decide +kernel)), (zw_in 41 (by decide +kernel) (by decide +kernel)), fun j hj => by rcases (show j = 0 ∨ j = 1 ∨ j = 2 by omega) with rfl | rfl | rfl <;> rfl⟩
theorem zm_X7_45 : zm RX7 45 yX1_init cX1_init 3 none 2 := ⟨(zw_in 145 (by decide +kernel) (by decide +kernel)), Or.inr (by decide +kernel), (zw_in 41 (by decide +kernel) (by decide +kernel)), by decide +kernel, by decide⟩
theorem zkyX1_init : yX1_init.name = "<init>" ∧ Cond.instanceMethod yX1_init ∈ zw := ⟨rfl, (zw_in 144 (by decide +kernel) (by decide +kernel))⟩
theorem zm_X1_1 : zm RX1 1 yX3_init cX3_init 3 none 2 := ⟨(zw_in 148 (by decide +kernel) (by decide +kernel)), Or.inl (zw_in 146 (by decide +kernel) (by decide +kernel)), (zw_in 40 (by decide +kernel) (by decide +kernel)), by decide +kernel, by decide⟩
theorem zkyX3_init : yX3_init.name = "<init>" ∧ Cond.instanceMethod yX3_init ∈ zw := ⟨rfl, (zw_in 147 (by decide +kernel) (by decide +kernel))⟩
theorem zm_X3_1 : zm RX3 1 yX5_init cX5_init 1 none 0 := ⟨(zw_in 151 (by decide +kernel) (by decide +kernel)), Or.inr (by decide +kernel), (zw_in 39 (by decide +kernel) (by decide +kernel)), by decide +kernel, by decide⟩
theorem zkyX5_init : yX5_init.name = "<init>" ∧ Cond.instanceMethod yX5_init ∈ zw := ⟨rfl, (zw_in 150 (by decide +kernel) (by decide +kernel))⟩
theorem zo_X5_1 : Cond.methodLink RX5 1 objectInit ∈ zw := (zw_in 152 (by decide +kernel) (by decide +kernel))
theorem za_long : Cond.arrayClass .long ∈ zw := (zw_in 175 (by decide +kernel) (by decide +kernel))
theorem zk_X7_48 : Cond.classLink RX7 48 RX6 ∈ zw := (zw_in 176 (by decide +kernel) (by decide +kernel))
theorem zn_X7_48 : zn RX7 48 4 3 [.int 0, .int 0, .null] := ⟨_, _, tyX6, rfl, zu_X6, tyX6_ok, zk_X7_48, (zw_in 177 (by decide +kernel) (by decide +kernel)), (zw_in 42 (by decide +kernel) (by decide +kernel)), fun j hj => by rcases (show j = 0 ∨ j = 1 ∨ j = 2 by omega) with rfl | rfl | rfl <;> rfl⟩
theorem zm_X7_50 : zm RX7 50 yX6_init cX6_init 3 none 2 := ⟨(zw_in 180 (by decide +kernel) (by decide +kernel)), Or.inr (by decide +kernel), (zw_in 42 (by decide +kernel) (by decide +kernel)), by decide +kernel, by decide⟩
theorem zkyX6_init : yX6_init.name = "<init>" ∧ Cond.instanceMethod yX6_init ∈ zw := ⟨rfl, (zw_in 179 (by decide +kernel) (by decide +kernel))⟩
theorem zm_X6_1 : zm RX6 1 yX3_init cX3_init 3 none 2 := ⟨(zw_in 148 (by decide +kernel) (by decide +kernel)), Or.inl (zw_in 181 (by decide +kernel) (by decide +kernel)), (zw_in 40 (by decide +kernel) (by decide +kernel)), by decide +kernel, by decide⟩
theorem zk_X6_7 : Cond.classLink RX6 7 RX5 ∈ zw := (zw_in 182 (by decide +kernel) (by decide +kernel))
theorem zm_L_18 : zm RL 18 yX7_hang cX7_hang 2 (some .int) 1 := ⟨(zw_in 193 (by decide +kernel) (by decide +kernel)), Or.inl (zw_in 190 (by decide +kernel) (by decide +kernel)), (zw_in 35 (by decide +kernel) (by decide +kernel)), by decide +kernel, by decide⟩
theorem zkyX7_hang : Cond.instanceMethod yX7_hang ∈ zw ∧ Cond.selects yX7_hang.cls yX7_hang yX7_hang ∈ zw := ⟨(zw_in 191 (by decide +kernel) (by decide +kernel)), (zw_in 192 (by decide +kernel) (by decide +kernel))⟩
theorem zm_L_23 : zm RL 23 yX7_share cX7_share 3 (some .int) 2 := ⟨(zw_in 197 (by decide +kernel) (by decide +kernel)), Or.inl (zw_in 194 (by decide +kernel) (by decide +kernel)), (zw_in 35 (by decide +kernel) (by decide +kernel)), by decide +kernel, by decide⟩
theorem zkyX7_share : Cond.instanceMethod yX7_share ∈ zw ∧ Cond.selects yX7_share.cls yX7_share yX7_share ∈ zw := ⟨(zw_in 195 (by decide +kernel) (by decide +kernel)), (zw_in 196 (by decide +kernel) (by decide +kernel))⟩
theorem zm_L_28 : zm RL 28 yX7_empty cX7_empty 2 (some .int) 1 := ⟨(zw_in 201 (by decide +kernel) (by decide +kernel)), Or.inl (zw_in 198 (by decide +kernel) (by decide +kernel)), (zw_in 35 (by decide +kernel) (by decide +kernel)), by decide +kernel, by decide⟩
theorem zkyX7_empty : Cond.instanceMethod yX7_empty ∈ zw ∧ Cond.selects yX7_empty.cls yX7_empty yX7_empty ∈ zw := ⟨(zw_in 199 (by decide +kernel) (by decide +kernel)), (zw_in 200 (by decide +kernel) (by decide +kernel))⟩
theorem zm_L_34 : zm RL 34 yX7_gauge cX7_gauge 4 (some .int) 2 := ⟨(zw_in 205 (by decide +kernel) (by decide +kernel)), Or.inl (zw_in 202 (by decide +kernel) (by decide +kernel)), (zw_in 35 (by decide +kernel) (by decide +kernel)), by decide +kernel, by decide⟩
theorem zkyX7_gauge : Cond.instanceMethod yX7_gauge ∈ zw ∧ Cond.selects yX7_gauge.cls yX7_gauge yX7_gauge ∈ zw := ⟨(zw_in 203 (by decide +kernel) (by decide +kernel)), (zw_in 204 (by decide +kernel) (by decide +kernel))⟩
theorem zm_X7_55 : zm RX7 55 yX0_holdNumber cX0_holdNumber 4 none 2 := ⟨(zw_in 209 (by decide +kernel) (by decide +kernel)), Or.inr (by decide +kernel), (zw_in 36 (by decide +kernel) (by decide +kernel)), by decide +kernel, by decide⟩
theorem zkyX0_holdNumber : Cond.instanceMethod yX0_holdNumber ∈ zw ∧ Cond.selects yX0_holdNumber.cls yX0_holdNumber yX0_holdNumber ∈ zw := ⟨(zw_in 208 (by decide +kernel) (by decide +kernel)), (zw_in 0 (by decide +kernel) (by decide +kernel))⟩
theorem zm_X0_15 : zm RX0 15 yX7_asKind cX7_asKind 3 (some .long) 2 := ⟨(zw_in 212 (by decide +kernel) (by decide +kernel)), Or.inr (by decide +kernel), (zw_in 35 (by decide +kernel) (by decide +kernel)), by decide +kernel, by decide⟩
theorem zkyX7_asKind : Cond.static yX7_asKind ∈ zw := (zw_in 211 (by decide +kernel) (by decide +kernel))
theorem zm_L_39 : zm RL 39 yX7_probe cX7_probe 2 (some .int) 1 := ⟨(zw_in 216 (by decide +kernel) (by decide +kernel)), Or.inl (zw_in 213 (by decide +kernel) (by decide +kernel)), (zw_in 35 (by decide +kernel) (by decide +kernel)), by decide +kernel, by decide⟩
theorem zkyX7_probe : Cond.instanceMethod yX7_probe ∈ zw ∧ Cond.selects yX7_probe.cls yX7_probe yX7_probe ∈ zw := ⟨(zw_in 214 (by decide +kernel) (by decide +kernel)), (zw_in 215 (by decide +kernel) (by decide +kernel))⟩
theorem zk_X7_63 : Cond.classLink RX7 63 RX2 ∈ zw := (zw_in 217 (by decide +kernel) (by decide +kernel))
theorem zn_X7_63 : zn RX7 63 2 2 [.int 0, .int 0] := ⟨_, _, tyX2, rfl, zu_X2, tyX2_ok, zk_X7_63, (zw_in 218 (by decide +kernel) (by decide +kernel)), (zw_in 43 (by decide +kernel) (by decide +kernel)), fun j hj => by rcases (show j = 0 ∨ j = 1 by omega) with rfl | rfl <;> rfl⟩
theorem zm_X7_65 : zm RX7 65 yX2_init cX2_init 3 none 2 := ⟨(zw_in 221 (by decide +kernel) (by decide +kernel)), Or.inr (by decide +kernel), (zw_in 43 (by decide +kernel) (by decide +kernel)), by decide +kernel, by decide⟩
theorem zkyX2_init : yX2_init.name = "<init>" ∧ Cond.instanceMethod yX2_init ∈ zw := ⟨rfl, (zw_in 220 (by decide +kernel) (by decide +kernel))⟩
theorem zm_X2_1 : zm RX2 1 yX5_init cX5_init 1 none 0 := ⟨(zw_in 151 (by decide +kernel) (by decide +kernel)), Or.inr (by decide +kernel), (zw_in 39 (by decide +kernel) (by decide +kernel)), by decide +kernel, by decide⟩
theorem zm_X7_68 : zm RX7 68 yX0_holdThing cX0_holdThing 4 none 1 := ⟨(zw_in 236 (by decide +kernel) (by decide +kernel)), Or.inr (by decide +kernel), (zw_in 36 (by decide +kernel) (by decide +kernel)), by decide +kernel, by decide⟩
theorem zkyX0_holdThing : Cond.instanceMethod yX0_holdThing ∈ zw ∧ Cond.selects yX0_holdThing.cls yX0_holdThing yX0_holdThing ∈ zw := ⟨(zw_in 235 (by decide +kernel) (by decide +kernel)), (zw_in 1 (by decide +kernel) (by decide +kernel))⟩
theorem zk_X0_27 : Cond.classLink RX0 27 RX2 ∈ zw := (zw_in 237 (by decide +kernel) (by decide +kernel))
theorem zn_X0_27 : zn RX0 27 2 2 [.int 0, .int 0] := ⟨_, _, tyX2, rfl, zu_X2, tyX2_ok, zk_X0_27, (zw_in 218 (by decide +kernel) (by decide +kernel)), (zw_in 43 (by decide +kernel) (by decide +kernel)), fun j hj => by rcases (show j = 0 ∨ j = 1 by omega) with rfl | rfl <;> rfl⟩
theorem zk_X0_36 : Cond.classLink RX0 36 RX3 ∈ zw := (zw_in 238 (by decide +kernel) (by decide +kernel))
theorem zm_L_44 : zm RL 44 yX7_line cX7_line 2 (some .int) 1 := ⟨(zw_in 242 (by decide +kernel) (by decide +kernel)), Or.inl (zw_in 239 (by decide +kernel) (by decide +kernel)), (zw_in 35 (by decide +kernel) (by decide +kernel)), by decide +kernel, by decide⟩
theorem zkyX7_line : Cond.instanceMethod yX7_line ∈ zw ∧ Cond.selects yX7_line.cls yX7_line yX7_line ∈ zw := ⟨(zw_in 240 (by decide +kernel) (by decide +kernel)), (zw_in 241 (by decide +kernel) (by decide +kernel))⟩
theorem zm_L_48 : zm RL 48 yX7_none cX7_none 1 (some .int) 0 := ⟨(zw_in 246 (by decide +kernel) (by decide +kernel)), Or.inl (zw_in 243 (by decide +kernel) (by decide +kernel)), (zw_in 35 (by decide +kernel) (by decide +kernel)), by decide +kernel, by decide⟩
theorem zkyX7_none : Cond.instanceMethod yX7_none ∈ zw ∧ Cond.selects yX7_none.cls yX7_none yX7_none ∈ zw := ⟨(zw_in 244 (by decide +kernel) (by decide +kernel)), (zw_in 245 (by decide +kernel) (by decide +kernel))⟩
theorem zm_L_53 : zm RL 53 yX7_get cX7_get 4 (some .int) 2 := ⟨(zw_in 250 (by decide +kernel) (by decide +kernel)), Or.inl (zw_in 247 (by decide +kernel) (by decide +kernel)), (zw_in 35 (by decide +kernel) (by decide +kernel)), by decide +kernel, by decide⟩
theorem zkyX7_get : Cond.instanceMethod yX7_get ∈ zw ∧ Cond.selects yX7_get.cls yX7_get yX7_get ∈ zw := ⟨(zw_in 248 (by decide +kernel) (by decide +kernel)), (zw_in 249 (by decide +kernel) (by decide +kernel))⟩
theorem zm_X7_72 : zm RX7 72 yX7_getPlace cX7_getPlace 6 (some .int) 3 := ⟨(zw_in 253 (by decide +kernel) (by decide +kernel)), Or.inl (zw_in 251 (by decide +kernel) (by decide +kernel)), (zw_in 35 (by decide +kernel) (by decide +kernel)), by decide +kernel, by decide⟩
theorem zkyX7_getPlace : Cond.static yX7_getPlace ∈ zw := (zw_in 252 (by decide +kernel) (by decide +kernel))
theorem zm_X7_121 : zm RX7 121 yX7_placeFault cX7_placeFault 3 (some .int) 2 := ⟨(zw_in 256 (by decide +kernel) (by decide +kernel)), Or.inl (zw_in 254 (by decide +kernel) (by decide +kernel)), (zw_in 35 (by decide +kernel) (by decide +kernel)), by decide +kernel, by decide⟩
theorem zkyX7_placeFault : Cond.static yX7_placeFault ∈ zw := (zw_in 255 (by decide +kernel) (by decide +kernel))
theorem zm_X7_98 : zm RX7 98 yX7_rowFault cX7_rowFault 1 (some .int) 1 := ⟨(zw_in 259 (by decide +kernel) (by decide +kernel)), Or.inl (zw_in 257 (by decide +kernel) (by decide +kernel)), (zw_in 35 (by decide +kernel) (by decide +kernel)), by decide +kernel, by decide⟩
theorem zkyX7_rowFault : Cond.static yX7_rowFault ∈ zw := (zw_in 258 (by decide +kernel) (by decide +kernel))
theorem zk_X7_151 : Cond.classLink RX7 151 RX3 ∈ zw := (zw_in 260 (by decide +kernel) (by decide +kernel))
theorem zm_X7_102 : zm RX7 102 yX7_placesOf cX7_placesOf 2 (some .int) 1 := ⟨(zw_in 263 (by decide +kernel) (by decide +kernel)), Or.inl (zw_in 261 (by decide +kernel) (by decide +kernel)), (zw_in 35 (by decide +kernel) (by decide +kernel)), by decide +kernel, by decide⟩
theorem zkyX7_placesOf : Cond.static yX7_placesOf ∈ zw := (zw_in 262 (by decide +kernel) (by decide +kernel))
theorem zm_X7_79 : zm RX7 79 yX7_answer cX7_answer 3 (some .int) 2 := ⟨(zw_in 267 (by decide +kernel) (by decide +kernel)), Or.inl (zw_in 264 (by decide +kernel) (by decide +kernel)), (zw_in 35 (by decide +kernel) (by decide +kernel)), by decide +kernel, by decide⟩
theorem zkyX7_answer : Cond.instanceMethod yX7_answer ∈ zw ∧ Cond.selects yX7_answer.cls yX7_answer yX7_answer ∈ zw := ⟨(zw_in 266 (by decide +kernel) (by decide +kernel)), (zw_in 2 (by decide +kernel) (by decide +kernel))⟩
theorem zm_X7_117 : zm RX7 117 yX7_countFault cX7_countFault 2 none 1 := ⟨(zw_in 271 (by decide +kernel) (by decide +kernel)), Or.inl (zw_in 268 (by decide +kernel) (by decide +kernel)), (zw_in 35 (by decide +kernel) (by decide +kernel)), by decide +kernel, by decide⟩
theorem zkyX7_countFault : Cond.instanceMethod yX7_countFault ∈ zw ∧ Cond.selects yX7_countFault.cls yX7_countFault yX7_countFault ∈ zw := ⟨(zw_in 270 (by decide +kernel) (by decide +kernel)), (zw_in 3 (by decide +kernel) (by decide +kernel))⟩
theorem zm_L_57 : zm RL 57 yX7_set cX7_set 3 (some .int) 2 := ⟨(zw_in 275 (by decide +kernel) (by decide +kernel)), Or.inl (zw_in 272 (by decide +kernel) (by decide +kernel)), (zw_in 35 (by decide +kernel) (by decide +kernel)), by decide +kernel, by decide⟩
theorem zkyX7_set : Cond.instanceMethod yX7_set ∈ zw ∧ Cond.selects yX7_set.cls yX7_set yX7_set ∈ zw := ⟨(zw_in 273 (by decide +kernel) (by decide +kernel)), (zw_in 274 (by decide +kernel) (by decide +kernel))⟩
theorem zm_X7_83 : zm RX7 83 yX7_setPlace cX7_setPlace 4 (some .int) 3 := ⟨(zw_in 278 (by decide +kernel) (by decide +kernel)), Or.inl (zw_in 276 (by decide +kernel) (by decide +kernel)), (zw_in 35 (by decide +kernel) (by decide +kernel)), by decide +kernel, by decide⟩
theorem zkyX7_setPlace : Cond.static yX7_setPlace ∈ zw := (zw_in 277 (by decide +kernel) (by decide +kernel))
theorem zm_X7_172 : zm RX7 172 yX7_setNumber cX7_setNumber 3 (some .int) 3 := ⟨(zw_in 281 (by decide +kernel) (by decide +kernel)), Or.inl (zw_in 279 (by decide +kernel) (by decide +kernel)), (zw_in 35 (by decide +kernel) (by decide +kernel)), by decide +kernel, by decide⟩
theorem zkyX7_setNumber : Cond.static yX7_setNumber ∈ zw := (zw_in 280 (by decide +kernel) (by decide +kernel))
theorem zm_X7_94 : zm RX7 94 yX7_writePlace cX7_writePlace 6 (some .int) 4 := ⟨(zw_in 284 (by decide +kernel) (by decide +kernel)), Or.inl (zw_in 282 (by decide +kernel) (by decide +kernel)), (zw_in 35 (by decide +kernel) (by decide +kernel)), by decide +kernel, by decide⟩
theorem zkyX7_writePlace : Cond.static yX7_writePlace ∈ zw := (zw_in 283 (by decide +kernel) (by decide +kernel))
theorem zm_X7_182 : zm RX7 182 yX7_goesInto cX7_goesInto 2 (some .boolean) 2 := ⟨(zw_in 287 (by decide +kernel) (by decide +kernel)), Or.inl (zw_in 285 (by decide +kernel) (by decide +kernel)), (zw_in 35 (by decide +kernel) (by decide +kernel)), by decide +kernel, by decide⟩
theorem zkyX7_goesInto : Cond.static yX7_goesInto ∈ zw := (zw_in 286 (by decide +kernel) (by decide +kernel))
theorem zm_X7_187 : zm RX7 187 yX7_asKind cX7_asKind 3 (some .long) 2 := ⟨(zw_in 212 (by decide +kernel) (by decide +kernel)), Or.inl (zw_in 290 (by decide +kernel) (by decide +kernel)), (zw_in 35 (by decide +kernel) (by decide +kernel)), by decide +kernel, by decide⟩
theorem zm_X7_176 : zm RX7 176 yX7_setThing cX7_setThing 3 (some .int) 3 := ⟨(zw_in 293 (by decide +kernel) (by decide +kernel)), Or.inl (zw_in 291 (by decide +kernel) (by decide +kernel)), (zw_in 35 (by decide +kernel) (by decide +kernel)), by decide +kernel, by decide⟩
theorem zkyX7_setThing : Cond.static yX7_setThing ∈ zw := (zw_in 292 (by decide +kernel) (by decide +kernel))
theorem zm_L_61 : zm RL 61 yX7_read cX7_read 4 (some .int) 3 := ⟨(zw_in 297 (by decide +kernel) (by decide +kernel)), Or.inl (zw_in 294 (by decide +kernel) (by decide +kernel)), (zw_in 35 (by decide +kernel) (by decide +kernel)), by decide +kernel, by decide⟩
theorem zkyX7_read : Cond.instanceMethod yX7_read ∈ zw ∧ Cond.selects yX7_read.cls yX7_read yX7_read ∈ zw := ⟨(zw_in 295 (by decide +kernel) (by decide +kernel)), (zw_in 296 (by decide +kernel) (by decide +kernel))⟩
theorem zm_X7_86 : zm RX7 86 yX7_readPlace cX7_readPlace 5 (some .int) 4 := ⟨(zw_in 300 (by decide +kernel) (by decide +kernel)), Or.inl (zw_in 298 (by decide +kernel) (by decide +kernel)), (zw_in 35 (by decide +kernel) (by decide +kernel)), by decide +kernel, by decide⟩
theorem zkyX7_readPlace : Cond.static yX7_readPlace ∈ zw := (zw_in 299 (by decide +kernel) (by decide +kernel))
theorem zm_L_65 : zm RL 65 yX7_write cX7_write 4 (some .int) 3 := ⟨(zw_in 304 (by decide +kernel) (by decide +kernel)), Or.inl (zw_in 301 (by decide +kernel) (by decide +kernel)), (zw_in 35 (by decide +kernel) (by decide +kernel)), by decide +kernel, by decide⟩
theorem zkyX7_write : Cond.instanceMethod yX7_write ∈ zw ∧ Cond.selects yX7_write.cls yX7_write yX7_write ∈ zw := ⟨(zw_in 302 (by decide +kernel) (by decide +kernel)), (zw_in 303 (by decide +kernel) (by decide +kernel))⟩
theorem zm_L_69 : zm RL 69 yX7_size cX7_size 2 (some .int) 1 := ⟨(zw_in 308 (by decide +kernel) (by decide +kernel)), Or.inl (zw_in 305 (by decide +kernel) (by decide +kernel)), (zw_in 35 (by decide +kernel) (by decide +kernel)), by decide +kernel, by decide⟩
theorem zkyX7_size : Cond.instanceMethod yX7_size ∈ zw ∧ Cond.selects yX7_size.cls yX7_size yX7_size ∈ zw := ⟨(zw_in 306 (by decide +kernel) (by decide +kernel)), (zw_in 307 (by decide +kernel) (by decide +kernel))⟩
theorem zm_L_73 : zm RL 73 yX7_within cX7_within 4 (some .int) 3 := ⟨(zw_in 312 (by decide +kernel) (by decide +kernel)), Or.inl (zw_in 309 (by decide +kernel) (by decide +kernel)), (zw_in 35 (by decide +kernel) (by decide +kernel)), by decide +kernel, by decide⟩
theorem zkyX7_within : Cond.instanceMethod yX7_within ∈ zw ∧ Cond.selects yX7_within.cls yX7_within yX7_within ∈ zw := ⟨(zw_in 310 (by decide +kernel) (by decide +kernel)), (zw_in 311 (by decide +kernel) (by decide +kernel))⟩
theorem zm_X7_105 : zm RX7 105 yX7_readWithin cX7_readWithin 5 (some .int) 3 := ⟨(zw_in 316 (by decide +kernel) (by decide +kernel)), Or.inl (zw_in 313 (by decide +kernel) (by decide +kernel)), (zw_in 35 (by decide +kernel) (by decide +kernel)), by decide +kernel, by decide⟩
theorem zkyX7_readWithin : Cond.instanceMethod yX7_readWithin ∈ zw ∧ Cond.selects yX7_readWithin.cls yX7_readWithin yX7_readWithin ∈ zw := ⟨(zw_in 315 (by decide +kernel) (by decide +kernel)), (zw_in 4 (by decide +kernel) (by decide +kernel))⟩
theorem zm_X7_191 : zm RX7 191 yX7_takeInner cX7_takeInner 4 (some .int) 2 := ⟨(zw_in 320 (by decide +kernel) (by decide +kernel)), Or.inl (zw_in 317 (by decide +kernel) (by decide +kernel)), (zw_in 35 (by decide +kernel) (by decide +kernel)), by decide +kernel, by decide⟩
theorem zkyX7_takeInner : Cond.instanceMethod yX7_takeInner ∈ zw ∧ Cond.selects yX7_takeInner.cls yX7_takeInner yX7_takeInner ∈ zw := ⟨(zw_in 319 (by decide +kernel) (by decide +kernel)), (zw_in 5 (by decide +kernel) (by decide +kernel))⟩
theorem zm_L_77 : zm RL 77 yX7_into cX7_into 5 (some .int) 4 := ⟨(zw_in 324 (by decide +kernel) (by decide +kernel)), Or.inl (zw_in 321 (by decide +kernel) (by decide +kernel)), (zw_in 35 (by decide +kernel) (by decide +kernel)), by decide +kernel, by decide⟩
theorem zkyX7_into : Cond.instanceMethod yX7_into ∈ zw ∧ Cond.selects yX7_into.cls yX7_into yX7_into ∈ zw := ⟨(zw_in 322 (by decide +kernel) (by decide +kernel)), (zw_in 323 (by decide +kernel) (by decide +kernel))⟩
theorem zm_X7_109 : zm RX7 109 yX7_writeWithin cX7_writeWithin 6 (some .int) 4 := ⟨(zw_in 328 (by decide +kernel) (by decide +kernel)), Or.inl (zw_in 325 (by decide +kernel) (by decide +kernel)), (zw_in 35 (by decide +kernel) (by decide +kernel)), by decide +kernel, by decide⟩
theorem zkyX7_writeWithin : Cond.instanceMethod yX7_writeWithin ∈ zw ∧ Cond.selects yX7_writeWithin.cls yX7_writeWithin yX7_writeWithin ∈ zw := ⟨(zw_in 327 (by decide +kernel) (by decide +kernel)), (zw_in 6 (by decide +kernel) (by decide +kernel))⟩
theorem zm_L_82 : zm RL 82 yX7_pass cX7_pass 7 (some .int) 3 := ⟨(zw_in 332 (by decide +kernel) (by decide +kernel)), Or.inl (zw_in 329 (by decide +kernel) (by decide +kernel)), (zw_in 35 (by decide +kernel) (by decide +kernel)), by decide +kernel, by decide⟩
theorem zkyX7_pass : Cond.instanceMethod yX7_pass ∈ zw ∧ Cond.selects yX7_pass.cls yX7_pass yX7_pass ∈ zw := ⟨(zw_in 330 (by decide +kernel) (by decide +kernel)), (zw_in 331 (by decide +kernel) (by decide +kernel))⟩
theorem zm_X7_113 : zm RX7 113 yX7_passPlace cX7_passPlace 6 (some .int) 4 := ⟨(zw_in 336 (by decide +kernel) (by decide +kernel)), Or.inl (zw_in 333 (by decide +kernel) (by decide +kernel)), (zw_in 35 (by decide +kernel) (by decide +kernel)), by decide +kernel, by decide⟩
theorem zkyX7_passPlace : Cond.instanceMethod yX7_passPlace ∈ zw ∧ Cond.selects yX7_passPlace.cls yX7_passPlace yX7_passPlace ∈ zw := ⟨(zw_in 335 (by decide +kernel) (by decide +kernel)), (zw_in 7 (by decide +kernel) (by decide +kernel))⟩
theorem zm_L_86 : zm RL 86 yX7_takes cX7_takes 2 (some .int) 1 := ⟨(zw_in 340 (by decide +kernel) (by decide +kernel)), Or.inl (zw_in 337 (by decide +kernel) (by decide +kernel)), (zw_in 35 (by decide +kernel) (by decide +kernel)), by decide +kernel, by decide⟩
theorem zkyX7_takes : Cond.instanceMethod yX7_takes ∈ zw ∧ Cond.selects yX7_takes.cls yX7_takes yX7_takes ∈ zw := ⟨(zw_in 338 (by decide +kernel) (by decide +kernel)), (zw_in 339 (by decide +kernel) (by decide +kernel))⟩
theorem zm_X7_125 : zm RX7 125 yX7_kindsTaken cX7_kindsTaken 4 (some .int) 1 := ⟨(zw_in 343 (by decide +kernel) (by decide +kernel)), Or.inl (zw_in 341 (by decide +kernel) (by decide +kernel)), (zw_in 35 (by decide +kernel) (by decide +kernel)), by decide +kernel, by decide⟩
theorem zkyX7_kindsTaken : Cond.static yX7_kindsTaken ∈ zw := (zw_in 342 (by decide +kernel) (by decide +kernel))
theorem zm_L_90 : zm RL 90 yX7_gives cX7_gives 2 (some .int) 1 := ⟨(zw_in 347 (by decide +kernel) (by decide +kernel)), Or.inl (zw_in 344 (by decide +kernel) (by decide +kernel)), (zw_in 35 (by decide +kernel) (by decide +kernel)), by decide +kernel, by decide⟩
theorem zkyX7_gives : Cond.instanceMethod yX7_gives ∈ zw ∧ Cond.selects yX7_gives.cls yX7_gives yX7_gives ∈ zw := ⟨(zw_in 345 (by decide +kernel) (by decide +kernel)), (zw_in 346 (by decide +kernel) (by decide +kernel))⟩
theorem zm_X7_128 : zm RX7 128 yX7_kindsGiven cX7_kindsGiven 4 (some .int) 1 := ⟨(zw_in 350 (by decide +kernel) (by decide +kernel)), Or.inl (zw_in 348 (by decide +kernel) (by decide +kernel)), (zw_in 35 (by decide +kernel) (by decide +kernel)), by decide +kernel, by decide⟩
theorem zkyX7_kindsGiven : Cond.static yX7_kindsGiven ∈ zw := (zw_in 349 (by decide +kernel) (by decide +kernel))
theorem zm_L_94 : zm RL 94 yX7_step cX7_step 6 (some .int) 5 := ⟨(zw_in 354 (by decide +kernel) (by decide +kernel)), Or.inl (zw_in 351 (by decide +kernel) (by decide +kernel)), (zw_in 35 (by decide +kernel) (by decide +kernel)), by decide +kernel, by decide⟩
theorem zkyX7_step : Cond.instanceMethod yX7_step ∈ zw ∧ Cond.selects yX7_step.cls yX7_step yX7_step ∈ zw := ⟨(zw_in 352 (by decide +kernel) (by decide +kernel)), (zw_in 353 (by decide +kernel) (by decide +kernel))⟩
theorem zm_X7_134 : zm RX7 134 yX4_become cX4_become 6 none 5 := ⟨(zw_in 358 (by decide +kernel) (by decide +kernel)), Or.inr (by decide +kernel), (zw_in 37 (by decide +kernel) (by decide +kernel)), by decide +kernel, by decide⟩
theorem zkyX4_become : Cond.instanceMethod yX4_become ∈ zw ∧ Cond.selects yX4_become.cls yX4_become yX4_become ∈ zw := ⟨(zw_in 357 (by decide +kernel) (by decide +kernel)), (zw_in 8 (by decide +kernel) (by decide +kernel))⟩
theorem zm_L_99 : zm RL 99 yX7_run cX7_run 5 (some .int) 1 := ⟨(zw_in 362 (by decide +kernel) (by decide +kernel)), Or.inl (zw_in 359 (by decide +kernel) (by decide +kernel)), (zw_in 35 (by decide +kernel) (by decide +kernel)), by decide +kernel, by decide⟩
theorem zkyX7_run : Cond.instanceMethod yX7_run ∈ zw ∧ Cond.selects yX7_run.cls yX7_run yX7_run ∈ zw := ⟨(zw_in 360 (by decide +kernel) (by decide +kernel)), (zw_in 361 (by decide +kernel) (by decide +kernel))⟩
theorem zm_X7_138 : zm RX7 138 yX7_forgetRun cX7_forgetRun 2 none 0 := ⟨(zw_in 366 (by decide +kernel) (by decide +kernel)), Or.inl (zw_in 363 (by decide +kernel) (by decide +kernel)), (zw_in 35 (by decide +kernel) (by decide +kernel)), by decide +kernel, by decide⟩
theorem zkyX7_forgetRun : Cond.instanceMethod yX7_forgetRun ∈ zw ∧ Cond.selects yX7_forgetRun.cls yX7_forgetRun yX7_forgetRun ∈ zw := ⟨(zw_in 365 (by decide +kernel) (by decide +kernel)), (zw_in 9 (by decide +kernel) (by decide +kernel))⟩
theorem zm_X7_141 : zm RX7 141 yX7_doStep cX7_doStep 3 (some .int) 1 := ⟨(zw_in 370 (by decide +kernel) (by decide +kernel)), Or.inl (zw_in 367 (by decide +kernel) (by decide +kernel)), (zw_in 35 (by decide +kernel) (by decide +kernel)), by decide +kernel, by decide⟩
theorem zkyX7_doStep : Cond.instanceMethod yX7_doStep ∈ zw ∧ Cond.selects yX7_doStep.cls yX7_doStep yX7_doStep ∈ zw := ⟨(zw_in 369 (by decide +kernel) (by decide +kernel)), (zw_in 10 (by decide +kernel) (by decide +kernel))⟩
theorem zm_X7_209 : zm RX7 209 yX7_movePlace cX7_movePlace 6 (some .int) 4 := ⟨(zw_in 374 (by decide +kernel) (by decide +kernel)), Or.inl (zw_in 371 (by decide +kernel) (by decide +kernel)), (zw_in 35 (by decide +kernel) (by decide +kernel)), by decide +kernel, by decide⟩
theorem zkyX7_movePlace : Cond.instanceMethod yX7_movePlace ∈ zw ∧ Cond.selects yX7_movePlace.cls yX7_movePlace yX7_movePlace ∈ zw := ⟨(zw_in 373 (by decide +kernel) (by decide +kernel)), (zw_in 11 (by decide +kernel) (by decide +kernel))⟩
theorem zm_L_103 : zm RL 103 yX7_met cX7_met 2 (some .int) 1 := ⟨(zw_in 378 (by decide +kernel) (by decide +kernel)), Or.inl (zw_in 375 (by decide +kernel) (by decide +kernel)), (zw_in 35 (by decide +kernel) (by decide +kernel)), by decide +kernel, by decide⟩
theorem zkyX7_met : Cond.instanceMethod yX7_met ∈ zw ∧ Cond.selects yX7_met.cls yX7_met yX7_met ∈ zw := ⟨(zw_in 376 (by decide +kernel) (by decide +kernel)), (zw_in 377 (by decide +kernel) (by decide +kernel))⟩
theorem zm_L_107 : zm RL 107 yX7_clear cX7_clear 2 (some .int) 0 := ⟨(zw_in 382 (by decide +kernel) (by decide +kernel)), Or.inl (zw_in 379 (by decide +kernel) (by decide +kernel)), (zw_in 35 (by decide +kernel) (by decide +kernel)), by decide +kernel, by decide⟩
theorem zkyX7_clear : Cond.instanceMethod yX7_clear ∈ zw ∧ Cond.selects yX7_clear.cls yX7_clear yX7_clear ∈ zw := ⟨(zw_in 380 (by decide +kernel) (by decide +kernel)), (zw_in 381 (by decide +kernel) (by decide +kernel))⟩
theorem zm_L_111 : zm RL 111 yX7_fault cX7_fault 1 (some .int) 0 := ⟨(zw_in 386 (by decide +kernel) (by decide +kernel)), Or.inl (zw_in 383 (by decide +kernel) (by decide +kernel)), (zw_in 35 (by decide +kernel) (by decide +kernel)), by decide +kernel, by decide⟩
theorem zkyX7_fault : Cond.instanceMethod yX7_fault ∈ zw ∧ Cond.selects yX7_fault.cls yX7_fault yX7_fault ∈ zw := ⟨(zw_in 384 (by decide +kernel) (by decide +kernel)), (zw_in 385 (by decide +kernel) (by decide +kernel))⟩
theorem zm_L_115 : zm RL 115 yX7_faults cX7_faults 2 (some .int) 1 := ⟨(zw_in 390 (by decide +kernel) (by decide +kernel)), Or.inl (zw_in 387 (by decide +kernel) (by decide +kernel)), (zw_in 35 (by decide +kernel) (by decide +kernel)), by decide +kernel, by decide⟩
theorem zkyX7_faults : Cond.instanceMethod yX7_faults ∈ zw ∧ Cond.selects yX7_faults.cls yX7_faults yX7_faults ∈ zw := ⟨(zw_in 388 (by decide +kernel) (by decide +kernel)), (zw_in 389 (by decide +kernel) (by decide +kernel))⟩
theorem zm_L_119 : zm RL 119 yX7_has cX7_has 1 (some .int) 0 := ⟨(zw_in 394 (by decide +kernel) (by decide +kernel)), Or.inl (zw_in 391 (by decide +kernel) (by decide +kernel)), (zw_in 35 (by decide +kernel) (by decide +kernel)), by decide +kernel, by decide⟩
theorem zkyX7_has : Cond.instanceMethod yX7_has ∈ zw ∧ Cond.selects yX7_has.cls yX7_has yX7_has ∈ zw := ⟨(zw_in 392 (by decide +kernel) (by decide +kernel)), (zw_in 393 (by decide +kernel) (by decide +kernel))⟩
theorem zm_L_123 : zm RL 123 yX7_value cX7_value 1 (some .long) 0 := ⟨(zw_in 398 (by decide +kernel) (by decide +kernel)), Or.inl (zw_in 395 (by decide +kernel) (by decide +kernel)), (zw_in 35 (by decide +kernel) (by decide +kernel)), by decide +kernel, by decide⟩
theorem zkyX7_value : Cond.instanceMethod yX7_value ∈ zw ∧ Cond.selects yX7_value.cls yX7_value yX7_value ∈ zw := ⟨(zw_in 396 (by decide +kernel) (by decide +kernel)), (zw_in 397 (by decide +kernel) (by decide +kernel))⟩
theorem zm_L_128 : zm RL 128 yX7_told cX7_told 4 (some .int) 1 := ⟨(zw_in 402 (by decide +kernel) (by decide +kernel)), Or.inl (zw_in 399 (by decide +kernel) (by decide +kernel)), (zw_in 35 (by decide +kernel) (by decide +kernel)), by decide +kernel, by decide⟩
theorem zkyX7_told : Cond.instanceMethod yX7_told ∈ zw ∧ Cond.selects yX7_told.cls yX7_told yX7_told ∈ zw := ⟨(zw_in 400 (by decide +kernel) (by decide +kernel)), (zw_in 401 (by decide +kernel) (by decide +kernel))⟩
theorem zm_L_132 : zm RL 132 yX7_same cX7_same 4 (some .int) 1 := ⟨(zw_in 406 (by decide +kernel) (by decide +kernel)), Or.inl (zw_in 403 (by decide +kernel) (by decide +kernel)), (zw_in 35 (by decide +kernel) (by decide +kernel)), by decide +kernel, by decide⟩
theorem zkyX7_same : Cond.instanceMethod yX7_same ∈ zw ∧ Cond.selects yX7_same.cls yX7_same yX7_same ∈ zw := ⟨(zw_in 404 (by decide +kernel) (by decide +kernel)), (zw_in 405 (by decide +kernel) (by decide +kernel))⟩
theorem zk_L_10 : Cond.classLink RL 10 RX8 ∈ zw := (zw_in 407 (by decide +kernel) (by decide +kernel))
theorem zn_L_10 : zn RL 10 6 20 [.null, .null, .int 0, .int 0, .long 0, .int 0, .int 0, .null, .int 0, .null, .null, .null, .int 0, .null, .int 0, .null, .int 0, .null, .int 0, .int 0] := ⟨_, _, tyX8, rfl, zu_X8, tyX8_ok, zk_L_10, (zw_in 408 (by decide +kernel) (by decide +kernel)), (zw_in 38 (by decide +kernel) (by decide +kernel)), fun j hj => by rcases (show j = 0 ∨ j = 1 ∨ j = 2 ∨ j = 3 ∨ j = 4 ∨ j = 5 ∨ j = 6 ∨ j = 7 ∨ j = 8 ∨ j = 9 ∨ j = 10 ∨ j = 11 ∨ j = 12 ∨ j = 13 ∨ j = 14 ∨ j = 15 ∨ j = 16 ∨ j = 17 ∨ j = 18 ∨ j = 19 by omega) with rfl | rfl | rfl | rfl | rfl | rfl | rfl | rfl | rfl | rfl | rfl | rfl | rfl | rfl | rfl | rfl | rfl | rfl | rfl | rfl <;> rfl⟩
theorem zm_L_12 : zm RL 12 yX8_init cX8_init 1 none 0 := ⟨(zw_in 411 (by decide +kernel) (by decide +kernel)), Or.inl (zw_in 409 (by decide +kernel) (by decide +kernel)), (zw_in 38 (by decide +kernel) (by decide +kernel)), by decide +kernel, by decide⟩
theorem zkyX8_init : yX8_init.name = "<init>" ∧ Cond.instanceMethod yX8_init ∈ zw := ⟨rfl, (zw_in 410 (by decide +kernel) (by decide +kernel))⟩
theorem zo_X8_1 : Cond.methodLink RX8 1 objectInit ∈ zw := (zw_in 412 (by decide +kernel) (by decide +kernel))
theorem zq_X8_26 : Cond.constant RX8 26 (80000) ∈ zw := (zw_in 413 (by decide +kernel) (by decide +kernel))
theorem za_boolean : Cond.arrayClass .boolean ∈ zw := (zw_in 475 (by decide +kernel) (by decide +kernel))
theorem zm_L_17 : zm RL 17 yX8_rack cX8_rack 4 (some .int) 3 := ⟨(zw_in 479 (by decide +kernel) (by decide +kernel)), Or.inl (zw_in 476 (by decide +kernel) (by decide +kernel)), (zw_in 38 (by decide +kernel) (by decide +kernel)), by decide +kernel, by decide⟩
theorem zkyX8_rack : Cond.instanceMethod yX8_rack ∈ zw ∧ Cond.selects yX8_rack.cls yX8_rack yX8_rack ∈ zw := ⟨(zw_in 477 (by decide +kernel) (by decide +kernel)), (zw_in 478 (by decide +kernel) (by decide +kernel))⟩
theorem zm_X8_57 : zm RX8 57 yX8_no cX8_no 1 (some .boolean) 1 := ⟨(zw_in 482 (by decide +kernel) (by decide +kernel)), Or.inl (zw_in 480 (by decide +kernel) (by decide +kernel)), (zw_in 38 (by decide +kernel) (by decide +kernel)), by decide +kernel, by decide⟩
theorem zkyX8_no : Cond.static yX8_no ∈ zw := (zw_in 481 (by decide +kernel) (by decide +kernel))
theorem zq_X8_40 : Cond.constantLong RX8 40 (9) ∈ zw := (zw_in 483 (by decide +kernel) (by decide +kernel))
theorem zm_X8_42 : zm RX8 42 yX8_beyond cX8_beyond 6 (some .boolean) 3 := ⟨(zw_in 486 (by decide +kernel) (by decide +kernel)), Or.inl (zw_in 484 (by decide +kernel) (by decide +kernel)), (zw_in 38 (by decide +kernel) (by decide +kernel)), by decide +kernel, by decide⟩
theorem zkyX8_beyond : Cond.static yX8_beyond ∈ zw := (zw_in 485 (by decide +kernel) (by decide +kernel))
theorem zq_X8_61 : Cond.constantLong RX8 61 (10) ∈ zw := (zw_in 487 (by decide +kernel) (by decide +kernel))
theorem zq_X8_63 : Cond.constantLong RX8 63 (16) ∈ zw := (zw_in 488 (by decide +kernel) (by decide +kernel))
theorem zm_X8_65 : zm RX8 65 yX8_newRow cX8_newRow 4 (some .int) 2 := ⟨(zw_in 492 (by decide +kernel) (by decide +kernel)), Or.inl (zw_in 489 (by decide +kernel) (by decide +kernel)), (zw_in 38 (by decide +kernel) (by decide +kernel)), by decide +kernel, by decide⟩
theorem zkyX8_newRow : Cond.instanceMethod yX8_newRow ∈ zw ∧ Cond.selects yX8_newRow.cls yX8_newRow yX8_newRow ∈ zw := ⟨(zw_in 491 (by decide +kernel) (by decide +kernel)), (zw_in 12 (by decide +kernel) (by decide +kernel))⟩
theorem zm_L_22 : zm RL 22 yX8_hang cX8_hang 2 (some .int) 1 := ⟨(zw_in 496 (by decide +kernel) (by decide +kernel)), Or.inl (zw_in 493 (by decide +kernel) (by decide +kernel)), (zw_in 38 (by decide +kernel) (by decide +kernel)), by decide +kernel, by decide⟩
theorem zkyX8_hang : Cond.instanceMethod yX8_hang ∈ zw ∧ Cond.selects yX8_hang.cls yX8_hang yX8_hang ∈ zw := ⟨(zw_in 494 (by decide +kernel) (by decide +kernel)), (zw_in 495 (by decide +kernel) (by decide +kernel))⟩
theorem zm_L_27 : zm RL 27 yX8_share cX8_share 3 (some .int) 2 := ⟨(zw_in 500 (by decide +kernel) (by decide +kernel)), Or.inl (zw_in 497 (by decide +kernel) (by decide +kernel)), (zw_in 38 (by decide +kernel) (by decide +kernel)), by decide +kernel, by decide⟩
theorem zkyX8_share : Cond.instanceMethod yX8_share ∈ zw ∧ Cond.selects yX8_share.cls yX8_share yX8_share ∈ zw := ⟨(zw_in 498 (by decide +kernel) (by decide +kernel)), (zw_in 499 (by decide +kernel) (by decide +kernel))⟩
theorem zm_L_31 : zm RL 31 yX8_empty cX8_empty 2 (some .int) 1 := ⟨(zw_in 504 (by decide +kernel) (by decide +kernel)), Or.inl (zw_in 501 (by decide +kernel) (by decide +kernel)), (zw_in 38 (by decide +kernel) (by decide +kernel)), by decide +kernel, by decide⟩
theorem zkyX8_empty : Cond.instanceMethod yX8_empty ∈ zw ∧ Cond.selects yX8_empty.cls yX8_empty yX8_empty ∈ zw := ⟨(zw_in 502 (by decide +kernel) (by decide +kernel)), (zw_in 503 (by decide +kernel) (by decide +kernel))⟩
theorem zm_L_38 : zm RL 38 yX8_gauge cX8_gauge 4 (some .int) 2 := ⟨(zw_in 508 (by decide +kernel) (by decide +kernel)), Or.inl (zw_in 505 (by decide +kernel) (by decide +kernel)), (zw_in 38 (by decide +kernel) (by decide +kernel)), by decide +kernel, by decide⟩
theorem zkyX8_gauge : Cond.instanceMethod yX8_gauge ∈ zw ∧ Cond.selects yX8_gauge.cls yX8_gauge yX8_gauge ∈ zw := ⟨(zw_in 506 (by decide +kernel) (by decide +kernel)), (zw_in 507 (by decide +kernel) (by decide +kernel))⟩
theorem zq_X8_82 : Cond.constantLong RX8 82 (7) ∈ zw := (zw_in 509 (by decide +kernel) (by decide +kernel))
theorem zm_X8_84 : zm RX8 84 yX8_as cX8_as 3 (some .long) 2 := ⟨(zw_in 512 (by decide +kernel) (by decide +kernel)), Or.inl (zw_in 510 (by decide +kernel) (by decide +kernel)), (zw_in 38 (by decide +kernel) (by decide +kernel)), by decide +kernel, by decide⟩
theorem zkyX8_as : Cond.static yX8_as ∈ zw := (zw_in 511 (by decide +kernel) (by decide +kernel))
theorem zm_X8_88 : zm RX8 88 yX8_hold cX8_hold 4 none 2 := ⟨(zw_in 516 (by decide +kernel) (by decide +kernel)), Or.inl (zw_in 513 (by decide +kernel) (by decide +kernel)), (zw_in 38 (by decide +kernel) (by decide +kernel)), by decide +kernel, by decide⟩
theorem zkyX8_hold : Cond.instanceMethod yX8_hold ∈ zw ∧ Cond.selects yX8_hold.cls yX8_hold yX8_hold ∈ zw := ⟨(zw_in 515 (by decide +kernel) (by decide +kernel)), (zw_in 13 (by decide +kernel) (by decide +kernel))⟩
theorem zm_L_43 : zm RL 43 yX8_probe cX8_probe 2 (some .int) 1 := ⟨(zw_in 520 (by decide +kernel) (by decide +kernel)), Or.inl (zw_in 517 (by decide +kernel) (by decide +kernel)), (zw_in 38 (by decide +kernel) (by decide +kernel)), by decide +kernel, by decide⟩
theorem zkyX8_probe : Cond.instanceMethod yX8_probe ∈ zw ∧ Cond.selects yX8_probe.cls yX8_probe yX8_probe ∈ zw := ⟨(zw_in 518 (by decide +kernel) (by decide +kernel)), (zw_in 519 (by decide +kernel) (by decide +kernel))⟩
theorem zm_L_47 : zm RL 47 yX8_line cX8_line 2 (some .int) 1 := ⟨(zw_in 524 (by decide +kernel) (by decide +kernel)), Or.inl (zw_in 521 (by decide +kernel) (by decide +kernel)), (zw_in 38 (by decide +kernel) (by decide +kernel)), by decide +kernel, by decide⟩
theorem zkyX8_line : Cond.instanceMethod yX8_line ∈ zw ∧ Cond.selects yX8_line.cls yX8_line yX8_line ∈ zw := ⟨(zw_in 522 (by decide +kernel) (by decide +kernel)), (zw_in 523 (by decide +kernel) (by decide +kernel))⟩
theorem zq_X8_95 : Cond.constantLong RX8 95 (4) ∈ zw := (zw_in 525 (by decide +kernel) (by decide +kernel))
theorem zm_L_52 : zm RL 52 yX8_none cX8_none 1 (some .int) 0 := ⟨(zw_in 529 (by decide +kernel) (by decide +kernel)), Or.inl (zw_in 526 (by decide +kernel) (by decide +kernel)), (zw_in 38 (by decide +kernel) (by decide +kernel)), by decide +kernel, by decide⟩
theorem zkyX8_none : Cond.instanceMethod yX8_none ∈ zw ∧ Cond.selects yX8_none.cls yX8_none yX8_none ∈ zw := ⟨(zw_in 527 (by decide +kernel) (by decide +kernel)), (zw_in 528 (by decide +kernel) (by decide +kernel))⟩
theorem zm_L_56 : zm RL 56 yX8_get cX8_get 4 (some .int) 2 := ⟨(zw_in 533 (by decide +kernel) (by decide +kernel)), Or.inl (zw_in 530 (by decide +kernel) (by decide +kernel)), (zw_in 38 (by decide +kernel) (by decide +kernel)), by decide +kernel, by decide⟩
theorem zkyX8_get : Cond.instanceMethod yX8_get ∈ zw ∧ Cond.selects yX8_get.cls yX8_get yX8_get ∈ zw := ⟨(zw_in 531 (by decide +kernel) (by decide +kernel)), (zw_in 532 (by decide +kernel) (by decide +kernel))⟩
theorem zm_X8_115 : zm RX8 115 yX8_doGet cX8_doGet 4 (some .int) 2 := ⟨(zw_in 537 (by decide +kernel) (by decide +kernel)), Or.inl (zw_in 534 (by decide +kernel) (by decide +kernel)), (zw_in 38 (by decide +kernel) (by decide +kernel)), by decide +kernel, by decide⟩
theorem zkyX8_doGet : Cond.instanceMethod yX8_doGet ∈ zw ∧ Cond.selects yX8_doGet.cls yX8_doGet yX8_doGet ∈ zw := ⟨(zw_in 536 (by decide +kernel) (by decide +kernel)), (zw_in 14 (by decide +kernel) (by decide +kernel))⟩
theorem zm_X8_107 : zm RX8 107 yX8_getFault cX8_getFault 4 (some .int) 3 := ⟨(zw_in 541 (by decide +kernel) (by decide +kernel)), Or.inl (zw_in 538 (by decide +kernel) (by decide +kernel)), (zw_in 38 (by decide +kernel) (by decide +kernel)), by decide +kernel, by decide⟩
theorem zkyX8_getFault : Cond.instanceMethod yX8_getFault ∈ zw ∧ Cond.selects yX8_getFault.cls yX8_getFault yX8_getFault ∈ zw := ⟨(zw_in 540 (by decide +kernel) (by decide +kernel)), (zw_in 15 (by decide +kernel) (by decide +kernel))⟩
theorem zm_X8_111 : zm RX8 111 yX8_gets cX8_gets 6 none 2 := ⟨(zw_in 545 (by decide +kernel) (by decide +kernel)), Or.inl (zw_in 542 (by decide +kernel) (by decide +kernel)), (zw_in 38 (by decide +kernel) (by decide +kernel)), by decide +kernel, by decide⟩
theorem zkyX8_gets : Cond.instanceMethod yX8_gets ∈ zw ∧ Cond.selects yX8_gets.cls yX8_gets yX8_gets ∈ zw := ⟨(zw_in 544 (by decide +kernel) (by decide +kernel)), (zw_in 16 (by decide +kernel) (by decide +kernel))⟩
theorem zm_X8_118 : zm RX8 118 yX8_has cX8_has 1 (some .int) 0 := ⟨(zw_in 549 (by decide +kernel) (by decide +kernel)), Or.inl (zw_in 546 (by decide +kernel) (by decide +kernel)), (zw_in 38 (by decide +kernel) (by decide +kernel)), by decide +kernel, by decide⟩
theorem zkyX8_has : Cond.instanceMethod yX8_has ∈ zw ∧ Cond.selects yX8_has.cls yX8_has yX8_has ∈ zw := ⟨(zw_in 547 (by decide +kernel) (by decide +kernel)), (zw_in 548 (by decide +kernel) (by decide +kernel))⟩
theorem zm_X8_121 : zm RX8 121 yX8_answer cX8_answer 3 (some .int) 2 := ⟨(zw_in 553 (by decide +kernel) (by decide +kernel)), Or.inl (zw_in 550 (by decide +kernel) (by decide +kernel)), (zw_in 38 (by decide +kernel) (by decide +kernel)), by decide +kernel, by decide⟩
theorem zkyX8_answer : Cond.instanceMethod yX8_answer ∈ zw ∧ Cond.selects yX8_answer.cls yX8_answer yX8_answer ∈ zw := ⟨(zw_in 552 (by decide +kernel) (by decide +kernel)), (zw_in 17 (by decide +kernel) (by decide +kernel))⟩
theorem zm_X8_50 : zm RX8 50 yX8_met1 cX8_met1 2 (some .int) 1 := ⟨(zw_in 557 (by decide +kernel) (by decide +kernel)), Or.inl (zw_in 554 (by decide +kernel) (by decide +kernel)), (zw_in 38 (by decide +kernel) (by decide +kernel)), by decide +kernel, by decide⟩
theorem zkyX8_met1 : Cond.instanceMethod yX8_met1 ∈ zw ∧ Cond.selects yX8_met1.cls yX8_met1 yX8_met1 ∈ zw := ⟨(zw_in 556 (by decide +kernel) (by decide +kernel)), (zw_in 18 (by decide +kernel) (by decide +kernel))⟩
theorem zm_L_60 : zm RL 60 yX8_set cX8_set 3 (some .int) 2 := ⟨(zw_in 561 (by decide +kernel) (by decide +kernel)), Or.inl (zw_in 558 (by decide +kernel) (by decide +kernel)), (zw_in 38 (by decide +kernel) (by decide +kernel)), by decide +kernel, by decide⟩
theorem zkyX8_set : Cond.instanceMethod yX8_set ∈ zw ∧ Cond.selects yX8_set.cls yX8_set yX8_set ∈ zw := ⟨(zw_in 559 (by decide +kernel) (by decide +kernel)), (zw_in 560 (by decide +kernel) (by decide +kernel))⟩
theorem zm_X8_127 : zm RX8 127 yX8_doSet cX8_doSet 5 (some .int) 2 := ⟨(zw_in 565 (by decide +kernel) (by decide +kernel)), Or.inl (zw_in 562 (by decide +kernel) (by decide +kernel)), (zw_in 38 (by decide +kernel) (by decide +kernel)), by decide +kernel, by decide⟩
theorem zkyX8_doSet : Cond.instanceMethod yX8_doSet ∈ zw ∧ Cond.selects yX8_doSet.cls yX8_doSet yX8_doSet ∈ zw := ⟨(zw_in 564 (by decide +kernel) (by decide +kernel)), (zw_in 19 (by decide +kernel) (by decide +kernel))⟩
theorem zm_X8_124 : zm RX8 124 yX8_setFault cX8_setFault 4 (some .int) 2 := ⟨(zw_in 569 (by decide +kernel) (by decide +kernel)), Or.inl (zw_in 566 (by decide +kernel) (by decide +kernel)), (zw_in 38 (by decide +kernel) (by decide +kernel)), by decide +kernel, by decide⟩
theorem zkyX8_setFault : Cond.instanceMethod yX8_setFault ∈ zw ∧ Cond.selects yX8_setFault.cls yX8_setFault yX8_setFault ∈ zw := ⟨(zw_in 568 (by decide +kernel) (by decide +kernel)), (zw_in 20 (by decide +kernel) (by decide +kernel))⟩
theorem zm_X8_97 : zm RX8 97 yX8_isNumbers cX8_isNumbers 2 (some .boolean) 1 := ⟨(zw_in 573 (by decide +kernel) (by decide +kernel)), Or.inl (zw_in 570 (by decide +kernel) (by decide +kernel)), (zw_in 38 (by decide +kernel) (by decide +kernel)), by decide +kernel, by decide⟩
theorem zkyX8_isNumbers : Cond.instanceMethod yX8_isNumbers ∈ zw ∧ Cond.selects yX8_isNumbers.cls yX8_isNumbers yX8_isNumbers ∈ zw := ⟨(zw_in 572 (by decide +kernel) (by decide +kernel)), (zw_in 21 (by decide +kernel) (by decide +kernel))⟩
theorem zm_X8_104 : zm RX8 104 yX8_unfit cX8_unfit 3 (some .boolean) 1 := ⟨(zw_in 577 (by decide +kernel) (by decide +kernel)), Or.inl (zw_in 574 (by decide +kernel) (by decide +kernel)), (zw_in 38 (by decide +kernel) (by decide +kernel)), by decide +kernel, by decide⟩
theorem zkyX8_unfit : Cond.instanceMethod yX8_unfit ∈ zw ∧ Cond.selects yX8_unfit.cls yX8_unfit yX8_unfit ∈ zw := ⟨(zw_in 576 (by decide +kernel) (by decide +kernel)), (zw_in 22 (by decide +kernel) (by decide +kernel))⟩
theorem zm_X8_100 : zm RX8 100 yX8_goes cX8_goes 2 (some .boolean) 2 := ⟨(zw_in 580 (by decide +kernel) (by decide +kernel)), Or.inl (zw_in 578 (by decide +kernel) (by decide +kernel)), (zw_in 38 (by decide +kernel) (by decide +kernel)), by decide +kernel, by decide⟩
theorem zkyX8_goes : Cond.static yX8_goes ∈ zw := (zw_in 579 (by decide +kernel) (by decide +kernel))
theorem zm_L_64 : zm RL 64 yX8_read cX8_read 4 (some .int) 3 := ⟨(zw_in 584 (by decide +kernel) (by decide +kernel)), Or.inl (zw_in 581 (by decide +kernel) (by decide +kernel)), (zw_in 38 (by decide +kernel) (by decide +kernel)), by decide +kernel, by decide⟩
theorem zkyX8_read : Cond.instanceMethod yX8_read ∈ zw ∧ Cond.selects yX8_read.cls yX8_read yX8_read ∈ zw := ⟨(zw_in 582 (by decide +kernel) (by decide +kernel)), (zw_in 583 (by decide +kernel) (by decide +kernel))⟩
theorem zm_X8_134 : zm RX8 134 yX8_doRead cX8_doRead 6 (some .int) 4 := ⟨(zw_in 588 (by decide +kernel) (by decide +kernel)), Or.inl (zw_in 585 (by decide +kernel) (by decide +kernel)), (zw_in 38 (by decide +kernel) (by decide +kernel)), by decide +kernel, by decide⟩
theorem zkyX8_doRead : Cond.instanceMethod yX8_doRead ∈ zw ∧ Cond.selects yX8_doRead.cls yX8_doRead yX8_doRead ∈ zw := ⟨(zw_in 587 (by decide +kernel) (by decide +kernel)), (zw_in 23 (by decide +kernel) (by decide +kernel))⟩
theorem zm_X8_130 : zm RX8 130 yX8_readFault cX8_readFault 5 (some .int) 4 := ⟨(zw_in 592 (by decide +kernel) (by decide +kernel)), Or.inl (zw_in 589 (by decide +kernel) (by decide +kernel)), (zw_in 38 (by decide +kernel) (by decide +kernel)), by decide +kernel, by decide⟩
theorem zkyX8_readFault : Cond.instanceMethod yX8_readFault ∈ zw ∧ Cond.selects yX8_readFault.cls yX8_readFault yX8_readFault ∈ zw := ⟨(zw_in 591 (by decide +kernel) (by decide +kernel)), (zw_in 24 (by decide +kernel) (by decide +kernel))⟩
theorem zm_L_68 : zm RL 68 yX8_write cX8_write 4 (some .int) 3 := ⟨(zw_in 596 (by decide +kernel) (by decide +kernel)), Or.inl (zw_in 593 (by decide +kernel) (by decide +kernel)), (zw_in 38 (by decide +kernel) (by decide +kernel)), by decide +kernel, by decide⟩
theorem zkyX8_write : Cond.instanceMethod yX8_write ∈ zw ∧ Cond.selects yX8_write.cls yX8_write yX8_write ∈ zw := ⟨(zw_in 594 (by decide +kernel) (by decide +kernel)), (zw_in 595 (by decide +kernel) (by decide +kernel))⟩
theorem zm_X8_140 : zm RX8 140 yX8_doWrite cX8_doWrite 8 (some .int) 5 := ⟨(zw_in 600 (by decide +kernel) (by decide +kernel)), Or.inl (zw_in 597 (by decide +kernel) (by decide +kernel)), (zw_in 38 (by decide +kernel) (by decide +kernel)), by decide +kernel, by decide⟩
theorem zkyX8_doWrite : Cond.instanceMethod yX8_doWrite ∈ zw ∧ Cond.selects yX8_doWrite.cls yX8_doWrite yX8_doWrite ∈ zw := ⟨(zw_in 599 (by decide +kernel) (by decide +kernel)), (zw_in 25 (by decide +kernel) (by decide +kernel))⟩
theorem zm_X8_137 : zm RX8 137 yX8_writeFault cX8_writeFault 5 (some .int) 4 := ⟨(zw_in 604 (by decide +kernel) (by decide +kernel)), Or.inl (zw_in 601 (by decide +kernel) (by decide +kernel)), (zw_in 38 (by decide +kernel) (by decide +kernel)), by decide +kernel, by decide⟩
theorem zkyX8_writeFault : Cond.instanceMethod yX8_writeFault ∈ zw ∧ Cond.selects yX8_writeFault.cls yX8_writeFault yX8_writeFault ∈ zw := ⟨(zw_in 603 (by decide +kernel) (by decide +kernel)), (zw_in 26 (by decide +kernel) (by decide +kernel))⟩
theorem zm_L_72 : zm RL 72 yX8_size cX8_size 3 (some .int) 1 := ⟨(zw_in 608 (by decide +kernel) (by decide +kernel)), Or.inl (zw_in 605 (by decide +kernel) (by decide +kernel)), (zw_in 38 (by decide +kernel) (by decide +kernel)), by decide +kernel, by decide⟩
theorem zkyX8_size : Cond.instanceMethod yX8_size ∈ zw ∧ Cond.selects yX8_size.cls yX8_size yX8_size ∈ zw := ⟨(zw_in 606 (by decide +kernel) (by decide +kernel)), (zw_in 607 (by decide +kernel) (by decide +kernel))⟩
theorem zm_X8_144 : zm RX8 144 yX8_sizeFault cX8_sizeFault 2 (some .int) 1 := ⟨(zw_in 612 (by decide +kernel) (by decide +kernel)), Or.inl (zw_in 609 (by decide +kernel) (by decide +kernel)), (zw_in 38 (by decide +kernel) (by decide +kernel)), by decide +kernel, by decide⟩
theorem zkyX8_sizeFault : Cond.instanceMethod yX8_sizeFault ∈ zw ∧ Cond.selects yX8_sizeFault.cls yX8_sizeFault yX8_sizeFault ∈ zw := ⟨(zw_in 611 (by decide +kernel) (by decide +kernel)), (zw_in 27 (by decide +kernel) (by decide +kernel))⟩
theorem zm_L_76 : zm RL 76 yX8_within cX8_within 4 (some .int) 3 := ⟨(zw_in 616 (by decide +kernel) (by decide +kernel)), Or.inl (zw_in 613 (by decide +kernel) (by decide +kernel)), (zw_in 38 (by decide +kernel) (by decide +kernel)), by decide +kernel, by decide⟩
theorem zkyX8_within : Cond.instanceMethod yX8_within ∈ zw ∧ Cond.selects yX8_within.cls yX8_within yX8_within ∈ zw := ⟨(zw_in 614 (by decide +kernel) (by decide +kernel)), (zw_in 615 (by decide +kernel) (by decide +kernel))⟩
theorem zm_X8_156 : zm RX8 156 yX8_doWithin cX8_doWithin 5 (some .int) 3 := ⟨(zw_in 620 (by decide +kernel) (by decide +kernel)), Or.inl (zw_in 617 (by decide +kernel) (by decide +kernel)), (zw_in 38 (by decide +kernel) (by decide +kernel)), by decide +kernel, by decide⟩
theorem zkyX8_doWithin : Cond.instanceMethod yX8_doWithin ∈ zw ∧ Cond.selects yX8_doWithin.cls yX8_doWithin yX8_doWithin ∈ zw := ⟨(zw_in 619 (by decide +kernel) (by decide +kernel)), (zw_in 28 (by decide +kernel) (by decide +kernel))⟩
theorem zm_X8_153 : zm RX8 153 yX8_finds cX8_finds 7 (some .int) 2 := ⟨(zw_in 624 (by decide +kernel) (by decide +kernel)), Or.inl (zw_in 621 (by decide +kernel) (by decide +kernel)), (zw_in 38 (by decide +kernel) (by decide +kernel)), by decide +kernel, by decide⟩
theorem zkyX8_finds : Cond.instanceMethod yX8_finds ∈ zw ∧ Cond.selects yX8_finds.cls yX8_finds yX8_finds ∈ zw := ⟨(zw_in 623 (by decide +kernel) (by decide +kernel)), (zw_in 29 (by decide +kernel) (by decide +kernel))⟩
theorem zm_L_81 : zm RL 81 yX8_into cX8_into 6 (some .int) 4 := ⟨(zw_in 628 (by decide +kernel) (by decide +kernel)), Or.inl (zw_in 625 (by decide +kernel) (by decide +kernel)), (zw_in 38 (by decide +kernel) (by decide +kernel)), by decide +kernel, by decide⟩
theorem zkyX8_into : Cond.instanceMethod yX8_into ∈ zw ∧ Cond.selects yX8_into.cls yX8_into yX8_into ∈ zw := ⟨(zw_in 626 (by decide +kernel) (by decide +kernel)), (zw_in 627 (by decide +kernel) (by decide +kernel))⟩
theorem zm_L_85 : zm RL 85 yX8_pass cX8_pass 7 (some .int) 3 := ⟨(zw_in 632 (by decide +kernel) (by decide +kernel)), Or.inl (zw_in 629 (by decide +kernel) (by decide +kernel)), (zw_in 38 (by decide +kernel) (by decide +kernel)), by decide +kernel, by decide⟩
theorem zkyX8_pass : Cond.instanceMethod yX8_pass ∈ zw ∧ Cond.selects yX8_pass.cls yX8_pass yX8_pass ∈ zw := ⟨(zw_in 630 (by decide +kernel) (by decide +kernel)), (zw_in 631 (by decide +kernel) (by decide +kernel))⟩
theorem zm_L_89 : zm RL 89 yX8_takes cX8_takes 2 (some .int) 1 := ⟨(zw_in 636 (by decide +kernel) (by decide +kernel)), Or.inl (zw_in 633 (by decide +kernel) (by decide +kernel)), (zw_in 38 (by decide +kernel) (by decide +kernel)), by decide +kernel, by decide⟩
theorem zkyX8_takes : Cond.instanceMethod yX8_takes ∈ zw ∧ Cond.selects yX8_takes.cls yX8_takes yX8_takes ∈ zw := ⟨(zw_in 634 (by decide +kernel) (by decide +kernel)), (zw_in 635 (by decide +kernel) (by decide +kernel))⟩
theorem zm_X8_162 : zm RX8 162 yX8_kinds cX8_kinds 7 (some .int) 2 := ⟨(zw_in 640 (by decide +kernel) (by decide +kernel)), Or.inl (zw_in 637 (by decide +kernel) (by decide +kernel)), (zw_in 38 (by decide +kernel) (by decide +kernel)), by decide +kernel, by decide⟩
theorem zkyX8_kinds : Cond.instanceMethod yX8_kinds ∈ zw ∧ Cond.selects yX8_kinds.cls yX8_kinds yX8_kinds ∈ zw := ⟨(zw_in 639 (by decide +kernel) (by decide +kernel)), (zw_in 30 (by decide +kernel) (by decide +kernel))⟩
theorem zm_X8_159 : zm RX8 159 yX8_firstFault cX8_firstFault 3 (some .int) 1 := ⟨(zw_in 644 (by decide +kernel) (by decide +kernel)), Or.inl (zw_in 641 (by decide +kernel) (by decide +kernel)), (zw_in 38 (by decide +kernel) (by decide +kernel)), by decide +kernel, by decide⟩
theorem zkyX8_firstFault : Cond.instanceMethod yX8_firstFault ∈ zw ∧ Cond.selects yX8_firstFault.cls yX8_firstFault yX8_firstFault ∈ zw := ⟨(zw_in 643 (by decide +kernel) (by decide +kernel)), (zw_in 31 (by decide +kernel) (by decide +kernel))⟩
theorem zm_L_93 : zm RL 93 yX8_gives cX8_gives 2 (some .int) 1 := ⟨(zw_in 648 (by decide +kernel) (by decide +kernel)), Or.inl (zw_in 645 (by decide +kernel) (by decide +kernel)), (zw_in 38 (by decide +kernel) (by decide +kernel)), by decide +kernel, by decide⟩
theorem zkyX8_gives : Cond.instanceMethod yX8_gives ∈ zw ∧ Cond.selects yX8_gives.cls yX8_gives yX8_gives ∈ zw := ⟨(zw_in 646 (by decide +kernel) (by decide +kernel)), (zw_in 647 (by decide +kernel) (by decide +kernel))⟩
theorem zm_L_98 : zm RL 98 yX8_step cX8_step 7 (some .int) 5 := ⟨(zw_in 652 (by decide +kernel) (by decide +kernel)), Or.inl (zw_in 649 (by decide +kernel) (by decide +kernel)), (zw_in 38 (by decide +kernel) (by decide +kernel)), by decide +kernel, by decide⟩
theorem zkyX8_step : Cond.instanceMethod yX8_step ∈ zw ∧ Cond.selects yX8_step.cls yX8_step yX8_step ∈ zw := ⟨(zw_in 650 (by decide +kernel) (by decide +kernel)), (zw_in 651 (by decide +kernel) (by decide +kernel))⟩
theorem zq_X8_166 : Cond.constantLong RX8 166 (5) ∈ zw := (zw_in 653 (by decide +kernel) (by decide +kernel))
theorem zq_X8_168 : Cond.constantLong RX8 168 (-1) ∈ zw := (zw_in 654 (by decide +kernel) (by decide +kernel))
theorem zm_L_102 : zm RL 102 yX8_run cX8_run 5 (some .int) 1 := ⟨(zw_in 658 (by decide +kernel) (by decide +kernel)), Or.inl (zw_in 655 (by decide +kernel) (by decide +kernel)), (zw_in 38 (by decide +kernel) (by decide +kernel)), by decide +kernel, by decide⟩
theorem zkyX8_run : Cond.instanceMethod yX8_run ∈ zw ∧ Cond.selects yX8_run.cls yX8_run yX8_run ∈ zw := ⟨(zw_in 656 (by decide +kernel) (by decide +kernel)), (zw_in 657 (by decide +kernel) (by decide +kernel))⟩
theorem zm_X8_179 : zm RX8 179 yX8_does cX8_does 5 (some .int) 1 := ⟨(zw_in 662 (by decide +kernel) (by decide +kernel)), Or.inl (zw_in 659 (by decide +kernel) (by decide +kernel)), (zw_in 38 (by decide +kernel) (by decide +kernel)), by decide +kernel, by decide⟩
theorem zkyX8_does : Cond.instanceMethod yX8_does ∈ zw ∧ Cond.selects yX8_does.cls yX8_does yX8_does ∈ zw := ⟨(zw_in 661 (by decide +kernel) (by decide +kernel)), (zw_in 32 (by decide +kernel) (by decide +kernel))⟩
theorem zm_X8_173 : zm RX8 173 yX8_moves cX8_moves 11 (some .int) 4 := ⟨(zw_in 666 (by decide +kernel) (by decide +kernel)), Or.inl (zw_in 663 (by decide +kernel) (by decide +kernel)), (zw_in 38 (by decide +kernel) (by decide +kernel)), by decide +kernel, by decide⟩
theorem zkyX8_moves : Cond.instanceMethod yX8_moves ∈ zw ∧ Cond.selects yX8_moves.cls yX8_moves yX8_moves ∈ zw := ⟨(zw_in 665 (by decide +kernel) (by decide +kernel)), (zw_in 33 (by decide +kernel) (by decide +kernel))⟩
theorem zm_L_106 : zm RL 106 yX8_met cX8_met 2 (some .int) 1 := ⟨(zw_in 670 (by decide +kernel) (by decide +kernel)), Or.inl (zw_in 667 (by decide +kernel) (by decide +kernel)), (zw_in 38 (by decide +kernel) (by decide +kernel)), by decide +kernel, by decide⟩
theorem zkyX8_met : Cond.instanceMethod yX8_met ∈ zw ∧ Cond.selects yX8_met.cls yX8_met yX8_met ∈ zw := ⟨(zw_in 668 (by decide +kernel) (by decide +kernel)), (zw_in 669 (by decide +kernel) (by decide +kernel))⟩
theorem zm_L_110 : zm RL 110 yX8_clear cX8_clear 2 (some .int) 0 := ⟨(zw_in 674 (by decide +kernel) (by decide +kernel)), Or.inl (zw_in 671 (by decide +kernel) (by decide +kernel)), (zw_in 38 (by decide +kernel) (by decide +kernel)), by decide +kernel, by decide⟩
theorem zkyX8_clear : Cond.instanceMethod yX8_clear ∈ zw ∧ Cond.selects yX8_clear.cls yX8_clear yX8_clear ∈ zw := ⟨(zw_in 672 (by decide +kernel) (by decide +kernel)), (zw_in 673 (by decide +kernel) (by decide +kernel))⟩
theorem zm_L_114 : zm RL 114 yX8_fault cX8_fault 1 (some .int) 0 := ⟨(zw_in 678 (by decide +kernel) (by decide +kernel)), Or.inl (zw_in 675 (by decide +kernel) (by decide +kernel)), (zw_in 38 (by decide +kernel) (by decide +kernel)), by decide +kernel, by decide⟩
theorem zkyX8_fault : Cond.instanceMethod yX8_fault ∈ zw ∧ Cond.selects yX8_fault.cls yX8_fault yX8_fault ∈ zw := ⟨(zw_in 676 (by decide +kernel) (by decide +kernel)), (zw_in 677 (by decide +kernel) (by decide +kernel))⟩
theorem zm_L_118 : zm RL 118 yX8_faults cX8_faults 2 (some .int) 1 := ⟨(zw_in 682 (by decide +kernel) (by decide +kernel)), Or.inl (zw_in 679 (by decide +kernel) (by decide +kernel)), (zw_in 38 (by decide +kernel) (by decide +kernel)), by decide +kernel, by decide⟩
theorem zkyX8_faults : Cond.instanceMethod yX8_faults ∈ zw ∧ Cond.selects yX8_faults.cls yX8_faults yX8_faults ∈ zw := ⟨(zw_in 680 (by decide +kernel) (by decide +kernel)), (zw_in 681 (by decide +kernel) (by decide +kernel))⟩
theorem zq_X8_182 : Cond.constantLong RX8 182 (3) ∈ zw := (zw_in 683 (by decide +kernel) (by decide +kernel))
theorem zm_L_122 : zm RL 122 yX8_has cX8_has 1 (some .int) 0 := ⟨(zw_in 549 (by decide +kernel) (by decide +kernel)), Or.inl (zw_in 684 (by decide +kernel) (by decide +kernel)), (zw_in 38 (by decide +kernel) (by decide +kernel)), by decide +kernel, by decide⟩
theorem zm_L_127 : zm RL 127 yX8_value cX8_value 1 (some .long) 0 := ⟨(zw_in 688 (by decide +kernel) (by decide +kernel)), Or.inl (zw_in 685 (by decide +kernel) (by decide +kernel)), (zw_in 38 (by decide +kernel) (by decide +kernel)), by decide +kernel, by decide⟩
theorem zkyX8_value : Cond.instanceMethod yX8_value ∈ zw ∧ Cond.selects yX8_value.cls yX8_value yX8_value ∈ zw := ⟨(zw_in 686 (by decide +kernel) (by decide +kernel)), (zw_in 687 (by decide +kernel) (by decide +kernel))⟩
theorem zm_L_131 : zm RL 131 yX8_told cX8_told 3 (some .int) 1 := ⟨(zw_in 692 (by decide +kernel) (by decide +kernel)), Or.inl (zw_in 689 (by decide +kernel) (by decide +kernel)), (zw_in 38 (by decide +kernel) (by decide +kernel)), by decide +kernel, by decide⟩
theorem zkyX8_told : Cond.instanceMethod yX8_told ∈ zw ∧ Cond.selects yX8_told.cls yX8_told yX8_told ∈ zw := ⟨(zw_in 690 (by decide +kernel) (by decide +kernel)), (zw_in 691 (by decide +kernel) (by decide +kernel))⟩
theorem zm_L_135 : zm RL 135 yX8_same cX8_same 4 (some .int) 1 := ⟨(zw_in 696 (by decide +kernel) (by decide +kernel)), Or.inl (zw_in 693 (by decide +kernel) (by decide +kernel)), (zw_in 38 (by decide +kernel) (by decide +kernel)), by decide +kernel, by decide⟩
theorem zkyX8_same : Cond.instanceMethod yX8_same ∈ zw ∧ Cond.selects yX8_same.cls yX8_same yX8_same ∈ zw := ⟨(zw_in 694 (by decide +kernel) (by decide +kernel)), (zw_in 695 (by decide +kernel) (by decide +kernel))⟩
theorem zq_L_32 : Cond.constantLong RL 32 (4294967295) ∈ zw := (zw_in 697 (by decide +kernel) (by decide +kernel))
theorem zo_i : Cond.instanceMethod objectInit ∈ zw := (zw_in 50 (by decide +kernel) (by decide +kernel))
theorem zo_c : Cond.code objectInit ⟨#[0xb1]⟩ 1 none ∈ zw := (zw_in 51 (by decide +kernel) (by decide +kernel))
