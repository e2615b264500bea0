/-! what the tables say of fields and methods (by program) -/
theorem uiX0 : ∀ w ∈ u_ws RX0 TX0 12, w ∈ gtbl := by
  have h : ∀ w ∈ u_ws RX0 TX0 12, w ∈ tables_1 ∧ goodWord w = true := by decide +kernel
  exact fun w hw => List.mem_filter.mpr ⟨List.mem_append_right _ (h w hw).1, (h w hw).2⟩
theorem uiX1 : ∀ w ∈ u_ws RX1 TX1 2, w ∈ gtbl := by
  have h : ∀ w ∈ u_ws RX1 TX1 2, w ∈ tables_1 ∧ goodWord w = true := by decide +kernel
  exact fun w hw => List.mem_filter.mpr ⟨List.mem_append_right _ (h w hw).1, (h w hw).2⟩
theorem uiX2 : ∀ w ∈ u_ws RX2 TX2 4, w ∈ gtbl := by
  have h : ∀ w ∈ u_ws RX2 TX2 4, w ∈ tables_1 ∧ goodWord w = true := by decide +kernel
  exact fun w hw => List.mem_filter.mpr ⟨List.mem_append_right _ (h w hw).1, (h w hw).2⟩
theorem uiX3 : ∀ w ∈ u_ws RX3 TX3 1, w ∈ gtbl := by
  have h : ∀ w ∈ u_ws RX3 TX3 1, w ∈ tables_1 ∧ goodWord w = true := by decide +kernel
  exact fun w hw => List.mem_filter.mpr ⟨List.mem_append_right _ (h w hw).1, (h w hw).2⟩
theorem uiX4 : ∀ w ∈ u_ws RX4 TX4 4, w ∈ gtbl := by
  have h : ∀ w ∈ u_ws RX4 TX4 4, w ∈ tables_1 ∧ goodWord w = true := by decide +kernel
  exact fun w hw => List.mem_filter.mpr ⟨List.mem_append_right _ (h w hw).1, (h w hw).2⟩
theorem uiX5 : ∀ w ∈ u_ws RX5 TX5 8, w ∈ gtbl := by
  have h : ∀ w ∈ u_ws RX5 TX5 8, w ∈ tables_1 ∧ goodWord w = true := by decide +kernel
  exact fun w hw => List.mem_filter.mpr ⟨List.mem_append_right _ (h w hw).1, (h w hw).2⟩
theorem uiX6 : ∀ w ∈ u_ws RX6 TX6 3, w ∈ gtbl := by
  have h : ∀ w ∈ u_ws RX6 TX6 3, w ∈ tables_1 ∧ goodWord w = true := by decide +kernel
  exact fun w hw => List.mem_filter.mpr ⟨List.mem_append_right _ (h w hw).1, (h w hw).2⟩
theorem uiX7 : ∀ w ∈ u_ws RX7 TX7 5, w ∈ gtbl := by
  have h : ∀ w ∈ u_ws RX7 TX7 5, w ∈ tables_1 ∧ goodWord w = true := by decide +kernel
  exact fun w hw => List.mem_filter.mpr ⟨List.mem_append_right _ (h w hw).1, (h w hw).2⟩
theorem uiX8 : ∀ w ∈ u_ws RX8 TX8 1, w ∈ gtbl := by
  have h : ∀ w ∈ u_ws RX8 TX8 1, w ∈ tables_1 ∧ goodWord w = true := by decide +kernel
  exact fun w hw => List.mem_filter.mpr ⟨List.mem_append_right _ (h w hw).1, (h w hw).2⟩
theorem uiX9 : ∀ w ∈ u_ws RX9 TX9 1, w ∈ gtbl := by
  have h : ∀ w ∈ u_ws RX9 TX9 1, w ∈ tables_1 ∧ goodWord w = true := by decide +kernel
  exact fun w hw => List.mem_filter.mpr ⟨List.mem_append_right _ (h w hw).1, (h w hw).2⟩
theorem uiX10 : ∀ w ∈ u_ws RX10 TX10 13, w ∈ gtbl := by
  have h : ∀ w ∈ u_ws RX10 TX10 13, w ∈ tables_1 ∧ goodWord w = true := by decide +kernel
  exact fun w hw => List.mem_filter.mpr ⟨List.mem_append_right _ (h w hw).1, (h w hw).2⟩
theorem uiX11 : ∀ w ∈ u_ws RX11 TX11 32, w ∈ gtbl := by
  have h : ∀ w ∈ u_ws RX11 TX11 32, w ∈ tables_1 ∧ goodWord w = true := by decide +kernel
  exact fun w hw => List.mem_filter.mpr ⟨List.mem_append_right _ (h w hw).1, (h w hw).2⟩
theorem flX1_15 : xFL RX1 15 RX1 TX1 2 2 0 := ⟨rfl, ⟨by decide, by decide⟩, uiX1, by decide, rfl, Or.inl (gw 32 (by decide +kernel) rfl)⟩
theorem flX1_21 : xFL RX1 21 RX1 TX1 2 2 1 := ⟨rfl, ⟨by decide, by decide⟩, uiX1, by decide, rfl, Or.inl (gw 33 (by decide +kernel) rfl)⟩
theorem flX0_14 : xFL RX0 14 RX0 TX0 12 1 0 := ⟨rfl, ⟨by decide, by decide⟩, uiX0, by decide, rfl, Or.inl (gw 55 (by decide +kernel) rfl)⟩
theorem flX10_145 : xFL RX10 145 RX0 TX0 12 1 0 := ⟨rfl, ⟨by decide, by decide⟩, uiX0, by decide, rfl, Or.inr ⟨"OutOfPlace", nw 56 (by decide +kernel) rfl⟩⟩
theorem flX5_144 : xFL RX5 144 RX0 TX0 12 1 0 := ⟨rfl, ⟨by decide, by decide⟩, uiX0, by decide, rfl, Or.inr ⟨"OutOfPlace", nw 57 (by decide +kernel) rfl⟩⟩
theorem flX0_23 : xFL RX0 23 RX0 TX0 12 1 1 := ⟨rfl, ⟨by decide, by decide⟩, uiX0, by decide, rfl, Or.inl (gw 58 (by decide +kernel) rfl)⟩
theorem flX5_98 : xFL RX5 98 RX0 TX0 12 1 1 := ⟨rfl, ⟨by decide, by decide⟩, uiX0, by decide, rfl, Or.inr ⟨"OutOfPlace", nw 59 (by decide +kernel) rfl⟩⟩
theorem flX0_27 : xFL RX0 27 RX0 TX0 12 1 2 := ⟨rfl, ⟨by decide, by decide⟩, uiX0, by decide, rfl, Or.inl (gw 60 (by decide +kernel) rfl)⟩
theorem flX5_101 : xFL RX5 101 RX0 TX0 12 1 2 := ⟨rfl, ⟨by decide, by decide⟩, uiX0, by decide, rfl, Or.inr ⟨"OutOfPlace", nw 61 (by decide +kernel) rfl⟩⟩
theorem flX0_30 : xFL RX0 30 RX0 TX0 12 1 3 := ⟨rfl, ⟨by decide, by decide⟩, uiX0, by decide, rfl, Or.inl (gw 62 (by decide +kernel) rfl)⟩
theorem flX10_121 : xFL RX10 121 RX0 TX0 12 1 3 := ⟨rfl, ⟨by decide, by decide⟩, uiX0, by decide, rfl, Or.inr ⟨"OutOfPlace", nw 63 (by decide +kernel) rfl⟩⟩
theorem flX5_107 : xFL RX5 107 RX0 TX0 12 1 3 := ⟨rfl, ⟨by decide, by decide⟩, uiX0, by decide, rfl, Or.inr ⟨"OutOfPlace", nw 64 (by decide +kernel) rfl⟩⟩
theorem flX0_33 : xFL RX0 33 RX0 TX0 12 1 4 := ⟨rfl, ⟨by decide, by decide⟩, uiX0, by decide, rfl, Or.inl (gw 65 (by decide +kernel) rfl)⟩
theorem flX5_110 : xFL RX5 110 RX0 TX0 12 1 4 := ⟨rfl, ⟨by decide, by decide⟩, uiX0, by decide, rfl, Or.inr ⟨"OutOfPlace", nw 66 (by decide +kernel) rfl⟩⟩
theorem flX0_36 : xFL RX0 36 RX0 TX0 12 1 5 := ⟨rfl, ⟨by decide, by decide⟩, uiX0, by decide, rfl, Or.inl (gw 67 (by decide +kernel) rfl)⟩
theorem flX5_123 : xFL RX5 123 RX0 TX0 12 1 5 := ⟨rfl, ⟨by decide, by decide⟩, uiX0, by decide, rfl, Or.inr ⟨"OutOfPlace", nw 68 (by decide +kernel) rfl⟩⟩
theorem flX0_39 : xFL RX0 39 RX0 TX0 12 1 6 := ⟨rfl, ⟨by decide, by decide⟩, uiX0, by decide, rfl, Or.inl (gw 69 (by decide +kernel) rfl)⟩
theorem flX5_126 : xFL RX5 126 RX0 TX0 12 1 6 := ⟨rfl, ⟨by decide, by decide⟩, uiX0, by decide, rfl, Or.inr ⟨"OutOfPlace", nw 70 (by decide +kernel) rfl⟩⟩
theorem flX0_42 : xFL RX0 42 RX0 TX0 12 1 7 := ⟨rfl, ⟨by decide, by decide⟩, uiX0, by decide, rfl, Or.inl (gw 71 (by decide +kernel) rfl)⟩
theorem flX5_129 : xFL RX5 129 RX0 TX0 12 1 7 := ⟨rfl, ⟨by decide, by decide⟩, uiX0, by decide, rfl, Or.inr ⟨"OutOfPlace", nw 72 (by decide +kernel) rfl⟩⟩
theorem flX0_45 : xFL RX0 45 RX0 TX0 12 1 8 := ⟨rfl, ⟨by decide, by decide⟩, uiX0, by decide, rfl, Or.inl (gw 73 (by decide +kernel) rfl)⟩
theorem flX5_132 : xFL RX5 132 RX0 TX0 12 1 8 := ⟨rfl, ⟨by decide, by decide⟩, uiX0, by decide, rfl, Or.inr ⟨"OutOfPlace", nw 74 (by decide +kernel) rfl⟩⟩
theorem flX0_48 : xFL RX0 48 RX0 TX0 12 1 9 := ⟨rfl, ⟨by decide, by decide⟩, uiX0, by decide, rfl, Or.inl (gw 75 (by decide +kernel) rfl)⟩
theorem flX5_135 : xFL RX5 135 RX0 TX0 12 1 9 := ⟨rfl, ⟨by decide, by decide⟩, uiX0, by decide, rfl, Or.inr ⟨"OutOfPlace", nw 76 (by decide +kernel) rfl⟩⟩
theorem flX0_51 : xFL RX0 51 RX0 TX0 12 1 10 := ⟨rfl, ⟨by decide, by decide⟩, uiX0, by decide, rfl, Or.inl (gw 77 (by decide +kernel) rfl)⟩
theorem flX10_126 : xFL RX10 126 RX0 TX0 12 1 10 := ⟨rfl, ⟨by decide, by decide⟩, uiX0, by decide, rfl, Or.inr ⟨"OutOfPlace", nw 78 (by decide +kernel) rfl⟩⟩
theorem flX5_151 : xFL RX5 151 RX0 TX0 12 1 10 := ⟨rfl, ⟨by decide, by decide⟩, uiX0, by decide, rfl, Or.inr ⟨"OutOfPlace", nw 79 (by decide +kernel) rfl⟩⟩
theorem flX0_54 : xFL RX0 54 RX0 TX0 12 1 11 := ⟨rfl, ⟨by decide, by decide⟩, uiX0, by decide, rfl, Or.inl (gw 80 (by decide +kernel) rfl)⟩
theorem flX8_39 : xFL RX8 39 RX0 TX0 12 1 11 := ⟨rfl, ⟨by decide, by decide⟩, uiX0, by decide, rfl, Or.inr ⟨"OutOfPlace", nw 81 (by decide +kernel) rfl⟩⟩
theorem flX10_129 : xFL RX10 129 RX0 TX0 12 1 11 := ⟨rfl, ⟨by decide, by decide⟩, uiX0, by decide, rfl, Or.inr ⟨"OutOfPlace", nw 82 (by decide +kernel) rfl⟩⟩
theorem flX5_154 : xFL RX5 154 RX0 TX0 12 1 11 := ⟨rfl, ⟨by decide, by decide⟩, uiX0, by decide, rfl, Or.inr ⟨"OutOfPlace", nw 83 (by decide +kernel) rfl⟩⟩
theorem flX2_11 : xFL RX2 11 RX2 TX2 4 3 0 := ⟨rfl, ⟨by decide, by decide⟩, uiX2, by decide, rfl, Or.inl (gw 109 (by decide +kernel) rfl)⟩
theorem flX2_18 : xFL RX2 18 RX2 TX2 4 3 1 := ⟨rfl, ⟨by decide, by decide⟩, uiX2, by decide, rfl, Or.inl (gw 110 (by decide +kernel) rfl)⟩
theorem flX2_22 : xFL RX2 22 RX2 TX2 4 3 2 := ⟨rfl, ⟨by decide, by decide⟩, uiX2, by decide, rfl, Or.inl (gw 111 (by decide +kernel) rfl)⟩
theorem flX2_26 : xFL RX2 26 RX2 TX2 4 3 3 := ⟨rfl, ⟨by decide, by decide⟩, uiX2, by decide, rfl, Or.inl (gw 112 (by decide +kernel) rfl)⟩
theorem flX8_9 : xFL RX8 9 RX8 TX8 1 9 0 := ⟨rfl, ⟨by decide, by decide⟩, uiX8, by decide, rfl, Or.inl (gw 131 (by decide +kernel) rfl)⟩
theorem flX6_9 : xFL RX6 9 RX6 TX6 3 7 0 := ⟨rfl, ⟨by decide, by decide⟩, uiX6, by decide, rfl, Or.inl (gw 146 (by decide +kernel) rfl)⟩
theorem flX6_15 : xFL RX6 15 RX6 TX6 3 7 1 := ⟨rfl, ⟨by decide, by decide⟩, uiX6, by decide, rfl, Or.inl (gw 147 (by decide +kernel) rfl)⟩
theorem flX6_21 : xFL RX6 21 RX6 TX6 3 7 2 := ⟨rfl, ⟨by decide, by decide⟩, uiX6, by decide, rfl, Or.inl (gw 148 (by decide +kernel) rfl)⟩
theorem flX9_9 : xFL RX9 9 RX9 TX9 1 10 0 := ⟨rfl, ⟨by decide, by decide⟩, uiX9, by decide, rfl, Or.inl (gw 162 (by decide +kernel) rfl)⟩
theorem flX3_9 : xFL RX3 9 RX3 TX3 1 4 0 := ⟨rfl, ⟨by decide, by decide⟩, uiX3, by decide, rfl, Or.inl (gw 173 (by decide +kernel) rfl)⟩
theorem flX7_9 : xFL RX7 9 RX7 TX7 5 8 0 := ⟨rfl, ⟨by decide, by decide⟩, uiX7, by decide, rfl, Or.inl (gw 183 (by decide +kernel) rfl)⟩
theorem flX7_15 : xFL RX7 15 RX7 TX7 5 8 1 := ⟨rfl, ⟨by decide, by decide⟩, uiX7, by decide, rfl, Or.inl (gw 184 (by decide +kernel) rfl)⟩
theorem flX7_18 : xFL RX7 18 RX7 TX7 5 8 2 := ⟨rfl, ⟨by decide, by decide⟩, uiX7, by decide, rfl, Or.inl (gw 185 (by decide +kernel) rfl)⟩
theorem flX7_21 : xFL RX7 21 RX7 TX7 5 8 3 := ⟨rfl, ⟨by decide, by decide⟩, uiX7, by decide, rfl, Or.inl (gw 186 (by decide +kernel) rfl)⟩
theorem flX7_47 : xFL RX7 47 RX7 TX7 5 8 4 := ⟨rfl, ⟨by decide, by decide⟩, uiX7, by decide, rfl, Or.inl (gw 187 (by decide +kernel) rfl)⟩
theorem flX4_10 : xFL RX4 10 RX4 TX4 4 5 0 := ⟨rfl, ⟨by decide, by decide⟩, uiX4, by decide, rfl, Or.inl (gw 207 (by decide +kernel) rfl)⟩
theorem flX10_299 : xFL RX10 299 RX4 TX4 4 5 0 := ⟨rfl, ⟨by decide, by decide⟩, uiX4, by decide, rfl, Or.inr ⟨"OutOfPlace", nw 208 (by decide +kernel) rfl⟩⟩
theorem flX4_20 : xFL RX4 20 RX4 TX4 4 5 1 := ⟨rfl, ⟨by decide, by decide⟩, uiX4, by decide, rfl, Or.inl (gw 209 (by decide +kernel) rfl)⟩
theorem flX10_304 : xFL RX10 304 RX4 TX4 4 5 1 := ⟨rfl, ⟨by decide, by decide⟩, uiX4, by decide, rfl, Or.inr ⟨"OutOfPlace", nw 210 (by decide +kernel) rfl⟩⟩
theorem flX4_24 : xFL RX4 24 RX4 TX4 4 5 2 := ⟨rfl, ⟨by decide, by decide⟩, uiX4, by decide, rfl, Or.inl (gw 211 (by decide +kernel) rfl)⟩
theorem flX10_307 : xFL RX10 307 RX4 TX4 4 5 2 := ⟨rfl, ⟨by decide, by decide⟩, uiX4, by decide, rfl, Or.inr ⟨"OutOfPlace", nw 212 (by decide +kernel) rfl⟩⟩
theorem flX4_27 : xFL RX4 27 RX4 TX4 4 5 3 := ⟨rfl, ⟨by decide, by decide⟩, uiX4, by decide, rfl, Or.inl (gw 213 (by decide +kernel) rfl)⟩
theorem flX10_295 : xFL RX10 295 RX4 TX4 4 5 3 := ⟨rfl, ⟨by decide, by decide⟩, uiX4, by decide, rfl, Or.inr ⟨"OutOfPlace", nw 214 (by decide +kernel) rfl⟩⟩
theorem flX10_14 : xFL RX10 14 RX10 TX10 13 11 0 := ⟨rfl, ⟨by decide, by decide⟩, uiX10, by decide, rfl, Or.inl (gw 224 (by decide +kernel) rfl)⟩
theorem flX10_21 : xFL RX10 21 RX10 TX10 13 11 1 := ⟨rfl, ⟨by decide, by decide⟩, uiX10, by decide, rfl, Or.inl (gw 225 (by decide +kernel) rfl)⟩
theorem flX10_28 : xFL RX10 28 RX10 TX10 13 11 2 := ⟨rfl, ⟨by decide, by decide⟩, uiX10, by decide, rfl, Or.inl (gw 226 (by decide +kernel) rfl)⟩
theorem flX10_35 : xFL RX10 35 RX10 TX10 13 11 3 := ⟨rfl, ⟨by decide, by decide⟩, uiX10, by decide, rfl, Or.inl (gw 227 (by decide +kernel) rfl)⟩
theorem flX10_39 : xFL RX10 39 RX10 TX10 13 11 4 := ⟨rfl, ⟨by decide, by decide⟩, uiX10, by decide, rfl, Or.inl (gw 228 (by decide +kernel) rfl)⟩
theorem flX10_45 : xFL RX10 45 RX10 TX10 13 11 5 := ⟨rfl, ⟨by decide, by decide⟩, uiX10, by decide, rfl, Or.inl (gw 229 (by decide +kernel) rfl)⟩
theorem flX10_52 : xFL RX10 52 RX10 TX10 13 11 6 := ⟨rfl, ⟨by decide, by decide⟩, uiX10, by decide, rfl, Or.inl (gw 230 (by decide +kernel) rfl)⟩
theorem flX10_59 : xFL RX10 59 RX10 TX10 13 11 7 := ⟨rfl, ⟨by decide, by decide⟩, uiX10, by decide, rfl, Or.inl (gw 231 (by decide +kernel) rfl)⟩
theorem flX10_66 : xFL RX10 66 RX10 TX10 13 11 8 := ⟨rfl, ⟨by decide, by decide⟩, uiX10, by decide, rfl, Or.inl (gw 232 (by decide +kernel) rfl)⟩
theorem flX10_70 : xFL RX10 70 RX10 TX10 13 11 9 := ⟨rfl, ⟨by decide, by decide⟩, uiX10, by decide, rfl, Or.inl (gw 233 (by decide +kernel) rfl)⟩
theorem flX10_73 : xFL RX10 73 RX10 TX10 13 11 10 := ⟨rfl, ⟨by decide, by decide⟩, uiX10, by decide, rfl, Or.inl (gw 234 (by decide +kernel) rfl)⟩
theorem flX10_77 : xFL RX10 77 RX10 TX10 13 11 11 := ⟨rfl, ⟨by decide, by decide⟩, uiX10, by decide, rfl, Or.inl (gw 235 (by decide +kernel) rfl)⟩
theorem flX10_80 : xFL RX10 80 RX10 TX10 13 11 12 := ⟨rfl, ⟨by decide, by decide⟩, uiX10, by decide, rfl, Or.inl (gw 236 (by decide +kernel) rfl)⟩
theorem flX5_9 : xFL RX5 9 RX5 TX5 8 6 0 := ⟨rfl, ⟨by decide, by decide⟩, uiX5, by decide, rfl, Or.inl (gw 295 (by decide +kernel) rfl)⟩
theorem flX5_15 : xFL RX5 15 RX5 TX5 8 6 1 := ⟨rfl, ⟨by decide, by decide⟩, uiX5, by decide, rfl, Or.inl (gw 296 (by decide +kernel) rfl)⟩
theorem flX5_25 : xFL RX5 25 RX5 TX5 8 6 2 := ⟨rfl, ⟨by decide, by decide⟩, uiX5, by decide, rfl, Or.inl (gw 297 (by decide +kernel) rfl)⟩
theorem flX5_29 : xFL RX5 29 RX5 TX5 8 6 3 := ⟨rfl, ⟨by decide, by decide⟩, uiX5, by decide, rfl, Or.inl (gw 298 (by decide +kernel) rfl)⟩
theorem flX5_33 : xFL RX5 33 RX5 TX5 8 6 4 := ⟨rfl, ⟨by decide, by decide⟩, uiX5, by decide, rfl, Or.inl (gw 299 (by decide +kernel) rfl)⟩
theorem flX5_36 : xFL RX5 36 RX5 TX5 8 6 5 := ⟨rfl, ⟨by decide, by decide⟩, uiX5, by decide, rfl, Or.inl (gw 300 (by decide +kernel) rfl)⟩
theorem flX5_39 : xFL RX5 39 RX5 TX5 8 6 6 := ⟨rfl, ⟨by decide, by decide⟩, uiX5, by decide, rfl, Or.inl (gw 301 (by decide +kernel) rfl)⟩
theorem flX5_42 : xFL RX5 42 RX5 TX5 8 6 7 := ⟨rfl, ⟨by decide, by decide⟩, uiX5, by decide, rfl, Or.inl (gw 302 (by decide +kernel) rfl)⟩
theorem flX11_75 : xFL RX11 75 RX11 TX11 32 12 0 := ⟨rfl, ⟨by decide, by decide⟩, uiX11, by decide, rfl, Or.inl (gw 865 (by decide +kernel) rfl)⟩
theorem flX11_7 : xFL RX11 7 RX11 TX11 32 12 1 := ⟨rfl, ⟨by decide, by decide⟩, uiX11, by decide, rfl, Or.inl (gw 866 (by decide +kernel) rfl)⟩
theorem flX11_13 : xFL RX11 13 RX11 TX11 32 12 2 := ⟨rfl, ⟨by decide, by decide⟩, uiX11, by decide, rfl, Or.inl (gw 867 (by decide +kernel) rfl)⟩
theorem flX11_16 : xFL RX11 16 RX11 TX11 32 12 3 := ⟨rfl, ⟨by decide, by decide⟩, uiX11, by decide, rfl, Or.inl (gw 868 (by decide +kernel) rfl)⟩
theorem flX11_19 : xFL RX11 19 RX11 TX11 32 12 4 := ⟨rfl, ⟨by decide, by decide⟩, uiX11, by decide, rfl, Or.inl (gw 869 (by decide +kernel) rfl)⟩
theorem flX11_22 : xFL RX11 22 RX11 TX11 32 12 5 := ⟨rfl, ⟨by decide, by decide⟩, uiX11, by decide, rfl, Or.inl (gw 870 (by decide +kernel) rfl)⟩
theorem flX11_25 : xFL RX11 25 RX11 TX11 32 12 6 := ⟨rfl, ⟨by decide, by decide⟩, uiX11, by decide, rfl, Or.inl (gw 871 (by decide +kernel) rfl)⟩
theorem flX11_222 : xFL RX11 222 RX11 TX11 32 12 7 := ⟨rfl, ⟨by decide, by decide⟩, uiX11, by decide, rfl, Or.inl (gw 872 (by decide +kernel) rfl)⟩
theorem flX11_28 : xFL RX11 28 RX11 TX11 32 12 8 := ⟨rfl, ⟨by decide, by decide⟩, uiX11, by decide, rfl, Or.inl (gw 873 (by decide +kernel) rfl)⟩
theorem flX11_31 : xFL RX11 31 RX11 TX11 32 12 9 := ⟨rfl, ⟨by decide, by decide⟩, uiX11, by decide, rfl, Or.inl (gw 874 (by decide +kernel) rfl)⟩
theorem flX11_225 : xFL RX11 225 RX11 TX11 32 12 10 := ⟨rfl, ⟨by decide, by decide⟩, uiX11, by decide, rfl, Or.inl (gw 875 (by decide +kernel) rfl)⟩
theorem flX11_34 : xFL RX11 34 RX11 TX11 32 12 11 := ⟨rfl, ⟨by decide, by decide⟩, uiX11, by decide, rfl, Or.inl (gw 876 (by decide +kernel) rfl)⟩
theorem flX11_37 : xFL RX11 37 RX11 TX11 32 12 12 := ⟨rfl, ⟨by decide, by decide⟩, uiX11, by decide, rfl, Or.inl (gw 877 (by decide +kernel) rfl)⟩
theorem flX11_88 : xFL RX11 88 RX11 TX11 32 12 13 := ⟨rfl, ⟨by decide, by decide⟩, uiX11, by decide, rfl, Or.inl (gw 878 (by decide +kernel) rfl)⟩
theorem flX11_40 : xFL RX11 40 RX11 TX11 32 12 14 := ⟨rfl, ⟨by decide, by decide⟩, uiX11, by decide, rfl, Or.inl (gw 879 (by decide +kernel) rfl)⟩
theorem flX11_93 : xFL RX11 93 RX11 TX11 32 12 15 := ⟨rfl, ⟨by decide, by decide⟩, uiX11, by decide, rfl, Or.inl (gw 880 (by decide +kernel) rfl)⟩
theorem flX11_122 : xFL RX11 122 RX11 TX11 32 12 16 := ⟨rfl, ⟨by decide, by decide⟩, uiX11, by decide, rfl, Or.inl (gw 881 (by decide +kernel) rfl)⟩
theorem flX11_108 : xFL RX11 108 RX11 TX11 32 12 17 := ⟨rfl, ⟨by decide, by decide⟩, uiX11, by decide, rfl, Or.inl (gw 882 (by decide +kernel) rfl)⟩
theorem flX11_44 : xFL RX11 44 RX11 TX11 32 12 18 := ⟨rfl, ⟨by decide, by decide⟩, uiX11, by decide, rfl, Or.inl (gw 883 (by decide +kernel) rfl)⟩
theorem flX11_180 : xFL RX11 180 RX11 TX11 32 12 19 := ⟨rfl, ⟨by decide, by decide⟩, uiX11, by decide, rfl, Or.inl (gw 884 (by decide +kernel) rfl)⟩
theorem flX11_246 : xFL RX11 246 RX11 TX11 32 12 20 := ⟨rfl, ⟨by decide, by decide⟩, uiX11, by decide, rfl, Or.inl (gw 885 (by decide +kernel) rfl)⟩
theorem flX11_47 : xFL RX11 47 RX11 TX11 32 12 21 := ⟨rfl, ⟨by decide, by decide⟩, uiX11, by decide, rfl, Or.inl (gw 886 (by decide +kernel) rfl)⟩
theorem flX11_50 : xFL RX11 50 RX11 TX11 32 12 22 := ⟨rfl, ⟨by decide, by decide⟩, uiX11, by decide, rfl, Or.inl (gw 887 (by decide +kernel) rfl)⟩
theorem flX11_53 : xFL RX11 53 RX11 TX11 32 12 23 := ⟨rfl, ⟨by decide, by decide⟩, uiX11, by decide, rfl, Or.inl (gw 888 (by decide +kernel) rfl)⟩
theorem flX11_56 : xFL RX11 56 RX11 TX11 32 12 24 := ⟨rfl, ⟨by decide, by decide⟩, uiX11, by decide, rfl, Or.inl (gw 889 (by decide +kernel) rfl)⟩
theorem flX11_306 : xFL RX11 306 RX11 TX11 32 12 25 := ⟨rfl, ⟨by decide, by decide⟩, uiX11, by decide, rfl, Or.inl (gw 890 (by decide +kernel) rfl)⟩
theorem flX11_59 : xFL RX11 59 RX11 TX11 32 12 26 := ⟨rfl, ⟨by decide, by decide⟩, uiX11, by decide, rfl, Or.inl (gw 891 (by decide +kernel) rfl)⟩
theorem flX11_62 : xFL RX11 62 RX11 TX11 32 12 27 := ⟨rfl, ⟨by decide, by decide⟩, uiX11, by decide, rfl, Or.inl (gw 892 (by decide +kernel) rfl)⟩
theorem flX11_65 : xFL RX11 65 RX11 TX11 32 12 28 := ⟨rfl, ⟨by decide, by decide⟩, uiX11, by decide, rfl, Or.inl (gw 893 (by decide +kernel) rfl)⟩
theorem flX11_319 : xFL RX11 319 RX11 TX11 32 12 29 := ⟨rfl, ⟨by decide, by decide⟩, uiX11, by decide, rfl, Or.inl (gw 894 (by decide +kernel) rfl)⟩
theorem flX11_68 : xFL RX11 68 RX11 TX11 32 12 30 := ⟨rfl, ⟨by decide, by decide⟩, uiX11, by decide, rfl, Or.inl (gw 895 (by decide +kernel) rfl)⟩
theorem flX11_71 : xFL RX11 71 RX11 TX11 32 12 31 := ⟨rfl, ⟨by decide, by decide⟩, uiX11, by decide, rfl, Or.inl (gw 896 (by decide +kernel) rfl)⟩
theorem inX0_init : Cond.instanceMethod yX0_init ∈ gtbl := gw 50 (by decide +kernel) rfl
theorem inX0_clear : Cond.instanceMethod yX0_clear ∈ gtbl := gw 357 (by decide +kernel) rfl
theorem seX0_clear : Cond.selects yX0_clear.cls yX0_clear yX0_clear ∈ gtbl := gw 358 (by decide +kernel) rfl
theorem inX0_compareBy : Cond.instanceMethod yX0_compareBy ∈ gtbl := gw 417 (by decide +kernel) rfl
theorem seX0_compareBy : Cond.selects yX0_compareBy.cls yX0_compareBy yX0_compareBy ∈ gtbl := gw 418 (by decide +kernel) rfl
theorem inX0_key : Cond.instanceMethod yX0_key ∈ gtbl := gw 422 (by decide +kernel) rfl
theorem seX0_key : Cond.selects yX0_key.cls yX0_key yX0_key ∈ gtbl := gsel (q := (yX0_key, 12)) 15 (by decide +kernel)
theorem inX1_init : Cond.instanceMethod yX1_init ∈ gtbl := gw 26 (by decide +kernel) rfl
theorem inX1_size : Cond.instanceMethod yX1_size ∈ gtbl := gw 269 (by decide +kernel) rfl
theorem seX1_size : Cond.selects yX1_size.cls yX1_size yX1_size ∈ gtbl := gw 270 (by decide +kernel) rfl
theorem inX1_get : Cond.instanceMethod yX1_get ∈ gtbl := gw 333 (by decide +kernel) rfl
theorem seX1_get : Cond.selects yX1_get.cls yX1_get yX1_get ∈ gtbl := gw 334 (by decide +kernel) rfl
theorem inX1_append : Cond.instanceMethod yX1_append ∈ gtbl := gw 274 (by decide +kernel) rfl
theorem seX1_append : Cond.selects yX1_append.cls yX1_append yX1_append ∈ gtbl := gw 275 (by decide +kernel) rfl
theorem inX1_clear : Cond.instanceMethod yX1_clear ∈ gtbl := gw 361 (by decide +kernel) rfl
theorem seX1_clear : Cond.selects yX1_clear.cls yX1_clear yX1_clear ∈ gtbl := gw 362 (by decide +kernel) rfl
theorem inX1_beginsWith : Cond.instanceMethod yX1_beginsWith ∈ gtbl := gw 720 (by decide +kernel) rfl
theorem seX1_beginsWith : Cond.selects yX1_beginsWith.cls yX1_beginsWith yX1_beginsWith ∈ gtbl := gw 721 (by decide +kernel) rfl
theorem inX2_init : Cond.instanceMethod yX2_init ∈ gtbl := gw 43 (by decide +kernel) rfl
theorem inX2_size : Cond.instanceMethod yX2_size ∈ gtbl := gw 443 (by decide +kernel) rfl
theorem seX2_size : Cond.selects yX2_size.cls yX2_size yX2_size ∈ gtbl := gw 444 (by decide +kernel) rfl
theorem inX2_has : Cond.instanceMethod yX2_has ∈ gtbl := gw 455 (by decide +kernel) rfl
theorem seX2_has : Cond.selects yX2_has.cls yX2_has yX2_has ∈ gtbl := gw 456 (by decide +kernel) rfl
theorem inX2_of : Cond.instanceMethod yX2_of ∈ gtbl := gw 292 (by decide +kernel) rfl
theorem seX2_of : Cond.selects yX2_of.cls yX2_of yX2_of ∈ gtbl := gw 293 (by decide +kernel) rfl
theorem inX2_hasSpace : Cond.instanceMethod yX2_hasSpace ∈ gtbl := gw 353 (by decide +kernel) rfl
theorem seX2_hasSpace : Cond.selects yX2_hasSpace.cls yX2_hasSpace yX2_hasSpace ∈ gtbl := gw 354 (by decide +kernel) rfl
theorem inX2_draft : Cond.instanceMethod yX2_draft ∈ gtbl := gw 288 (by decide +kernel) rfl
theorem seX2_draft : Cond.selects yX2_draft.cls yX2_draft yX2_draft ∈ gtbl := gw 289 (by decide +kernel) rfl
theorem inX2_hasMarkOfDraft : Cond.instanceMethod yX2_hasMarkOfDraft ∈ gtbl := gw 412 (by decide +kernel) rfl
theorem seX2_hasMarkOfDraft : Cond.selects yX2_hasMarkOfDraft.cls yX2_hasMarkOfDraft yX2_hasMarkOfDraft ∈ gtbl := gw 413 (by decide +kernel) rfl
theorem inX2_endDraft : Cond.instanceMethod yX2_endDraft ∈ gtbl := gw 426 (by decide +kernel) rfl
theorem seX2_endDraft : Cond.selects yX2_endDraft.cls yX2_endDraft yX2_endDraft ∈ gtbl := gw 427 (by decide +kernel) rfl
theorem inX2_acceptDrafts : Cond.instanceMethod yX2_acceptDrafts ∈ gtbl := gw 434 (by decide +kernel) rfl
theorem seX2_acceptDrafts : Cond.selects yX2_acceptDrafts.cls yX2_acceptDrafts yX2_acceptDrafts ∈ gtbl := gw 435 (by decide +kernel) rfl
theorem inX2_dropDrafts : Cond.instanceMethod yX2_dropDrafts ∈ gtbl := gw 438 (by decide +kernel) rfl
theorem seX2_dropDrafts : Cond.selects yX2_dropDrafts.cls yX2_dropDrafts yX2_dropDrafts ∈ gtbl := gw 439 (by decide +kernel) rfl
theorem inX2_isAhead : Cond.instanceMethod yX2_isAhead ∈ gtbl := gw 493 (by decide +kernel) rfl
theorem seX2_isAhead : Cond.selects yX2_isAhead.cls yX2_isAhead yX2_isAhead ∈ gtbl := gw 494 (by decide +kernel) rfl
theorem inX3_init : Cond.instanceMethod yX3_init ∈ gtbl := gw 169 (by decide +kernel) rfl
theorem inX3_weight : Cond.instanceMethod yX3_weight ∈ gtbl := gw 746 (by decide +kernel) rfl
theorem seX3_weight : Cond.selects yX3_weight.cls yX3_weight yX3_weight ∈ gtbl := gw 747 (by decide +kernel) rfl
theorem inX3_weigh : Cond.instanceMethod yX3_weigh ∈ gtbl := gw 751 (by decide +kernel) rfl
theorem seX3_weigh : Cond.selects yX3_weigh.cls yX3_weigh yX3_weigh ∈ gtbl := gw 752 (by decide +kernel) rfl
theorem inX3_total : Cond.instanceMethod yX3_total ∈ gtbl := gw 763 (by decide +kernel) rfl
theorem seX3_total : Cond.selects yX3_total.cls yX3_total yX3_total ∈ gtbl := gw 764 (by decide +kernel) rfl
theorem inX3_readingOf : Cond.instanceMethod yX3_readingOf ∈ gtbl := gw 832 (by decide +kernel) rfl
theorem seX3_readingOf : Cond.selects yX3_readingOf.cls yX3_readingOf yX3_readingOf ∈ gtbl := gw 833 (by decide +kernel) rfl
theorem inX3_chance : Cond.instanceMethod yX3_chance ∈ gtbl := gw 759 (by decide +kernel) rfl
theorem seX3_chance : Cond.selects yX3_chance.cls yX3_chance yX3_chance ∈ gtbl := gw 760 (by decide +kernel) rfl
theorem inX4_init : Cond.instanceMethod yX4_init ∈ gtbl := gw 202 (by decide +kernel) rfl
theorem inX4_store : Cond.instanceMethod yX4_store ∈ gtbl := gw 847 (by decide +kernel) rfl
theorem seX4_store : Cond.selects yX4_store.cls yX4_store yX4_store ∈ gtbl := gw 848 (by decide +kernel) rfl
theorem inX5_init : Cond.instanceMethod yX5_init ∈ gtbl := gw 284 (by decide +kernel) rfl
theorem inX5_parse : Cond.instanceMethod yX5_parse ∈ gtbl := gw 321 (by decide +kernel) rfl
theorem seX5_parse : Cond.selects yX5_parse.cls yX5_parse yX5_parse ∈ gtbl := gw 322 (by decide +kernel) rfl
theorem inX5_faultAt : Cond.instanceMethod yX5_faultAt ∈ gtbl := gw 430 (by decide +kernel) rfl
theorem seX5_faultAt : Cond.selects yX5_faultAt.cls yX5_faultAt yX5_faultAt ∈ gtbl := gw 431 (by decide +kernel) rfl
theorem inX5_readClause : Cond.instanceMethod yX5_readClause ∈ gtbl := gw 339 (by decide +kernel) rfl
theorem seX5_readClause : Cond.selects yX5_readClause.cls yX5_readClause yX5_readClause ∈ gtbl := gsel (q := (yX5_readClause, 8)) 2 (by decide +kernel)
theorem inX5_readClass : Cond.instanceMethod yX5_readClass ∈ gtbl := gw 343 (by decide +kernel) rfl
theorem seX5_readClass : Cond.selects yX5_readClass.cls yX5_readClass yX5_readClass ∈ gtbl := gsel (q := (yX5_readClass, 8)) 3 (by decide +kernel)
theorem inX5_readNumber : Cond.instanceMethod yX5_readNumber ∈ gtbl := gw 375 (by decide +kernel) rfl
theorem seX5_readNumber : Cond.selects yX5_readNumber.cls yX5_readNumber yX5_readNumber ∈ gtbl := gsel (q := (yX5_readNumber, 8)) 7 (by decide +kernel)
theorem inX5_readDecimals : Cond.instanceMethod yX5_readDecimals ∈ gtbl := gw 389 (by decide +kernel) rfl
theorem seX5_readDecimals : Cond.selects yX5_readDecimals.cls yX5_readDecimals yX5_readDecimals ∈ gtbl := gsel (q := (yX5_readDecimals, 8)) 9 (by decide +kernel)
theorem inX5_readCutter : Cond.instanceMethod yX5_readCutter ∈ gtbl := gw 393 (by decide +kernel) rfl
theorem seX5_readCutter : Cond.selects yX5_readCutter.cls yX5_readCutter yX5_readCutter ∈ gtbl := gsel (q := (yX5_readCutter, 8)) 10 (by decide +kernel)
theorem inX5_readBehindBlanks : Cond.instanceMethod yX5_readBehindBlanks ∈ gtbl := gw 397 (by decide +kernel) rfl
theorem seX5_readBehindBlanks : Cond.selects yX5_readBehindBlanks.cls yX5_readBehindBlanks yX5_readBehindBlanks ∈ gtbl := gsel (q := (yX5_readBehindBlanks, 8)) 11 (by decide +kernel)
theorem inX5_readYear : Cond.instanceMethod yX5_readYear ∈ gtbl := gw 401 (by decide +kernel) rfl
theorem seX5_readYear : Cond.selects yX5_readYear.cls yX5_readYear yX5_readYear ∈ gtbl := gsel (q := (yX5_readYear, 8)) 12 (by decide +kernel)
theorem inX5_readThickness : Cond.instanceMethod yX5_readThickness ∈ gtbl := gw 405 (by decide +kernel) rfl
theorem seX5_readThickness : Cond.selects yX5_readThickness.cls yX5_readThickness yX5_readThickness ∈ gtbl := gsel (q := (yX5_readThickness, 8)) 13 (by decide +kernel)
theorem inX5_readEnd : Cond.instanceMethod yX5_readEnd ∈ gtbl := gw 409 (by decide +kernel) rfl
theorem seX5_readEnd : Cond.selects yX5_readEnd.cls yX5_readEnd yX5_readEnd ∈ gtbl := gsel (q := (yX5_readEnd, 8)) 14 (by decide +kernel)
theorem inX5_readFigures : Cond.instanceMethod yX5_readFigures ∈ gtbl := gw 379 (by decide +kernel) rfl
theorem seX5_readFigures : Cond.selects yX5_readFigures.cls yX5_readFigures yX5_readFigures ∈ gtbl := gsel (q := (yX5_readFigures, 8)) 8 (by decide +kernel)
theorem stX5_filled : Cond.static yX5_filled ∈ gtbl := gw 385 (by decide +kernel) rfl
theorem inX5_skipBlanks : Cond.instanceMethod yX5_skipBlanks ∈ gtbl := gw 326 (by decide +kernel) rfl
theorem seX5_skipBlanks : Cond.selects yX5_skipBlanks.cls yX5_skipBlanks yX5_skipBlanks ∈ gtbl := gsel (q := (yX5_skipBlanks, 8)) 0 (by decide +kernel)
theorem inX5_takeLetter : Cond.instanceMethod yX5_takeLetter ∈ gtbl := gw 366 (by decide +kernel) rfl
theorem seX5_takeLetter : Cond.selects yX5_takeLetter.cls yX5_takeLetter yX5_takeLetter ∈ gtbl := gsel (q := (yX5_takeLetter, 8)) 5 (by decide +kernel)
theorem inX5_takeSign : Cond.instanceMethod yX5_takeSign ∈ gtbl := gw 370 (by decide +kernel) rfl
theorem seX5_takeSign : Cond.selects yX5_takeSign.cls yX5_takeSign yX5_takeSign ∈ gtbl := gsel (q := (yX5_takeSign, 8)) 6 (by decide +kernel)
theorem inX5_next : Cond.instanceMethod yX5_next ∈ gtbl := gw 330 (by decide +kernel) rfl
theorem seX5_next : Cond.selects yX5_next.cls yX5_next yX5_next ∈ gtbl := gsel (q := (yX5_next, 8)) 1 (by decide +kernel)
theorem inX5_fail : Cond.instanceMethod yX5_fail ∈ gtbl := gw 350 (by decide +kernel) rfl
theorem seX5_fail : Cond.selects yX5_fail.cls yX5_fail yX5_fail ∈ gtbl := gsel (q := (yX5_fail, 8)) 4 (by decide +kernel)
theorem stX5_isLetter : Cond.static yX5_isLetter ∈ gtbl := gw 346 (by decide +kernel) rfl
theorem stX5_isFigure : Cond.static yX5_isFigure ∈ gtbl := gw 382 (by decide +kernel) rfl
theorem inX6_init : Cond.instanceMethod yX6_init ∈ gtbl := gw 138 (by decide +kernel) rfl
theorem inX6_clear : Cond.instanceMethod yX6_clear ∈ gtbl := gw 142 (by decide +kernel) rfl
theorem seX6_clear : Cond.selects yX6_clear.cls yX6_clear yX6_clear ∈ gtbl := gw 143 (by decide +kernel) rfl
theorem inX6_copyFrom : Cond.instanceMethod yX6_copyFrom ∈ gtbl := gw 582 (by decide +kernel) rfl
theorem seX6_copyFrom : Cond.selects yX6_copyFrom.cls yX6_copyFrom yX6_copyFrom ∈ gtbl := gw 583 (by decide +kernel) rfl
theorem inX6_size : Cond.instanceMethod yX6_size ∈ gtbl := gw 519 (by decide +kernel) rfl
theorem seX6_size : Cond.selects yX6_size.cls yX6_size yX6_size ∈ gtbl := gw 520 (by decide +kernel) rfl
theorem inX6_bookAt : Cond.instanceMethod yX6_bookAt ∈ gtbl := gw 473 (by decide +kernel) rfl
theorem seX6_bookAt : Cond.selects yX6_bookAt.cls yX6_bookAt yX6_bookAt ∈ gtbl := gw 474 (by decide +kernel) rfl
theorem inX6_shelfOf : Cond.instanceMethod yX6_shelfOf ∈ gtbl := gw 460 (by decide +kernel) rfl
theorem seX6_shelfOf : Cond.selects yX6_shelfOf.cls yX6_shelfOf yX6_shelfOf ∈ gtbl := gw 461 (by decide +kernel) rfl
theorem inX6_stands : Cond.instanceMethod yX6_stands ∈ gtbl := gw 464 (by decide +kernel) rfl
theorem seX6_stands : Cond.selects yX6_stands.cls yX6_stands yX6_stands ∈ gtbl := gw 465 (by decide +kernel) rfl
theorem inX6_indexOf : Cond.instanceMethod yX6_indexOf ∈ gtbl := gw 469 (by decide +kernel) rfl
theorem seX6_indexOf : Cond.selects yX6_indexOf.cls yX6_indexOf yX6_indexOf ∈ gtbl := gw 470 (by decide +kernel) rfl
theorem inX6_standing : Cond.instanceMethod yX6_standing ∈ gtbl := gw 737 (by decide +kernel) rfl
theorem seX6_standing : Cond.selects yX6_standing.cls yX6_standing yX6_standing ∈ gtbl := gw 738 (by decide +kernel) rfl
theorem inX6_start : Cond.instanceMethod yX6_start ∈ gtbl := gw 477 (by decide +kernel) rfl
theorem seX6_start : Cond.selects yX6_start.cls yX6_start yX6_start ∈ gtbl := gw 478 (by decide +kernel) rfl
theorem inX6_amount : Cond.instanceMethod yX6_amount ∈ gtbl := gw 556 (by decide +kernel) rfl
theorem seX6_amount : Cond.selects yX6_amount.cls yX6_amount yX6_amount ∈ gtbl := gw 557 (by decide +kernel) rfl
theorem inX6_onShelf : Cond.instanceMethod yX6_onShelf ∈ gtbl := gw 560 (by decide +kernel) rfl
theorem seX6_onShelf : Cond.selects yX6_onShelf.cls yX6_onShelf yX6_onShelf ∈ gtbl := gw 561 (by decide +kernel) rfl
theorem inX6_insert : Cond.instanceMethod yX6_insert ∈ gtbl := gw 507 (by decide +kernel) rfl
theorem seX6_insert : Cond.selects yX6_insert.cls yX6_insert yX6_insert ∈ gtbl := gw 508 (by decide +kernel) rfl
theorem inX6_remove : Cond.instanceMethod yX6_remove ∈ gtbl := gw 622 (by decide +kernel) rfl
theorem seX6_remove : Cond.selects yX6_remove.cls yX6_remove yX6_remove ∈ gtbl := gw 623 (by decide +kernel) rfl
theorem inX6_edge : Cond.instanceMethod yX6_edge ∈ gtbl := gw 610 (by decide +kernel) rfl
theorem seX6_edge : Cond.selects yX6_edge.cls yX6_edge yX6_edge ∈ gtbl := gw 611 (by decide +kernel) rfl
theorem inX6_pass : Cond.instanceMethod yX6_pass ∈ gtbl := gw 614 (by decide +kernel) rfl
theorem seX6_pass : Cond.selects yX6_pass.cls yX6_pass yX6_pass ∈ gtbl := gw 615 (by decide +kernel) rfl
theorem inX6_spotFor : Cond.instanceMethod yX6_spotFor ∈ gtbl := gw 502 (by decide +kernel) rfl
theorem seX6_spotFor : Cond.selects yX6_spotFor.cls yX6_spotFor yX6_spotFor ∈ gtbl := gw 503 (by decide +kernel) rfl
theorem inX6_shelfAtSpot : Cond.instanceMethod yX6_shelfAtSpot ∈ gtbl := gw 591 (by decide +kernel) rfl
theorem seX6_shelfAtSpot : Cond.selects yX6_shelfAtSpot.cls yX6_shelfAtSpot yX6_shelfAtSpot ∈ gtbl := gw 592 (by decide +kernel) rfl
theorem inX6_carriedTo : Cond.instanceMethod yX6_carriedTo ∈ gtbl := gw 695 (by decide +kernel) rfl
theorem seX6_carriedTo : Cond.selects yX6_carriedTo.cls yX6_carriedTo yX6_carriedTo ∈ gtbl := gw 696 (by decide +kernel) rfl
theorem inX7_init : Cond.instanceMethod yX7_init ∈ gtbl := gw 180 (by decide +kernel) rfl
theorem inX7_begin : Cond.instanceMethod yX7_begin ∈ gtbl := gw 775 (by decide +kernel) rfl
theorem seX7_begin : Cond.selects yX7_begin.cls yX7_begin yX7_begin ∈ gtbl := gw 776 (by decide +kernel) rfl
theorem inX7_find : Cond.instanceMethod yX7_find ∈ gtbl := gw 781 (by decide +kernel) rfl
theorem seX7_find : Cond.selects yX7_find.cls yX7_find yX7_find ∈ gtbl := gw 782 (by decide +kernel) rfl
theorem inX7_leastCost : Cond.instanceMethod yX7_leastCost ∈ gtbl := gw 807 (by decide +kernel) rfl
theorem seX7_leastCost : Cond.selects yX7_leastCost.cls yX7_leastCost yX7_leastCost ∈ gtbl := gw 808 (by decide +kernel) rfl
theorem inX7_shelfAt : Cond.instanceMethod yX7_shelfAt ∈ gtbl := gw 811 (by decide +kernel) rfl
theorem seX7_shelfAt : Cond.selects yX7_shelfAt.cls yX7_shelfAt yX7_shelfAt ∈ gtbl := gw 812 (by decide +kernel) rfl
theorem inX7_costOfTour : Cond.instanceMethod yX7_costOfTour ∈ gtbl := gw 786 (by decide +kernel) rfl
theorem seX7_costOfTour : Cond.selects yX7_costOfTour.cls yX7_costOfTour yX7_costOfTour ∈ gtbl := gsel (q := (yX7_costOfTour, 5)) 25 (by decide +kernel)
theorem inX7_keepBest : Cond.instanceMethod yX7_keepBest ∈ gtbl := gw 796 (by decide +kernel) rfl
theorem seX7_keepBest : Cond.selects yX7_keepBest.cls yX7_keepBest yX7_keepBest ∈ gtbl := gsel (q := (yX7_keepBest, 5)) 26 (by decide +kernel)
theorem inX7_nextTour : Cond.instanceMethod yX7_nextTour ∈ gtbl := gw 800 (by decide +kernel) rfl
theorem seX7_nextTour : Cond.selects yX7_nextTour.cls yX7_nextTour yX7_nextTour ∈ gtbl := gsel (q := (yX7_nextTour, 5)) 27 (by decide +kernel)
theorem inX7_swap : Cond.instanceMethod yX7_swap ∈ gtbl := gw 804 (by decide +kernel) rfl
theorem seX7_swap : Cond.selects yX7_swap.cls yX7_swap yX7_swap ∈ gtbl := gsel (q := (yX7_swap, 5)) 28 (by decide +kernel)
theorem inX8_init : Cond.instanceMethod yX8_init ∈ gtbl := gw 125 (by decide +kernel) rfl
theorem inX8_widthOf : Cond.instanceMethod yX8_widthOf ∈ gtbl := gw 536 (by decide +kernel) rfl
theorem seX8_widthOf : Cond.selects yX8_widthOf.cls yX8_widthOf yX8_widthOf ∈ gtbl := gw 537 (by decide +kernel) rfl
theorem inX8_widen : Cond.instanceMethod yX8_widen ∈ gtbl := gw 548 (by decide +kernel) rfl
theorem seX8_widen : Cond.selects yX8_widen.cls yX8_widen yX8_widen ∈ gtbl := gw 549 (by decide +kernel) rfl
theorem inX8_left : Cond.instanceMethod yX8_left ∈ gtbl := gw 541 (by decide +kernel) rfl
theorem seX8_left : Cond.selects yX8_left.cls yX8_left yX8_left ∈ gtbl := gw 542 (by decide +kernel) rfl
theorem inX8_hold : Cond.instanceMethod yX8_hold ∈ gtbl := gw 856 (by decide +kernel) rfl
theorem seX8_hold : Cond.selects yX8_hold.cls yX8_hold yX8_hold ∈ gtbl := gw 857 (by decide +kernel) rfl
theorem inX8_putBy : Cond.instanceMethod yX8_putBy ∈ gtbl := gw 586 (by decide +kernel) rfl
theorem seX8_putBy : Cond.selects yX8_putBy.cls yX8_putBy yX8_putBy ∈ gtbl := gw 587 (by decide +kernel) rfl
theorem inX8_pushAway : Cond.instanceMethod yX8_pushAway ∈ gtbl := gw 599 (by decide +kernel) rfl
theorem seX8_pushAway : Cond.selects yX8_pushAway.cls yX8_pushAway yX8_pushAway ∈ gtbl := gw 600 (by decide +kernel) rfl
theorem inX8_relieve : Cond.instanceMethod yX8_relieve ∈ gtbl := gw 605 (by decide +kernel) rfl
theorem seX8_relieve : Cond.selects yX8_relieve.cls yX8_relieve yX8_relieve ∈ gtbl := gsel (q := (yX8_relieve, 1)) 17 (by decide +kernel)
theorem inX8_layAnew : Cond.instanceMethod yX8_layAnew ∈ gtbl := gw 683 (by decide +kernel) rfl
theorem seX8_layAnew : Cond.selects yX8_layAnew.cls yX8_layAnew yX8_layAnew ∈ gtbl := gw 684 (by decide +kernel) rfl
theorem inX8_firstThatTakes : Cond.instanceMethod yX8_firstThatTakes ∈ gtbl := gw 692 (by decide +kernel) rfl
theorem seX8_firstThatTakes : Cond.selects yX8_firstThatTakes.cls yX8_firstThatTakes yX8_firstThatTakes ∈ gtbl := gsel (q := (yX8_firstThatTakes, 1)) 20 (by decide +kernel)
theorem inX9_init : Cond.instanceMethod yX9_init ∈ gtbl := gw 159 (by decide +kernel) rfl
theorem inX9_outOfPlace : Cond.instanceMethod yX9_outOfPlace ∈ gtbl := gw 631 (by decide +kernel) rfl
theorem seX9_outOfPlace : Cond.selects yX9_outOfPlace.cls yX9_outOfPlace yX9_outOfPlace ∈ gtbl := gw 632 (by decide +kernel) rfl
theorem inX9_measureChains : Cond.instanceMethod yX9_measureChains ∈ gtbl := gw 636 (by decide +kernel) rfl
theorem seX9_measureChains : Cond.selects yX9_measureChains.cls yX9_measureChains yX9_measureChains ∈ gtbl := gsel (q := (yX9_measureChains, 1)) 18 (by decide +kernel)
theorem inX9_pairs : Cond.instanceMethod yX9_pairs ∈ gtbl := gw 649 (by decide +kernel) rfl
theorem seX9_pairs : Cond.selects yX9_pairs.cls yX9_pairs yX9_pairs ∈ gtbl := gw 650 (by decide +kernel) rfl
theorem inX9_firstWrong : Cond.instanceMethod yX9_firstWrong ∈ gtbl := gw 653 (by decide +kernel) rfl
theorem seX9_firstWrong : Cond.selects yX9_firstWrong.cls yX9_firstWrong yX9_firstWrong ∈ gtbl := gw 654 (by decide +kernel) rfl
theorem inX9_readingOf : Cond.instanceMethod yX9_readingOf ∈ gtbl := gw 668 (by decide +kernel) rfl
theorem seX9_readingOf : Cond.selects yX9_readingOf.cls yX9_readingOf yX9_readingOf ∈ gtbl := gw 669 (by decide +kernel) rfl
theorem inX9_standsRight : Cond.instanceMethod yX9_standsRight ∈ gtbl := gw 674 (by decide +kernel) rfl
theorem seX9_standsRight : Cond.selects yX9_standsRight.cls yX9_standsRight yX9_standsRight ∈ gtbl := gsel (q := (yX9_standsRight, 1)) 19 (by decide +kernel)
theorem inX10_init : Cond.instanceMethod yX10_init ∈ gtbl := gw 18 (by decide +kernel) rfl
theorem inX10_feed : Cond.instanceMethod yX10_feed ∈ gtbl := gw 265 (by decide +kernel) rfl
theorem seX10_feed : Cond.selects yX10_feed.cls yX10_feed yX10_feed ∈ gtbl := gw 266 (by decide +kernel) rfl
theorem inX10_books : Cond.instanceMethod yX10_books ∈ gtbl := gw 278 (by decide +kernel) rfl
theorem seX10_books : Cond.selects yX10_books.cls yX10_books yX10_books ∈ gtbl := gw 279 (by decide +kernel) rfl
theorem inX10_fault : Cond.instanceMethod yX10_fault ∈ gtbl := gw 447 (by decide +kernel) rfl
theorem seX10_fault : Cond.selects yX10_fault.cls yX10_fault yX10_fault ∈ gtbl := gw 448 (by decide +kernel) rfl
theorem inX10_book : Cond.instanceMethod yX10_book ∈ gtbl := gw 451 (by decide +kernel) rfl
theorem seX10_book : Cond.selects yX10_book.cls yX10_book yX10_book ∈ gtbl := gw 452 (by decide +kernel) rfl
theorem inX10_mark : Cond.instanceMethod yX10_mark ∈ gtbl := gw 481 (by decide +kernel) rfl
theorem seX10_mark : Cond.selects yX10_mark.cls yX10_mark yX10_mark ∈ gtbl := gw 482 (by decide +kernel) rfl
theorem inX10_ahead : Cond.instanceMethod yX10_ahead ∈ gtbl := gw 486 (by decide +kernel) rfl
theorem seX10_ahead : Cond.selects yX10_ahead.cls yX10_ahead yX10_ahead ∈ gtbl := gw 487 (by decide +kernel) rfl
theorem inX10_order : Cond.instanceMethod yX10_order ∈ gtbl := gw 497 (by decide +kernel) rfl
theorem seX10_order : Cond.selects yX10_order.cls yX10_order yX10_order ∈ gtbl := gw 498 (by decide +kernel) rfl
theorem inX10_count : Cond.instanceMethod yX10_count ∈ gtbl := gw 515 (by decide +kernel) rfl
theorem seX10_count : Cond.selects yX10_count.cls yX10_count yX10_count ∈ gtbl := gw 516 (by decide +kernel) rfl
theorem inX10_width : Cond.instanceMethod yX10_width ∈ gtbl := gw 529 (by decide +kernel) rfl
theorem seX10_width : Cond.selects yX10_width.cls yX10_width yX10_width ∈ gtbl := gw 530 (by decide +kernel) rfl
theorem inX10_shelf : Cond.instanceMethod yX10_shelf ∈ gtbl := gw 552 (by decide +kernel) rfl
theorem seX10_shelf : Cond.selects yX10_shelf.cls yX10_shelf yX10_shelf ∈ gtbl := gw 553 (by decide +kernel) rfl
theorem inX10_room : Cond.instanceMethod yX10_room ∈ gtbl := gw 566 (by decide +kernel) rfl
theorem seX10_room : Cond.selects yX10_room.cls yX10_room yX10_room ∈ gtbl := gw 567 (by decide +kernel) rfl
theorem inX10_set : Cond.instanceMethod yX10_set ∈ gtbl := gw 570 (by decide +kernel) rfl
theorem seX10_set : Cond.selects yX10_set.cls yX10_set yX10_set ∈ gtbl := gw 571 (by decide +kernel) rfl
theorem inX10_put : Cond.instanceMethod yX10_put ∈ gtbl := gw 574 (by decide +kernel) rfl
theorem seX10_put : Cond.selects yX10_put.cls yX10_put yX10_put ∈ gtbl := gw 575 (by decide +kernel) rfl
theorem inX10_take : Cond.instanceMethod yX10_take ∈ gtbl := gw 618 (by decide +kernel) rfl
theorem seX10_take : Cond.selects yX10_take.cls yX10_take yX10_take ∈ gtbl := gw 619 (by decide +kernel) rfl
theorem inX10_wrong : Cond.instanceMethod yX10_wrong ∈ gtbl := gw 627 (by decide +kernel) rfl
theorem seX10_wrong : Cond.selects yX10_wrong.cls yX10_wrong yX10_wrong ∈ gtbl := gw 628 (by decide +kernel) rfl
theorem inX10_tidy : Cond.instanceMethod yX10_tidy ∈ gtbl := gw 645 (by decide +kernel) rfl
theorem seX10_tidy : Cond.selects yX10_tidy.cls yX10_tidy yX10_tidy ∈ gtbl := gw 646 (by decide +kernel) rfl
theorem inX10_mend : Cond.instanceMethod yX10_mend ∈ gtbl := gw 657 (by decide +kernel) rfl
theorem seX10_mend : Cond.selects yX10_mend.cls yX10_mend yX10_mend ∈ gtbl := gw 658 (by decide +kernel) rfl
theorem inX10_guess : Cond.instanceMethod yX10_guess ∈ gtbl := gw 664 (by decide +kernel) rfl
theorem seX10_guess : Cond.selects yX10_guess.cls yX10_guess yX10_guess ∈ gtbl := gw 665 (by decide +kernel) rfl
theorem inX10_lay : Cond.instanceMethod yX10_lay ∈ gtbl := gw 679 (by decide +kernel) rfl
theorem seX10_lay : Cond.selects yX10_lay.cls yX10_lay yX10_lay ∈ gtbl := gw 680 (by decide +kernel) rfl
theorem inX10_make : Cond.instanceMethod yX10_make ∈ gtbl := gw 699 (by decide +kernel) rfl
theorem seX10_make : Cond.selects yX10_make.cls yX10_make yX10_make ∈ gtbl := gw 700 (by decide +kernel) rfl
theorem inX10_guide : Cond.instanceMethod yX10_guide ∈ gtbl := gw 708 (by decide +kernel) rfl
theorem seX10_guide : Cond.selects yX10_guide.cls yX10_guide yX10_guide ∈ gtbl := gw 709 (by decide +kernel) rfl
theorem inX10_list : Cond.instanceMethod yX10_list ∈ gtbl := gw 725 (by decide +kernel) rfl
theorem seX10_list : Cond.selects yX10_list.cls yX10_list yX10_list ∈ gtbl := gw 726 (by decide +kernel) rfl
theorem inX10_stock : Cond.instanceMethod yX10_stock ∈ gtbl := gw 733 (by decide +kernel) rfl
theorem seX10_stock : Cond.selects yX10_stock.cls yX10_stock yX10_stock ∈ gtbl := gw 734 (by decide +kernel) rfl
theorem inX10_habit : Cond.instanceMethod yX10_habit ∈ gtbl := gw 742 (by decide +kernel) rfl
theorem seX10_habit : Cond.selects yX10_habit.cls yX10_habit yX10_habit ∈ gtbl := gw 743 (by decide +kernel) rfl
theorem inX10_likely : Cond.instanceMethod yX10_likely ∈ gtbl := gw 755 (by decide +kernel) rfl
theorem seX10_likely : Cond.selects yX10_likely.cls yX10_likely yX10_likely ∈ gtbl := gw 756 (by decide +kernel) rfl
theorem inX10_search : Cond.instanceMethod yX10_search ∈ gtbl := gw 771 (by decide +kernel) rfl
theorem seX10_search : Cond.selects yX10_search.cls yX10_search yX10_search ∈ gtbl := gw 772 (by decide +kernel) rfl
theorem inX10_seed : Cond.instanceMethod yX10_seed ∈ gtbl := gw 815 (by decide +kernel) rfl
theorem seX10_seed : Cond.selects yX10_seed.cls yX10_seed yX10_seed ∈ gtbl := gw 816 (by decide +kernel) rfl
theorem inX10_shelve : Cond.instanceMethod yX10_shelve ∈ gtbl := gw 819 (by decide +kernel) rfl
theorem seX10_shelve : Cond.selects yX10_shelve.cls yX10_shelve yX10_shelve ∈ gtbl := gw 820 (by decide +kernel) rfl
theorem inX10_keep : Cond.instanceMethod yX10_keep ∈ gtbl := gw 836 (by decide +kernel) rfl
theorem seX10_keep : Cond.selects yX10_keep.cls yX10_keep yX10_keep ∈ gtbl := gw 837 (by decide +kernel) rfl
theorem inX10_goBack : Cond.instanceMethod yX10_goBack ∈ gtbl := gw 852 (by decide +kernel) rfl
theorem seX10_goBack : Cond.selects yX10_goBack.cls yX10_goBack yX10_goBack ∈ gtbl := gw 853 (by decide +kernel) rfl
theorem inX10_putIfItGoes : Cond.instanceMethod yX10_putIfItGoes ∈ gtbl := gw 579 (by decide +kernel) rfl
theorem seX10_putIfItGoes : Cond.selects yX10_putIfItGoes.cls yX10_putIfItGoes yX10_putIfItGoes ∈ gtbl := gsel (q := (yX10_putIfItGoes, 13)) 16 (by decide +kernel)
theorem inX10_tryRoom : Cond.instanceMethod yX10_tryRoom ∈ gtbl := gw 704 (by decide +kernel) rfl
theorem seX10_tryRoom : Cond.selects yX10_tryRoom.cls yX10_tryRoom yX10_tryRoom ∈ gtbl := gsel (q := (yX10_tryRoom, 13)) 21 (by decide +kernel)
theorem inX10_guideLength : Cond.instanceMethod yX10_guideLength ∈ gtbl := gw 713 (by decide +kernel) rfl
theorem seX10_guideLength : Cond.selects yX10_guideLength.cls yX10_guideLength yX10_guideLength ∈ gtbl := gsel (q := (yX10_guideLength, 13)) 22 (by decide +kernel)
theorem inX10_someBegins : Cond.instanceMethod yX10_someBegins ∈ gtbl := gw 717 (by decide +kernel) rfl
theorem seX10_someBegins : Cond.selects yX10_someBegins.cls yX10_someBegins yX10_someBegins ∈ gtbl := gsel (q := (yX10_someBegins, 13)) 23 (by decide +kernel)
theorem inX10_isSetOfBooks : Cond.instanceMethod yX10_isSetOfBooks ∈ gtbl := gw 730 (by decide +kernel) rfl
theorem seX10_isSetOfBooks : Cond.selects yX10_isSetOfBooks.cls yX10_isSetOfBooks yX10_isSetOfBooks ∈ gtbl := gsel (q := (yX10_isSetOfBooks, 13)) 24 (by decide +kernel)
theorem inX10_draw : Cond.instanceMethod yX10_draw ∈ gtbl := gw 825 (by decide +kernel) rfl
theorem seX10_draw : Cond.selects yX10_draw.cls yX10_draw yX10_draw ∈ gtbl := gsel (q := (yX10_draw, 13)) 29 (by decide +kernel)
theorem inX10_imageOf : Cond.instanceMethod yX10_imageOf ∈ gtbl := gw 844 (by decide +kernel) rfl
theorem seX10_imageOf : Cond.selects yX10_imageOf.cls yX10_imageOf yX10_imageOf ∈ gtbl := gsel (q := (yX10_imageOf, 13)) 30 (by decide +kernel)
theorem stX10_isReading : Cond.static yX10_isReading ∈ gtbl := gw 490 (by decide +kernel) rfl
theorem stX10_isShelf : Cond.static yX10_isShelf ∈ gtbl := gw 533 (by decide +kernel) rfl
theorem stX10_isImage : Cond.static yX10_isImage ∈ gtbl := gw 840 (by decide +kernel) rfl
theorem stX10_isIn : Cond.static yX10_isIn ∈ gtbl := gw 661 (by decide +kernel) rfl
theorem stX10_entry : Cond.static yX10_entry ∈ gtbl := gw 511 (by decide +kernel) rfl
theorem stX10_write : Cond.static yX10_write ∈ gtbl := gw 129 (by decide +kernel) rfl
theorem inX11_init : Cond.instanceMethod yX11_init ∈ gtbl := gw 862 (by decide +kernel) rfl
theorem stX11_in : Cond.static yX11_in ∈ gtbl := gw 969 (by decide +kernel) rfl
theorem stX11_has : Cond.static yX11_has ∈ gtbl := gw 1219 (by decide +kernel) rfl
theorem inX11_isBook : Cond.instanceMethod yX11_isBook ∈ gtbl := gw 1049 (by decide +kernel) rfl
theorem seX11_isBook : Cond.selects yX11_isBook.cls yX11_isBook yX11_isBook ∈ gtbl := gsel (q := (yX11_isBook, 32)) 45 (by decide +kernel)
theorem stX11_isShelf : Cond.static yX11_isShelf ∈ gtbl := gw 1134 (by decide +kernel) rfl
theorem stX11_isReading : Cond.static yX11_isReading ∈ gtbl := gw 1087 (by decide +kernel) rfl
theorem inX11_feed : Cond.instanceMethod yX11_feed ∈ gtbl := gw 964 (by decide +kernel) rfl
theorem seX11_feed : Cond.selects yX11_feed.cls yX11_feed yX11_feed ∈ gtbl := gw 965 (by decide +kernel) rfl
theorem inX11_byteAt : Cond.instanceMethod yX11_byteAt ∈ gtbl := gw 982 (by decide +kernel) rfl
theorem seX11_byteAt : Cond.selects yX11_byteAt.cls yX11_byteAt yX11_byteAt ∈ gtbl := gsel (q := (yX11_byteAt, 32)) 32 (by decide +kernel)
theorem inX11_here : Cond.instanceMethod yX11_here ∈ gtbl := gw 978 (by decide +kernel) rfl
theorem seX11_here : Cond.selects yX11_here.cls yX11_here yX11_here ∈ gtbl := gsel (q := (yX11_here, 32)) 31 (by decide +kernel)
theorem inX11_fails : Cond.instanceMethod yX11_fails ∈ gtbl := gw 1000 (by decide +kernel) rfl
theorem seX11_fails : Cond.selects yX11_fails.cls yX11_fails yX11_fails ∈ gtbl := gsel (q := (yX11_fails, 32)) 36 (by decide +kernel)
theorem inX11_isLetter : Cond.instanceMethod yX11_isLetter ∈ gtbl := gw 994 (by decide +kernel) rfl
theorem seX11_isLetter : Cond.selects yX11_isLetter.cls yX11_isLetter yX11_isLetter ∈ gtbl := gsel (q := (yX11_isLetter, 32)) 35 (by decide +kernel)
theorem inX11_isFigure : Cond.instanceMethod yX11_isFigure ∈ gtbl := gw 1008 (by decide +kernel) rfl
theorem seX11_isFigure : Cond.selects yX11_isFigure.cls yX11_isFigure yX11_isFigure ∈ gtbl := gsel (q := (yX11_isFigure, 32)) 38 (by decide +kernel)
theorem inX11_takeFigures : Cond.instanceMethod yX11_takeFigures ∈ gtbl := gw 1004 (by decide +kernel) rfl
theorem seX11_takeFigures : Cond.selects yX11_takeFigures.cls yX11_takeFigures yX11_takeFigures ∈ gtbl := gsel (q := (yX11_takeFigures, 32)) 37 (by decide +kernel)
theorem inX11_takeClass : Cond.instanceMethod yX11_takeClass ∈ gtbl := gw 990 (by decide +kernel) rfl
theorem seX11_takeClass : Cond.selects yX11_takeClass.cls yX11_takeClass yX11_takeClass ∈ gtbl := gsel (q := (yX11_takeClass, 32)) 34 (by decide +kernel)
theorem inX11_takePoints : Cond.instanceMethod yX11_takePoints ∈ gtbl := gw 1014 (by decide +kernel) rfl
theorem seX11_takePoints : Cond.selects yX11_takePoints.cls yX11_takePoints yX11_takePoints ∈ gtbl := gsel (q := (yX11_takePoints, 32)) 39 (by decide +kernel)
theorem inX11_takeCutter : Cond.instanceMethod yX11_takeCutter ∈ gtbl := gw 1018 (by decide +kernel) rfl
theorem seX11_takeCutter : Cond.selects yX11_takeCutter.cls yX11_takeCutter yX11_takeCutter ∈ gtbl := gsel (q := (yX11_takeCutter, 32)) 40 (by decide +kernel)
theorem inX11_takeYear : Cond.instanceMethod yX11_takeYear ∈ gtbl := gw 1022 (by decide +kernel) rfl
theorem seX11_takeYear : Cond.selects yX11_takeYear.cls yX11_takeYear yX11_takeYear ∈ gtbl := gsel (q := (yX11_takeYear, 32)) 41 (by decide +kernel)
theorem inX11_takeWidth : Cond.instanceMethod yX11_takeWidth ∈ gtbl := gw 1028 (by decide +kernel) rfl
theorem seX11_takeWidth : Cond.selects yX11_takeWidth.cls yX11_takeWidth yX11_takeWidth ∈ gtbl := gsel (q := (yX11_takeWidth, 32)) 42 (by decide +kernel)
theorem inX11_isTold : Cond.instanceMethod yX11_isTold ∈ gtbl := gw 1033 (by decide +kernel) rfl
theorem seX11_isTold : Cond.selects yX11_isTold.cls yX11_isTold yX11_isTold ∈ gtbl := gsel (q := (yX11_isTold, 32)) 43 (by decide +kernel)
theorem inX11_isSame : Cond.instanceMethod yX11_isSame ∈ gtbl := gw 1037 (by decide +kernel) rfl
theorem seX11_isSame : Cond.selects yX11_isSame.cls yX11_isSame yX11_isSame ∈ gtbl := gsel (q := (yX11_isSame, 32)) 44 (by decide +kernel)
theorem inX11_takeBook : Cond.instanceMethod yX11_takeBook ∈ gtbl := gw 986 (by decide +kernel) rfl
theorem seX11_takeBook : Cond.selects yX11_takeBook.cls yX11_takeBook yX11_takeBook ∈ gtbl := gsel (q := (yX11_takeBook, 32)) 33 (by decide +kernel)
theorem inX11_books : Cond.instanceMethod yX11_books ∈ gtbl := gw 973 (by decide +kernel) rfl
theorem seX11_books : Cond.selects yX11_books.cls yX11_books yX11_books ∈ gtbl := gw 974 (by decide +kernel) rfl
theorem inX11_fault : Cond.instanceMethod yX11_fault ∈ gtbl := gw 1040 (by decide +kernel) rfl
theorem seX11_fault : Cond.selects yX11_fault.cls yX11_fault yX11_fault ∈ gtbl := gw 1041 (by decide +kernel) rfl
theorem stX11_whole : Cond.static yX11_whole ∈ gtbl := gw 1056 (by decide +kernel) rfl
theorem inX11_book : Cond.instanceMethod yX11_book ∈ gtbl := gw 1044 (by decide +kernel) rfl
theorem seX11_book : Cond.selects yX11_book.cls yX11_book yX11_book ∈ gtbl := gw 1045 (by decide +kernel) rfl
theorem inX11_write : Cond.instanceMethod yX11_write ∈ gtbl := gw 1076 (by decide +kernel) rfl
theorem seX11_write : Cond.selects yX11_write.cls yX11_write yX11_write ∈ gtbl := gsel (q := (yX11_write, 32)) 50 (by decide +kernel)
theorem inX11_writeFigures : Cond.instanceMethod yX11_writeFigures ∈ gtbl := gw 1080 (by decide +kernel) rfl
theorem seX11_writeFigures : Cond.selects yX11_writeFigures.cls yX11_writeFigures yX11_writeFigures ∈ gtbl := gsel (q := (yX11_writeFigures, 32)) 51 (by decide +kernel)
theorem inX11_writeMark : Cond.instanceMethod yX11_writeMark ∈ gtbl := gw 1072 (by decide +kernel) rfl
theorem seX11_writeMark : Cond.selects yX11_writeMark.cls yX11_writeMark yX11_writeMark ∈ gtbl := gsel (q := (yX11_writeMark, 32)) 49 (by decide +kernel)
theorem inX11_mark : Cond.instanceMethod yX11_mark ∈ gtbl := gw 1067 (by decide +kernel) rfl
theorem seX11_mark : Cond.selects yX11_mark.cls yX11_mark yX11_mark ∈ gtbl := gw 1068 (by decide +kernel) rfl
theorem inX11_byFigures : Cond.instanceMethod yX11_byFigures ∈ gtbl := gw 1104 (by decide +kernel) rfl
theorem seX11_byFigures : Cond.selects yX11_byFigures.cls yX11_byFigures yX11_byFigures ∈ gtbl := gsel (q := (yX11_byFigures, 32)) 55 (by decide +kernel)
theorem inX11_byClass : Cond.instanceMethod yX11_byClass ∈ gtbl := gw 1096 (by decide +kernel) rfl
theorem seX11_byClass : Cond.selects yX11_byClass.cls yX11_byClass yX11_byClass ∈ gtbl := gsel (q := (yX11_byClass, 32)) 53 (by decide +kernel)
theorem inX11_byNumber : Cond.instanceMethod yX11_byNumber ∈ gtbl := gw 1100 (by decide +kernel) rfl
theorem seX11_byNumber : Cond.selects yX11_byNumber.cls yX11_byNumber yX11_byNumber ∈ gtbl := gsel (q := (yX11_byNumber, 32)) 54 (by decide +kernel)
theorem inX11_byDecimals : Cond.instanceMethod yX11_byDecimals ∈ gtbl := gw 1108 (by decide +kernel) rfl
theorem seX11_byDecimals : Cond.selects yX11_byDecimals.cls yX11_byDecimals yX11_byDecimals ∈ gtbl := gsel (q := (yX11_byDecimals, 32)) 56 (by decide +kernel)
theorem inX11_byCutter : Cond.instanceMethod yX11_byCutter ∈ gtbl := gw 1112 (by decide +kernel) rfl
theorem seX11_byCutter : Cond.selects yX11_byCutter.cls yX11_byCutter yX11_byCutter ∈ gtbl := gsel (q := (yX11_byCutter, 32)) 57 (by decide +kernel)
theorem inX11_isAhead : Cond.instanceMethod yX11_isAhead ∈ gtbl := gw 1092 (by decide +kernel) rfl
theorem seX11_isAhead : Cond.selects yX11_isAhead.cls yX11_isAhead yX11_isAhead ∈ gtbl := gsel (q := (yX11_isAhead, 32)) 52 (by decide +kernel)
theorem inX11_ahead : Cond.instanceMethod yX11_ahead ∈ gtbl := gw 1083 (by decide +kernel) rfl
theorem seX11_ahead : Cond.selects yX11_ahead.cls yX11_ahead yX11_ahead ∈ gtbl := gw 1084 (by decide +kernel) rfl
theorem inX11_rank : Cond.instanceMethod yX11_rank ∈ gtbl := gw 1120 (by decide +kernel) rfl
theorem seX11_rank : Cond.selects yX11_rank.cls yX11_rank yX11_rank ∈ gtbl := gsel (q := (yX11_rank, 32)) 58 (by decide +kernel)
theorem inX11_order : Cond.instanceMethod yX11_order ∈ gtbl := gw 1115 (by decide +kernel) rfl
theorem seX11_order : Cond.selects yX11_order.cls yX11_order yX11_order ∈ gtbl := gw 1116 (by decide +kernel) rfl
theorem stX11_bits : Cond.static yX11_bits ∈ gtbl := gw 1127 (by decide +kernel) rfl
theorem inX11_count : Cond.instanceMethod yX11_count ∈ gtbl := gw 1123 (by decide +kernel) rfl
theorem seX11_count : Cond.selects yX11_count.cls yX11_count yX11_count ∈ gtbl := gw 1124 (by decide +kernel) rfl
theorem inX11_placeOf : Cond.instanceMethod yX11_placeOf ∈ gtbl := gw 1053 (by decide +kernel) rfl
theorem seX11_placeOf : Cond.selects yX11_placeOf.cls yX11_placeOf yX11_placeOf ∈ gtbl := gsel (q := (yX11_placeOf, 32)) 46 (by decide +kernel)
theorem inX11_firstOf : Cond.instanceMethod yX11_firstOf ∈ gtbl := gw 1064 (by decide +kernel) rfl
theorem seX11_firstOf : Cond.selects yX11_firstOf.cls yX11_firstOf yX11_firstOf ∈ gtbl := gsel (q := (yX11_firstOf, 32)) 48 (by decide +kernel)
theorem inX11_shelfOf : Cond.instanceMethod yX11_shelfOf ∈ gtbl := gw 1060 (by decide +kernel) rfl
theorem seX11_shelfOf : Cond.selects yX11_shelfOf.cls yX11_shelfOf yX11_shelfOf ∈ gtbl := gsel (q := (yX11_shelfOf, 32)) 47 (by decide +kernel)
theorem inX11_usedOn : Cond.instanceMethod yX11_usedOn ∈ gtbl := gw 1140 (by decide +kernel) rfl
theorem seX11_usedOn : Cond.selects yX11_usedOn.cls yX11_usedOn yX11_usedOn ∈ gtbl := gsel (q := (yX11_usedOn, 32)) 59 (by decide +kernel)
theorem inX11_roomOn : Cond.instanceMethod yX11_roomOn ∈ gtbl := gw 1152 (by decide +kernel) rfl
theorem seX11_roomOn : Cond.selects yX11_roomOn.cls yX11_roomOn yX11_roomOn ∈ gtbl := gsel (q := (yX11_roomOn, 32)) 60 (by decide +kernel)
theorem inX11_width : Cond.instanceMethod yX11_width ∈ gtbl := gw 1130 (by decide +kernel) rfl
theorem seX11_width : Cond.selects yX11_width.cls yX11_width yX11_width ∈ gtbl := gw 1131 (by decide +kernel) rfl
theorem inX11_shelf : Cond.instanceMethod yX11_shelf ∈ gtbl := gw 1143 (by decide +kernel) rfl
theorem seX11_shelf : Cond.selects yX11_shelf.cls yX11_shelf yX11_shelf ∈ gtbl := gw 1144 (by decide +kernel) rfl
theorem inX11_room : Cond.instanceMethod yX11_room ∈ gtbl := gw 1147 (by decide +kernel) rfl
theorem seX11_room : Cond.selects yX11_room.cls yX11_room yX11_room ∈ gtbl := gw 1148 (by decide +kernel) rfl
theorem inX11_insert : Cond.instanceMethod yX11_insert ∈ gtbl := gw 1160 (by decide +kernel) rfl
theorem seX11_insert : Cond.selects yX11_insert.cls yX11_insert yX11_insert ∈ gtbl := gsel (q := (yX11_insert, 32)) 61 (by decide +kernel)
theorem inX11_remove : Cond.instanceMethod yX11_remove ∈ gtbl := gw 1196 (by decide +kernel) rfl
theorem seX11_remove : Cond.selects yX11_remove.cls yX11_remove yX11_remove ∈ gtbl := gsel (q := (yX11_remove, 32)) 68 (by decide +kernel)
theorem inX11_set : Cond.instanceMethod yX11_set ∈ gtbl := gw 1155 (by decide +kernel) rfl
theorem seX11_set : Cond.selects yX11_set.cls yX11_set yX11_set ∈ gtbl := gw 1156 (by decide +kernel) rfl
theorem inX11_save : Cond.instanceMethod yX11_save ∈ gtbl := gw 1168 (by decide +kernel) rfl
theorem seX11_save : Cond.selects yX11_save.cls yX11_save yX11_save ∈ gtbl := gsel (q := (yX11_save, 32)) 62 (by decide +kernel)
theorem inX11_back : Cond.instanceMethod yX11_back ∈ gtbl := gw 1188 (by decide +kernel) rfl
theorem seX11_back : Cond.selects yX11_back.cls yX11_back yX11_back ∈ gtbl := gsel (q := (yX11_back, 32)) 67 (by decide +kernel)
theorem inX11_placeBy : Cond.instanceMethod yX11_placeBy ∈ gtbl := gw 1176 (by decide +kernel) rfl
theorem seX11_placeBy : Cond.selects yX11_placeBy.cls yX11_placeBy yX11_placeBy ∈ gtbl := gsel (q := (yX11_placeBy, 32)) 64 (by decide +kernel)
theorem inX11_shelfBy : Cond.instanceMethod yX11_shelfBy ∈ gtbl := gw 1180 (by decide +kernel) rfl
theorem seX11_shelfBy : Cond.selects yX11_shelfBy.cls yX11_shelfBy yX11_shelfBy ∈ gtbl := gsel (q := (yX11_shelfBy, 32)) 65 (by decide +kernel)
theorem inX11_push : Cond.instanceMethod yX11_push ∈ gtbl := gw 1184 (by decide +kernel) rfl
theorem seX11_push : Cond.selects yX11_push.cls yX11_push yX11_push ∈ gtbl := gsel (q := (yX11_push, 32)) 66 (by decide +kernel)
theorem inX11_putNow : Cond.instanceMethod yX11_putNow ∈ gtbl := gw 1172 (by decide +kernel) rfl
theorem seX11_putNow : Cond.selects yX11_putNow.cls yX11_putNow yX11_putNow ∈ gtbl := gsel (q := (yX11_putNow, 32)) 63 (by decide +kernel)
theorem inX11_put : Cond.instanceMethod yX11_put ∈ gtbl := gw 1163 (by decide +kernel) rfl
theorem seX11_put : Cond.selects yX11_put.cls yX11_put yX11_put ∈ gtbl := gw 1164 (by decide +kernel) rfl
theorem inX11_take : Cond.instanceMethod yX11_take ∈ gtbl := gw 1191 (by decide +kernel) rfl
theorem seX11_take : Cond.selects yX11_take.cls yX11_take yX11_take ∈ gtbl := gw 1192 (by decide +kernel) rfl
theorem inX11_mayStand : Cond.instanceMethod yX11_mayStand ∈ gtbl := gw 1208 (by decide +kernel) rfl
theorem seX11_mayStand : Cond.selects yX11_mayStand.cls yX11_mayStand yX11_mayStand ∈ gtbl := gsel (q := (yX11_mayStand, 32)) 70 (by decide +kernel)
theorem inX11_findWrong : Cond.instanceMethod yX11_findWrong ∈ gtbl := gw 1204 (by decide +kernel) rfl
theorem seX11_findWrong : Cond.selects yX11_findWrong.cls yX11_findWrong yX11_findWrong ∈ gtbl := gsel (q := (yX11_findWrong, 32)) 69 (by decide +kernel)
theorem inX11_wrong : Cond.instanceMethod yX11_wrong ∈ gtbl := gw 1199 (by decide +kernel) rfl
theorem seX11_wrong : Cond.selects yX11_wrong.cls yX11_wrong yX11_wrong ∈ gtbl := gw 1200 (by decide +kernel) rfl
theorem inX11_tidy : Cond.instanceMethod yX11_tidy ∈ gtbl := gw 1211 (by decide +kernel) rfl
theorem seX11_tidy : Cond.selects yX11_tidy.cls yX11_tidy yX11_tidy ∈ gtbl := gw 1212 (by decide +kernel) rfl
theorem inX11_mend : Cond.instanceMethod yX11_mend ∈ gtbl := gw 1215 (by decide +kernel) rfl
theorem seX11_mend : Cond.selects yX11_mend.cls yX11_mend yX11_mend ∈ gtbl := gw 1216 (by decide +kernel) rfl
theorem inX11_guess : Cond.instanceMethod yX11_guess ∈ gtbl := gw 1222 (by decide +kernel) rfl
theorem seX11_guess : Cond.selects yX11_guess.cls yX11_guess yX11_guess ∈ gtbl := gw 1223 (by decide +kernel) rfl
theorem inX11_carried : Cond.instanceMethod yX11_carried ∈ gtbl := gw 1232 (by decide +kernel) rfl
theorem seX11_carried : Cond.selects yX11_carried.cls yX11_carried yX11_carried ∈ gtbl := gsel (q := (yX11_carried, 32)) 71 (by decide +kernel)
theorem inX11_lay : Cond.instanceMethod yX11_lay ∈ gtbl := gw 1226 (by decide +kernel) rfl
theorem seX11_lay : Cond.selects yX11_lay.cls yX11_lay yX11_lay ∈ gtbl := gw 1227 (by decide +kernel) rfl
theorem inX11_makeLater : Cond.instanceMethod yX11_makeLater ∈ gtbl := gw 1240 (by decide +kernel) rfl
theorem seX11_makeLater : Cond.selects yX11_makeLater.cls yX11_makeLater yX11_makeLater ∈ gtbl := gsel (q := (yX11_makeLater, 32)) 72 (by decide +kernel)
theorem inX11_makeEarlier : Cond.instanceMethod yX11_makeEarlier ∈ gtbl := gw 1244 (by decide +kernel) rfl
theorem seX11_makeEarlier : Cond.selects yX11_makeEarlier.cls yX11_makeEarlier yX11_makeEarlier ∈ gtbl := gsel (q := (yX11_makeEarlier, 32)) 73 (by decide +kernel)
theorem inX11_make : Cond.instanceMethod yX11_make ∈ gtbl := gw 1235 (by decide +kernel) rfl
theorem seX11_make : Cond.selects yX11_make.cls yX11_make yX11_make ∈ gtbl := gw 1236 (by decide +kernel) rfl
theorem inX11_findGuide : Cond.instanceMethod yX11_findGuide ∈ gtbl := gw 1252 (by decide +kernel) rfl
theorem seX11_findGuide : Cond.selects yX11_findGuide.cls yX11_findGuide yX11_findGuide ∈ gtbl := gsel (q := (yX11_findGuide, 32)) 74 (by decide +kernel)
theorem inX11_guide : Cond.instanceMethod yX11_guide ∈ gtbl := gw 1247 (by decide +kernel) rfl
theorem seX11_guide : Cond.selects yX11_guide.cls yX11_guide yX11_guide ∈ gtbl := gw 1248 (by decide +kernel) rfl
theorem inX11_areBooks : Cond.instanceMethod yX11_areBooks ∈ gtbl := gw 1260 (by decide +kernel) rfl
theorem seX11_areBooks : Cond.selects yX11_areBooks.cls yX11_areBooks yX11_areBooks ∈ gtbl := gsel (q := (yX11_areBooks, 32)) 75 (by decide +kernel)
theorem inX11_list : Cond.instanceMethod yX11_list ∈ gtbl := gw 1255 (by decide +kernel) rfl
theorem seX11_list : Cond.selects yX11_list.cls yX11_list yX11_list ∈ gtbl := gw 1256 (by decide +kernel) rfl
theorem inX11_stock : Cond.instanceMethod yX11_stock ∈ gtbl := gw 1263 (by decide +kernel) rfl
theorem seX11_stock : Cond.selects yX11_stock.cls yX11_stock yX11_stock ∈ gtbl := gw 1264 (by decide +kernel) rfl
theorem inX11_habit : Cond.instanceMethod yX11_habit ∈ gtbl := gw 1267 (by decide +kernel) rfl
theorem seX11_habit : Cond.selects yX11_habit.cls yX11_habit yX11_habit ∈ gtbl := gw 1268 (by decide +kernel) rfl
theorem inX11_allHabits : Cond.instanceMethod yX11_allHabits ∈ gtbl := gw 1281 (by decide +kernel) rfl
theorem seX11_allHabits : Cond.selects yX11_allHabits.cls yX11_allHabits yX11_allHabits ∈ gtbl := gsel (q := (yX11_allHabits, 32)) 77 (by decide +kernel)
theorem inX11_likelyOn : Cond.instanceMethod yX11_likelyOn ∈ gtbl := gw 1277 (by decide +kernel) rfl
theorem seX11_likelyOn : Cond.selects yX11_likelyOn.cls yX11_likelyOn yX11_likelyOn ∈ gtbl := gsel (q := (yX11_likelyOn, 32)) 76 (by decide +kernel)
theorem inX11_likely : Cond.instanceMethod yX11_likely ∈ gtbl := gw 1272 (by decide +kernel) rfl
theorem seX11_likely : Cond.selects yX11_likely.cls yX11_likely yX11_likely ∈ gtbl := gw 1273 (by decide +kernel) rfl
theorem inX11_nextRow : Cond.instanceMethod yX11_nextRow ∈ gtbl := gw 1298 (by decide +kernel) rfl
theorem seX11_nextRow : Cond.selects yX11_nextRow.cls yX11_nextRow yX11_nextRow ∈ gtbl := gsel (q := (yX11_nextRow, 32)) 80 (by decide +kernel)
theorem inX11_weighed : Cond.instanceMethod yX11_weighed ∈ gtbl := gw 1294 (by decide +kernel) rfl
theorem seX11_weighed : Cond.selects yX11_weighed.cls yX11_weighed yX11_weighed ∈ gtbl := gsel (q := (yX11_weighed, 32)) 79 (by decide +kernel)
theorem inX11_findSearch : Cond.instanceMethod yX11_findSearch ∈ gtbl := gw 1290 (by decide +kernel) rfl
theorem seX11_findSearch : Cond.selects yX11_findSearch.cls yX11_findSearch yX11_findSearch ∈ gtbl := gsel (q := (yX11_findSearch, 32)) 78 (by decide +kernel)
theorem inX11_search : Cond.instanceMethod yX11_search ∈ gtbl := gw 1285 (by decide +kernel) rfl
theorem seX11_search : Cond.selects yX11_search.cls yX11_search yX11_search ∈ gtbl := gw 1286 (by decide +kernel) rfl
theorem inX11_seed : Cond.instanceMethod yX11_seed ∈ gtbl := gw 1301 (by decide +kernel) rfl
theorem seX11_seed : Cond.selects yX11_seed.cls yX11_seed yX11_seed ∈ gtbl := gw 1302 (by decide +kernel) rfl
theorem inX11_draw : Cond.instanceMethod yX11_draw ∈ gtbl := gw 1314 (by decide +kernel) rfl
theorem seX11_draw : Cond.selects yX11_draw.cls yX11_draw yX11_draw ∈ gtbl := gsel (q := (yX11_draw, 32)) 82 (by decide +kernel)
theorem inX11_drawReading : Cond.instanceMethod yX11_drawReading ∈ gtbl := gw 1310 (by decide +kernel) rfl
theorem seX11_drawReading : Cond.selects yX11_drawReading.cls yX11_drawReading yX11_drawReading ∈ gtbl := gsel (q := (yX11_drawReading, 32)) 81 (by decide +kernel)
theorem inX11_shelve : Cond.instanceMethod yX11_shelve ∈ gtbl := gw 1305 (by decide +kernel) rfl
theorem seX11_shelve : Cond.selects yX11_shelve.cls yX11_shelve yX11_shelve ∈ gtbl := gw 1306 (by decide +kernel) rfl
theorem inX11_keep : Cond.instanceMethod yX11_keep ∈ gtbl := gw 1321 (by decide +kernel) rfl
theorem seX11_keep : Cond.selects yX11_keep.cls yX11_keep yX11_keep ∈ gtbl := gw 1322 (by decide +kernel) rfl
theorem inX11_goBack : Cond.instanceMethod yX11_goBack ∈ gtbl := gw 1325 (by decide +kernel) rfl
theorem seX11_goBack : Cond.selects yX11_goBack.cls yX11_goBack yX11_goBack ∈ gtbl := gw 1326 (by decide +kernel) rfl
theorem stJ6_bitCount_0f7a4 : Cond.static yJ6_bitCount_0f7a4 ∈ gtbl := gw 523 (by decide +kernel) rfl
theorem mlX10_11 : xML RX10 11 yX1_init cX1_init 2 none 1 := ⟨⟨gw 25 (by decide +kernel) rfl, gw 2 (by decide +kernel) rfl, gw 27 (by decide +kernel) rfl⟩, by decide +kernel⟩
theorem mlX10_20 : xML RX10 20 yX2_init cX2_init 2 none 0 := ⟨⟨gw 42 (by decide +kernel) rfl, gw 4 (by decide +kernel) rfl, gw 44 (by decide +kernel) rfl⟩, by decide +kernel⟩
theorem mlX10_27 : xML RX10 27 yX8_init cX8_init 2 none 0 := ⟨⟨gw 124 (by decide +kernel) rfl, gw 6 (by decide +kernel) rfl, gw 126 (by decide +kernel) rfl⟩, by decide +kernel⟩
theorem mlX10_34 : xML RX10 34 yX6_init cX6_init 1 none 0 := ⟨⟨gw 137 (by decide +kernel) rfl, gw 7 (by decide +kernel) rfl, gw 139 (by decide +kernel) rfl⟩, by decide +kernel⟩
theorem mlX10_44 : xMN RX10 "OutOfPlace" 44 yX9_init cX9_init 1 none 0 := ⟨⟨nw 158 (by decide +kernel) rfl, gw 8 (by decide +kernel) rfl, gw 160 (by decide +kernel) rfl⟩, by decide +kernel⟩
theorem mlX10_51 : xML RX10 51 yX3_init cX3_init 2 none 0 := ⟨⟨gw 168 (by decide +kernel) rfl, gw 9 (by decide +kernel) rfl, gw 170 (by decide +kernel) rfl⟩, by decide +kernel⟩
theorem mlX10_58 : xMN RX10 "OutOfPlace" 58 yX7_init cX7_init 1 none 0 := ⟨⟨nw 179 (by decide +kernel) rfl, gw 10 (by decide +kernel) rfl, gw 181 (by decide +kernel) rfl⟩, by decide +kernel⟩
theorem mlX10_65 : xMN RX10 "OutOfPlace" 65 yX4_init cX4_init 1 none 0 := ⟨⟨nw 201 (by decide +kernel) rfl, gw 11 (by decide +kernel) rfl, gw 203 (by decide +kernel) rfl⟩, by decide +kernel⟩
theorem mlX10_83 : xML RX10 83 yX1_size cX1_size 1 (some .int) 0 := ⟨⟨gw 268 (by decide +kernel) rfl, gw 2 (by decide +kernel) rfl, gw 271 (by decide +kernel) rfl⟩, by decide +kernel⟩
theorem mlX10_89 : xML RX10 89 yX1_append cX1_append 2 none 1 := ⟨⟨gw 273 (by decide +kernel) rfl, gw 2 (by decide +kernel) rfl, gw 276 (by decide +kernel) rfl⟩, by decide +kernel⟩
theorem mlX10_94 : xML RX10 94 yX5_init cX5_init 3 none 2 := ⟨⟨gw 283 (by decide +kernel) rfl, gw 13 (by decide +kernel) rfl, gw 285 (by decide +kernel) rfl⟩, by decide +kernel⟩
theorem mlX10_97 : xML RX10 97 yX5_parse cX5_parse 2 (some .int) 0 := ⟨⟨gw 320 (by decide +kernel) rfl, gw 13 (by decide +kernel) rfl, gw 323 (by decide +kernel) rfl⟩, by decide +kernel⟩
theorem mlX10_100 : xML RX10 100 yX5_faultAt cX5_faultAt 1 (some .int) 0 := ⟨⟨gw 429 (by decide +kernel) rfl, gw 13 (by decide +kernel) rfl, gw 432 (by decide +kernel) rfl⟩, by decide +kernel⟩
theorem mlX10_103 : xML RX10 103 yX2_acceptDrafts cX2_acceptDrafts 1 none 0 := ⟨⟨gw 433 (by decide +kernel) rfl, gw 4 (by decide +kernel) rfl, gw 436 (by decide +kernel) rfl⟩, by decide +kernel⟩
theorem mlX10_106 : xML RX10 106 yX2_dropDrafts cX2_dropDrafts 1 none 0 := ⟨⟨gw 437 (by decide +kernel) rfl, gw 4 (by decide +kernel) rfl, gw 440 (by decide +kernel) rfl⟩, by decide +kernel⟩
theorem mlX10_109 : xML RX10 109 yX1_clear cX1_clear 1 none 0 := ⟨⟨gw 441 (by decide +kernel) rfl, gw 2 (by decide +kernel) rfl, gw 363 (by decide +kernel) rfl⟩, by decide +kernel⟩
theorem mlX10_112 : xML RX10 112 yX2_size cX2_size 1 (some .int) 0 := ⟨⟨gw 442 (by decide +kernel) rfl, gw 4 (by decide +kernel) rfl, gw 445 (by decide +kernel) rfl⟩, by decide +kernel⟩
theorem mlX10_113 : xML RX10 113 yX2_has cX2_has 2 (some .boolean) 1 := ⟨⟨gw 454 (by decide +kernel) rfl, gw 4 (by decide +kernel) rfl, gw 457 (by decide +kernel) rfl⟩, by decide +kernel⟩
theorem mlX10_117 : xML RX10 117 yX2_of cX2_of 3 (some (.object "OutOfPlace$Book")) 1 := ⟨⟨gw 458 (by decide +kernel) rfl, gw 4 (by decide +kernel) rfl, gw 294 (by decide +kernel) rfl⟩, by decide +kernel⟩
theorem mlX10_132 : xML RX10 132 yX6_shelfOf cX6_shelfOf 2 (some .int) 1 := ⟨⟨gw 459 (by decide +kernel) rfl, gw 7 (by decide +kernel) rfl, gw 462 (by decide +kernel) rfl⟩, by decide +kernel⟩
theorem mlX10_136 : xML RX10 136 yX6_stands cX6_stands 2 (some .boolean) 1 := ⟨⟨gw 463 (by decide +kernel) rfl, gw 7 (by decide +kernel) rfl, gw 466 (by decide +kernel) rfl⟩, by decide +kernel⟩
theorem mlX10_139 : xML RX10 139 yX6_indexOf cX6_indexOf 3 (some .int) 1 := ⟨⟨gw 468 (by decide +kernel) rfl, gw 7 (by decide +kernel) rfl, gw 471 (by decide +kernel) rfl⟩, by decide +kernel⟩
theorem mlX10_142 : xML RX10 142 yX6_start cX6_start 7 (some .int) 1 := ⟨⟨gw 476 (by decide +kernel) rfl, gw 7 (by decide +kernel) rfl, gw 479 (by decide +kernel) rfl⟩, by decide +kernel⟩
theorem mlX10_148 : xML RX10 148 yX1_get cX1_get 2 (some .int) 1 := ⟨⟨gw 484 (by decide +kernel) rfl, gw 2 (by decide +kernel) rfl, gw 335 (by decide +kernel) rfl⟩, by decide +kernel⟩
theorem mlX10_151 : xML RX10 151 yX10_isReading cX10_isReading 1 (some .boolean) 1 := ⟨⟨gw 489 (by decide +kernel) rfl, gw 1 (by decide +kernel) rfl, gw 491 (by decide +kernel) rfl⟩, by decide +kernel⟩
theorem mlX10_154 : xML RX10 154 yX2_isAhead cX2_isAhead 5 (some .boolean) 3 := ⟨⟨gw 492 (by decide +kernel) rfl, gw 4 (by decide +kernel) rfl, gw 495 (by decide +kernel) rfl⟩, by decide +kernel⟩
theorem mlX10_158 : xML RX10 158 yX6_clear cX6_clear 2 none 0 := ⟨⟨gw 500 (by decide +kernel) rfl, gw 7 (by decide +kernel) rfl, gw 144 (by decide +kernel) rfl⟩, by decide +kernel⟩
theorem mlX10_159 : xML RX10 159 yX6_spotFor cX6_spotFor 5 (some .int) 3 := ⟨⟨gw 501 (by decide +kernel) rfl, gw 7 (by decide +kernel) rfl, gw 504 (by decide +kernel) rfl⟩, by decide +kernel⟩
theorem mlX10_163 : xML RX10 163 yX6_insert cX6_insert 5 none 3 := ⟨⟨gw 506 (by decide +kernel) rfl, gw 7 (by decide +kernel) rfl, gw 509 (by decide +kernel) rfl⟩, by decide +kernel⟩
theorem mlX10_167 : xML RX10 167 yX6_bookAt cX6_bookAt 2 (some .int) 1 := ⟨⟨gw 513 (by decide +kernel) rfl, gw 7 (by decide +kernel) rfl, gw 475 (by decide +kernel) rfl⟩, by decide +kernel⟩
theorem mlX10_170 : xML RX10 170 yX6_size cX6_size 1 (some .int) 0 := ⟨⟨gw 518 (by decide +kernel) rfl, gw 7 (by decide +kernel) rfl, gw 521 (by decide +kernel) rfl⟩, by decide +kernel⟩
theorem mlX10_171 : xML RX10 171 yJ6_bitCount_0f7a4 cJ6_bitCount_0f7a4 1 (some .int) 1 := ⟨⟨gw 522 (by decide +kernel) rfl, gw 14 (by decide +kernel) rfl, gw 524 (by decide +kernel) rfl⟩, by decide +kernel⟩
theorem mlX10_176 : xML RX10 176 yX10_isShelf cX10_isShelf 1 (some .boolean) 1 := ⟨⟨gw 532 (by decide +kernel) rfl, gw 1 (by decide +kernel) rfl, gw 534 (by decide +kernel) rfl⟩, by decide +kernel⟩
theorem mlX10_179 : xML RX10 179 yX8_widthOf cX8_widthOf 2 (some .int) 1 := ⟨⟨gw 535 (by decide +kernel) rfl, gw 6 (by decide +kernel) rfl, gw 538 (by decide +kernel) rfl⟩, by decide +kernel⟩
theorem mlX10_182 : xML RX10 182 yX8_left cX8_left 6 (some .int) 3 := ⟨⟨gw 540 (by decide +kernel) rfl, gw 6 (by decide +kernel) rfl, gw 543 (by decide +kernel) rfl⟩, by decide +kernel⟩
theorem mlX10_186 : xML RX10 186 yX8_widen cX8_widen 3 none 2 := ⟨⟨gw 547 (by decide +kernel) rfl, gw 6 (by decide +kernel) rfl, gw 550 (by decide +kernel) rfl⟩, by decide +kernel⟩
theorem mlX10_190 : xML RX10 190 yX6_amount cX6_amount 7 (some .int) 1 := ⟨⟨gw 555 (by decide +kernel) rfl, gw 7 (by decide +kernel) rfl, gw 558 (by decide +kernel) rfl⟩, by decide +kernel⟩
theorem mlX10_193 : xML RX10 193 yX6_onShelf cX6_onShelf 3 (some .int) 2 := ⟨⟨gw 559 (by decide +kernel) rfl, gw 7 (by decide +kernel) rfl, gw 562 (by decide +kernel) rfl⟩, by decide +kernel⟩
theorem mlX10_197 : xML RX10 197 yX10_putIfItGoes cX10_putIfItGoes 3 (some .boolean) 2 := ⟨⟨gw 577 (by decide +kernel) rfl, gw 1 (by decide +kernel) rfl, gw 580 (by decide +kernel) rfl⟩, by decide +kernel⟩
theorem mlX10_201 : xML RX10 201 yX6_remove cX6_remove 4 none 1 := ⟨⟨gw 621 (by decide +kernel) rfl, gw 7 (by decide +kernel) rfl, gw 624 (by decide +kernel) rfl⟩, by decide +kernel⟩
theorem mlX10_204 : xML RX10 204 yX9_outOfPlace cX9_outOfPlace 8 (some .int) 2 := ⟨⟨gw 630 (by decide +kernel) rfl, gw 8 (by decide +kernel) rfl, gw 633 (by decide +kernel) rfl⟩, by decide +kernel⟩
theorem mlX10_208 : xML RX10 208 yX9_pairs cX9_pairs 6 (some .int) 2 := ⟨⟨gw 648 (by decide +kernel) rfl, gw 8 (by decide +kernel) rfl, gw 651 (by decide +kernel) rfl⟩, by decide +kernel⟩
theorem mlX10_211 : xML RX10 211 yX9_firstWrong cX9_firstWrong 4 (some .int) 2 := ⟨⟨gw 652 (by decide +kernel) rfl, gw 8 (by decide +kernel) rfl, gw 655 (by decide +kernel) rfl⟩, by decide +kernel⟩
theorem mlX10_214 : xML RX10 214 yX6_copyFrom cX6_copyFrom 3 none 1 := ⟨⟨gw 581 (by decide +kernel) rfl, gw 7 (by decide +kernel) rfl, gw 584 (by decide +kernel) rfl⟩, by decide +kernel⟩
theorem mlX10_218 : xML RX10 218 yX10_isIn cX10_isIn 2 (some .boolean) 2 := ⟨⟨gw 660 (by decide +kernel) rfl, gw 1 (by decide +kernel) rfl, gw 662 (by decide +kernel) rfl⟩, by decide +kernel⟩
theorem mlX10_221 : xML RX10 221 yX8_putBy cX8_putBy 7 (some .boolean) 4 := ⟨⟨gw 585 (by decide +kernel) rfl, gw 6 (by decide +kernel) rfl, gw 588 (by decide +kernel) rfl⟩, by decide +kernel⟩
theorem mlX10_225 : xML RX10 225 yX9_readingOf cX9_readingOf 6 (some .int) 3 := ⟨⟨gw 667 (by decide +kernel) rfl, gw 8 (by decide +kernel) rfl, gw 670 (by decide +kernel) rfl⟩, by decide +kernel⟩
theorem mlX10_228 : xML RX10 228 yX8_layAnew cX8_layAnew 8 (some .boolean) 4 := ⟨⟨gw 682 (by decide +kernel) rfl, gw 6 (by decide +kernel) rfl, gw 685 (by decide +kernel) rfl⟩, by decide +kernel⟩
theorem mlX10_232 : xML RX10 232 yX6_carriedTo cX6_carriedTo 4 (some .int) 1 := ⟨⟨gw 694 (by decide +kernel) rfl, gw 7 (by decide +kernel) rfl, gw 697 (by decide +kernel) rfl⟩, by decide +kernel⟩
theorem mlX10_236 : xML RX10 236 yX10_tryRoom cX10_tryRoom 4 (some .int) 3 := ⟨⟨gw 702 (by decide +kernel) rfl, gw 1 (by decide +kernel) rfl, gw 705 (by decide +kernel) rfl⟩, by decide +kernel⟩
theorem mlX10_240 : xML RX10 240 yX8_pushAway cX8_pushAway 9 (some .boolean) 5 := ⟨⟨gw 706 (by decide +kernel) rfl, gw 6 (by decide +kernel) rfl, gw 601 (by decide +kernel) rfl⟩, by decide +kernel⟩
theorem mlX10_244 : xML RX10 244 yX10_guideLength cX10_guideLength 6 (some .int) 2 := ⟨⟨gw 711 (by decide +kernel) rfl, gw 1 (by decide +kernel) rfl, gw 714 (by decide +kernel) rfl⟩, by decide +kernel⟩
theorem mlX10_247 : xML RX10 247 yX10_isSetOfBooks cX10_isSetOfBooks 2 (some .boolean) 1 := ⟨⟨gw 728 (by decide +kernel) rfl, gw 1 (by decide +kernel) rfl, gw 731 (by decide +kernel) rfl⟩, by decide +kernel⟩
theorem mlX10_250 : xML RX10 250 yX6_standing cX6_standing 3 (some .int) 0 := ⟨⟨gw 736 (by decide +kernel) rfl, gw 7 (by decide +kernel) rfl, gw 739 (by decide +kernel) rfl⟩, by decide +kernel⟩
theorem mlX10_253 : xML RX10 253 yX3_weight cX3_weight 2 (some .int) 1 := ⟨⟨gw 745 (by decide +kernel) rfl, gw 9 (by decide +kernel) rfl, gw 748 (by decide +kernel) rfl⟩, by decide +kernel⟩
theorem mlX10_256 : xML RX10 256 yX3_weigh cX3_weigh 3 none 2 := ⟨⟨gw 750 (by decide +kernel) rfl, gw 9 (by decide +kernel) rfl, gw 753 (by decide +kernel) rfl⟩, by decide +kernel⟩
theorem mlX10_259 : xML RX10 259 yX3_chance cX3_chance 8 (some .int) 4 := ⟨⟨gw 758 (by decide +kernel) rfl, gw 9 (by decide +kernel) rfl, gw 761 (by decide +kernel) rfl⟩, by decide +kernel⟩
theorem mlX10_263 : xML RX10 263 yX7_begin cX7_begin 7 none 4 := ⟨⟨gw 774 (by decide +kernel) rfl, gw 10 (by decide +kernel) rfl, gw 777 (by decide +kernel) rfl⟩, by decide +kernel⟩
theorem mlX10_267 : xML RX10 267 yX7_find cX7_find 4 none 1 := ⟨⟨gw 780 (by decide +kernel) rfl, gw 10 (by decide +kernel) rfl, gw 783 (by decide +kernel) rfl⟩, by decide +kernel⟩
theorem mlX10_270 : xML RX10 270 yX7_leastCost cX7_leastCost 1 (some .int) 0 := ⟨⟨gw 806 (by decide +kernel) rfl, gw 10 (by decide +kernel) rfl, gw 809 (by decide +kernel) rfl⟩, by decide +kernel⟩
theorem mlX10_273 : xML RX10 273 yX7_shelfAt cX7_shelfAt 2 (some .int) 1 := ⟨⟨gw 810 (by decide +kernel) rfl, gw 10 (by decide +kernel) rfl, gw 813 (by decide +kernel) rfl⟩, by decide +kernel⟩
theorem mlX10_276 : xML RX10 276 yX3_total cX3_total 3 (some .int) 0 := ⟨⟨gw 822 (by decide +kernel) rfl, gw 9 (by decide +kernel) rfl, gw 765 (by decide +kernel) rfl⟩, by decide +kernel⟩
theorem mlX10_279 : xML RX10 279 yX10_draw cX10_draw 2 (some .int) 1 := ⟨⟨gw 823 (by decide +kernel) rfl, gw 1 (by decide +kernel) rfl, gw 826 (by decide +kernel) rfl⟩, by decide +kernel⟩
theorem mlX10_282 : xML RX10 282 yX3_readingOf cX3_readingOf 4 (some .int) 1 := ⟨⟨gw 831 (by decide +kernel) rfl, gw 9 (by decide +kernel) rfl, gw 834 (by decide +kernel) rfl⟩, by decide +kernel⟩
theorem mlX10_284 : xML RX10 284 yX10_isImage cX10_isImage 1 (some .boolean) 1 := ⟨⟨gw 839 (by decide +kernel) rfl, gw 1 (by decide +kernel) rfl, gw 841 (by decide +kernel) rfl⟩, by decide +kernel⟩
theorem mlX10_287 : xML RX10 287 yX10_imageOf cX10_imageOf 2 (some (.object "OutOfPlace$Image")) 1 := ⟨⟨gw 842 (by decide +kernel) rfl, gw 1 (by decide +kernel) rfl, gw 845 (by decide +kernel) rfl⟩, by decide +kernel⟩
theorem mlX10_291 : xML RX10 291 yX4_store cX4_store 4 none 3 := ⟨⟨gw 846 (by decide +kernel) rfl, gw 11 (by decide +kernel) rfl, gw 849 (by decide +kernel) rfl⟩, by decide +kernel⟩
theorem mlX10_300 : xML RX10 300 yX8_hold cX8_hold 4 (some .boolean) 2 := ⟨⟨gw 855 (by decide +kernel) rfl, gw 6 (by decide +kernel) rfl, gw 858 (by decide +kernel) rfl⟩, by decide +kernel⟩
theorem mlX10_310 : xML RX10 310 yX10_someBegins cX10_someBegins 5 (some .boolean) 3 := ⟨⟨gw 715 (by decide +kernel) rfl, gw 1 (by decide +kernel) rfl, gw 718 (by decide +kernel) rfl⟩, by decide +kernel⟩
theorem mlX10_314 : xML RX10 314 yX1_beginsWith cX1_beginsWith 4 (some .boolean) 2 := ⟨⟨gw 719 (by decide +kernel) rfl, gw 2 (by decide +kernel) rfl, gw 722 (by decide +kernel) rfl⟩, by decide +kernel⟩
theorem mlX0_11 : xML RX0 11 yX1_init cX1_init 2 none 1 := ⟨⟨gw 54 (by decide +kernel) rfl, gw 2 (by decide +kernel) rfl, gw 27 (by decide +kernel) rfl⟩, by decide +kernel⟩
theorem mlX0_20 : xML RX0 20 yX1_clear cX1_clear 1 none 0 := ⟨⟨gw 360 (by decide +kernel) rfl, gw 2 (by decide +kernel) rfl, gw 363 (by decide +kernel) rfl⟩, by decide +kernel⟩
theorem mlX0_57 : xML RX0 57 yX0_key cX0_key 3 (some .int) 2 := ⟨⟨gw 420 (by decide +kernel) rfl, gw 5 (by decide +kernel) rfl, gw 423 (by decide +kernel) rfl⟩, by decide +kernel⟩
theorem mlX1_25 : xML RX1 25 yX1_get cX1_get 2 (some .int) 1 := ⟨⟨gw 723 (by decide +kernel) rfl, gw 2 (by decide +kernel) rfl, gw 335 (by decide +kernel) rfl⟩, by decide +kernel⟩
theorem mlX2_17 : xMN RX2 "OutOfPlace" 17 yX0_init cX0_init 1 none 0 := ⟨⟨nw 49 (by decide +kernel) rfl, gw 5 (by decide +kernel) rfl, gw 51 (by decide +kernel) rfl⟩, by decide +kernel⟩
theorem mlX2_29 : xML RX2 29 yX2_of cX2_of 3 (some (.object "OutOfPlace$Book")) 1 := ⟨⟨gw 291 (by decide +kernel) rfl, gw 4 (by decide +kernel) rfl, gw 294 (by decide +kernel) rfl⟩, by decide +kernel⟩
theorem mlX2_33 : xML RX2 33 yX2_draft cX2_draft 1 (some (.object "OutOfPlace$Book")) 0 := ⟨⟨gw 415 (by decide +kernel) rfl, gw 4 (by decide +kernel) rfl, gw 290 (by decide +kernel) rfl⟩, by decide +kernel⟩
theorem mlX2_37 : xML RX2 37 yX0_compareBy cX0_compareBy 6 (some .int) 2 := ⟨⟨gw 416 (by decide +kernel) rfl, gw 5 (by decide +kernel) rfl, gw 419 (by decide +kernel) rfl⟩, by decide +kernel⟩
theorem mlX3_15 : xMN RX3 "OutOfPlace" 15 yX10_write cX10_write 3 none 3 := ⟨⟨nw 172 (by decide +kernel) rfl, gw 1 (by decide +kernel) rfl, gw 130 (by decide +kernel) rfl⟩, by decide +kernel⟩
theorem mlX3_19 : xMN RX3 "OutOfPlace" 19 yX10_entry cX10_entry 2 (some .int) 2 := ⟨⟨nw 749 (by decide +kernel) rfl, gw 1 (by decide +kernel) rfl, gw 512 (by decide +kernel) rfl⟩, by decide +kernel⟩
theorem mlX3_23 : xML RX3 23 yX3_weight cX3_weight 2 (some .int) 1 := ⟨⟨gw 766 (by decide +kernel) rfl, gw 9 (by decide +kernel) rfl, gw 748 (by decide +kernel) rfl⟩, by decide +kernel⟩
theorem mlX3_27 : xML RX3 27 yX3_total cX3_total 3 (some .int) 0 := ⟨⟨gw 762 (by decide +kernel) rfl, gw 9 (by decide +kernel) rfl, gw 765 (by decide +kernel) rfl⟩, by decide +kernel⟩
theorem mlX3_31 : xML RX3 31 yX6_spotFor cX6_spotFor 5 (some .int) 3 := ⟨⟨gw 767 (by decide +kernel) rfl, gw 7 (by decide +kernel) rfl, gw 504 (by decide +kernel) rfl⟩, by decide +kernel⟩
theorem mlX3_37 : xML RX3 37 yX6_shelfAtSpot cX6_shelfAtSpot 2 (some .int) 1 := ⟨⟨gw 768 (by decide +kernel) rfl, gw 7 (by decide +kernel) rfl, gw 593 (by decide +kernel) rfl⟩, by decide +kernel⟩
theorem mlX4_9 : xML RX4 9 yX6_init cX6_init 1 none 0 := ⟨⟨gw 206 (by decide +kernel) rfl, gw 7 (by decide +kernel) rfl, gw 139 (by decide +kernel) rfl⟩, by decide +kernel⟩
theorem mlX4_16 : xML RX4 16 yX6_copyFrom cX6_copyFrom 3 none 1 := ⟨⟨gw 850 (by decide +kernel) rfl, gw 7 (by decide +kernel) rfl, gw 584 (by decide +kernel) rfl⟩, by decide +kernel⟩
theorem mlX5_19 : xML RX5 19 yX2_draft cX2_draft 1 (some (.object "OutOfPlace$Book")) 0 := ⟨⟨gw 287 (by decide +kernel) rfl, gw 4 (by decide +kernel) rfl, gw 290 (by decide +kernel) rfl⟩, by decide +kernel⟩
theorem mlX5_45 : xML RX5 45 yX5_skipBlanks cX5_skipBlanks 3 (some .boolean) 0 := ⟨⟨gw 324 (by decide +kernel) rfl, gw 13 (by decide +kernel) rfl, gw 327 (by decide +kernel) rfl⟩, by decide +kernel⟩
theorem mlX5_49 : xML RX5 49 yX1_size cX1_size 1 (some .int) 0 := ⟨⟨gw 336 (by decide +kernel) rfl, gw 2 (by decide +kernel) rfl, gw 271 (by decide +kernel) rfl⟩, by decide +kernel⟩
theorem mlX5_55 : xML RX5 55 yX5_readClause cX5_readClause 1 (some .boolean) 0 := ⟨⟨gw 337 (by decide +kernel) rfl, gw 13 (by decide +kernel) rfl, gw 340 (by decide +kernel) rfl⟩, by decide +kernel⟩
theorem mlX5_58 : xML RX5 58 yX5_readClass cX5_readClass 1 (some .boolean) 0 := ⟨⟨gw 341 (by decide +kernel) rfl, gw 13 (by decide +kernel) rfl, gw 344 (by decide +kernel) rfl⟩, by decide +kernel⟩
theorem mlX5_61 : xML RX5 61 yX5_readNumber cX5_readNumber 1 (some .boolean) 0 := ⟨⟨gw 373 (by decide +kernel) rfl, gw 13 (by decide +kernel) rfl, gw 376 (by decide +kernel) rfl⟩, by decide +kernel⟩
theorem mlX5_64 : xML RX5 64 yX5_readDecimals cX5_readDecimals 1 (some .boolean) 0 := ⟨⟨gw 387 (by decide +kernel) rfl, gw 13 (by decide +kernel) rfl, gw 390 (by decide +kernel) rfl⟩, by decide +kernel⟩
theorem mlX5_67 : xML RX5 67 yX5_readCutter cX5_readCutter 1 (some .boolean) 0 := ⟨⟨gw 391 (by decide +kernel) rfl, gw 13 (by decide +kernel) rfl, gw 394 (by decide +kernel) rfl⟩, by decide +kernel⟩
theorem mlX5_70 : xML RX5 70 yX5_readBehindBlanks cX5_readBehindBlanks 2 (some .boolean) 0 := ⟨⟨gw 395 (by decide +kernel) rfl, gw 13 (by decide +kernel) rfl, gw 398 (by decide +kernel) rfl⟩, by decide +kernel⟩
theorem mlX5_73 : xML RX5 73 yX5_readEnd cX5_readEnd 1 (some .boolean) 0 := ⟨⟨gw 407 (by decide +kernel) rfl, gw 13 (by decide +kernel) rfl, gw 410 (by decide +kernel) rfl⟩, by decide +kernel⟩
theorem mlX5_76 : xML RX5 76 yX5_next cX5_next 1 (some .int) 0 := ⟨⟨gw 328 (by decide +kernel) rfl, gw 13 (by decide +kernel) rfl, gw 331 (by decide +kernel) rfl⟩, by decide +kernel⟩
theorem mlX5_79 : xML RX5 79 yX5_isLetter cX5_isLetter 1 (some .boolean) 1 := ⟨⟨gw 345 (by decide +kernel) rfl, gw 13 (by decide +kernel) rfl, gw 347 (by decide +kernel) rfl⟩, by decide +kernel⟩
theorem mlX5_83 : xML RX5 83 yX5_fail cX5_fail 3 (some .boolean) 2 := ⟨⟨gw 348 (by decide +kernel) rfl, gw 13 (by decide +kernel) rfl, gw 351 (by decide +kernel) rfl⟩, by decide +kernel⟩
theorem mlX5_87 : xML RX5 87 yX2_hasSpace cX2_hasSpace 1 (some .boolean) 0 := ⟨⟨gw 352 (by decide +kernel) rfl, gw 4 (by decide +kernel) rfl, gw 355 (by decide +kernel) rfl⟩, by decide +kernel⟩
theorem mlX5_90 : xML RX5 90 yX0_clear cX0_clear 1 none 0 := ⟨⟨gw 356 (by decide +kernel) rfl, gw 5 (by decide +kernel) rfl, gw 359 (by decide +kernel) rfl⟩, by decide +kernel⟩
theorem mlX5_95 : xML RX5 95 yX5_takeLetter cX5_takeLetter 1 (some .int) 0 := ⟨⟨gw 364 (by decide +kernel) rfl, gw 13 (by decide +kernel) rfl, gw 367 (by decide +kernel) rfl⟩, by decide +kernel⟩
theorem mlX5_104 : xML RX5 104 yX5_readFigures cX5_readFigures 2 (some .boolean) 0 := ⟨⟨gw 377 (by decide +kernel) rfl, gw 13 (by decide +kernel) rfl, gw 380 (by decide +kernel) rfl⟩, by decide +kernel⟩
theorem mlX5_113 : xML RX5 113 yX1_get cX1_get 2 (some .int) 1 := ⟨⟨gw 332 (by decide +kernel) rfl, gw 2 (by decide +kernel) rfl, gw 335 (by decide +kernel) rfl⟩, by decide +kernel⟩
theorem mlX5_117 : xML RX5 117 yX5_isFigure cX5_isFigure 1 (some .boolean) 1 := ⟨⟨gw 381 (by decide +kernel) rfl, gw 13 (by decide +kernel) rfl, gw 383 (by decide +kernel) rfl⟩, by decide +kernel⟩
theorem mlX5_120 : xML RX5 120 yX5_takeSign cX5_takeSign 2 (some .int) 0 := ⟨⟨gw 368 (by decide +kernel) rfl, gw 13 (by decide +kernel) rfl, gw 371 (by decide +kernel) rfl⟩, by decide +kernel⟩
theorem mlX5_138 : xML RX5 138 yX5_readYear cX5_readYear 3 (some .boolean) 0 := ⟨⟨gw 399 (by decide +kernel) rfl, gw 13 (by decide +kernel) rfl, gw 402 (by decide +kernel) rfl⟩, by decide +kernel⟩
theorem mlX5_141 : xML RX5 141 yX5_readThickness cX5_readThickness 1 (some .boolean) 0 := ⟨⟨gw 403 (by decide +kernel) rfl, gw 13 (by decide +kernel) rfl, gw 406 (by decide +kernel) rfl⟩, by decide +kernel⟩
theorem mlX5_147 : xML RX5 147 yX1_append cX1_append 2 none 1 := ⟨⟨gw 372 (by decide +kernel) rfl, gw 2 (by decide +kernel) rfl, gw 276 (by decide +kernel) rfl⟩, by decide +kernel⟩
theorem mlX5_157 : xML RX5 157 yX2_hasMarkOfDraft cX2_hasMarkOfDraft 2 (some .boolean) 0 := ⟨⟨gw 411 (by decide +kernel) rfl, gw 4 (by decide +kernel) rfl, gw 414 (by decide +kernel) rfl⟩, by decide +kernel⟩
theorem mlX5_160 : xML RX5 160 yX2_endDraft cX2_endDraft 1 none 0 := ⟨⟨gw 425 (by decide +kernel) rfl, gw 4 (by decide +kernel) rfl, gw 428 (by decide +kernel) rfl⟩, by decide +kernel⟩
theorem mlX5_163 : xML RX5 163 yX5_filled cX5_filled 4 (some .int) 2 := ⟨⟨gw 384 (by decide +kernel) rfl, gw 13 (by decide +kernel) rfl, gw 386 (by decide +kernel) rfl⟩, by decide +kernel⟩
theorem mlX6_18 : xML RX6 18 yX6_clear cX6_clear 2 none 0 := ⟨⟨gw 141 (by decide +kernel) rfl, gw 7 (by decide +kernel) rfl, gw 144 (by decide +kernel) rfl⟩, by decide +kernel⟩
theorem mlX6_25 : xMN RX6 "OutOfPlace" 25 yX10_write cX10_write 3 none 3 := ⟨⟨nw 145 (by decide +kernel) rfl, gw 1 (by decide +kernel) rfl, gw 130 (by decide +kernel) rfl⟩, by decide +kernel⟩
theorem mlX6_29 : xMN RX6 "OutOfPlace" 29 yX10_entry cX10_entry 2 (some .int) 2 := ⟨⟨nw 510 (by decide +kernel) rfl, gw 1 (by decide +kernel) rfl, gw 512 (by decide +kernel) rfl⟩, by decide +kernel⟩
theorem mlX6_33 : xML RX6 33 yX6_shelfOf cX6_shelfOf 2 (some .int) 1 := ⟨⟨gw 467 (by decide +kernel) rfl, gw 7 (by decide +kernel) rfl, gw 462 (by decide +kernel) rfl⟩, by decide +kernel⟩
theorem mlX6_37 : xML RX6 37 yX6_bookAt cX6_bookAt 2 (some .int) 1 := ⟨⟨gw 472 (by decide +kernel) rfl, gw 7 (by decide +kernel) rfl, gw 475 (by decide +kernel) rfl⟩, by decide +kernel⟩
theorem mlX6_40 : xML RX6 40 yX6_stands cX6_stands 2 (some .boolean) 1 := ⟨⟨gw 740 (by decide +kernel) rfl, gw 7 (by decide +kernel) rfl, gw 466 (by decide +kernel) rfl⟩, by decide +kernel⟩
theorem mlX6_44 : xML RX6 44 yX6_amount cX6_amount 7 (some .int) 1 := ⟨⟨gw 563 (by decide +kernel) rfl, gw 7 (by decide +kernel) rfl, gw 558 (by decide +kernel) rfl⟩, by decide +kernel⟩
theorem mlX6_47 : xML RX6 47 yX6_start cX6_start 7 (some .int) 1 := ⟨⟨gw 564 (by decide +kernel) rfl, gw 7 (by decide +kernel) rfl, gw 479 (by decide +kernel) rfl⟩, by decide +kernel⟩
theorem mlX6_50 : xML RX6 50 yX6_indexOf cX6_indexOf 3 (some .int) 1 := ⟨⟨gw 625 (by decide +kernel) rfl, gw 7 (by decide +kernel) rfl, gw 471 (by decide +kernel) rfl⟩, by decide +kernel⟩
theorem mlX6_53 : xML RX6 53 yX2_isAhead cX2_isAhead 5 (some .boolean) 3 := ⟨⟨gw 505 (by decide +kernel) rfl, gw 4 (by decide +kernel) rfl, gw 495 (by decide +kernel) rfl⟩, by decide +kernel⟩
theorem mlX7_25 : xML RX7 25 yX3_chance cX3_chance 8 (some .int) 4 := ⟨⟨gw 778 (by decide +kernel) rfl, gw 9 (by decide +kernel) rfl, gw 761 (by decide +kernel) rfl⟩, by decide +kernel⟩
theorem mlX7_31 : xMN RX7 "OutOfPlace" 31 yX10_write cX10_write 3 none 3 := ⟨⟨nw 779 (by decide +kernel) rfl, gw 1 (by decide +kernel) rfl, gw 130 (by decide +kernel) rfl⟩, by decide +kernel⟩
theorem mlX7_35 : xML RX7 35 yX7_costOfTour cX7_costOfTour 7 (some .int) 1 := ⟨⟨gw 784 (by decide +kernel) rfl, gw 10 (by decide +kernel) rfl, gw 787 (by decide +kernel) rfl⟩, by decide +kernel⟩
theorem mlX7_39 : xML RX7 39 yX7_keepBest cX7_keepBest 3 none 1 := ⟨⟨gw 794 (by decide +kernel) rfl, gw 10 (by decide +kernel) rfl, gw 797 (by decide +kernel) rfl⟩, by decide +kernel⟩
theorem mlX7_43 : xML RX7 43 yX7_nextTour cX7_nextTour 5 (some .boolean) 0 := ⟨⟨gw 798 (by decide +kernel) rfl, gw 10 (by decide +kernel) rfl, gw 801 (by decide +kernel) rfl⟩, by decide +kernel⟩
theorem mlX7_50 : xMN RX7 "OutOfPlace" 50 yX10_entry cX10_entry 2 (some .int) 2 := ⟨⟨nw 788 (by decide +kernel) rfl, gw 1 (by decide +kernel) rfl, gw 512 (by decide +kernel) rfl⟩, by decide +kernel⟩
theorem mlX7_60 : xML RX7 60 yX6_amount cX6_amount 7 (some .int) 1 := ⟨⟨gw 792 (by decide +kernel) rfl, gw 7 (by decide +kernel) rfl, gw 558 (by decide +kernel) rfl⟩, by decide +kernel⟩
theorem mlX7_69 : xML RX7 69 yX7_swap cX7_swap 4 none 2 := ⟨⟨gw 802 (by decide +kernel) rfl, gw 10 (by decide +kernel) rfl, gw 805 (by decide +kernel) rfl⟩, by decide +kernel⟩
theorem mlX8_15 : xMN RX8 "OutOfPlace" 15 yX10_write cX10_write 3 none 3 := ⟨⟨nw 128 (by decide +kernel) rfl, gw 1 (by decide +kernel) rfl, gw 130 (by decide +kernel) rfl⟩, by decide +kernel⟩
theorem mlX8_19 : xMN RX8 "OutOfPlace" 19 yX10_entry cX10_entry 2 (some .int) 2 := ⟨⟨nw 539 (by decide +kernel) rfl, gw 1 (by decide +kernel) rfl, gw 512 (by decide +kernel) rfl⟩, by decide +kernel⟩
theorem mlX8_23 : xML RX8 23 yX2_size cX2_size 1 (some .int) 0 := ⟨⟨gw 544 (by decide +kernel) rfl, gw 4 (by decide +kernel) rfl, gw 445 (by decide +kernel) rfl⟩, by decide +kernel⟩
theorem mlX8_29 : xML RX8 29 yX6_shelfOf cX6_shelfOf 2 (some .int) 1 := ⟨⟨gw 545 (by decide +kernel) rfl, gw 7 (by decide +kernel) rfl, gw 462 (by decide +kernel) rfl⟩, by decide +kernel⟩
theorem mlX8_35 : xML RX8 35 yX2_of cX2_of 3 (some (.object "OutOfPlace$Book")) 1 := ⟨⟨gw 546 (by decide +kernel) rfl, gw 4 (by decide +kernel) rfl, gw 294 (by decide +kernel) rfl⟩, by decide +kernel⟩
theorem mlX8_45 : xML RX8 45 yX8_left cX8_left 6 (some .int) 3 := ⟨⟨gw 608 (by decide +kernel) rfl, gw 6 (by decide +kernel) rfl, gw 543 (by decide +kernel) rfl⟩, by decide +kernel⟩
theorem mlX8_49 : xML RX8 49 yX6_spotFor cX6_spotFor 5 (some .int) 3 := ⟨⟨gw 589 (by decide +kernel) rfl, gw 7 (by decide +kernel) rfl, gw 504 (by decide +kernel) rfl⟩, by decide +kernel⟩
theorem mlX8_53 : xML RX8 53 yX6_shelfAtSpot cX6_shelfAtSpot 2 (some .int) 1 := ⟨⟨gw 590 (by decide +kernel) rfl, gw 7 (by decide +kernel) rfl, gw 593 (by decide +kernel) rfl⟩, by decide +kernel⟩
theorem mlX8_56 : xML RX8 56 yX6_insert cX6_insert 5 none 3 := ⟨⟨gw 597 (by decide +kernel) rfl, gw 7 (by decide +kernel) rfl, gw 509 (by decide +kernel) rfl⟩, by decide +kernel⟩
theorem mlX8_60 : xML RX8 60 yX8_pushAway cX8_pushAway 9 (some .boolean) 5 := ⟨⟨gw 598 (by decide +kernel) rfl, gw 6 (by decide +kernel) rfl, gw 601 (by decide +kernel) rfl⟩, by decide +kernel⟩
theorem mlX8_64 : xMN RX8 "OutOfPlace" 64 yX10_isShelf cX10_isShelf 1 (some .boolean) 1 := ⟨⟨nw 602 (by decide +kernel) rfl, gw 1 (by decide +kernel) rfl, gw 534 (by decide +kernel) rfl⟩, by decide +kernel⟩
theorem mlX8_68 : xML RX8 68 yX8_relieve cX8_relieve 7 (some .boolean) 5 := ⟨⟨gw 603 (by decide +kernel) rfl, gw 6 (by decide +kernel) rfl, gw 606 (by decide +kernel) rfl⟩, by decide +kernel⟩
theorem mlX8_71 : xML RX8 71 yX6_amount cX6_amount 7 (some .int) 1 := ⟨⟨gw 607 (by decide +kernel) rfl, gw 7 (by decide +kernel) rfl, gw 558 (by decide +kernel) rfl⟩, by decide +kernel⟩
theorem mlX8_74 : xML RX8 74 yX6_edge cX6_edge 3 (some .int) 2 := ⟨⟨gw 609 (by decide +kernel) rfl, gw 7 (by decide +kernel) rfl, gw 612 (by decide +kernel) rfl⟩, by decide +kernel⟩
theorem mlX8_78 : xML RX8 78 yX6_pass cX6_pass 3 none 2 := ⟨⟨gw 613 (by decide +kernel) rfl, gw 7 (by decide +kernel) rfl, gw 616 (by decide +kernel) rfl⟩, by decide +kernel⟩
theorem mlX8_82 : xML RX8 82 yX6_clear cX6_clear 2 none 0 := ⟨⟨gw 686 (by decide +kernel) rfl, gw 7 (by decide +kernel) rfl, gw 144 (by decide +kernel) rfl⟩, by decide +kernel⟩
theorem mlX8_85 : xML RX8 85 yX6_stands cX6_stands 2 (some .boolean) 1 := ⟨⟨gw 687 (by decide +kernel) rfl, gw 7 (by decide +kernel) rfl, gw 466 (by decide +kernel) rfl⟩, by decide +kernel⟩
theorem mlX8_88 : xML RX8 88 yX6_size cX6_size 1 (some .int) 0 := ⟨⟨gw 688 (by decide +kernel) rfl, gw 7 (by decide +kernel) rfl, gw 521 (by decide +kernel) rfl⟩, by decide +kernel⟩
theorem mlX8_89 : xML RX8 89 yX6_bookAt cX6_bookAt 2 (some .int) 1 := ⟨⟨gw 689 (by decide +kernel) rfl, gw 7 (by decide +kernel) rfl, gw 475 (by decide +kernel) rfl⟩, by decide +kernel⟩
theorem mlX8_92 : xML RX8 92 yX8_firstThatTakes cX8_firstThatTakes 8 (some .int) 5 := ⟨⟨gw 690 (by decide +kernel) rfl, gw 6 (by decide +kernel) rfl, gw 693 (by decide +kernel) rfl⟩, by decide +kernel⟩
theorem mlX9_15 : xML RX9 15 yX9_measureChains cX9_measureChains 7 (some .int) 2 := ⟨⟨gw 634 (by decide +kernel) rfl, gw 8 (by decide +kernel) rfl, gw 637 (by decide +kernel) rfl⟩, by decide +kernel⟩
theorem mlX9_19 : xML RX9 19 yX6_size cX6_size 1 (some .int) 0 := ⟨⟨gw 638 (by decide +kernel) rfl, gw 7 (by decide +kernel) rfl, gw 521 (by decide +kernel) rfl⟩, by decide +kernel⟩
theorem mlX9_25 : xML RX9 25 yX6_bookAt cX6_bookAt 2 (some .int) 1 := ⟨⟨gw 639 (by decide +kernel) rfl, gw 7 (by decide +kernel) rfl, gw 475 (by decide +kernel) rfl⟩, by decide +kernel⟩
theorem mlX9_29 : xMN RX9 "OutOfPlace" 29 yX10_entry cX10_entry 2 (some .int) 2 := ⟨⟨nw 641 (by decide +kernel) rfl, gw 1 (by decide +kernel) rfl, gw 512 (by decide +kernel) rfl⟩, by decide +kernel⟩
theorem mlX9_33 : xML RX9 33 yX2_isAhead cX2_isAhead 5 (some .boolean) 3 := ⟨⟨gw 640 (by decide +kernel) rfl, gw 4 (by decide +kernel) rfl, gw 495 (by decide +kernel) rfl⟩, by decide +kernel⟩
theorem mlX9_45 : xMN RX9 "OutOfPlace" 45 yX10_write cX10_write 3 none 3 := ⟨⟨nw 643 (by decide +kernel) rfl, gw 1 (by decide +kernel) rfl, gw 130 (by decide +kernel) rfl⟩, by decide +kernel⟩
theorem mlX9_49 : xML RX9 49 yX9_outOfPlace cX9_outOfPlace 8 (some .int) 2 := ⟨⟨gw 671 (by decide +kernel) rfl, gw 8 (by decide +kernel) rfl, gw 633 (by decide +kernel) rfl⟩, by decide +kernel⟩
theorem mlX9_52 : xML RX9 52 yX9_standsRight cX9_standsRight 9 (some .boolean) 5 := ⟨⟨gw 672 (by decide +kernel) rfl, gw 8 (by decide +kernel) rfl, gw 675 (by decide +kernel) rfl⟩, by decide +kernel⟩
theorem mlX9_56 : xML RX9 56 yX6_indexOf cX6_indexOf 3 (some .int) 1 := ⟨⟨gw 676 (by decide +kernel) rfl, gw 7 (by decide +kernel) rfl, gw 471 (by decide +kernel) rfl⟩, by decide +kernel⟩
theorem mlX9_59 : xMN RX9 "OutOfPlace" 59 yX10_isIn cX10_isIn 2 (some .boolean) 2 := ⟨⟨nw 677 (by decide +kernel) rfl, gw 1 (by decide +kernel) rfl, gw 662 (by decide +kernel) rfl⟩, by decide +kernel⟩
theorem mlL_9 : xML RL 9 yX10_init cX10_init 1 none 0 := ⟨⟨gw 17 (by decide +kernel) rfl, gw 1 (by decide +kernel) rfl, gw 19 (by decide +kernel) rfl⟩, by decide +kernel⟩
theorem mlL_12 : xML RL 12 yX11_init cX11_init 2 none 0 := ⟨⟨gw 861 (by decide +kernel) rfl, gw 12 (by decide +kernel) rfl, gw 863 (by decide +kernel) rfl⟩, by decide +kernel⟩
theorem mlL_15 : xML RL 15 yX10_feed cX10_feed 5 (some .int) 2 := ⟨⟨gw 264 (by decide +kernel) rfl, gw 1 (by decide +kernel) rfl, gw 267 (by decide +kernel) rfl⟩, by decide +kernel⟩
theorem mlL_19 : xML RL 19 yX11_feed cX11_feed 5 (some .int) 2 := ⟨⟨gw 963 (by decide +kernel) rfl, gw 12 (by decide +kernel) rfl, gw 966 (by decide +kernel) rfl⟩, by decide +kernel⟩
theorem mlL_20 : xML RL 20 yX10_books cX10_books 3 (some .int) 0 := ⟨⟨gw 277 (by decide +kernel) rfl, gw 1 (by decide +kernel) rfl, gw 280 (by decide +kernel) rfl⟩, by decide +kernel⟩
theorem mlL_24 : xML RL 24 yX11_books cX11_books 2 (some .int) 0 := ⟨⟨gw 972 (by decide +kernel) rfl, gw 12 (by decide +kernel) rfl, gw 975 (by decide +kernel) rfl⟩, by decide +kernel⟩
theorem mlL_25 : xML RL 25 yX10_fault cX10_fault 1 (some .int) 0 := ⟨⟨gw 446 (by decide +kernel) rfl, gw 1 (by decide +kernel) rfl, gw 449 (by decide +kernel) rfl⟩, by decide +kernel⟩
theorem mlL_28 : xML RL 28 yX11_fault cX11_fault 1 (some .int) 0 := ⟨⟨gw 1039 (by decide +kernel) rfl, gw 12 (by decide +kernel) rfl, gw 1042 (by decide +kernel) rfl⟩, by decide +kernel⟩
theorem mlL_29 : xML RL 29 yX10_book cX10_book 3 (some .int) 2 := ⟨⟨gw 450 (by decide +kernel) rfl, gw 1 (by decide +kernel) rfl, gw 453 (by decide +kernel) rfl⟩, by decide +kernel⟩
theorem mlL_33 : xML RL 33 yX11_book cX11_book 4 (some .int) 2 := ⟨⟨gw 1043 (by decide +kernel) rfl, gw 12 (by decide +kernel) rfl, gw 1046 (by decide +kernel) rfl⟩, by decide +kernel⟩
theorem mlL_34 : xML RL 34 yX10_mark cX10_mark 4 (some .int) 2 := ⟨⟨gw 480 (by decide +kernel) rfl, gw 1 (by decide +kernel) rfl, gw 483 (by decide +kernel) rfl⟩, by decide +kernel⟩
theorem mlL_37 : xML RL 37 yX11_mark cX11_mark 3 (some .int) 2 := ⟨⟨gw 1066 (by decide +kernel) rfl, gw 12 (by decide +kernel) rfl, gw 1069 (by decide +kernel) rfl⟩, by decide +kernel⟩
theorem mlL_38 : xML RL 38 yX10_ahead cX10_ahead 4 (some .int) 3 := ⟨⟨gw 485 (by decide +kernel) rfl, gw 1 (by decide +kernel) rfl, gw 488 (by decide +kernel) rfl⟩, by decide +kernel⟩
theorem mlL_42 : xML RL 42 yX11_ahead cX11_ahead 4 (some .int) 3 := ⟨⟨gw 1082 (by decide +kernel) rfl, gw 12 (by decide +kernel) rfl, gw 1085 (by decide +kernel) rfl⟩, by decide +kernel⟩
theorem mlL_43 : xML RL 43 yX10_order cX10_order 4 (some .int) 2 := ⟨⟨gw 496 (by decide +kernel) rfl, gw 1 (by decide +kernel) rfl, gw 499 (by decide +kernel) rfl⟩, by decide +kernel⟩
theorem mlL_46 : xML RL 46 yX11_order cX11_order 4 (some .int) 2 := ⟨⟨gw 1114 (by decide +kernel) rfl, gw 12 (by decide +kernel) rfl, gw 1117 (by decide +kernel) rfl⟩, by decide +kernel⟩
theorem mlL_47 : xML RL 47 yX10_count cX10_count 2 (some .int) 1 := ⟨⟨gw 514 (by decide +kernel) rfl, gw 1 (by decide +kernel) rfl, gw 517 (by decide +kernel) rfl⟩, by decide +kernel⟩
theorem mlL_51 : xML RL 51 yX11_count cX11_count 2 (some .int) 1 := ⟨⟨gw 1122 (by decide +kernel) rfl, gw 12 (by decide +kernel) rfl, gw 1125 (by decide +kernel) rfl⟩, by decide +kernel⟩
theorem mlL_52 : xML RL 52 yX10_width cX10_width 4 (some .int) 2 := ⟨⟨gw 528 (by decide +kernel) rfl, gw 1 (by decide +kernel) rfl, gw 531 (by decide +kernel) rfl⟩, by decide +kernel⟩
theorem mlL_55 : xML RL 55 yX11_width cX11_width 4 (some .int) 2 := ⟨⟨gw 1129 (by decide +kernel) rfl, gw 12 (by decide +kernel) rfl, gw 1132 (by decide +kernel) rfl⟩, by decide +kernel⟩
theorem mlL_56 : xML RL 56 yX10_shelf cX10_shelf 3 (some .int) 2 := ⟨⟨gw 551 (by decide +kernel) rfl, gw 1 (by decide +kernel) rfl, gw 554 (by decide +kernel) rfl⟩, by decide +kernel⟩
theorem mlL_59 : xML RL 59 yX11_shelf cX11_shelf 3 (some .int) 2 := ⟨⟨gw 1142 (by decide +kernel) rfl, gw 12 (by decide +kernel) rfl, gw 1145 (by decide +kernel) rfl⟩, by decide +kernel⟩
theorem mlL_60 : xML RL 60 yX10_room cX10_room 2 (some .int) 1 := ⟨⟨gw 565 (by decide +kernel) rfl, gw 1 (by decide +kernel) rfl, gw 568 (by decide +kernel) rfl⟩, by decide +kernel⟩
theorem mlL_63 : xML RL 63 yX11_room cX11_room 2 (some .int) 1 := ⟨⟨gw 1146 (by decide +kernel) rfl, gw 12 (by decide +kernel) rfl, gw 1149 (by decide +kernel) rfl⟩, by decide +kernel⟩
theorem mlL_64 : xML RL 64 yX10_set cX10_set 4 (some .int) 3 := ⟨⟨gw 569 (by decide +kernel) rfl, gw 1 (by decide +kernel) rfl, gw 572 (by decide +kernel) rfl⟩, by decide +kernel⟩
theorem mlL_67 : xML RL 67 yX11_set cX11_set 4 (some .int) 3 := ⟨⟨gw 1154 (by decide +kernel) rfl, gw 12 (by decide +kernel) rfl, gw 1157 (by decide +kernel) rfl⟩, by decide +kernel⟩
theorem mlL_68 : xML RL 68 yX10_put cX10_put 3 (some .int) 2 := ⟨⟨gw 573 (by decide +kernel) rfl, gw 1 (by decide +kernel) rfl, gw 576 (by decide +kernel) rfl⟩, by decide +kernel⟩
theorem mlL_71 : xML RL 71 yX11_put cX11_put 3 (some .int) 2 := ⟨⟨gw 1162 (by decide +kernel) rfl, gw 12 (by decide +kernel) rfl, gw 1165 (by decide +kernel) rfl⟩, by decide +kernel⟩
theorem mlL_72 : xML RL 72 yX10_take cX10_take 3 (some .int) 1 := ⟨⟨gw 617 (by decide +kernel) rfl, gw 1 (by decide +kernel) rfl, gw 620 (by decide +kernel) rfl⟩, by decide +kernel⟩
theorem mlL_75 : xML RL 75 yX11_take cX11_take 4 (some .int) 1 := ⟨⟨gw 1190 (by decide +kernel) rfl, gw 12 (by decide +kernel) rfl, gw 1193 (by decide +kernel) rfl⟩, by decide +kernel⟩
theorem mlL_76 : xML RL 76 yX10_wrong cX10_wrong 1 (some .int) 0 := ⟨⟨gw 626 (by decide +kernel) rfl, gw 1 (by decide +kernel) rfl, gw 629 (by decide +kernel) rfl⟩, by decide +kernel⟩
theorem mlL_79 : xML RL 79 yX11_wrong cX11_wrong 1 (some .int) 0 := ⟨⟨gw 1198 (by decide +kernel) rfl, gw 12 (by decide +kernel) rfl, gw 1201 (by decide +kernel) rfl⟩, by decide +kernel⟩
theorem mlL_80 : xML RL 80 yX10_tidy cX10_tidy 2 (some .int) 1 := ⟨⟨gw 644 (by decide +kernel) rfl, gw 1 (by decide +kernel) rfl, gw 647 (by decide +kernel) rfl⟩, by decide +kernel⟩
theorem mlL_83 : xML RL 83 yX11_tidy cX11_tidy 6 (some .int) 1 := ⟨⟨gw 1210 (by decide +kernel) rfl, gw 12 (by decide +kernel) rfl, gw 1213 (by decide +kernel) rfl⟩, by decide +kernel⟩
theorem mlL_84 : xML RL 84 yX10_mend cX10_mend 3 (some .int) 0 := ⟨⟨gw 656 (by decide +kernel) rfl, gw 1 (by decide +kernel) rfl, gw 659 (by decide +kernel) rfl⟩, by decide +kernel⟩
theorem mlL_87 : xML RL 87 yX11_mend cX11_mend 3 (some .int) 0 := ⟨⟨gw 1214 (by decide +kernel) rfl, gw 12 (by decide +kernel) rfl, gw 1217 (by decide +kernel) rfl⟩, by decide +kernel⟩
theorem mlL_88 : xML RL 88 yX10_guess cX10_guess 2 (some .int) 1 := ⟨⟨gw 663 (by decide +kernel) rfl, gw 1 (by decide +kernel) rfl, gw 666 (by decide +kernel) rfl⟩, by decide +kernel⟩
theorem mlL_91 : xML RL 91 yX11_guess cX11_guess 8 (some .int) 1 := ⟨⟨gw 1221 (by decide +kernel) rfl, gw 12 (by decide +kernel) rfl, gw 1224 (by decide +kernel) rfl⟩, by decide +kernel⟩
theorem mlL_92 : xML RL 92 yX10_lay cX10_lay 3 (some .int) 1 := ⟨⟨gw 678 (by decide +kernel) rfl, gw 1 (by decide +kernel) rfl, gw 681 (by decide +kernel) rfl⟩, by decide +kernel⟩
theorem mlL_95 : xML RL 95 yX11_lay cX11_lay 8 (some .int) 1 := ⟨⟨gw 1225 (by decide +kernel) rfl, gw 12 (by decide +kernel) rfl, gw 1228 (by decide +kernel) rfl⟩, by decide +kernel⟩
theorem mlL_96 : xML RL 96 yX10_make cX10_make 8 (some .int) 3 := ⟨⟨gw 698 (by decide +kernel) rfl, gw 1 (by decide +kernel) rfl, gw 701 (by decide +kernel) rfl⟩, by decide +kernel⟩
theorem mlL_100 : xML RL 100 yX11_make cX11_make 8 (some .int) 3 := ⟨⟨gw 1234 (by decide +kernel) rfl, gw 12 (by decide +kernel) rfl, gw 1237 (by decide +kernel) rfl⟩, by decide +kernel⟩
theorem mlL_101 : xML RL 101 yX10_guide cX10_guide 5 (some .int) 2 := ⟨⟨gw 707 (by decide +kernel) rfl, gw 1 (by decide +kernel) rfl, gw 710 (by decide +kernel) rfl⟩, by decide +kernel⟩
theorem mlL_104 : xML RL 104 yX11_guide cX11_guide 4 (some .int) 2 := ⟨⟨gw 1246 (by decide +kernel) rfl, gw 12 (by decide +kernel) rfl, gw 1249 (by decide +kernel) rfl⟩, by decide +kernel⟩
theorem mlL_105 : xML RL 105 yX10_list cX10_list 3 (some .int) 1 := ⟨⟨gw 724 (by decide +kernel) rfl, gw 1 (by decide +kernel) rfl, gw 727 (by decide +kernel) rfl⟩, by decide +kernel⟩
theorem mlL_108 : xML RL 108 yX11_list cX11_list 3 (some .int) 1 := ⟨⟨gw 1254 (by decide +kernel) rfl, gw 12 (by decide +kernel) rfl, gw 1257 (by decide +kernel) rfl⟩, by decide +kernel⟩
theorem mlL_109 : xML RL 109 yX10_stock cX10_stock 2 (some .int) 1 := ⟨⟨gw 732 (by decide +kernel) rfl, gw 1 (by decide +kernel) rfl, gw 735 (by decide +kernel) rfl⟩, by decide +kernel⟩
theorem mlL_112 : xML RL 112 yX11_stock cX11_stock 4 (some .int) 1 := ⟨⟨gw 1262 (by decide +kernel) rfl, gw 12 (by decide +kernel) rfl, gw 1265 (by decide +kernel) rfl⟩, by decide +kernel⟩
theorem mlL_113 : xML RL 113 yX10_habit cX10_habit 4 (some .int) 2 := ⟨⟨gw 741 (by decide +kernel) rfl, gw 1 (by decide +kernel) rfl, gw 744 (by decide +kernel) rfl⟩, by decide +kernel⟩
theorem mlL_116 : xML RL 116 yX11_habit cX11_habit 4 (some .int) 2 := ⟨⟨gw 1266 (by decide +kernel) rfl, gw 12 (by decide +kernel) rfl, gw 1269 (by decide +kernel) rfl⟩, by decide +kernel⟩
theorem mlL_117 : xML RL 117 yX10_likely cX10_likely 3 (some .int) 2 := ⟨⟨gw 754 (by decide +kernel) rfl, gw 1 (by decide +kernel) rfl, gw 757 (by decide +kernel) rfl⟩, by decide +kernel⟩
theorem mlL_120 : xML RL 120 yX11_likely cX11_likely 3 (some .int) 2 := ⟨⟨gw 1271 (by decide +kernel) rfl, gw 12 (by decide +kernel) rfl, gw 1274 (by decide +kernel) rfl⟩, by decide +kernel⟩
theorem mlL_121 : xML RL 121 yX10_search cX10_search 3 (some .int) 2 := ⟨⟨gw 770 (by decide +kernel) rfl, gw 1 (by decide +kernel) rfl, gw 773 (by decide +kernel) rfl⟩, by decide +kernel⟩
theorem mlL_124 : xML RL 124 yX11_search cX11_search 4 (some .int) 2 := ⟨⟨gw 1284 (by decide +kernel) rfl, gw 12 (by decide +kernel) rfl, gw 1287 (by decide +kernel) rfl⟩, by decide +kernel⟩
theorem mlL_125 : xML RL 125 yX10_seed cX10_seed 3 (some .int) 1 := ⟨⟨gw 814 (by decide +kernel) rfl, gw 1 (by decide +kernel) rfl, gw 817 (by decide +kernel) rfl⟩, by decide +kernel⟩
theorem mlL_128 : xML RL 128 yX11_seed cX11_seed 3 (some .int) 1 := ⟨⟨gw 1300 (by decide +kernel) rfl, gw 12 (by decide +kernel) rfl, gw 1303 (by decide +kernel) rfl⟩, by decide +kernel⟩
theorem mlL_129 : xML RL 129 yX10_shelve cX10_shelve 4 (some .int) 1 := ⟨⟨gw 818 (by decide +kernel) rfl, gw 1 (by decide +kernel) rfl, gw 821 (by decide +kernel) rfl⟩, by decide +kernel⟩
theorem mlL_132 : xML RL 132 yX11_shelve cX11_shelve 5 (some .int) 1 := ⟨⟨gw 1304 (by decide +kernel) rfl, gw 12 (by decide +kernel) rfl, gw 1307 (by decide +kernel) rfl⟩, by decide +kernel⟩
theorem mlL_133 : xML RL 133 yX10_keep cX10_keep 2 (some .int) 1 := ⟨⟨gw 835 (by decide +kernel) rfl, gw 1 (by decide +kernel) rfl, gw 838 (by decide +kernel) rfl⟩, by decide +kernel⟩
theorem mlL_136 : xML RL 136 yX11_keep cX11_keep 4 (some .int) 1 := ⟨⟨gw 1320 (by decide +kernel) rfl, gw 12 (by decide +kernel) rfl, gw 1323 (by decide +kernel) rfl⟩, by decide +kernel⟩
theorem mlL_137 : xML RL 137 yX10_goBack cX10_goBack 3 (some .int) 1 := ⟨⟨gw 851 (by decide +kernel) rfl, gw 1 (by decide +kernel) rfl, gw 854 (by decide +kernel) rfl⟩, by decide +kernel⟩
theorem mlL_140 : xML RL 140 yX11_goBack cX11_goBack 5 (some .int) 1 := ⟨⟨gw 1324 (by decide +kernel) rfl, gw 12 (by decide +kernel) rfl, gw 1327 (by decide +kernel) rfl⟩, by decide +kernel⟩
theorem mlX11_78 : xML RX11 78 yX11_in cX11_in 6 (some .boolean) 3 := ⟨⟨gw 968 (by decide +kernel) rfl, gw 12 (by decide +kernel) rfl, gw 970 (by decide +kernel) rfl⟩, by decide +kernel⟩
theorem mlX11_96 : xML RX11 96 yX11_byteAt cX11_byteAt 1 (some .int) 0 := ⟨⟨gw 980 (by decide +kernel) rfl, gw 12 (by decide +kernel) rfl, gw 983 (by decide +kernel) rfl⟩, by decide +kernel⟩
theorem mlX11_111 : xML RX11 111 yX11_isFigure cX11_isFigure 1 (some .boolean) 0 := ⟨⟨gw 1006 (by decide +kernel) rfl, gw 12 (by decide +kernel) rfl, gw 1009 (by decide +kernel) rfl⟩, by decide +kernel⟩
theorem mlX11_115 : xML RX11 115 yX11_fails cX11_fails 3 (some .int) 2 := ⟨⟨gw 998 (by decide +kernel) rfl, gw 12 (by decide +kernel) rfl, gw 1001 (by decide +kernel) rfl⟩, by decide +kernel⟩
theorem mlX11_119 : xML RX11 119 yX11_isLetter cX11_isLetter 1 (some .boolean) 0 := ⟨⟨gw 992 (by decide +kernel) rfl, gw 12 (by decide +kernel) rfl, gw 995 (by decide +kernel) rfl⟩, by decide +kernel⟩
theorem mlX11_125 : xML RX11 125 yX11_takeFigures cX11_takeFigures 2 (some .int) 1 := ⟨⟨gw 1002 (by decide +kernel) rfl, gw 12 (by decide +kernel) rfl, gw 1005 (by decide +kernel) rfl⟩, by decide +kernel⟩
theorem mlX11_129 : xML RX11 129 yX11_takeCutter cX11_takeCutter 3 (some .int) 1 := ⟨⟨gw 1016 (by decide +kernel) rfl, gw 12 (by decide +kernel) rfl, gw 1019 (by decide +kernel) rfl⟩, by decide +kernel⟩
theorem mlX11_138 : xML RX11 138 yX11_isSame cX11_isSame 5 (some .boolean) 2 := ⟨⟨gw 1035 (by decide +kernel) rfl, gw 12 (by decide +kernel) rfl, gw 1038 (by decide +kernel) rfl⟩, by decide +kernel⟩
theorem mlX11_142 : xML RX11 142 yX11_takeClass cX11_takeClass 2 (some .int) 1 := ⟨⟨gw 988 (by decide +kernel) rfl, gw 12 (by decide +kernel) rfl, gw 991 (by decide +kernel) rfl⟩, by decide +kernel⟩
theorem mlX11_145 : xML RX11 145 yX11_takePoints cX11_takePoints 4 (some .int) 1 := ⟨⟨gw 1012 (by decide +kernel) rfl, gw 12 (by decide +kernel) rfl, gw 1015 (by decide +kernel) rfl⟩, by decide +kernel⟩
theorem mlX11_148 : xML RX11 148 yX11_here cX11_here 1 (some .int) 0 := ⟨⟨gw 976 (by decide +kernel) rfl, gw 12 (by decide +kernel) rfl, gw 979 (by decide +kernel) rfl⟩, by decide +kernel⟩
theorem mlX11_151 : xML RX11 151 yX11_takeYear cX11_takeYear 5 (some .int) 1 := ⟨⟨gw 1020 (by decide +kernel) rfl, gw 12 (by decide +kernel) rfl, gw 1023 (by decide +kernel) rfl⟩, by decide +kernel⟩
theorem mlX11_154 : xML RX11 154 yX11_takeWidth cX11_takeWidth 1 (some .int) 0 := ⟨⟨gw 1026 (by decide +kernel) rfl, gw 12 (by decide +kernel) rfl, gw 1029 (by decide +kernel) rfl⟩, by decide +kernel⟩
theorem mlX11_157 : xML RX11 157 yX11_isTold cX11_isTold 3 (some .boolean) 0 := ⟨⟨gw 1031 (by decide +kernel) rfl, gw 12 (by decide +kernel) rfl, gw 1034 (by decide +kernel) rfl⟩, by decide +kernel⟩
theorem mlX11_160 : xML RX11 160 yX11_takeBook cX11_takeBook 4 (some .int) 0 := ⟨⟨gw 984 (by decide +kernel) rfl, gw 12 (by decide +kernel) rfl, gw 987 (by decide +kernel) rfl⟩, by decide +kernel⟩
theorem mlX11_163 : xML RX11 163 yX11_isBook cX11_isBook 2 (some .boolean) 1 := ⟨⟨gw 1047 (by decide +kernel) rfl, gw 12 (by decide +kernel) rfl, gw 1050 (by decide +kernel) rfl⟩, by decide +kernel⟩
theorem mlX11_167 : xML RX11 167 yX11_placeOf cX11_placeOf 4 (some .int) 1 := ⟨⟨gw 1051 (by decide +kernel) rfl, gw 12 (by decide +kernel) rfl, gw 1054 (by decide +kernel) rfl⟩, by decide +kernel⟩
theorem mlX11_170 : xML RX11 170 yX11_whole cX11_whole 5 (some .int) 3 := ⟨⟨gw 1055 (by decide +kernel) rfl, gw 12 (by decide +kernel) rfl, gw 1057 (by decide +kernel) rfl⟩, by decide +kernel⟩
theorem mlX11_174 : xML RX11 174 yX11_shelfOf cX11_shelfOf 4 (some .int) 1 := ⟨⟨gw 1058 (by decide +kernel) rfl, gw 12 (by decide +kernel) rfl, gw 1061 (by decide +kernel) rfl⟩, by decide +kernel⟩
theorem mlX11_177 : xML RX11 177 yX11_firstOf cX11_firstOf 4 (some .int) 1 := ⟨⟨gw 1062 (by decide +kernel) rfl, gw 12 (by decide +kernel) rfl, gw 1065 (by decide +kernel) rfl⟩, by decide +kernel⟩
theorem mlX11_183 : xML RX11 183 yX11_write cX11_write 2 none 1 := ⟨⟨gw 1074 (by decide +kernel) rfl, gw 12 (by decide +kernel) rfl, gw 1077 (by decide +kernel) rfl⟩, by decide +kernel⟩
theorem mlX11_187 : xML RX11 187 yX11_writeFigures cX11_writeFigures 4 none 2 := ⟨⟨gw 1078 (by decide +kernel) rfl, gw 12 (by decide +kernel) rfl, gw 1081 (by decide +kernel) rfl⟩, by decide +kernel⟩
theorem mlX11_191 : xML RX11 191 yX11_writeMark cX11_writeMark 3 none 1 := ⟨⟨gw 1070 (by decide +kernel) rfl, gw 12 (by decide +kernel) rfl, gw 1073 (by decide +kernel) rfl⟩, by decide +kernel⟩
theorem mlX11_194 : xML RX11 194 yX11_byFigures cX11_byFigures 6 (some .int) 4 := ⟨⟨gw 1102 (by decide +kernel) rfl, gw 12 (by decide +kernel) rfl, gw 1105 (by decide +kernel) rfl⟩, by decide +kernel⟩
theorem mlX11_198 : xML RX11 198 yX11_byClass cX11_byClass 5 (some .int) 3 := ⟨⟨gw 1094 (by decide +kernel) rfl, gw 12 (by decide +kernel) rfl, gw 1097 (by decide +kernel) rfl⟩, by decide +kernel⟩
theorem mlX11_202 : xML RX11 202 yX11_byNumber cX11_byNumber 4 (some .int) 3 := ⟨⟨gw 1098 (by decide +kernel) rfl, gw 12 (by decide +kernel) rfl, gw 1101 (by decide +kernel) rfl⟩, by decide +kernel⟩
theorem mlX11_205 : xML RX11 205 yX11_byDecimals cX11_byDecimals 4 (some .int) 3 := ⟨⟨gw 1106 (by decide +kernel) rfl, gw 12 (by decide +kernel) rfl, gw 1109 (by decide +kernel) rfl⟩, by decide +kernel⟩
theorem mlX11_208 : xML RX11 208 yX11_byCutter cX11_byCutter 5 (some .int) 3 := ⟨⟨gw 1110 (by decide +kernel) rfl, gw 12 (by decide +kernel) rfl, gw 1113 (by decide +kernel) rfl⟩, by decide +kernel⟩
theorem mlX11_211 : xML RX11 211 yX11_isReading cX11_isReading 1 (some .boolean) 1 := ⟨⟨gw 1086 (by decide +kernel) rfl, gw 12 (by decide +kernel) rfl, gw 1088 (by decide +kernel) rfl⟩, by decide +kernel⟩
theorem mlX11_214 : xML RX11 214 yX11_isAhead cX11_isAhead 5 (some .boolean) 3 := ⟨⟨gw 1090 (by decide +kernel) rfl, gw 12 (by decide +kernel) rfl, gw 1093 (by decide +kernel) rfl⟩, by decide +kernel⟩
theorem mlX11_218 : xML RX11 218 yX11_rank cX11_rank 6 (some .int) 3 := ⟨⟨gw 1118 (by decide +kernel) rfl, gw 12 (by decide +kernel) rfl, gw 1121 (by decide +kernel) rfl⟩, by decide +kernel⟩
theorem mlX11_228 : xML RX11 228 yX11_bits cX11_bits 3 (some .int) 1 := ⟨⟨gw 1126 (by decide +kernel) rfl, gw 12 (by decide +kernel) rfl, gw 1128 (by decide +kernel) rfl⟩, by decide +kernel⟩
theorem mlX11_231 : xML RX11 231 yX11_usedOn cX11_usedOn 5 (some .int) 1 := ⟨⟨gw 1138 (by decide +kernel) rfl, gw 12 (by decide +kernel) rfl, gw 1141 (by decide +kernel) rfl⟩, by decide +kernel⟩
theorem mlX11_234 : xML RX11 234 yX11_isShelf cX11_isShelf 1 (some .boolean) 1 := ⟨⟨gw 1133 (by decide +kernel) rfl, gw 12 (by decide +kernel) rfl, gw 1135 (by decide +kernel) rfl⟩, by decide +kernel⟩
theorem mlX11_239 : xML RX11 239 yX11_roomOn cX11_roomOn 2 (some .int) 1 := ⟨⟨gw 1150 (by decide +kernel) rfl, gw 12 (by decide +kernel) rfl, gw 1153 (by decide +kernel) rfl⟩, by decide +kernel⟩
theorem mlX11_242 : xML RX11 242 yX11_insert cX11_insert 5 none 3 := ⟨⟨gw 1158 (by decide +kernel) rfl, gw 12 (by decide +kernel) rfl, gw 1161 (by decide +kernel) rfl⟩, by decide +kernel⟩
theorem mlX11_249 : xML RX11 249 yX11_placeBy cX11_placeBy 4 (some .int) 2 := ⟨⟨gw 1174 (by decide +kernel) rfl, gw 12 (by decide +kernel) rfl, gw 1177 (by decide +kernel) rfl⟩, by decide +kernel⟩
theorem mlX11_252 : xML RX11 252 yX11_shelfBy cX11_shelfBy 2 (some .int) 1 := ⟨⟨gw 1178 (by decide +kernel) rfl, gw 12 (by decide +kernel) rfl, gw 1181 (by decide +kernel) rfl⟩, by decide +kernel⟩
theorem mlX11_255 : xML RX11 255 yX11_push cX11_push 3 (some .boolean) 1 := ⟨⟨gw 1182 (by decide +kernel) rfl, gw 12 (by decide +kernel) rfl, gw 1185 (by decide +kernel) rfl⟩, by decide +kernel⟩
theorem mlX11_258 : xML RX11 258 yX11_save cX11_save 2 none 0 := ⟨⟨gw 1166 (by decide +kernel) rfl, gw 12 (by decide +kernel) rfl, gw 1169 (by decide +kernel) rfl⟩, by decide +kernel⟩
theorem mlX11_261 : xML RX11 261 yX11_putNow cX11_putNow 5 (some .boolean) 2 := ⟨⟨gw 1170 (by decide +kernel) rfl, gw 12 (by decide +kernel) rfl, gw 1173 (by decide +kernel) rfl⟩, by decide +kernel⟩
theorem mlX11_264 : xML RX11 264 yX11_back cX11_back 2 none 0 := ⟨⟨gw 1186 (by decide +kernel) rfl, gw 12 (by decide +kernel) rfl, gw 1189 (by decide +kernel) rfl⟩, by decide +kernel⟩
theorem mlX11_267 : xML RX11 267 yX11_remove cX11_remove 3 none 1 := ⟨⟨gw 1194 (by decide +kernel) rfl, gw 12 (by decide +kernel) rfl, gw 1197 (by decide +kernel) rfl⟩, by decide +kernel⟩
theorem mlX11_270 : xML RX11 270 yX11_mayStand cX11_mayStand 3 (some .boolean) 2 := ⟨⟨gw 1206 (by decide +kernel) rfl, gw 12 (by decide +kernel) rfl, gw 1209 (by decide +kernel) rfl⟩, by decide +kernel⟩
theorem mlX11_273 : xML RX11 273 yX11_findWrong cX11_findWrong 6 (some .int) 0 := ⟨⟨gw 1202 (by decide +kernel) rfl, gw 12 (by decide +kernel) rfl, gw 1205 (by decide +kernel) rfl⟩, by decide +kernel⟩
theorem mlX11_276 : xML RX11 276 yX11_has cX11_has 2 (some .boolean) 2 := ⟨⟨gw 1218 (by decide +kernel) rfl, gw 12 (by decide +kernel) rfl, gw 1220 (by decide +kernel) rfl⟩, by decide +kernel⟩
theorem mlX11_281 : xML RX11 281 yX11_carried cX11_carried 8 (some .int) 0 := ⟨⟨gw 1230 (by decide +kernel) rfl, gw 12 (by decide +kernel) rfl, gw 1233 (by decide +kernel) rfl⟩, by decide +kernel⟩
theorem mlX11_284 : xML RX11 284 yX11_makeLater cX11_makeLater 3 (some .boolean) 2 := ⟨⟨gw 1238 (by decide +kernel) rfl, gw 12 (by decide +kernel) rfl, gw 1241 (by decide +kernel) rfl⟩, by decide +kernel⟩
theorem mlX11_287 : xML RX11 287 yX11_makeEarlier cX11_makeEarlier 5 (some .boolean) 2 := ⟨⟨gw 1242 (by decide +kernel) rfl, gw 12 (by decide +kernel) rfl, gw 1245 (by decide +kernel) rfl⟩, by decide +kernel⟩
theorem mlX11_290 : xML RX11 290 yX11_findGuide cX11_findGuide 6 (some .int) 1 := ⟨⟨gw 1250 (by decide +kernel) rfl, gw 12 (by decide +kernel) rfl, gw 1253 (by decide +kernel) rfl⟩, by decide +kernel⟩
theorem mlX11_293 : xML RX11 293 yX11_areBooks cX11_areBooks 2 (some .boolean) 1 := ⟨⟨gw 1258 (by decide +kernel) rfl, gw 12 (by decide +kernel) rfl, gw 1261 (by decide +kernel) rfl⟩, by decide +kernel⟩
theorem mlX11_298 : xML RX11 298 yX11_allHabits cX11_allHabits 3 (some .int) 0 := ⟨⟨gw 1279 (by decide +kernel) rfl, gw 12 (by decide +kernel) rfl, gw 1282 (by decide +kernel) rfl⟩, by decide +kernel⟩
theorem mlX11_303 : xML RX11 303 yX11_likelyOn cX11_likelyOn 5 (some .int) 2 := ⟨⟨gw 1275 (by decide +kernel) rfl, gw 12 (by decide +kernel) rfl, gw 1278 (by decide +kernel) rfl⟩, by decide +kernel⟩
theorem mlX11_309 : xML RX11 309 yX11_weighed cX11_weighed 7 (some .long) 0 := ⟨⟨gw 1292 (by decide +kernel) rfl, gw 12 (by decide +kernel) rfl, gw 1295 (by decide +kernel) rfl⟩, by decide +kernel⟩
theorem mlX11_313 : xML RX11 313 yX11_nextRow cX11_nextRow 7 (some .boolean) 0 := ⟨⟨gw 1296 (by decide +kernel) rfl, gw 12 (by decide +kernel) rfl, gw 1299 (by decide +kernel) rfl⟩, by decide +kernel⟩
theorem mlX11_316 : xML RX11 316 yX11_findSearch cX11_findSearch 6 (some .int) 1 := ⟨⟨gw 1288 (by decide +kernel) rfl, gw 12 (by decide +kernel) rfl, gw 1291 (by decide +kernel) rfl⟩, by decide +kernel⟩
theorem mlX11_329 : xML RX11 329 yX11_draw cX11_draw 2 (some .int) 1 := ⟨⟨gw 1312 (by decide +kernel) rfl, gw 12 (by decide +kernel) rfl, gw 1315 (by decide +kernel) rfl⟩, by decide +kernel⟩
theorem mlX11_332 : xML RX11 332 yX11_drawReading cX11_drawReading 4 (some .int) 0 := ⟨⟨gw 1308 (by decide +kernel) rfl, gw 12 (by decide +kernel) rfl, gw 1311 (by decide +kernel) rfl⟩, by decide +kernel⟩
