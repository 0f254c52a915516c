theorem cf0 : m_cf 0 RX0 TX0 1 := ⟨rfl, fun w hw => List.mem_filter.mpr ⟨(by decide +kernel : ∀ w ∈ u_ws RX0 TX0 1, w ∈ lw_tbl) w hw, (by decide +kernel : ∀ w ∈ u_ws RX0 TX0 1, goodWord w = true) w hw⟩, tyX0_ok, nmX0⟩
theorem cf1 : m_cf 1 RX1 TX1 4 := ⟨rfl, fun w hw => List.mem_filter.mpr ⟨(by decide +kernel : ∀ w ∈ u_ws RX1 TX1 4, w ∈ lw_tbl) w hw, (by decide +kernel : ∀ w ∈ u_ws RX1 TX1 4, goodWord w = true) w hw⟩, tyX1_ok, nmX1⟩
theorem cf2 : m_cf 2 RX2 TX2 3 := ⟨rfl, fun w hw => List.mem_filter.mpr ⟨(by decide +kernel : ∀ w ∈ u_ws RX2 TX2 3, w ∈ lw_tbl) w hw, (by decide +kernel : ∀ w ∈ u_ws RX2 TX2 3, goodWord w = true) w hw⟩, tyX2_ok, nmX2⟩
theorem cf3 : m_cf 3 RX3 TX3 4 := ⟨rfl, fun w hw => List.mem_filter.mpr ⟨(by decide +kernel : ∀ w ∈ u_ws RX3 TX3 4, w ∈ lw_tbl) w hw, (by decide +kernel : ∀ w ∈ u_ws RX3 TX3 4, goodWord w = true) w hw⟩, tyX3_ok, nmX3⟩
theorem cf4 : m_cf 4 RX4 TX4 10 := ⟨rfl, fun w hw => List.mem_filter.mpr ⟨(by decide +kernel : ∀ w ∈ u_ws RX4 TX4 10, w ∈ lw_tbl) w hw, (by decide +kernel : ∀ w ∈ u_ws RX4 TX4 10, goodWord w = true) w hw⟩, tyX4_ok, nmX4⟩
theorem cf5 : m_cf 5 RX5 TX5 4 := ⟨rfl, fun w hw => List.mem_filter.mpr ⟨(by decide +kernel : ∀ w ∈ u_ws RX5 TX5 4, w ∈ lw_tbl) w hw, (by decide +kernel : ∀ w ∈ u_ws RX5 TX5 4, goodWord w = true) w hw⟩, tyX5_ok, nmX5⟩
theorem cf6 : m_cf 6 RX6 TX6 5 := ⟨rfl, fun w hw => List.mem_filter.mpr ⟨(by decide +kernel : ∀ w ∈ u_ws RX6 TX6 5, w ∈ lw_tbl) w hw, (by decide +kernel : ∀ w ∈ u_ws RX6 TX6 5, goodWord w = true) w hw⟩, tyX6_ok, nmX6⟩
theorem cf7 : m_cf 7 RX7 TX7 2 := ⟨rfl, fun w hw => List.mem_filter.mpr ⟨(by decide +kernel : ∀ w ∈ u_ws RX7 TX7 2, w ∈ lw_tbl) w hw, (by decide +kernel : ∀ w ∈ u_ws RX7 TX7 2, goodWord w = true) w hw⟩, tyX7_ok, nmX7⟩
theorem cf8 : m_cf 8 RX8 TX8 2 := ⟨rfl, fun w hw => List.mem_filter.mpr ⟨(by decide +kernel : ∀ w ∈ u_ws RX8 TX8 2, w ∈ lw_tbl) w hw, (by decide +kernel : ∀ w ∈ u_ws RX8 TX8 2, goodWord w = true) w hw⟩, tyX8_ok, nmX8⟩
theorem cf9 : m_cf 9 RX9 TX9 6 := ⟨rfl, fun w hw => List.mem_filter.mpr ⟨(by decide +kernel : ∀ w ∈ u_ws RX9 TX9 6, w ∈ lw_tbl) w hw, (by decide +kernel : ∀ w ∈ u_ws RX9 TX9 6, goodWord w = true) w hw⟩, tyX9_ok, nmX9⟩
theorem cf10 : m_cf 10 RX10 TX10 5 := ⟨rfl, fun w hw => List.mem_filter.mpr ⟨(by decide +kernel : ∀ w ∈ u_ws RX10 TX10 5, w ∈ lw_tbl) w hw, (by decide +kernel : ∀ w ∈ u_ws RX10 TX10 5, goodWord w = true) w hw⟩, tyX10_ok, nmX10⟩
theorem cf11 : m_cf 11 RX11 TX11 17 := ⟨rfl, fun w hw => List.mem_filter.mpr ⟨(by decide +kernel : ∀ w ∈ u_ws RX11 TX11 17, w ∈ lw_tbl) w hw, (by decide +kernel : ∀ w ∈ u_ws RX11 TX11 17, goodWord w = true) w hw⟩, tyX11_ok, nmX11⟩
theorem cf12 : m_cf 12 RX12 TX12 63 := ⟨rfl, fun w hw => List.mem_filter.mpr ⟨(by decide +kernel : ∀ w ∈ u_ws RX12 TX12 63, w ∈ lw_tbl) w hw, (by decide +kernel : ∀ w ∈ u_ws RX12 TX12 63, goodWord w = true) w hw⟩, tyX12_ok, nmX12⟩
theorem f_X4_9 : m_fl RX4 9 4 10 0 := ⟨_, _, cf4, by decide, m_inG 134 (by decide +kernel) rfl, _, rfl⟩
theorem f_X11_120 : m_fl RX11 120 4 10 0 := ⟨_, _, cf4, by decide, m_inG 135 (by decide +kernel) rfl, _, rfl⟩
theorem f_X6_39 : m_fl RX6 39 4 10 0 := ⟨_, _, cf4, by decide, m_inG 136 (by decide +kernel) rfl, _, rfl⟩
theorem f_X1_63 : m_fl RX1 63 4 10 0 := ⟨_, _, cf4, by decide, m_inG 137 (by decide +kernel) rfl, _, rfl⟩
theorem f_X4_15 : m_fl RX4 15 4 10 1 := ⟨_, _, cf4, by decide, m_inG 138 (by decide +kernel) rfl, _, rfl⟩
theorem f_X9_53 : m_fl RX9 53 4 10 1 := ⟨_, _, cf4, by decide, m_inG 139 (by decide +kernel) rfl, _, rfl⟩
theorem f_X0_39 : m_fl RX0 39 4 10 1 := ⟨_, _, cf4, by decide, m_inG 140 (by decide +kernel) rfl, _, rfl⟩
theorem f_X11_129 : m_fl RX11 129 4 10 1 := ⟨_, _, cf4, by decide, m_inG 141 (by decide +kernel) rfl, _, rfl⟩
theorem f_X1_101 : m_fl RX1 101 4 10 1 := ⟨_, _, cf4, by decide, m_inG 142 (by decide +kernel) rfl, _, rfl⟩
theorem f_X4_18 : m_fl RX4 18 4 10 2 := ⟨_, _, cf4, by decide, m_inG 143 (by decide +kernel) rfl, _, rfl⟩
theorem f_X11_172 : m_fl RX11 172 4 10 2 := ⟨_, _, cf4, by decide, m_inG 144 (by decide +kernel) rfl, _, rfl⟩
theorem f_X4_21 : m_fl RX4 21 4 10 3 := ⟨_, _, cf4, by decide, m_inG 145 (by decide +kernel) rfl, _, rfl⟩
theorem f_X6_67 : m_fl RX6 67 4 10 3 := ⟨_, _, cf4, by decide, m_inG 146 (by decide +kernel) rfl, _, rfl⟩
theorem f_X11_175 : m_fl RX11 175 4 10 3 := ⟨_, _, cf4, by decide, m_inG 147 (by decide +kernel) rfl, _, rfl⟩
theorem f_X4_24 : m_fl RX4 24 4 10 4 := ⟨_, _, cf4, by decide, m_inG 148 (by decide +kernel) rfl, _, rfl⟩
theorem f_X11_178 : m_fl RX11 178 4 10 4 := ⟨_, _, cf4, by decide, m_inG 149 (by decide +kernel) rfl, _, rfl⟩
theorem f_X4_27 : m_fl RX4 27 4 10 5 := ⟨_, _, cf4, by decide, m_inG 150 (by decide +kernel) rfl, _, rfl⟩
theorem f_X9_102 : m_fl RX9 102 4 10 5 := ⟨_, _, cf4, by decide, m_inG 151 (by decide +kernel) rfl, _, rfl⟩
theorem f_X11_181 : m_fl RX11 181 4 10 5 := ⟨_, _, cf4, by decide, m_inG 152 (by decide +kernel) rfl, _, rfl⟩
theorem f_X4_30 : m_fl RX4 30 4 10 6 := ⟨_, _, cf4, by decide, m_inG 153 (by decide +kernel) rfl, _, rfl⟩
theorem f_X11_376 : m_fl RX11 376 4 10 6 := ⟨_, _, cf4, by decide, m_inG 154 (by decide +kernel) rfl, _, rfl⟩
theorem f_X9_39 : m_fl RX9 39 4 10 7 := ⟨_, _, cf4, by decide, m_inG 155 (by decide +kernel) rfl, _, rfl⟩
theorem p_X9_39 : m_fp RX9 39 4 10 7 := ⟨_, _, cf4, by decide, m_inG 155 (by decide +kernel) rfl, rfl⟩
theorem f_X0_15 : m_fl RX0 15 4 10 7 := ⟨_, _, cf4, by decide, m_inG 156 (by decide +kernel) rfl, _, rfl⟩
theorem p_X0_15 : m_fp RX0 15 4 10 7 := ⟨_, _, cf4, by decide, m_inG 156 (by decide +kernel) rfl, rfl⟩
theorem f_X4_45 : m_fl RX4 45 4 10 7 := ⟨_, _, cf4, by decide, m_inG 157 (by decide +kernel) rfl, _, rfl⟩
theorem p_X4_45 : m_fp RX4 45 4 10 7 := ⟨_, _, cf4, by decide, m_inG 157 (by decide +kernel) rfl, rfl⟩
theorem f_X6_64 : m_fl RX6 64 4 10 7 := ⟨_, _, cf4, by decide, m_inG 158 (by decide +kernel) rfl, _, rfl⟩
theorem p_X6_64 : m_fp RX6 64 4 10 7 := ⟨_, _, cf4, by decide, m_inG 158 (by decide +kernel) rfl, rfl⟩
theorem f_X11_162 : m_fl RX11 162 4 10 7 := ⟨_, _, cf4, by decide, m_inG 159 (by decide +kernel) rfl, _, rfl⟩
theorem p_X11_162 : m_fp RX11 162 4 10 7 := ⟨_, _, cf4, by decide, m_inG 159 (by decide +kernel) rfl, rfl⟩
theorem f_X6_48 : m_fl RX6 48 4 10 8 := ⟨_, _, cf4, by decide, m_inG 160 (by decide +kernel) rfl, _, rfl⟩
theorem p_X6_48 : m_fp RX6 48 4 10 8 := ⟨_, _, cf4, by decide, m_inG 160 (by decide +kernel) rfl, rfl⟩
theorem f_X4_49 : m_fl RX4 49 4 10 8 := ⟨_, _, cf4, by decide, m_inG 161 (by decide +kernel) rfl, _, rfl⟩
theorem p_X4_49 : m_fp RX4 49 4 10 8 := ⟨_, _, cf4, by decide, m_inG 161 (by decide +kernel) rfl, rfl⟩
theorem f_X3_31 : m_fl RX3 31 4 10 8 := ⟨_, _, cf4, by decide, m_inG 162 (by decide +kernel) rfl, _, rfl⟩
theorem p_X3_31 : m_fp RX3 31 4 10 8 := ⟨_, _, cf4, by decide, m_inG 162 (by decide +kernel) rfl, rfl⟩
theorem f_X11_346 : m_fl RX11 346 4 10 8 := ⟨_, _, cf4, by decide, m_inG 163 (by decide +kernel) rfl, _, rfl⟩
theorem p_X11_346 : m_fp RX11 346 4 10 8 := ⟨_, _, cf4, by decide, m_inG 163 (by decide +kernel) rfl, rfl⟩
theorem f_X0_32 : m_fl RX0 32 4 10 9 := ⟨_, _, cf4, by decide, m_inG 164 (by decide +kernel) rfl, _, rfl⟩
theorem p_X0_32 : m_fp RX0 32 4 10 9 := ⟨_, _, cf4, by decide, m_inG 164 (by decide +kernel) rfl, rfl⟩
theorem f_X9_63 : m_fl RX9 63 4 10 9 := ⟨_, _, cf4, by decide, m_inG 165 (by decide +kernel) rfl, _, rfl⟩
theorem p_X9_63 : m_fp RX9 63 4 10 9 := ⟨_, _, cf4, by decide, m_inG 165 (by decide +kernel) rfl, rfl⟩
theorem f_X4_52 : m_fl RX4 52 4 10 9 := ⟨_, _, cf4, by decide, m_inG 166 (by decide +kernel) rfl, _, rfl⟩
theorem p_X4_52 : m_fp RX4 52 4 10 9 := ⟨_, _, cf4, by decide, m_inG 166 (by decide +kernel) rfl, rfl⟩
theorem f_X8_9 : m_fl RX8 9 8 2 0 := ⟨_, _, cf8, by decide, m_inG 196 (by decide +kernel) rfl, _, rfl⟩
theorem f_X1_128 : m_fl RX1 128 8 2 0 := ⟨_, _, cf8, by decide, m_inG 197 (by decide +kernel) rfl, _, rfl⟩
theorem f_X11_424 : m_fl RX11 424 8 2 0 := ⟨_, _, cf8, by decide, m_inG 198 (by decide +kernel) rfl, _, rfl⟩
theorem f_X8_15 : m_fl RX8 15 8 2 1 := ⟨_, _, cf8, by decide, m_inG 199 (by decide +kernel) rfl, _, rfl⟩
theorem p_X8_15 : m_fp RX8 15 8 2 1 := ⟨_, _, cf8, by decide, m_inG 199 (by decide +kernel) rfl, rfl⟩
theorem f_X1_46 : m_fl RX1 46 8 2 1 := ⟨_, _, cf8, by decide, m_inG 200 (by decide +kernel) rfl, _, rfl⟩
theorem p_X1_46 : m_fp RX1 46 8 2 1 := ⟨_, _, cf8, by decide, m_inG 200 (by decide +kernel) rfl, rfl⟩
theorem f_X11_187 : m_fl RX11 187 8 2 1 := ⟨_, _, cf8, by decide, m_inG 201 (by decide +kernel) rfl, _, rfl⟩
theorem p_X11_187 : m_fp RX11 187 8 2 1 := ⟨_, _, cf8, by decide, m_inG 201 (by decide +kernel) rfl, rfl⟩
theorem f_X1_9 : m_fl RX1 9 1 4 0 := ⟨_, _, cf1, by decide, m_inG 214 (by decide +kernel) rfl, _, rfl⟩
theorem f_X1_43 : m_fl RX1 43 1 4 1 := ⟨_, _, cf1, by decide, m_inG 215 (by decide +kernel) rfl, _, rfl⟩
theorem p_X1_43 : m_fp RX1 43 1 4 1 := ⟨_, _, cf1, by decide, m_inG 215 (by decide +kernel) rfl, rfl⟩
theorem f_X1_19 : m_fl RX1 19 1 4 2 := ⟨_, _, cf1, by decide, m_inG 216 (by decide +kernel) rfl, _, rfl⟩
theorem p_X1_19 : m_fp RX1 19 1 4 2 := ⟨_, _, cf1, by decide, m_inG 216 (by decide +kernel) rfl, rfl⟩
theorem f_X1_15 : m_fl RX1 15 1 4 3 := ⟨_, _, cf1, by decide, m_inG 217 (by decide +kernel) rfl, _, rfl⟩
theorem p_X1_15 : m_fp RX1 15 1 4 3 := ⟨_, _, cf1, by decide, m_inG 217 (by decide +kernel) rfl, rfl⟩
theorem f_X11_205 : m_fl RX11 205 1 4 3 := ⟨_, _, cf1, by decide, m_inG 218 (by decide +kernel) rfl, _, rfl⟩
theorem p_X11_205 : m_fp RX11 205 1 4 3 := ⟨_, _, cf1, by decide, m_inG 218 (by decide +kernel) rfl, rfl⟩
theorem f_X2_7 : m_fl RX2 7 2 3 0 := ⟨_, _, cf2, by decide, m_inG 247 (by decide +kernel) rfl, _, rfl⟩
theorem p_X2_7 : m_fp RX2 7 2 3 0 := ⟨_, _, cf2, by decide, m_inG 247 (by decide +kernel) rfl, rfl⟩
theorem f_X7_33 : m_fl RX7 33 2 3 0 := ⟨_, _, cf2, by decide, m_inG 248 (by decide +kernel) rfl, _, rfl⟩
theorem p_X7_33 : m_fp RX7 33 2 3 0 := ⟨_, _, cf2, by decide, m_inG 248 (by decide +kernel) rfl, rfl⟩
theorem f_X9_128 : m_fl RX9 128 2 3 0 := ⟨_, _, cf2, by decide, m_inG 249 (by decide +kernel) rfl, _, rfl⟩
theorem p_X9_128 : m_fp RX9 128 2 3 0 := ⟨_, _, cf2, by decide, m_inG 249 (by decide +kernel) rfl, rfl⟩
theorem f_X11_264 : m_fl RX11 264 2 3 0 := ⟨_, _, cf2, by decide, m_inG 250 (by decide +kernel) rfl, _, rfl⟩
theorem p_X11_264 : m_fp RX11 264 2 3 0 := ⟨_, _, cf2, by decide, m_inG 250 (by decide +kernel) rfl, rfl⟩
theorem f_X2_13 : m_fl RX2 13 2 3 1 := ⟨_, _, cf2, by decide, m_inG 251 (by decide +kernel) rfl, _, rfl⟩
theorem p_X2_13 : m_fp RX2 13 2 3 1 := ⟨_, _, cf2, by decide, m_inG 251 (by decide +kernel) rfl, rfl⟩
theorem f_X7_29 : m_fl RX7 29 2 3 1 := ⟨_, _, cf2, by decide, m_inG 252 (by decide +kernel) rfl, _, rfl⟩
theorem p_X7_29 : m_fp RX7 29 2 3 1 := ⟨_, _, cf2, by decide, m_inG 252 (by decide +kernel) rfl, rfl⟩
theorem f_X9_132 : m_fl RX9 132 2 3 1 := ⟨_, _, cf2, by decide, m_inG 253 (by decide +kernel) rfl, _, rfl⟩
theorem p_X9_132 : m_fp RX9 132 2 3 1 := ⟨_, _, cf2, by decide, m_inG 253 (by decide +kernel) rfl, rfl⟩
theorem f_X11_268 : m_fl RX11 268 2 3 1 := ⟨_, _, cf2, by decide, m_inG 254 (by decide +kernel) rfl, _, rfl⟩
theorem p_X11_268 : m_fp RX11 268 2 3 1 := ⟨_, _, cf2, by decide, m_inG 254 (by decide +kernel) rfl, rfl⟩
theorem f_X2_16 : m_fl RX2 16 2 3 2 := ⟨_, _, cf2, by decide, m_inG 255 (by decide +kernel) rfl, _, rfl⟩
theorem p_X2_16 : m_fp RX2 16 2 3 2 := ⟨_, _, cf2, by decide, m_inG 255 (by decide +kernel) rfl, rfl⟩
theorem f_X7_44 : m_fl RX7 44 2 3 2 := ⟨_, _, cf2, by decide, m_inG 256 (by decide +kernel) rfl, _, rfl⟩
theorem p_X7_44 : m_fp RX7 44 2 3 2 := ⟨_, _, cf2, by decide, m_inG 256 (by decide +kernel) rfl, rfl⟩
theorem f_X9_134 : m_fl RX9 134 2 3 2 := ⟨_, _, cf2, by decide, m_inG 257 (by decide +kernel) rfl, _, rfl⟩
theorem p_X9_134 : m_fp RX9 134 2 3 2 := ⟨_, _, cf2, by decide, m_inG 257 (by decide +kernel) rfl, rfl⟩
theorem f_X11_231 : m_fl RX11 231 2 3 2 := ⟨_, _, cf2, by decide, m_inG 258 (by decide +kernel) rfl, _, rfl⟩
theorem p_X11_231 : m_fp RX11 231 2 3 2 := ⟨_, _, cf2, by decide, m_inG 258 (by decide +kernel) rfl, rfl⟩
theorem f_X9_9 : m_fl RX9 9 9 6 0 := ⟨_, _, cf9, by decide, m_inG 266 (by decide +kernel) rfl, _, rfl⟩
theorem f_X9_15 : m_fl RX9 15 9 6 1 := ⟨_, _, cf9, by decide, m_inG 267 (by decide +kernel) rfl, _, rfl⟩
theorem f_X9_19 : m_fl RX9 19 9 6 2 := ⟨_, _, cf9, by decide, m_inG 268 (by decide +kernel) rfl, _, rfl⟩
theorem f_X9_26 : m_fl RX9 26 9 6 3 := ⟨_, _, cf9, by decide, m_inG 269 (by decide +kernel) rfl, _, rfl⟩
theorem f_X9_30 : m_fl RX9 30 9 6 4 := ⟨_, _, cf9, by decide, m_inG 270 (by decide +kernel) rfl, _, rfl⟩
theorem f_X9_33 : m_fl RX9 33 9 6 5 := ⟨_, _, cf9, by decide, m_inG 271 (by decide +kernel) rfl, _, rfl⟩
theorem f_X7_12 : m_fl RX7 12 7 2 0 := ⟨_, _, cf7, by decide, m_inG 293 (by decide +kernel) rfl, _, rfl⟩
theorem f_X11_227 : m_fl RX11 227 7 2 0 := ⟨_, _, cf7, by decide, m_inG 294 (by decide +kernel) rfl, _, rfl⟩
theorem f_X7_18 : m_fl RX7 18 7 2 1 := ⟨_, _, cf7, by decide, m_inG 295 (by decide +kernel) rfl, _, rfl⟩
theorem f_X11_237 : m_fl RX11 237 7 2 1 := ⟨_, _, cf7, by decide, m_inG 296 (by decide +kernel) rfl, _, rfl⟩
theorem f_X10_9 : m_fl RX10 9 10 5 0 := ⟨_, _, cf10, by decide, m_inG 308 (by decide +kernel) rfl, _, rfl⟩
theorem f_X10_15 : m_fl RX10 15 10 5 1 := ⟨_, _, cf10, by decide, m_inG 309 (by decide +kernel) rfl, _, rfl⟩
theorem f_X10_18 : m_fl RX10 18 10 5 2 := ⟨_, _, cf10, by decide, m_inG 310 (by decide +kernel) rfl, _, rfl⟩
theorem p_X10_18 : m_fp RX10 18 10 5 2 := ⟨_, _, cf10, by decide, m_inG 310 (by decide +kernel) rfl, rfl⟩
theorem f_X10_22 : m_fl RX10 22 10 5 3 := ⟨_, _, cf10, by decide, m_inG 311 (by decide +kernel) rfl, _, rfl⟩
theorem p_X10_22 : m_fp RX10 22 10 5 3 := ⟨_, _, cf10, by decide, m_inG 311 (by decide +kernel) rfl, rfl⟩
theorem f_X10_26 : m_fl RX10 26 10 5 4 := ⟨_, _, cf10, by decide, m_inG 312 (by decide +kernel) rfl, _, rfl⟩
theorem p_X10_26 : m_fp RX10 26 10 5 4 := ⟨_, _, cf10, by decide, m_inG 312 (by decide +kernel) rfl, rfl⟩
theorem f_X0_9 : m_fl RX0 9 0 1 0 := ⟨_, _, cf0, by decide, m_inG 331 (by decide +kernel) rfl, _, rfl⟩
theorem f_X3_9 : m_fl RX3 9 3 4 0 := ⟨_, _, cf3, by decide, m_inG 341 (by decide +kernel) rfl, _, rfl⟩
theorem f_X3_21 : m_fl RX3 21 3 4 1 := ⟨_, _, cf3, by decide, m_inG 342 (by decide +kernel) rfl, _, rfl⟩
theorem p_X3_21 : m_fp RX3 21 3 4 1 := ⟨_, _, cf3, by decide, m_inG 342 (by decide +kernel) rfl, rfl⟩
theorem f_X11_357 : m_fl RX11 357 3 4 1 := ⟨_, _, cf3, by decide, m_inG 343 (by decide +kernel) rfl, _, rfl⟩
theorem p_X11_357 : m_fp RX11 357 3 4 1 := ⟨_, _, cf3, by decide, m_inG 343 (by decide +kernel) rfl, rfl⟩
theorem f_X3_25 : m_fl RX3 25 3 4 2 := ⟨_, _, cf3, by decide, m_inG 344 (by decide +kernel) rfl, _, rfl⟩
theorem p_X3_25 : m_fp RX3 25 3 4 2 := ⟨_, _, cf3, by decide, m_inG 344 (by decide +kernel) rfl, rfl⟩
theorem f_X11_360 : m_fl RX11 360 3 4 2 := ⟨_, _, cf3, by decide, m_inG 345 (by decide +kernel) rfl, _, rfl⟩
theorem p_X11_360 : m_fp RX11 360 3 4 2 := ⟨_, _, cf3, by decide, m_inG 345 (by decide +kernel) rfl, rfl⟩
theorem f_X3_28 : m_fl RX3 28 3 4 3 := ⟨_, _, cf3, by decide, m_inG 346 (by decide +kernel) rfl, _, rfl⟩
theorem p_X3_28 : m_fp RX3 28 3 4 3 := ⟨_, _, cf3, by decide, m_inG 346 (by decide +kernel) rfl, rfl⟩
theorem f_X11_363 : m_fl RX11 363 3 4 3 := ⟨_, _, cf3, by decide, m_inG 347 (by decide +kernel) rfl, _, rfl⟩
theorem p_X11_363 : m_fp RX11 363 3 4 3 := ⟨_, _, cf3, by decide, m_inG 347 (by decide +kernel) rfl, rfl⟩
theorem f_X6_18 : m_fl RX6 18 6 5 0 := ⟨_, _, cf6, by decide, m_inG 363 (by decide +kernel) rfl, _, rfl⟩
theorem f_X6_9 : m_fl RX6 9 6 5 1 := ⟨_, _, cf6, by decide, m_inG 364 (by decide +kernel) rfl, _, rfl⟩
theorem f_X6_15 : m_fl RX6 15 6 5 2 := ⟨_, _, cf6, by decide, m_inG 365 (by decide +kernel) rfl, _, rfl⟩
theorem f_X6_36 : m_fl RX6 36 6 5 3 := ⟨_, _, cf6, by decide, m_inG 366 (by decide +kernel) rfl, _, rfl⟩
theorem p_X6_36 : m_fp RX6 36 6 5 3 := ⟨_, _, cf6, by decide, m_inG 366 (by decide +kernel) rfl, rfl⟩
theorem f_X6_22 : m_fl RX6 22 6 5 4 := ⟨_, _, cf6, by decide, m_inG 367 (by decide +kernel) rfl, _, rfl⟩
theorem p_X6_22 : m_fp RX6 22 6 5 4 := ⟨_, _, cf6, by decide, m_inG 367 (by decide +kernel) rfl, rfl⟩
theorem f_X11_369 : m_fl RX11 369 6 5 4 := ⟨_, _, cf6, by decide, m_inG 368 (by decide +kernel) rfl, _, rfl⟩
theorem p_X11_369 : m_fp RX11 369 6 5 4 := ⟨_, _, cf6, by decide, m_inG 368 (by decide +kernel) rfl, rfl⟩
theorem f_X5_9 : m_fl RX5 9 5 4 0 := ⟨_, _, cf5, by decide, m_inG 386 (by decide +kernel) rfl, _, rfl⟩
theorem f_X11_408 : m_fl RX11 408 5 4 0 := ⟨_, _, cf5, by decide, m_inG 387 (by decide +kernel) rfl, _, rfl⟩
theorem f_X5_16 : m_fl RX5 16 5 4 1 := ⟨_, _, cf5, by decide, m_inG 388 (by decide +kernel) rfl, _, rfl⟩
theorem p_X5_16 : m_fp RX5 16 5 4 1 := ⟨_, _, cf5, by decide, m_inG 388 (by decide +kernel) rfl, rfl⟩
theorem f_X11_399 : m_fl RX11 399 5 4 1 := ⟨_, _, cf5, by decide, m_inG 389 (by decide +kernel) rfl, _, rfl⟩
theorem p_X11_399 : m_fp RX11 399 5 4 1 := ⟨_, _, cf5, by decide, m_inG 389 (by decide +kernel) rfl, rfl⟩
theorem f_X5_20 : m_fl RX5 20 5 4 2 := ⟨_, _, cf5, by decide, m_inG 390 (by decide +kernel) rfl, _, rfl⟩
theorem p_X5_20 : m_fp RX5 20 5 4 2 := ⟨_, _, cf5, by decide, m_inG 390 (by decide +kernel) rfl, rfl⟩
theorem f_X11_402 : m_fl RX11 402 5 4 2 := ⟨_, _, cf5, by decide, m_inG 391 (by decide +kernel) rfl, _, rfl⟩
theorem p_X11_402 : m_fp RX11 402 5 4 2 := ⟨_, _, cf5, by decide, m_inG 391 (by decide +kernel) rfl, rfl⟩
theorem f_X5_24 : m_fl RX5 24 5 4 3 := ⟨_, _, cf5, by decide, m_inG 392 (by decide +kernel) rfl, _, rfl⟩
theorem p_X5_24 : m_fp RX5 24 5 4 3 := ⟨_, _, cf5, by decide, m_inG 392 (by decide +kernel) rfl, rfl⟩
theorem f_X11_405 : m_fl RX11 405 5 4 3 := ⟨_, _, cf5, by decide, m_inG 393 (by decide +kernel) rfl, _, rfl⟩
theorem p_X11_405 : m_fp RX11 405 5 4 3 := ⟨_, _, cf5, by decide, m_inG 393 (by decide +kernel) rfl, rfl⟩
theorem f_X11_12 : m_fl RX11 12 11 17 0 := ⟨_, _, cf11, by decide, m_inG 403 (by decide +kernel) rfl, _, rfl⟩
theorem f_X11_16 : m_fl RX11 16 11 17 1 := ⟨_, _, cf11, by decide, m_inG 404 (by decide +kernel) rfl, _, rfl⟩
theorem f_X11_19 : m_fl RX11 19 11 17 2 := ⟨_, _, cf11, by decide, m_inG 405 (by decide +kernel) rfl, _, rfl⟩
theorem f_X11_23 : m_fl RX11 23 11 17 3 := ⟨_, _, cf11, by decide, m_inG 406 (by decide +kernel) rfl, _, rfl⟩
theorem f_X11_30 : m_fl RX11 30 11 17 4 := ⟨_, _, cf11, by decide, m_inG 407 (by decide +kernel) rfl, _, rfl⟩
theorem f_X11_39 : m_fl RX11 39 11 17 5 := ⟨_, _, cf11, by decide, m_inG 408 (by decide +kernel) rfl, _, rfl⟩
theorem f_X11_46 : m_fl RX11 46 11 17 6 := ⟨_, _, cf11, by decide, m_inG 409 (by decide +kernel) rfl, _, rfl⟩
theorem f_X11_53 : m_fl RX11 53 11 17 7 := ⟨_, _, cf11, by decide, m_inG 410 (by decide +kernel) rfl, _, rfl⟩
theorem f_X11_60 : m_fl RX11 60 11 17 8 := ⟨_, _, cf11, by decide, m_inG 411 (by decide +kernel) rfl, _, rfl⟩
theorem f_X11_67 : m_fl RX11 67 11 17 9 := ⟨_, _, cf11, by decide, m_inG 412 (by decide +kernel) rfl, _, rfl⟩
theorem f_X11_76 : m_fl RX11 76 11 17 10 := ⟨_, _, cf11, by decide, m_inG 413 (by decide +kernel) rfl, _, rfl⟩
theorem f_X11_83 : m_fl RX11 83 11 17 11 := ⟨_, _, cf11, by decide, m_inG 414 (by decide +kernel) rfl, _, rfl⟩
theorem f_X11_90 : m_fl RX11 90 11 17 12 := ⟨_, _, cf11, by decide, m_inG 415 (by decide +kernel) rfl, _, rfl⟩
theorem f_X11_94 : m_fl RX11 94 11 17 13 := ⟨_, _, cf11, by decide, m_inG 416 (by decide +kernel) rfl, _, rfl⟩
theorem f_X11_98 : m_fl RX11 98 11 17 14 := ⟨_, _, cf11, by decide, m_inG 417 (by decide +kernel) rfl, _, rfl⟩
theorem p_X11_98 : m_fp RX11 98 11 17 14 := ⟨_, _, cf11, by decide, m_inG 417 (by decide +kernel) rfl, rfl⟩
theorem f_X11_102 : m_fl RX11 102 11 17 15 := ⟨_, _, cf11, by decide, m_inG 418 (by decide +kernel) rfl, _, rfl⟩
theorem p_X11_102 : m_fp RX11 102 11 17 15 := ⟨_, _, cf11, by decide, m_inG 418 (by decide +kernel) rfl, rfl⟩
theorem f_X11_105 : m_fl RX11 105 11 17 16 := ⟨_, _, cf11, by decide, m_inG 419 (by decide +kernel) rfl, _, rfl⟩
theorem p_X11_105 : m_fp RX11 105 11 17 16 := ⟨_, _, cf11, by decide, m_inG 419 (by decide +kernel) rfl, rfl⟩
theorem f_X12_133 : m_fl RX12 133 12 63 0 := ⟨_, _, cf12, by decide, m_inG 1196 (by decide +kernel) rfl, _, rfl⟩
theorem p_X12_133 : m_fp RX12 133 12 63 0 := ⟨_, _, cf12, by decide, m_inG 1196 (by decide +kernel) rfl, rfl⟩
theorem f_X12_136 : m_fl RX12 136 12 63 1 := ⟨_, _, cf12, by decide, m_inG 1197 (by decide +kernel) rfl, _, rfl⟩
theorem p_X12_136 : m_fp RX12 136 12 63 1 := ⟨_, _, cf12, by decide, m_inG 1197 (by decide +kernel) rfl, rfl⟩
theorem f_X12_7 : m_fl RX12 7 12 63 2 := ⟨_, _, cf12, by decide, m_inG 1198 (by decide +kernel) rfl, _, rfl⟩
theorem f_X12_13 : m_fl RX12 13 12 63 3 := ⟨_, _, cf12, by decide, m_inG 1199 (by decide +kernel) rfl, _, rfl⟩
theorem f_X12_16 : m_fl RX12 16 12 63 4 := ⟨_, _, cf12, by decide, m_inG 1200 (by decide +kernel) rfl, _, rfl⟩
theorem f_X12_19 : m_fl RX12 19 12 63 5 := ⟨_, _, cf12, by decide, m_inG 1201 (by decide +kernel) rfl, _, rfl⟩
theorem f_X12_204 : m_fl RX12 204 12 63 6 := ⟨_, _, cf12, by decide, m_inG 1202 (by decide +kernel) rfl, _, rfl⟩
theorem p_X12_204 : m_fp RX12 204 12 63 6 := ⟨_, _, cf12, by decide, m_inG 1202 (by decide +kernel) rfl, rfl⟩
theorem f_X12_23 : m_fl RX12 23 12 63 7 := ⟨_, _, cf12, by decide, m_inG 1203 (by decide +kernel) rfl, _, rfl⟩
theorem f_X12_201 : m_fl RX12 201 12 63 8 := ⟨_, _, cf12, by decide, m_inG 1204 (by decide +kernel) rfl, _, rfl⟩
theorem p_X12_201 : m_fp RX12 201 12 63 8 := ⟨_, _, cf12, by decide, m_inG 1204 (by decide +kernel) rfl, rfl⟩
theorem f_X12_221 : m_fl RX12 221 12 63 9 := ⟨_, _, cf12, by decide, m_inG 1205 (by decide +kernel) rfl, _, rfl⟩
theorem p_X12_221 : m_fp RX12 221 12 63 9 := ⟨_, _, cf12, by decide, m_inG 1205 (by decide +kernel) rfl, rfl⟩
theorem f_X12_211 : m_fl RX12 211 12 63 10 := ⟨_, _, cf12, by decide, m_inG 1206 (by decide +kernel) rfl, _, rfl⟩
theorem p_X12_211 : m_fp RX12 211 12 63 10 := ⟨_, _, cf12, by decide, m_inG 1206 (by decide +kernel) rfl, rfl⟩
theorem f_X12_234 : m_fl RX12 234 12 63 11 := ⟨_, _, cf12, by decide, m_inG 1207 (by decide +kernel) rfl, _, rfl⟩
theorem p_X12_234 : m_fp RX12 234 12 63 11 := ⟨_, _, cf12, by decide, m_inG 1207 (by decide +kernel) rfl, rfl⟩
theorem f_X12_224 : m_fl RX12 224 12 63 12 := ⟨_, _, cf12, by decide, m_inG 1208 (by decide +kernel) rfl, _, rfl⟩
theorem p_X12_224 : m_fp RX12 224 12 63 12 := ⟨_, _, cf12, by decide, m_inG 1208 (by decide +kernel) rfl, rfl⟩
theorem f_X12_26 : m_fl RX12 26 12 63 13 := ⟨_, _, cf12, by decide, m_inG 1209 (by decide +kernel) rfl, _, rfl⟩
theorem p_X12_26 : m_fp RX12 26 12 63 13 := ⟨_, _, cf12, by decide, m_inG 1209 (by decide +kernel) rfl, rfl⟩
theorem f_X12_214 : m_fl RX12 214 12 63 14 := ⟨_, _, cf12, by decide, m_inG 1210 (by decide +kernel) rfl, _, rfl⟩
theorem p_X12_214 : m_fp RX12 214 12 63 14 := ⟨_, _, cf12, by decide, m_inG 1210 (by decide +kernel) rfl, rfl⟩
theorem f_X12_30 : m_fl RX12 30 12 63 15 := ⟨_, _, cf12, by decide, m_inG 1211 (by decide +kernel) rfl, _, rfl⟩
theorem f_X12_251 : m_fl RX12 251 12 63 16 := ⟨_, _, cf12, by decide, m_inG 1212 (by decide +kernel) rfl, _, rfl⟩
theorem p_X12_251 : m_fp RX12 251 12 63 16 := ⟨_, _, cf12, by decide, m_inG 1212 (by decide +kernel) rfl, rfl⟩
theorem f_X12_282 : m_fl RX12 282 12 63 17 := ⟨_, _, cf12, by decide, m_inG 1213 (by decide +kernel) rfl, _, rfl⟩
theorem p_X12_282 : m_fp RX12 282 12 63 17 := ⟨_, _, cf12, by decide, m_inG 1213 (by decide +kernel) rfl, rfl⟩
theorem f_X12_277 : m_fl RX12 277 12 63 18 := ⟨_, _, cf12, by decide, m_inG 1214 (by decide +kernel) rfl, _, rfl⟩
theorem p_X12_277 : m_fp RX12 277 12 63 18 := ⟨_, _, cf12, by decide, m_inG 1214 (by decide +kernel) rfl, rfl⟩
theorem f_X12_33 : m_fl RX12 33 12 63 19 := ⟨_, _, cf12, by decide, m_inG 1215 (by decide +kernel) rfl, _, rfl⟩
theorem f_X12_37 : m_fl RX12 37 12 63 20 := ⟨_, _, cf12, by decide, m_inG 1216 (by decide +kernel) rfl, _, rfl⟩
theorem f_X12_333 : m_fl RX12 333 12 63 21 := ⟨_, _, cf12, by decide, m_inG 1217 (by decide +kernel) rfl, _, rfl⟩
theorem p_X12_333 : m_fp RX12 333 12 63 21 := ⟨_, _, cf12, by decide, m_inG 1217 (by decide +kernel) rfl, rfl⟩
theorem f_X12_40 : m_fl RX12 40 12 63 22 := ⟨_, _, cf12, by decide, m_inG 1218 (by decide +kernel) rfl, _, rfl⟩
theorem f_X12_43 : m_fl RX12 43 12 63 23 := ⟨_, _, cf12, by decide, m_inG 1219 (by decide +kernel) rfl, _, rfl⟩
theorem f_X12_46 : m_fl RX12 46 12 63 24 := ⟨_, _, cf12, by decide, m_inG 1220 (by decide +kernel) rfl, _, rfl⟩
theorem f_X12_49 : m_fl RX12 49 12 63 25 := ⟨_, _, cf12, by decide, m_inG 1221 (by decide +kernel) rfl, _, rfl⟩
theorem f_X12_52 : m_fl RX12 52 12 63 26 := ⟨_, _, cf12, by decide, m_inG 1222 (by decide +kernel) rfl, _, rfl⟩
theorem f_X12_55 : m_fl RX12 55 12 63 27 := ⟨_, _, cf12, by decide, m_inG 1223 (by decide +kernel) rfl, _, rfl⟩
theorem f_X12_58 : m_fl RX12 58 12 63 28 := ⟨_, _, cf12, by decide, m_inG 1224 (by decide +kernel) rfl, _, rfl⟩
theorem f_X12_61 : m_fl RX12 61 12 63 29 := ⟨_, _, cf12, by decide, m_inG 1225 (by decide +kernel) rfl, _, rfl⟩
theorem f_X12_64 : m_fl RX12 64 12 63 30 := ⟨_, _, cf12, by decide, m_inG 1226 (by decide +kernel) rfl, _, rfl⟩
theorem f_X12_67 : m_fl RX12 67 12 63 31 := ⟨_, _, cf12, by decide, m_inG 1227 (by decide +kernel) rfl, _, rfl⟩
theorem f_X12_70 : m_fl RX12 70 12 63 32 := ⟨_, _, cf12, by decide, m_inG 1228 (by decide +kernel) rfl, _, rfl⟩
theorem f_X12_73 : m_fl RX12 73 12 63 33 := ⟨_, _, cf12, by decide, m_inG 1229 (by decide +kernel) rfl, _, rfl⟩
theorem f_X12_76 : m_fl RX12 76 12 63 34 := ⟨_, _, cf12, by decide, m_inG 1230 (by decide +kernel) rfl, _, rfl⟩
theorem f_X12_79 : m_fl RX12 79 12 63 35 := ⟨_, _, cf12, by decide, m_inG 1231 (by decide +kernel) rfl, _, rfl⟩
theorem f_X12_82 : m_fl RX12 82 12 63 36 := ⟨_, _, cf12, by decide, m_inG 1232 (by decide +kernel) rfl, _, rfl⟩
theorem f_X12_85 : m_fl RX12 85 12 63 37 := ⟨_, _, cf12, by decide, m_inG 1233 (by decide +kernel) rfl, _, rfl⟩
theorem f_X12_88 : m_fl RX12 88 12 63 38 := ⟨_, _, cf12, by decide, m_inG 1234 (by decide +kernel) rfl, _, rfl⟩
theorem f_X12_91 : m_fl RX12 91 12 63 39 := ⟨_, _, cf12, by decide, m_inG 1235 (by decide +kernel) rfl, _, rfl⟩
theorem f_X12_94 : m_fl RX12 94 12 63 40 := ⟨_, _, cf12, by decide, m_inG 1236 (by decide +kernel) rfl, _, rfl⟩
theorem f_X12_97 : m_fl RX12 97 12 63 41 := ⟨_, _, cf12, by decide, m_inG 1237 (by decide +kernel) rfl, _, rfl⟩
theorem f_X12_100 : m_fl RX12 100 12 63 42 := ⟨_, _, cf12, by decide, m_inG 1238 (by decide +kernel) rfl, _, rfl⟩
theorem f_X12_103 : m_fl RX12 103 12 63 43 := ⟨_, _, cf12, by decide, m_inG 1239 (by decide +kernel) rfl, _, rfl⟩
theorem f_X12_409 : m_fl RX12 409 12 63 44 := ⟨_, _, cf12, by decide, m_inG 1240 (by decide +kernel) rfl, _, rfl⟩
theorem p_X12_409 : m_fp RX12 409 12 63 44 := ⟨_, _, cf12, by decide, m_inG 1240 (by decide +kernel) rfl, rfl⟩
theorem f_X12_415 : m_fl RX12 415 12 63 45 := ⟨_, _, cf12, by decide, m_inG 1241 (by decide +kernel) rfl, _, rfl⟩
theorem p_X12_415 : m_fp RX12 415 12 63 45 := ⟨_, _, cf12, by decide, m_inG 1241 (by decide +kernel) rfl, rfl⟩
theorem f_X12_412 : m_fl RX12 412 12 63 46 := ⟨_, _, cf12, by decide, m_inG 1242 (by decide +kernel) rfl, _, rfl⟩
theorem p_X12_412 : m_fp RX12 412 12 63 46 := ⟨_, _, cf12, by decide, m_inG 1242 (by decide +kernel) rfl, rfl⟩
theorem f_X12_418 : m_fl RX12 418 12 63 47 := ⟨_, _, cf12, by decide, m_inG 1243 (by decide +kernel) rfl, _, rfl⟩
theorem p_X12_418 : m_fp RX12 418 12 63 47 := ⟨_, _, cf12, by decide, m_inG 1243 (by decide +kernel) rfl, rfl⟩
theorem f_X12_106 : m_fl RX12 106 12 63 48 := ⟨_, _, cf12, by decide, m_inG 1244 (by decide +kernel) rfl, _, rfl⟩
theorem f_X12_109 : m_fl RX12 109 12 63 49 := ⟨_, _, cf12, by decide, m_inG 1245 (by decide +kernel) rfl, _, rfl⟩
theorem f_X12_112 : m_fl RX12 112 12 63 50 := ⟨_, _, cf12, by decide, m_inG 1246 (by decide +kernel) rfl, _, rfl⟩
theorem f_X12_115 : m_fl RX12 115 12 63 51 := ⟨_, _, cf12, by decide, m_inG 1247 (by decide +kernel) rfl, _, rfl⟩
theorem f_X12_118 : m_fl RX12 118 12 63 52 := ⟨_, _, cf12, by decide, m_inG 1248 (by decide +kernel) rfl, _, rfl⟩
theorem f_X12_121 : m_fl RX12 121 12 63 53 := ⟨_, _, cf12, by decide, m_inG 1249 (by decide +kernel) rfl, _, rfl⟩
theorem f_X12_459 : m_fl RX12 459 12 63 54 := ⟨_, _, cf12, by decide, m_inG 1250 (by decide +kernel) rfl, _, rfl⟩
theorem p_X12_459 : m_fp RX12 459 12 63 54 := ⟨_, _, cf12, by decide, m_inG 1250 (by decide +kernel) rfl, rfl⟩
theorem f_X12_462 : m_fl RX12 462 12 63 55 := ⟨_, _, cf12, by decide, m_inG 1251 (by decide +kernel) rfl, _, rfl⟩
theorem p_X12_462 : m_fp RX12 462 12 63 55 := ⟨_, _, cf12, by decide, m_inG 1251 (by decide +kernel) rfl, rfl⟩
theorem f_X12_124 : m_fl RX12 124 12 63 56 := ⟨_, _, cf12, by decide, m_inG 1252 (by decide +kernel) rfl, _, rfl⟩
theorem f_X12_127 : m_fl RX12 127 12 63 57 := ⟨_, _, cf12, by decide, m_inG 1253 (by decide +kernel) rfl, _, rfl⟩
theorem f_X12_487 : m_fl RX12 487 12 63 58 := ⟨_, _, cf12, by decide, m_inG 1254 (by decide +kernel) rfl, _, rfl⟩
theorem p_X12_487 : m_fp RX12 487 12 63 58 := ⟨_, _, cf12, by decide, m_inG 1254 (by decide +kernel) rfl, rfl⟩
theorem f_X12_130 : m_fl RX12 130 12 63 59 := ⟨_, _, cf12, by decide, m_inG 1255 (by decide +kernel) rfl, _, rfl⟩
theorem f_X12_512 : m_fl RX12 512 12 63 60 := ⟨_, _, cf12, by decide, m_inG 1256 (by decide +kernel) rfl, _, rfl⟩
theorem p_X12_512 : m_fp RX12 512 12 63 60 := ⟨_, _, cf12, by decide, m_inG 1256 (by decide +kernel) rfl, rfl⟩
theorem f_X12_515 : m_fl RX12 515 12 63 61 := ⟨_, _, cf12, by decide, m_inG 1257 (by decide +kernel) rfl, _, rfl⟩
theorem p_X12_515 : m_fp RX12 515 12 63 61 := ⟨_, _, cf12, by decide, m_inG 1257 (by decide +kernel) rfl, rfl⟩
theorem f_X12_518 : m_fl RX12 518 12 63 62 := ⟨_, _, cf12, by decide, m_inG 1258 (by decide +kernel) rfl, _, rfl⟩
theorem p_X12_518 : m_fp RX12 518 12 63 62 := ⟨_, _, cf12, by decide, m_inG 1258 (by decide +kernel) rfl, rfl⟩
theorem k_J6_265 : Cond.constant RJ6 265 (Int32.ofInt (1431655765)) ∈ m_G := m_inG 505 (by decide +kernel) rfl
theorem k_J6_266 : Cond.constant RJ6 266 (Int32.ofInt (858993459)) ∈ m_G := m_inG 506 (by decide +kernel) rfl
theorem k_J6_267 : Cond.constant RJ6 267 (Int32.ofInt (252645135)) ∈ m_G := m_inG 507 (by decide +kernel) rfl
theorem k_X7_27 : Cond.constantLong RX7 27 (Int64.ofInt (1000000)) ∈ m_G := m_inG 841 (by decide +kernel) rfl
theorem k_X11_218 : Cond.constantLong RX11 218 (Int64.ofInt (2000000000)) ∈ m_G := m_inG 845 (by decide +kernel) rfl
theorem k_X7_40 : Cond.constantLong RX7 40 (Int64.ofInt (-1)) ∈ m_G := m_inG 856 (by decide +kernel) rfl
theorem k_X7_42 : Cond.constantLong RX7 42 (Int64.ofInt (2)) ∈ m_G := m_inG 882 (by decide +kernel) rfl
theorem k_X11_257 : Cond.constantLong RX11 257 (Int64.ofInt (2000)) ∈ m_G := m_inG 887 (by decide +kernel) rfl
theorem k_X11_259 : Cond.constantLong RX11 259 (Int64.ofInt (-2)) ∈ m_G := m_inG 892 (by decide +kernel) rfl
theorem k_X10_29 : Cond.constantLong RX10 29 (Int64.ofInt (-1)) ∈ m_G := m_inG 921 (by decide +kernel) rfl
theorem k_X11_291 : Cond.constantLong RX11 291 (Int64.ofInt (6000)) ∈ m_G := m_inG 932 (by decide +kernel) rfl
theorem k_X11_296 : Cond.constantLong RX11 296 (Int64.ofInt (4000000)) ∈ m_G := m_inG 941 (by decide +kernel) rfl
theorem k_X7_48 : Cond.constantLong RX7 48 (Int64.ofInt (100)) ∈ m_G := m_inG 954 (by decide +kernel) rfl
theorem k_X7_65 : Cond.constantLong RX7 65 (Int64.ofInt (99)) ∈ m_G := m_inG 965 (by decide +kernel) rfl
theorem k_X11_379 : Cond.constantLong RX11 379 (Int64.ofInt (100)) ∈ m_G := m_inG 1122 (by decide +kernel) rfl
theorem k_X11_381 : Cond.constantLong RX11 381 (Int64.ofInt (2)) ∈ m_G := m_inG 1123 (by decide +kernel) rfl
theorem k_X11_392 : Cond.constant RX11 392 (Int32.ofInt (1000000)) ∈ m_G := m_inG 1147 (by decide +kernel) rfl
theorem k_X5_15 : Cond.constant RX5 15 (Int32.ofInt (1000003)) ∈ m_G := m_inG 1152 (by decide +kernel) rfl
theorem k_X12_154 : Cond.constantLong RX12 154 (Int64.ofInt (31)) ∈ m_G := m_inG 1408 (by decide +kernel) rfl
theorem k_X12_160 : Cond.constantLong RX12 160 (Int64.ofInt (-1)) ∈ m_G := m_inG 1409 (by decide +kernel) rfl
theorem k_X12_152 : Cond.constantLong RX12 152 (Int64.ofInt (3)) ∈ m_G := m_inG 1410 (by decide +kernel) rfl
theorem k_X12_150 : Cond.constantLong RX12 150 (Int64.ofInt (5)) ∈ m_G := m_inG 1426 (by decide +kernel) rfl
theorem k_X12_180 : Cond.constantLong RX12 180 (Int64.ofInt (99)) ∈ m_G := m_inG 1449 (by decide +kernel) rfl
theorem k_X12_182 : Cond.constantLong RX12 182 (Int64.ofInt (2)) ∈ m_G := m_inG 1450 (by decide +kernel) rfl
theorem k_X12_237 : Cond.constantLong RX12 237 (Int64.ofInt (32)) ∈ m_G := m_inG 1517 (by decide +kernel) rfl
theorem k_X12_239 : Cond.constantLong RX12 239 (Int64.ofInt (96)) ∈ m_G := m_inG 1518 (by decide +kernel) rfl
theorem k_X12_241 : Cond.constantLong RX12 241 (Int64.ofInt (1000000)) ∈ m_G := m_inG 1519 (by decide +kernel) rfl
theorem k_X12_243 : Cond.constantLong RX12 243 (Int64.ofInt (10)) ∈ m_G := m_inG 1520 (by decide +kernel) rfl
theorem k_X12_245 : Cond.constantLong RX12 245 (Int64.ofInt (48)) ∈ m_G := m_inG 1521 (by decide +kernel) rfl
theorem k_X12_303 : Cond.constantLong RX12 303 (Int64.ofInt (758955)) ∈ m_G := m_inG 1526 (by decide +kernel) rfl
theorem k_X12_258 : Cond.constantLong RX12 258 (Int64.ofInt (655)) ∈ m_G := m_inG 1543 (by decide +kernel) rfl
theorem k_X12_264 : Cond.constantLong RX12 264 (Int64.ofInt (89)) ∈ m_G := m_inG 1544 (by decide +kernel) rfl
theorem k_X12_266 : Cond.constantLong RX12 266 (Int64.ofInt (485571737)) ∈ m_G := m_inG 1545 (by decide +kernel) rfl
theorem k_X12_308 : Cond.constantLong RX12 308 (Int64.ofInt (374522034)) ∈ m_G := m_inG 1550 (by decide +kernel) rfl
theorem k_X12_272 : Cond.constantLong RX12 272 (Int64.ofInt (2273783)) ∈ m_G := m_inG 1555 (by decide +kernel) rfl
theorem k_X12_313 : Cond.constantLong RX12 313 (Int64.ofInt (21243335)) ∈ m_G := m_inG 1560 (by decide +kernel) rfl
theorem k_X12_293 : Cond.constantLong RX12 293 (Int64.ofInt (3764)) ∈ m_G := m_inG 1565 (by decide +kernel) rfl
theorem k_X12_295 : Cond.constantLong RX12 295 (Int64.ofInt (14866610)) ∈ m_G := m_inG 1566 (by decide +kernel) rfl
theorem k_X12_280 : Cond.constantLong RX12 280 (Int64.ofInt (302)) ∈ m_G := m_inG 1567 (by decide +kernel) rfl
theorem k_X12_285 : Cond.constantLong RX12 285 (Int64.ofInt (307)) ∈ m_G := m_inG 1572 (by decide +kernel) rfl
theorem k_X12_287 : Cond.constantLong RX12 287 (Int64.ofInt (24395141)) ∈ m_G := m_inG 1573 (by decide +kernel) rfl
theorem k_X12_289 : Cond.constantLong RX12 289 (Int64.ofInt (263558)) ∈ m_G := m_inG 1574 (by decide +kernel) rfl
theorem k_X12_291 : Cond.constantLong RX12 291 (Int64.ofInt (6030452)) ∈ m_G := m_inG 1575 (by decide +kernel) rfl
theorem k_X12_327 : Cond.constantLong RX12 327 (Int64.ofInt (100000000)) ∈ m_G := m_inG 1630 (by decide +kernel) rfl
theorem k_X12_381 : Cond.constantLong RX12 381 (Int64.ofInt (15)) ∈ m_G := m_inG 1654 (by decide +kernel) rfl
theorem k_X12_383 : Cond.constantLong RX12 383 (Int64.ofInt (6)) ∈ m_G := m_inG 1655 (by decide +kernel) rfl
theorem k_X12_385 : Cond.constantLong RX12 385 (Int64.ofInt (11)) ∈ m_G := m_inG 1656 (by decide +kernel) rfl
theorem k_X12_400 : Cond.constant RX12 400 (Int32.ofInt (1000000)) ∈ m_G := m_inG 1661 (by decide +kernel) rfl
theorem k_X12_401 : Cond.constant RX12 401 (Int32.ofInt (2000000000)) ∈ m_G := m_inG 1662 (by decide +kernel) rfl
theorem k_X12_437 : Cond.constantLong RX12 437 (Int64.ofInt (-2)) ∈ m_G := m_inG 1722 (by decide +kernel) rfl
theorem k_X12_483 : Cond.constant RX12 483 (Int32.ofInt (4000000)) ∈ m_G := m_inG 1767 (by decide +kernel) rfl
theorem k_X12_499 : Cond.constantLong RX12 499 (Int64.ofInt (9999)) ∈ m_G := m_inG 1816 (by decide +kernel) rfl
theorem k_X12_504 : Cond.constantLong RX12 504 (Int64.ofInt (1103)) ∈ m_G := m_inG 1833 (by decide +kernel) rfl
theorem k_X12_506 : Cond.constantLong RX12 506 (Int64.ofInt (12345)) ∈ m_G := m_inG 1834 (by decide +kernel) rfl
theorem k_X12_508 : Cond.constantLong RX12 508 (Int64.ofInt (1000003)) ∈ m_G := m_inG 1835 (by decide +kernel) rfl
theorem k_X12_510 : Cond.constantLong RX12 510 (Int64.ofInt (4)) ∈ m_G := m_inG 1836 (by decide +kernel) rfl
theorem k_X12_524 : Cond.constantLong RX12 524 (Int64.ofInt (33)) ∈ m_G := m_inG 1845 (by decide +kernel) rfl
def M_J0_charAt_5068e : m_M := (RJ0, yJ0_charAt_5068e, cJ0_charAt_5068e, 2, some .char, { frames := 4, cells := 0, slots := 0, locals := 85 }, 148, 4732)
def M_J0_checkIndex_df160 : m_M := (RJ0, yJ0_checkIndex_df160, cJ0_checkIndex_df160, 2, none, { frames := 1, cells := 0, slots := 0, locals := 22 }, 148, 4732)
def M_J0_coder_7d493 : m_M := (RJ0, yJ0_coder_7d493, cJ0_coder_7d493, 1, some .byte, { frames := 0, cells := 0, slots := 0, locals := 0 }, 148, 4732)
def M_J0_isLatin1_aae02 : m_M := (RJ0, yJ0_isLatin1_aae02, cJ0_isLatin1_aae02, 1, some .boolean, { frames := 0, cells := 0, slots := 0, locals := 0 }, 148, 4732)
def M_J0_length_8abf5 : m_M := (RJ0, yJ0_length_8abf5, cJ0_length_8abf5, 1, some .int, { frames := 1, cells := 0, slots := 0, locals := 20 }, 148, 4732)
def M_J1_charAt_3b067 : m_M := (RJ1, yJ1_charAt_3b067, cJ1_charAt_3b067, 2, some .char, { frames := 2, cells := 0, slots := 0, locals := 43 }, 148, 4732)
def M_J2_charAt_3b067 : m_M := (RJ2, yJ2_charAt_3b067, cJ2_charAt_3b067, 2, some .char, { frames := 3, cells := 0, slots := 0, locals := 64 }, 148, 4732)
def M_J2_checkIndex_2214a : m_M := (RJ2, yJ2_checkIndex_2214a, cJ2_checkIndex_2214a, 2, none, { frames := 2, cells := 0, slots := 0, locals := 43 }, 148, 4732)
def M_J2_getChar_3b067 : m_M := (RJ2, yJ2_getChar_3b067, cJ2_getChar_3b067, 2, some .char, { frames := 1, cells := 0, slots := 0, locals := 20 }, 148, 4732)
def M_J2_length_9d52b : m_M := (RJ2, yJ2_length_9d52b, cJ2_length_9d52b, 1, some .int, { frames := 0, cells := 0, slots := 0, locals := 0 }, 148, 4732)
def M_J3_checkIndex_8e157 : m_M := (RJ3, yJ3_checkIndex_8e157, cJ3_checkIndex_8e157, 3, some .int, { frames := 0, cells := 0, slots := 0, locals := 0 }, 148, 4732)
def M_J6_bitCount_0f7a4 : m_M := (RJ6, yJ6_bitCount_0f7a4, cJ6_bitCount_0f7a4, 1, some .int, { frames := 0, cells := 0, slots := 0, locals := 0 }, 148, 4732)
theorem t_J6_bitCount_0f7a4 : m_mS M_J6_bitCount_0f7a4 1 := ⟨m_inG 503 (by decide +kernel) rfl, ⟨m_inG 110 (by decide +kernel) rfl, m_inG 504 (by decide +kernel) rfl⟩, ⟨by decide +kernel, by decide +kernel, by decide +kernel⟩⟩
def M_J7_fill_53178 : m_M := (RJ7, yJ7_fill_53178, cJ7_fill_53178, 4, none, { frames := 0, cells := 0, slots := 0, locals := 0 }, 148, 4732)
theorem t_J7_fill_53178 : m_mS M_J7_fill_53178 2 := ⟨m_inG 132 (by decide +kernel) rfl, ⟨m_inG 97 (by decide +kernel) rfl, m_inG 133 (by decide +kernel) rfl⟩, ⟨by decide +kernel, by decide +kernel, by decide +kernel⟩⟩
def M_J9_max_7cf53 : m_M := (RJ9, yJ9_max_7cf53, cJ9_max_7cf53, 2, some .int, { frames := 0, cells := 0, slots := 0, locals := 0 }, 148, 4732)
theorem t_J9_max_7cf53 : m_mS M_J9_max_7cf53 2 := ⟨m_inG 238 (by decide +kernel) rfl, ⟨m_inG 101 (by decide +kernel) rfl, m_inG 239 (by decide +kernel) rfl⟩, ⟨by decide +kernel, by decide +kernel, by decide +kernel⟩⟩
def M_J9_max_f86c9 : m_M := (RJ9, yJ9_max_f86c9, cJ9_max_f86c9, 4, some .long, { frames := 0, cells := 0, slots := 0, locals := 0 }, 148, 4732)
theorem t_J9_max_f86c9 : m_mS M_J9_max_f86c9 2 := ⟨m_inG 957 (by decide +kernel) rfl, ⟨m_inG 101 (by decide +kernel) rfl, m_inG 958 (by decide +kernel) rfl⟩, ⟨by decide +kernel, by decide +kernel, by decide +kernel⟩⟩
def M_J9_min_7cf53 : m_M := (RJ9, yJ9_min_7cf53, cJ9_min_7cf53, 2, some .int, { frames := 0, cells := 0, slots := 0, locals := 0 }, 148, 4732)
theorem t_J9_min_7cf53 : m_mS M_J9_min_7cf53 2 := ⟨m_inG 675 (by decide +kernel) rfl, ⟨m_inG 101 (by decide +kernel) rfl, m_inG 676 (by decide +kernel) rfl⟩, ⟨by decide +kernel, by decide +kernel, by decide +kernel⟩⟩
def M_J9_min_f86c9 : m_M := (RJ9, yJ9_min_f86c9, cJ9_min_f86c9, 4, some .long, { frames := 0, cells := 0, slots := 0, locals := 0 }, 148, 4732)
theorem t_J9_min_f86c9 : m_mS M_J9_min_f86c9 2 := ⟨m_inG 850 (by decide +kernel) rfl, ⟨m_inG 101 (by decide +kernel) rfl, m_inG 851 (by decide +kernel) rfl⟩, ⟨by decide +kernel, by decide +kernel, by decide +kernel⟩⟩
def M_J13_compare_74951 : m_M := (RJ13, yJ13_compare_74951, cJ13_compare_74951, 4, some .int, { frames := 0, cells := 0, slots := 0, locals := 0 }, 148, 4732)
theorem t_J13_compare_74951 : m_mS M_J13_compare_74951 2 := ⟨m_inG 930 (by decide +kernel) rfl, ⟨m_inG 116 (by decide +kernel) rfl, m_inG 931 (by decide +kernel) rfl⟩, ⟨by decide +kernel, by decide +kernel, by decide +kernel⟩⟩
def M_X0_areTogether : m_M := (RX0, yX0_areTogether, cX0_areTogether, 3, some .boolean, { frames := 0, cells := 0, slots := 0, locals := 0 }, 148, 4732)
theorem t_X0_areTogether : m_mV M_X0_areTogether 2 := ⟨⟨m_inG 1023 (by decide +kernel) rfl, m_inG 1024 (by decide +kernel) rfl⟩, ⟨m_inG 105 (by decide +kernel) rfl, m_inG 1025 (by decide +kernel) rfl⟩, ⟨by decide +kernel, by decide +kernel, by decide +kernel⟩⟩
def M_X0_bind : m_M := (RX0, yX0_bind, cX0_bind, 4, none, { frames := 2, cells := 0, slots := 0, locals := 46 }, 148, 4732)
theorem t_X0_bind : m_mV M_X0_bind 1 := ⟨⟨m_inG 1010 (by decide +kernel) rfl, m_inG 1011 (by decide +kernel) rfl⟩, ⟨m_inG 105 (by decide +kernel) rfl, m_inG 1012 (by decide +kernel) rfl⟩, ⟨by decide +kernel, by decide +kernel, by decide +kernel⟩⟩
def M_X0_greatest : m_M := (RX0, yX0_greatest, cX0_greatest, 4, some .int, { frames := 3, cells := 0, slots := 0, locals := 68 }, 148, 4732)
theorem t_X0_greatest : m_mV M_X0_greatest 1 := ⟨⟨m_inG 1031 (by decide +kernel) rfl, m_inG 1032 (by decide +kernel) rfl⟩, ⟨m_inG 105 (by decide +kernel) rfl, m_inG 1033 (by decide +kernel) rfl⟩, ⟨by decide +kernel, by decide +kernel, by decide +kernel⟩⟩
def M_X0_many : m_M := (RX0, yX0_many, cX0_many, 4, some .int, { frames := 2, cells := 0, slots := 0, locals := 44 }, 148, 4732)
theorem t_X0_many : m_mV M_X0_many 1 := ⟨⟨m_inG 1040 (by decide +kernel) rfl, m_inG 1041 (by decide +kernel) rfl⟩, ⟨m_inG 105 (by decide +kernel) rfl, m_inG 1042 (by decide +kernel) rfl⟩, ⟨by decide +kernel, by decide +kernel, by decide +kernel⟩⟩
def M_X0_sizeOf : m_M := (RX0, yX0_sizeOf, cX0_sizeOf, 5, some .int, { frames := 2, cells := 0, slots := 0, locals := 44 }, 148, 4732)
theorem t_X0_sizeOf : m_mV M_X0_sizeOf 2 := ⟨⟨m_inG 1036 (by decide +kernel) rfl, m_inG 32 (by decide +kernel) rfl⟩, ⟨m_inG 105 (by decide +kernel) rfl, m_inG 1037 (by decide +kernel) rfl⟩, ⟨by decide +kernel, by decide +kernel, by decide +kernel⟩⟩
def M_X0_unite : m_M := (RX0, yX0_unite, cX0_unite, 6, none, { frames := 1, cells := 0, slots := 0, locals := 21 }, 148, 4732)
theorem t_X0_unite : m_mV M_X0_unite 2 := ⟨⟨m_inG 1017 (by decide +kernel) rfl, m_inG 31 (by decide +kernel) rfl⟩, ⟨m_inG 105 (by decide +kernel) rfl, m_inG 1018 (by decide +kernel) rfl⟩, ⟨by decide +kernel, by decide +kernel, by decide +kernel⟩⟩
def M_X1_advance : m_M := (RX1, yX1_advance, cX1_advance, 2, none, { frames := 1, cells := 0, slots := 0, locals := 20 }, 148, 4732)
theorem t_X1_advance : m_mV M_X1_advance 0 := ⟨⟨m_inG 600 (by decide +kernel) rfl, m_inG 3 (by decide +kernel) rfl⟩, ⟨m_inG 99 (by decide +kernel) rfl, m_inG 601 (by decide +kernel) rfl⟩, ⟨by decide +kernel, by decide +kernel, by decide +kernel⟩⟩
def M_X1_familyOf : m_M := (RX1, yX1_familyOf, cX1_familyOf, 1, some .int, { frames := 0, cells := 0, slots := 0, locals := 0 }, 148, 4732)
theorem t_X1_familyOf : m_mS M_X1_familyOf 1 := ⟨m_inG 603 (by decide +kernel) rfl, ⟨m_inG 99 (by decide +kernel) rfl, m_inG 604 (by decide +kernel) rfl⟩, ⟨by decide +kernel, by decide +kernel, by decide +kernel⟩⟩
def M_X1_readCut : m_M := (RX1, yX1_readCut, cX1_readCut, 4, some .boolean, { frames := 7, cells := 0, slots := 0, locals := 149 }, 148, 4732)
theorem t_X1_readCut : m_mV M_X1_readCut 2 := ⟨⟨m_inG 689 (by decide +kernel) rfl, m_inG 10 (by decide +kernel) rfl⟩, ⟨m_inG 99 (by decide +kernel) rfl, m_inG 690 (by decide +kernel) rfl⟩, ⟨by decide +kernel, by decide +kernel, by decide +kernel⟩⟩
def M_X1_readMeasure : m_M := (RX1, yX1_readMeasure, cX1_readMeasure, 6, some .boolean, { frames := 7, cells := 0, slots := 0, locals := 149 }, 148, 4732)
theorem t_X1_readMeasure : m_mV M_X1_readMeasure 2 := ⟨⟨m_inG 695 (by decide +kernel) rfl, m_inG 11 (by decide +kernel) rfl⟩, ⟨m_inG 99 (by decide +kernel) rfl, m_inG 696 (by decide +kernel) rfl⟩, ⟨by decide +kernel, by decide +kernel, by decide +kernel⟩⟩
def M_X1_readOnto : m_M := (RX1, yX1_readOnto, cX1_readOnto, 4, some .int, { frames := 9, cells := 0, slots := 0, locals := 197 }, 148, 4732)
theorem t_X1_readOnto : m_mV M_X1_readOnto 1 := ⟨⟨m_inG 595 (by decide +kernel) rfl, m_inG 596 (by decide +kernel) rfl⟩, ⟨m_inG 99 (by decide +kernel) rfl, m_inG 597 (by decide +kernel) rfl⟩, ⟨by decide +kernel, by decide +kernel, by decide +kernel⟩⟩
def M_X1_readShorter : m_M := (RX1, yX1_readShorter, cX1_readShorter, 5, some .boolean, { frames := 7, cells := 0, slots := 0, locals := 149 }, 148, 4732)
theorem t_X1_readShorter : m_mV M_X1_readShorter 1 := ⟨⟨m_inG 706 (by decide +kernel) rfl, m_inG 12 (by decide +kernel) rfl⟩, ⟨m_inG 99 (by decide +kernel) rfl, m_inG 707 (by decide +kernel) rfl⟩, ⟨by decide +kernel, by decide +kernel, by decide +kernel⟩⟩
def M_X1_readThing : m_M := (RX1, yX1_readThing, cX1_readThing, 4, some .boolean, { frames := 8, cells := 0, slots := 0, locals := 174 }, 148, 4732)
theorem t_X1_readThing : m_mV M_X1_readThing 1 := ⟨⟨m_inG 684 (by decide +kernel) rfl, m_inG 9 (by decide +kernel) rfl⟩, ⟨m_inG 99 (by decide +kernel) rfl, m_inG 685 (by decide +kernel) rfl⟩, ⟨by decide +kernel, by decide +kernel, by decide +kernel⟩⟩
def M_X1_readWeeks : m_M := (RX1, yX1_readWeeks, cX1_readWeeks, 7, some .boolean, { frames := 7, cells := 0, slots := 0, locals := 149 }, 148, 4732)
theorem t_X1_readWeeks : m_mV M_X1_readWeeks 1 := ⟨⟨m_inG 664 (by decide +kernel) rfl, m_inG 6 (by decide +kernel) rfl⟩, ⟨m_inG 99 (by decide +kernel) rfl, m_inG 665 (by decide +kernel) rfl⟩, ⟨by decide +kernel, by decide +kernel, by decide +kernel⟩⟩
def M_X1_stands : m_M := (RX1, yX1_stands, cX1_stands, 3, some .boolean, { frames := 5, cells := 0, slots := 0, locals := 106 }, 148, 4732)
theorem t_X1_stands : m_mV M_X1_stands 1 := ⟨⟨m_inG 612 (by decide +kernel) rfl, m_inG 5 (by decide +kernel) rfl⟩, ⟨m_inG 99 (by decide +kernel) rfl, m_inG 613 (by decide +kernel) rfl⟩, ⟨by decide +kernel, by decide +kernel, by decide +kernel⟩⟩
def M_X1_take : m_M := (RX1, yX1_take, cX1_take, 2, some .boolean, { frames := 6, cells := 0, slots := 0, locals := 128 }, 148, 4732)
theorem t_X1_take : m_mV M_X1_take 1 := ⟨⟨m_inG 608 (by decide +kernel) rfl, m_inG 4 (by decide +kernel) rfl⟩, ⟨m_inG 99 (by decide +kernel) rfl, m_inG 609 (by decide +kernel) rfl⟩, ⟨by decide +kernel, by decide +kernel, by decide +kernel⟩⟩
def M_X1_takeNumber : m_M := (RX1, yX1_takeNumber, cX1_takeNumber, 4, some .int, { frames := 2, cells := 0, slots := 0, locals := 43 }, 148, 4732)
theorem t_X1_takeNumber : m_mV M_X1_takeNumber 2 := ⟨⟨m_inG 668 (by decide +kernel) rfl, m_inG 7 (by decide +kernel) rfl⟩, ⟨m_inG 99 (by decide +kernel) rfl, m_inG 669 (by decide +kernel) rfl⟩, ⟨by decide +kernel, by decide +kernel, by decide +kernel⟩⟩
def M_X1_value : m_M := (RX1, yX1_value, cX1_value, 3, some .int, { frames := 1, cells := 0, slots := 0, locals := 21 }, 148, 4732)
theorem t_X1_value : m_mV M_X1_value 0 := ⟨⟨m_inG 672 (by decide +kernel) rfl, m_inG 8 (by decide +kernel) rfl⟩, ⟨m_inG 99 (by decide +kernel) rfl, m_inG 673 (by decide +kernel) rfl⟩, ⟨by decide +kernel, by decide +kernel, by decide +kernel⟩⟩
def M_X2_clear : m_M := (RX2, yX2_clear, cX2_clear, 1, none, { frames := 0, cells := 0, slots := 0, locals := 0 }, 148, 4732)
theorem t_X2_clear : m_mV M_X2_clear 0 := ⟨⟨m_inG 737 (by decide +kernel) rfl, m_inG 738 (by decide +kernel) rfl⟩, ⟨m_inG 102 (by decide +kernel) rfl, m_inG 739 (by decide +kernel) rfl⟩, ⟨by decide +kernel, by decide +kernel, by decide +kernel⟩⟩
def M_X2_contradicts : m_M := (RX2, yX2_contradicts, cX2_contradicts, 6, some .boolean, { frames := 0, cells := 0, slots := 0, locals := 0 }, 148, 4732)
theorem t_X2_contradicts : m_mV M_X2_contradicts 1 := ⟨⟨m_inG 798 (by decide +kernel) rfl, m_inG 799 (by decide +kernel) rfl⟩, ⟨m_inG 102 (by decide +kernel) rfl, m_inG 800 (by decide +kernel) rfl⟩, ⟨by decide +kernel, by decide +kernel, by decide +kernel⟩⟩
def M_X2_isBelowOne : m_M := (RX2, yX2_isBelowOne, cX2_isBelowOne, 1, some .boolean, { frames := 0, cells := 0, slots := 0, locals := 0 }, 148, 4732)
theorem t_X2_isBelowOne : m_mV M_X2_isBelowOne 0 := ⟨⟨m_inG 785 (by decide +kernel) rfl, m_inG 786 (by decide +kernel) rfl⟩, ⟨m_inG 102 (by decide +kernel) rfl, m_inG 787 (by decide +kernel) rfl⟩, ⟨by decide +kernel, by decide +kernel, by decide +kernel⟩⟩
def M_X2_lessen : m_M := (RX2, yX2_lessen, cX2_lessen, 10, none, { frames := 1, cells := 0, slots := 0, locals := 25 }, 148, 4732)
theorem t_X2_lessen : m_mV M_X2_lessen 3 := ⟨⟨m_inG 773 (by decide +kernel) rfl, m_inG 774 (by decide +kernel) rfl⟩, ⟨m_inG 102 (by decide +kernel) rfl, m_inG 775 (by decide +kernel) rfl⟩, ⟨by decide +kernel, by decide +kernel, by decide +kernel⟩⟩
def M_X2_put : m_M := (RX2, yX2_put, cX2_put, 6, none, { frames := 0, cells := 0, slots := 0, locals := 0 }, 148, 4732)
theorem t_X2_put : m_mV M_X2_put 3 := ⟨⟨m_inG 777 (by decide +kernel) rfl, m_inG 778 (by decide +kernel) rfl⟩, ⟨m_inG 102 (by decide +kernel) rfl, m_inG 779 (by decide +kernel) rfl⟩, ⟨by decide +kernel, by decide +kernel, by decide +kernel⟩⟩
def M_X3_leaveOut : m_M := (RX3, yX3_leaveOut, cX3_leaveOut, 6, some .int, { frames := 4, cells := 0, slots := 0, locals := 105 }, 148, 4732)
theorem t_X3_leaveOut : m_mV M_X3_leaveOut 2 := ⟨⟨m_inG 1048 (by decide +kernel) rfl, m_inG 1049 (by decide +kernel) rfl⟩, ⟨m_inG 106 (by decide +kernel) rfl, m_inG 1050 (by decide +kernel) rfl⟩, ⟨by decide +kernel, by decide +kernel, by decide +kernel⟩⟩
def M_X3_search : m_M := (RX3, yX3_search, cX3_search, 7, some .boolean, { frames := 5, cells := 0, slots := 0, locals := 130 }, 148, 4732)
theorem t_X3_search : m_mV M_X3_search 1 := ⟨⟨m_inG 1057 (by decide +kernel) rfl, m_inG 1058 (by decide +kernel) rfl⟩, ⟨m_inG 106 (by decide +kernel) rfl, m_inG 1059 (by decide +kernel) rfl⟩, ⟨by decide +kernel, by decide +kernel, by decide +kernel⟩⟩
def M_X3_strike : m_M := (RX3, yX3_strike, cX3_strike, 3, none, { frames := 4, cells := 0, slots := 0, locals := 105 }, 148, 4732)
theorem t_X3_strike : m_mV M_X3_strike 2 := ⟨⟨m_inG 1064 (by decide +kernel) rfl, m_inG 33 (by decide +kernel) rfl⟩, ⟨m_inG 106 (by decide +kernel) rfl, m_inG 1065 (by decide +kernel) rfl⟩, ⟨by decide +kernel, by decide +kernel, by decide +kernel⟩⟩
def M_X4_addEntry : m_M := (RX4, yX4_addEntry, cX4_addEntry, 5, none, { frames := 1, cells := 0, slots := 0, locals := 20 }, 148, 4732)
theorem t_X4_addEntry : m_mV M_X4_addEntry 4 := ⟨⟨m_inG 531 (by decide +kernel) rfl, m_inG 532 (by decide +kernel) rfl⟩, ⟨m_inG 96 (by decide +kernel) rfl, m_inG 533 (by decide +kernel) rfl⟩, ⟨by decide +kernel, by decide +kernel, by decide +kernel⟩⟩
def M_X4_addShorter : m_M := (RX4, yX4_addShorter, cX4_addShorter, 3, none, { frames := 0, cells := 0, slots := 0, locals := 0 }, 148, 4732)
theorem t_X4_addShorter : m_mV M_X4_addShorter 2 := ⟨⟨m_inG 509 (by decide +kernel) rfl, m_inG 510 (by decide +kernel) rfl⟩, ⟨m_inG 96 (by decide +kernel) rfl, m_inG 511 (by decide +kernel) rfl⟩, ⟨by decide +kernel, by decide +kernel, by decide +kernel⟩⟩
def M_X4_copyFrom : m_M := (RX4, yX4_copyFrom, cX4_copyFrom, 2, none, { frames := 1, cells := 0, slots := 0, locals := 28 }, 148, 4732)
theorem t_X4_copyFrom : m_mV M_X4_copyFrom 1 := ⟨⟨m_inG 588 (by decide +kernel) rfl, m_inG 589 (by decide +kernel) rfl⟩, ⟨m_inG 96 (by decide +kernel) rfl, m_inG 590 (by decide +kernel) rfl⟩, ⟨by decide +kernel, by decide +kernel, by decide +kernel⟩⟩
def M_X4_endHalves : m_M := (RX4, yX4_endHalves, cX4_endHalves, 2, some .int, { frames := 1, cells := 0, slots := 0, locals := 21 }, 148, 4732)
theorem t_X4_endHalves : m_mV M_X4_endHalves 1 := ⟨⟨m_inG 751 (by decide +kernel) rfl, m_inG 752 (by decide +kernel) rfl⟩, ⟨m_inG 96 (by decide +kernel) rfl, m_inG 753 (by decide +kernel) rfl⟩, ⟨by decide +kernel, by decide +kernel, by decide +kernel⟩⟩
def M_X4_hasCutsByWorld : m_M := (RX4, yX4_hasCutsByWorld, cX4_hasCutsByWorld, 2, some .boolean, { frames := 0, cells := 0, slots := 0, locals := 0 }, 148, 4732)
theorem t_X4_hasCutsByWorld : m_mV M_X4_hasCutsByWorld 0 := ⟨⟨m_inG 1140 (by decide +kernel) rfl, m_inG 1141 (by decide +kernel) rfl⟩, ⟨m_inG 96 (by decide +kernel) rfl, m_inG 1142 (by decide +kernel) rfl⟩, ⟨by decide +kernel, by decide +kernel, by decide +kernel⟩⟩
def M_X4_hasRoom : m_M := (RX4, yX4_hasRoom, cX4_hasRoom, 1, some .boolean, { frames := 0, cells := 0, slots := 0, locals := 0 }, 148, 4732)
theorem t_X4_hasRoom : m_mV M_X4_hasRoom 0 := ⟨⟨m_inG 527 (by decide +kernel) rfl, m_inG 528 (by decide +kernel) rfl⟩, ⟨m_inG 96 (by decide +kernel) rfl, m_inG 529 (by decide +kernel) rfl⟩, ⟨by decide +kernel, by decide +kernel, by decide +kernel⟩⟩
def M_X4_hasRoomForShorter : m_M := (RX4, yX4_hasRoomForShorter, cX4_hasRoomForShorter, 1, some .boolean, { frames := 2, cells := 0, slots := 0, locals := 40 }, 148, 4732)
theorem t_X4_hasRoomForShorter : m_mV M_X4_hasRoomForShorter 0 := ⟨⟨m_inG 495 (by decide +kernel) rfl, m_inG 496 (by decide +kernel) rfl⟩, ⟨m_inG 96 (by decide +kernel) rfl, m_inG 497 (by decide +kernel) rfl⟩, ⟨by decide +kernel, by decide +kernel, by decide +kernel⟩⟩
def M_X4_hasShortersByWorld : m_M := (RX4, yX4_hasShortersByWorld, cX4_hasShortersByWorld, 4, some .boolean, { frames := 1, cells := 0, slots := 0, locals := 21 }, 148, 4732)
theorem t_X4_hasShortersByWorld : m_mV M_X4_hasShortersByWorld 0 := ⟨⟨m_inG 1136 (by decide +kernel) rfl, m_inG 1137 (by decide +kernel) rfl⟩, ⟨m_inG 96 (by decide +kernel) rfl, m_inG 1138 (by decide +kernel) rfl⟩, ⟨by decide +kernel, by decide +kernel, by decide +kernel⟩⟩
def M_X4_isCounting : m_M := (RX4, yX4_isCounting, cX4_isCounting, 2, some .boolean, { frames := 1, cells := 0, slots := 0, locals := 21 }, 148, 4732)
theorem t_X4_isCounting : m_mV M_X4_isCounting 1 := ⟨⟨m_inG 540 (by decide +kernel) rfl, m_inG 541 (by decide +kernel) rfl⟩, ⟨m_inG 96 (by decide +kernel) rfl, m_inG 542 (by decide +kernel) rfl⟩, ⟨by decide +kernel, by decide +kernel, by decide +kernel⟩⟩
def M_X4_isShorter : m_M := (RX4, yX4_isShorter, cX4_isShorter, 3, some .boolean, { frames := 1, cells := 0, slots := 0, locals := 21 }, 148, 4732)
theorem t_X4_isShorter : m_mV M_X4_isShorter 2 := ⟨⟨m_inG 488 (by decide +kernel) rfl, m_inG 489 (by decide +kernel) rfl⟩, ⟨m_inG 96 (by decide +kernel) rfl, m_inG 490 (by decide +kernel) rfl⟩, ⟨by decide +kernel, by decide +kernel, by decide +kernel⟩⟩
def M_X4_isSoByWorld : m_M := (RX4, yX4_isSoByWorld, cX4_isSoByWorld, 7, some .boolean, { frames := 2, cells := 0, slots := 0, locals := 44 }, 148, 4732)
theorem t_X4_isSoByWorld : m_mV M_X4_isSoByWorld 1 := ⟨⟨m_inG 1129 (by decide +kernel) rfl, m_inG 1130 (by decide +kernel) rfl⟩, ⟨m_inG 96 (by decide +kernel) rfl, m_inG 1131 (by decide +kernel) rfl⟩, ⟨by decide +kernel, by decide +kernel, by decide +kernel⟩⟩
def M_X4_isThere : m_M := (RX4, yX4_isThere, cX4_isThere, 3, some .boolean, { frames := 1, cells := 0, slots := 0, locals := 22 }, 148, 4732)
theorem t_X4_isThere : m_mV M_X4_isThere 1 := ⟨⟨m_inG 810 (by decide +kernel) rfl, m_inG 811 (by decide +kernel) rfl⟩, ⟨m_inG 96 (by decide +kernel) rfl, m_inG 812 (by decide +kernel) rfl⟩, ⟨by decide +kernel, by decide +kernel, by decide +kernel⟩⟩
def M_X4_keeperOf : m_M := (RX4, yX4_keeperOf, cX4_keeperOf, 2, some .int, { frames := 0, cells := 0, slots := 0, locals := 0 }, 148, 4732)
theorem t_X4_keeperOf : m_mV M_X4_keeperOf 1 := ⟨⟨m_inG 746 (by decide +kernel) rfl, m_inG 747 (by decide +kernel) rfl⟩, ⟨m_inG 96 (by decide +kernel) rfl, m_inG 748 (by decide +kernel) rfl⟩, ⟨by decide +kernel, by decide +kernel, by decide +kernel⟩⟩
def M_X4_leastHalves : m_M := (RX4, yX4_leastHalves, cX4_leastHalves, 2, some .int, { frames := 0, cells := 0, slots := 0, locals := 0 }, 148, 4732)
theorem t_X4_leastHalves : m_mV M_X4_leastHalves 1 := ⟨⟨m_inG 755 (by decide +kernel) rfl, m_inG 756 (by decide +kernel) rfl⟩, ⟨m_inG 96 (by decide +kernel) rfl, m_inG 757 (by decide +kernel) rfl⟩, ⟨by decide +kernel, by decide +kernel, by decide +kernel⟩⟩
def M_X4_lengthIn : m_M := (RX4, yX4_lengthIn, cX4_lengthIn, 4, some .int, { frames := 0, cells := 0, slots := 0, locals := 0 }, 148, 4732)
theorem t_X4_lengthIn : m_mV M_X4_lengthIn 2 := ⟨⟨m_inG 556 (by decide +kernel) rfl, m_inG 557 (by decide +kernel) rfl⟩, ⟨m_inG 96 (by decide +kernel) rfl, m_inG 558 (by decide +kernel) rfl⟩, ⟨by decide +kernel, by decide +kernel, by decide +kernel⟩⟩
def M_X4_lengthOf : m_M := (RX4, yX4_lengthOf, cX4_lengthOf, 2, some .int, { frames := 1, cells := 0, slots := 0, locals := 23 }, 148, 4732)
theorem t_X4_lengthOf : m_mV M_X4_lengthOf 1 := ⟨⟨m_inG 552 (by decide +kernel) rfl, m_inG 553 (by decide +kernel) rfl⟩, ⟨m_inG 96 (by decide +kernel) rfl, m_inG 554 (by decide +kernel) rfl⟩, ⟨by decide +kernel, by decide +kernel, by decide +kernel⟩⟩
def M_X4_setCounting : m_M := (RX4, yX4_setCounting, cX4_setCounting, 4, none, { frames := 0, cells := 0, slots := 0, locals := 0 }, 148, 4732)
theorem t_X4_setCounting : m_mV M_X4_setCounting 2 := ⟨⟨m_inG 544 (by decide +kernel) rfl, m_inG 545 (by decide +kernel) rfl⟩, ⟨m_inG 96 (by decide +kernel) rfl, m_inG 546 (by decide +kernel) rfl⟩, ⟨by decide +kernel, by decide +kernel, by decide +kernel⟩⟩
def M_X4_shorters : m_M := (RX4, yX4_shorters, cX4_shorters, 1, some .int, { frames := 1, cells := 0, slots := 0, locals := 20 }, 148, 4732)
theorem t_X4_shorters : m_mV M_X4_shorters 0 := ⟨⟨m_inG 499 (by decide +kernel) rfl, m_inG 500 (by decide +kernel) rfl⟩, ⟨m_inG 96 (by decide +kernel) rfl, m_inG 501 (by decide +kernel) rfl⟩, ⟨by decide +kernel, by decide +kernel, by decide +kernel⟩⟩
def M_X4_wholeFeet : m_M := (RX4, yX4_wholeFeet, cX4_wholeFeet, 3, some .int, { frames := 1, cells := 0, slots := 0, locals := 23 }, 148, 4732)
theorem t_X4_wholeFeet : m_mV M_X4_wholeFeet 2 := ⟨⟨m_inG 1158 (by decide +kernel) rfl, m_inG 1159 (by decide +kernel) rfl⟩, ⟨m_inG 96 (by decide +kernel) rfl, m_inG 1160 (by decide +kernel) rfl⟩, ⟨by decide +kernel, by decide +kernel, by decide +kernel⟩⟩
def M_X5_bestTrade : m_M := (RX5, yX5_bestTrade, cX5_bestTrade, 8, some .int, { frames := 2, cells := 0, slots := 0, locals := 45 }, 148, 4732)
theorem t_X5_bestTrade : m_mV M_X5_bestTrade 2 := ⟨⟨m_inG 1154 (by decide +kernel) rfl, m_inG 1155 (by decide +kernel) rfl⟩, ⟨m_inG 108 (by decide +kernel) rfl, m_inG 1156 (by decide +kernel) rfl⟩, ⟨by decide +kernel, by decide +kernel, by decide +kernel⟩⟩
def M_X5_draw : m_M := (RX5, yX5_draw, cX5_draw, 4, none, { frames := 0, cells := 0, slots := 0, locals := 0 }, 148, 4732)
theorem t_X5_draw : m_mV M_X5_draw 1 := ⟨⟨m_inG 1149 (by decide +kernel) rfl, m_inG 1150 (by decide +kernel) rfl⟩, ⟨m_inG 108 (by decide +kernel) rfl, m_inG 1151 (by decide +kernel) rfl⟩, ⟨by decide +kernel, by decide +kernel, by decide +kernel⟩⟩
def M_X6_gather : m_M := (RX6, yX6_gather, cX6_gather, 3, some .boolean, { frames := 3, cells := 0, slots := 0, locals := 64 }, 148, 4732)
theorem t_X6_gather : m_mV M_X6_gather 1 := ⟨⟨m_inG 1079 (by decide +kernel) rfl, m_inG 34 (by decide +kernel) rfl⟩, ⟨m_inG 107 (by decide +kernel) rfl, m_inG 1080 (by decide +kernel) rfl⟩, ⟨by decide +kernel, by decide +kernel, by decide +kernel⟩⟩
def M_X6_hasEntry : m_M := (RX6, yX6_hasEntry, cX6_hasEntry, 3, some .boolean, { frames := 2, cells := 0, slots := 0, locals := 42 }, 148, 4732)
theorem t_X6_hasEntry : m_mS M_X6_hasEntry 2 := ⟨m_inG 1082 (by decide +kernel) rfl, ⟨m_inG 107 (by decide +kernel) rfl, m_inG 1083 (by decide +kernel) rfl⟩, ⟨by decide +kernel, by decide +kernel, by decide +kernel⟩⟩
def M_X6_keeperBy : m_M := (RX6, yX6_keeperBy, cX6_keeperBy, 2, some .int, { frames := 0, cells := 0, slots := 0, locals := 0 }, 148, 4732)
theorem t_X6_keeperBy : m_mS M_X6_keeperBy 2 := ⟨m_inG 1086 (by decide +kernel) rfl, ⟨m_inG 107 (by decide +kernel) rfl, m_inG 1087 (by decide +kernel) rfl⟩, ⟨by decide +kernel, by decide +kernel, by decide +kernel⟩⟩
def M_X6_note : m_M := (RX6, yX6_note, cX6_note, 3, none, { frames := 1, cells := 0, slots := 0, locals := 21 }, 148, 4732)
theorem t_X6_note : m_mV M_X6_note 1 := ⟨⟨m_inG 1091 (by decide +kernel) rfl, m_inG 35 (by decide +kernel) rfl⟩, ⟨m_inG 107 (by decide +kernel) rfl, m_inG 1092 (by decide +kernel) rfl⟩, ⟨by decide +kernel, by decide +kernel, by decide +kernel⟩⟩
def M_X6_onlyKeeper : m_M := (RX6, yX6_onlyKeeper, cX6_onlyKeeper, 3, some .int, { frames := 2, cells := 0, slots := 0, locals := 45 }, 148, 4732)
theorem t_X6_onlyKeeper : m_mV M_X6_onlyKeeper 1 := ⟨⟨m_inG 1094 (by decide +kernel) rfl, m_inG 1095 (by decide +kernel) rfl⟩, ⟨m_inG 107 (by decide +kernel) rfl, m_inG 1096 (by decide +kernel) rfl⟩, ⟨by decide +kernel, by decide +kernel, by decide +kernel⟩⟩
def M_X6_placeOf : m_M := (RX6, yX6_placeOf, cX6_placeOf, 3, some .int, { frames := 0, cells := 0, slots := 0, locals := 0 }, 148, 4732)
theorem t_X6_placeOf : m_mV M_X6_placeOf 1 := ⟨⟨m_inG 1099 (by decide +kernel) rfl, m_inG 36 (by decide +kernel) rfl⟩, ⟨m_inG 107 (by decide +kernel) rfl, m_inG 1100 (by decide +kernel) rfl⟩, ⟨by decide +kernel, by decide +kernel, by decide +kernel⟩⟩
def M_X6_seek : m_M := (RX6, yX6_seek, cX6_seek, 5, some .boolean, { frames := 4, cells := 0, slots := 0, locals := 105 }, 148, 4732)
theorem t_X6_seek : m_mV M_X6_seek 1 := ⟨⟨m_inG 1073 (by decide +kernel) rfl, m_inG 1074 (by decide +kernel) rfl⟩, ⟨m_inG 107 (by decide +kernel) rfl, m_inG 1075 (by decide +kernel) rfl⟩, ⟨by decide +kernel, by decide +kernel, by decide +kernel⟩⟩
def M_X6_waysWith : m_M := (RX6, yX6_waysWith, cX6_waysWith, 4, some .int, { frames := 1, cells := 0, slots := 0, locals := 22 }, 148, 4732)
theorem t_X6_waysWith : m_mV M_X6_waysWith 2 := ⟨⟨m_inG 1102 (by decide +kernel) rfl, m_inG 1103 (by decide +kernel) rfl⟩, ⟨m_inG 107 (by decide +kernel) rfl, m_inG 1104 (by decide +kernel) rfl⟩, ⟨by decide +kernel, by decide +kernel, by decide +kernel⟩⟩
def M_X7_allows : m_M := (RX7, yX7_allows, cX7_allows, 3, some .boolean, { frames := 3, cells := 0, slots := 0, locals := 71 }, 148, 4732)
theorem t_X7_allows : m_mV M_X7_allows 2 := ⟨⟨m_inG 947 (by decide +kernel) rfl, m_inG 948 (by decide +kernel) rfl⟩, ⟨m_inG 103 (by decide +kernel) rfl, m_inG 949 (by decide +kernel) rfl⟩, ⟨by decide +kernel, by decide +kernel, by decide +kernel⟩⟩
def M_X7_firstNumber : m_M := (RX7, yX7_firstNumber, cX7_firstNumber, 2, some .int, { frames := 2, cells := 0, slots := 0, locals := 47 }, 148, 4732)
theorem t_X7_firstNumber : m_mV M_X7_firstNumber 1 := ⟨⟨m_inG 951 (by decide +kernel) rfl, m_inG 952 (by decide +kernel) rfl⟩, ⟨m_inG 103 (by decide +kernel) rfl, m_inG 953 (by decide +kernel) rfl⟩, ⟨by decide +kernel, by decide +kernel, by decide +kernel⟩⟩
def M_X7_forces : m_M := (RX7, yX7_forces, cX7_forces, 3, some .boolean, { frames := 2, cells := 0, slots := 0, locals := 50 }, 148, 4732)
theorem t_X7_forces : m_mV M_X7_forces 2 := ⟨⟨m_inG 968 (by decide +kernel) rfl, m_inG 969 (by decide +kernel) rfl⟩, ⟨m_inG 103 (by decide +kernel) rfl, m_inG 970 (by decide +kernel) rfl⟩, ⟨by decide +kernel, by decide +kernel, by decide +kernel⟩⟩
def M_X7_greatestMillionths : m_M := (RX7, yX7_greatestMillionths, cX7_greatestMillionths, 1, some .long, { frames := 1, cells := 0, slots := 0, locals := 23 }, 148, 4732)
theorem t_X7_greatestMillionths : m_mV M_X7_greatestMillionths 0 := ⟨⟨m_inG 853 (by decide +kernel) rfl, m_inG 854 (by decide +kernel) rfl⟩, ⟨m_inG 103 (by decide +kernel) rfl, m_inG 855 (by decide +kernel) rfl⟩, ⟨by decide +kernel, by decide +kernel, by decide +kernel⟩⟩
def M_X7_greatestNumber : m_M := (RX7, yX7_greatestNumber, cX7_greatestNumber, 8, some .long, { frames := 1, cells := 0, slots := 0, locals := 23 }, 148, 4732)
theorem t_X7_greatestNumber : m_mV M_X7_greatestNumber 1 := ⟨⟨m_inG 884 (by decide +kernel) rfl, m_inG 885 (by decide +kernel) rfl⟩, ⟨m_inG 103 (by decide +kernel) rfl, m_inG 886 (by decide +kernel) rfl⟩, ⟨by decide +kernel, by decide +kernel, by decide +kernel⟩⟩
def M_X7_isAlways : m_M := (RX7, yX7_isAlways, cX7_isAlways, 3, some .boolean, { frames := 0, cells := 0, slots := 0, locals := 0 }, 148, 4732)
theorem t_X7_isAlways : m_mV M_X7_isAlways 1 := ⟨⟨m_inG 862 (by decide +kernel) rfl, m_inG 863 (by decide +kernel) rfl⟩, ⟨m_inG 103 (by decide +kernel) rfl, m_inG 864 (by decide +kernel) rfl⟩, ⟨by decide +kernel, by decide +kernel, by decide +kernel⟩⟩
def M_X7_isTheSame : m_M := (RX7, yX7_isTheSame, cX7_isTheSame, 1, some .boolean, { frames := 0, cells := 0, slots := 0, locals := 0 }, 148, 4732)
theorem t_X7_isTheSame : m_mV M_X7_isTheSame 0 := ⟨⟨m_inG 894 (by decide +kernel) rfl, m_inG 895 (by decide +kernel) rfl⟩, ⟨m_inG 103 (by decide +kernel) rfl, m_inG 896 (by decide +kernel) rfl⟩, ⟨by decide +kernel, by decide +kernel, by decide +kernel⟩⟩
def M_X7_lastNumber : m_M := (RX7, yX7_lastNumber, cX7_lastNumber, 2, some .int, { frames := 2, cells := 0, slots := 0, locals := 50 }, 148, 4732)
theorem t_X7_lastNumber : m_mV M_X7_lastNumber 1 := ⟨⟨m_inG 961 (by decide +kernel) rfl, m_inG 962 (by decide +kernel) rfl⟩, ⟨m_inG 103 (by decide +kernel) rfl, m_inG 963 (by decide +kernel) rfl⟩, ⟨by decide +kernel, by decide +kernel, by decide +kernel⟩⟩
def M_X7_leastMillionths : m_M := (RX7, yX7_leastMillionths, cX7_leastMillionths, 1, some .long, { frames := 1, cells := 0, slots := 0, locals := 23 }, 148, 4732)
theorem t_X7_leastMillionths : m_mV M_X7_leastMillionths 0 := ⟨⟨m_inG 838 (by decide +kernel) rfl, m_inG 839 (by decide +kernel) rfl⟩, ⟨m_inG 103 (by decide +kernel) rfl, m_inG 840 (by decide +kernel) rfl⟩, ⟨by decide +kernel, by decide +kernel, by decide +kernel⟩⟩
def M_X7_leastNumber : m_M := (RX7, yX7_leastNumber, cX7_leastNumber, 5, some .long, { frames := 1, cells := 0, slots := 0, locals := 23 }, 148, 4732)
theorem t_X7_leastNumber : m_mV M_X7_leastNumber 1 := ⟨⟨m_inG 879 (by decide +kernel) rfl, m_inG 880 (by decide +kernel) rfl⟩, ⟨m_inG 103 (by decide +kernel) rfl, m_inG 881 (by decide +kernel) rfl⟩, ⟨by decide +kernel, by decide +kernel, by decide +kernel⟩⟩
def M_X7_manyNumbers : m_M := (RX7, yX7_manyNumbers, cX7_manyNumbers, 2, some .int, { frames := 3, cells := 0, slots := 0, locals := 71 }, 148, 4732)
theorem t_X7_manyNumbers : m_mV M_X7_manyNumbers 1 := ⟨⟨m_inG 977 (by decide +kernel) rfl, m_inG 978 (by decide +kernel) rfl⟩, ⟨m_inG 103 (by decide +kernel) rfl, m_inG 979 (by decide +kernel) rfl⟩, ⟨by decide +kernel, by decide +kernel, by decide +kernel⟩⟩
def M_X7_measure : m_M := (RX7, yX7_measure, cX7_measure, 4, none, { frames := 4, cells := 0, slots := 0, locals := 111 }, 148, 4732)
theorem t_X7_measure : m_mV M_X7_measure 3 := ⟨⟨m_inG 815 (by decide +kernel) rfl, m_inG 816 (by decide +kernel) rfl⟩, ⟨m_inG 103 (by decide +kernel) rfl, m_inG 817 (by decide +kernel) rfl⟩, ⟨by decide +kernel, by decide +kernel, by decide +kernel⟩⟩
def M_X8_append : m_M := (RX8, yX8_append, cX8_append, 2, none, { frames := 0, cells := 0, slots := 0, locals := 0 }, 148, 4732)
theorem t_X8_append : m_mV M_X8_append 1 := ⟨⟨m_inG 564 (by decide +kernel) rfl, m_inG 565 (by decide +kernel) rfl⟩, ⟨m_inG 98 (by decide +kernel) rfl, m_inG 566 (by decide +kernel) rfl⟩, ⟨by decide +kernel, by decide +kernel, by decide +kernel⟩⟩
def M_X9_canBe : m_M := (RX9, yX9_canBe, cX9_canBe, 4, some .boolean, { frames := 3, cells := 0, slots := 0, locals := 82 }, 148, 4732)
theorem t_X9_canBe : m_mV M_X9_canBe 2 := ⟨⟨m_inG 728 (by decide +kernel) rfl, m_inG 729 (by decide +kernel) rfl⟩, ⟨m_inG 100 (by decide +kernel) rfl, m_inG 730 (by decide +kernel) rfl⟩, ⟨by decide +kernel, by decide +kernel, by decide +kernel⟩⟩
def M_X9_eachFootHolds : m_M := (RX9, yX9_eachFootHolds, cX9_eachFootHolds, 2, some .boolean, { frames := 1, cells := 0, slots := 0, locals := 20 }, 148, 4732)
theorem t_X9_eachFootHolds : m_mV M_X9_eachFootHolds 0 := ⟨⟨m_inG 782 (by decide +kernel) rfl, m_inG 19 (by decide +kernel) rfl⟩, ⟨m_inG 100 (by decide +kernel) rfl, m_inG 783 (by decide +kernel) rfl⟩, ⟨by decide +kernel, by decide +kernel, by decide +kernel⟩⟩
def M_X9_feetHoldTogether : m_M := (RX9, yX9_feetHoldTogether, cX9_feetHoldTogether, 4, some .boolean, { frames := 1, cells := 0, slots := 0, locals := 25 }, 148, 4732)
theorem t_X9_feetHoldTogether : m_mV M_X9_feetHoldTogether 0 := ⟨⟨m_inG 795 (by decide +kernel) rfl, m_inG 21 (by decide +kernel) rfl⟩, ⟨m_inG 100 (by decide +kernel) rfl, m_inG 796 (by decide +kernel) rfl⟩, ⟨by decide +kernel, by decide +kernel, by decide +kernel⟩⟩
def M_X9_forget : m_M := (RX9, yX9_forget, cX9_forget, 2, none, { frames := 1, cells := 0, slots := 0, locals := 23 }, 148, 4732)
theorem t_X9_forget : m_mV M_X9_forget 0 := ⟨⟨m_inG 733 (by decide +kernel) rfl, m_inG 14 (by decide +kernel) rfl⟩, ⟨m_inG 100 (by decide +kernel) rfl, m_inG 734 (by decide +kernel) rfl⟩, ⟨by decide +kernel, by decide +kernel, by decide +kernel⟩⟩
def M_X9_goOn : m_M := (RX9, yX9_goOn, cX9_goOn, 9, none, { frames := 2, cells := 0, slots := 0, locals := 54 }, 148, 4732)
theorem t_X9_goOn : m_mV M_X9_goOn 2 := ⟨⟨m_inG 790 (by decide +kernel) rfl, m_inG 20 (by decide +kernel) rfl⟩, ⟨m_inG 100 (by decide +kernel) rfl, m_inG 791 (by decide +kernel) rfl⟩, ⟨by decide +kernel, by decide +kernel, by decide +kernel⟩⟩
def M_X9_halvesIn : m_M := (RX9, yX9_halvesIn, cX9_halvesIn, 2, some .int, { frames := 0, cells := 0, slots := 0, locals := 0 }, 148, 4732)
theorem t_X9_halvesIn : m_mS M_X9_halvesIn 2 := ⟨m_inG 835 (by decide +kernel) rfl, ⟨m_inG 100 (by decide +kernel) rfl, m_inG 836 (by decide +kernel) rfl⟩, ⟨by decide +kernel, by decide +kernel, by decide +kernel⟩⟩
def M_X9_highOf : m_M := (RX9, yX9_highOf, cX9_highOf, 3, some .int, { frames := 0, cells := 0, slots := 0, locals := 0 }, 148, 4732)
theorem t_X9_highOf : m_mV M_X9_highOf 2 := ⟨⟨m_inG 828 (by decide +kernel) rfl, m_inG 24 (by decide +kernel) rfl⟩, ⟨m_inG 100 (by decide +kernel) rfl, m_inG 829 (by decide +kernel) rfl⟩, ⟨by decide +kernel, by decide +kernel, by decide +kernel⟩⟩
def M_X9_limit : m_M := (RX9, yX9_limit, cX9_limit, 6, none, { frames := 3, cells := 0, slots := 0, locals := 86 }, 148, 4732)
theorem t_X9_limit : m_mV M_X9_limit 3 := ⟨⟨m_inG 819 (by decide +kernel) rfl, m_inG 820 (by decide +kernel) rfl⟩, ⟨m_inG 100 (by decide +kernel) rfl, m_inG 821 (by decide +kernel) rfl⟩, ⟨by decide +kernel, by decide +kernel, by decide +kernel⟩⟩
def M_X9_limitBy : m_M := (RX9, yX9_limitBy, cX9_limitBy, 13, none, { frames := 2, cells := 0, slots := 0, locals := 54 }, 148, 4732)
theorem t_X9_limitBy : m_mV M_X9_limitBy 4 := ⟨⟨m_inG 824 (by decide +kernel) rfl, m_inG 23 (by decide +kernel) rfl⟩, ⟨m_inG 100 (by decide +kernel) rfl, m_inG 825 (by decide +kernel) rfl⟩, ⟨by decide +kernel, by decide +kernel, by decide +kernel⟩⟩
def M_X9_lowOf : m_M := (RX9, yX9_lowOf, cX9_lowOf, 3, some .int, { frames := 0, cells := 0, slots := 0, locals := 0 }, 148, 4732)
theorem t_X9_lowOf : m_mV M_X9_lowOf 2 := ⟨⟨m_inG 832 (by decide +kernel) rfl, m_inG 25 (by decide +kernel) rfl⟩, ⟨m_inG 100 (by decide +kernel) rfl, m_inG 833 (by decide +kernel) rfl⟩, ⟨by decide +kernel, by decide +kernel, by decide +kernel⟩⟩
def M_X9_lower : m_M := (RX9, yX9_lower, cX9_lower, 4, none, { frames := 0, cells := 0, slots := 0, locals := 0 }, 148, 4732)
theorem t_X9_lower : m_mV M_X9_lower 3 := ⟨⟨m_inG 760 (by decide +kernel) rfl, m_inG 16 (by decide +kernel) rfl⟩, ⟨m_inG 100 (by decide +kernel) rfl, m_inG 761 (by decide +kernel) rfl⟩, ⟨by decide +kernel, by decide +kernel, by decide +kernel⟩⟩
def M_X9_stepOver : m_M := (RX9, yX9_stepOver, cX9_stepOver, 5, none, { frames := 2, cells := 0, slots := 0, locals := 54 }, 148, 4732)
theorem t_X9_stepOver : m_mV M_X9_stepOver 1 := ⟨⟨m_inG 770 (by decide +kernel) rfl, m_inG 18 (by decide +kernel) rfl⟩, ⟨m_inG 100 (by decide +kernel) rfl, m_inG 771 (by decide +kernel) rfl⟩, ⟨by decide +kernel, by decide +kernel, by decide +kernel⟩⟩
def M_X9_tie : m_M := (RX9, yX9_tie, cX9_tie, 5, none, { frames := 2, cells := 0, slots := 0, locals := 44 }, 148, 4732)
theorem t_X9_tie : m_mV M_X9_tie 2 := ⟨⟨m_inG 743 (by decide +kernel) rfl, m_inG 15 (by decide +kernel) rfl⟩, ⟨m_inG 100 (by decide +kernel) rfl, m_inG 744 (by decide +kernel) rfl⟩, ⟨by decide +kernel, by decide +kernel, by decide +kernel⟩⟩
def M_X9_tieCut : m_M := (RX9, yX9_tieCut, cX9_tieCut, 5, none, { frames := 1, cells := 0, slots := 0, locals := 23 }, 148, 4732)
theorem t_X9_tieCut : m_mV M_X9_tieCut 1 := ⟨⟨m_inG 766 (by decide +kernel) rfl, m_inG 17 (by decide +kernel) rfl⟩, ⟨m_inG 100 (by decide +kernel) rfl, m_inG 767 (by decide +kernel) rfl⟩, ⟨by decide +kernel, by decide +kernel, by decide +kernel⟩⟩
def M_X10_add : m_M := (RX10, yX10_add, cX10_add, 6, none, { frames := 0, cells := 0, slots := 0, locals := 0 }, 148, 4732)
theorem t_X10_add : m_mV M_X10_add 3 := ⟨⟨m_inG 914 (by decide +kernel) rfl, m_inG 915 (by decide +kernel) rfl⟩, ⟨m_inG 104 (by decide +kernel) rfl, m_inG 916 (by decide +kernel) rfl⟩, ⟨by decide +kernel, by decide +kernel, by decide +kernel⟩⟩
def M_X10_clear : m_M := (RX10, yX10_clear, cX10_clear, 2, none, { frames := 0, cells := 0, slots := 0, locals := 0 }, 148, 4732)
theorem t_X10_clear : m_mV M_X10_clear 0 := ⟨⟨m_inG 906 (by decide +kernel) rfl, m_inG 907 (by decide +kernel) rfl⟩, ⟨m_inG 104 (by decide +kernel) rfl, m_inG 908 (by decide +kernel) rfl⟩, ⟨by decide +kernel, by decide +kernel, by decide +kernel⟩⟩
def M_X10_product : m_M := (RX10, yX10_product, cX10_product, 7, some .long, { frames := 1, cells := 0, slots := 0, locals := 23 }, 148, 4732)
theorem t_X10_product : m_mV M_X10_product 0 := ⟨⟨m_inG 938 (by decide +kernel) rfl, m_inG 939 (by decide +kernel) rfl⟩, ⟨m_inG 104 (by decide +kernel) rfl, m_inG 940 (by decide +kernel) rfl⟩, ⟨by decide +kernel, by decide +kernel, by decide +kernel⟩⟩
def M_X10_sum : m_M := (RX10, yX10_sum, cX10_sum, 13, some .long, { frames := 2, cells := 0, slots := 0, locals := 65 }, 148, 4732)
theorem t_X10_sum : m_mV M_X10_sum 0 := ⟨⟨m_inG 918 (by decide +kernel) rfl, m_inG 919 (by decide +kernel) rfl⟩, ⟨m_inG 104 (by decide +kernel) rfl, m_inG 920 (by decide +kernel) rfl⟩, ⟨by decide +kernel, by decide +kernel, by decide +kernel⟩⟩
def M_X11_accept : m_M := (RX11, yX11_accept, cX11_accept, 2, some .int, { frames := 0, cells := 0, slots := 0, locals := 0 }, 148, 4732)
theorem t_X11_accept : m_mV M_X11_accept 1 := ⟨⟨m_inG 471 (by decide +kernel) rfl, m_inG 1 (by decide +kernel) rfl⟩, ⟨m_inG 95 (by decide +kernel) rfl, m_inG 472 (by decide +kernel) rfl⟩, ⟨by decide +kernel, by decide +kernel, by decide +kernel⟩⟩
def M_X11_addFeet : m_M := (RX11, yX11_addFeet, cX11_addFeet, 4, none, { frames := 5, cells := 0, slots := 0, locals := 134 }, 148, 4732)
theorem t_X11_addFeet : m_mV M_X11_addFeet 3 := ⟨⟨m_inG 911 (by decide +kernel) rfl, m_inG 28 (by decide +kernel) rfl⟩, ⟨m_inG 95 (by decide +kernel) rfl, m_inG 912 (by decide +kernel) rfl⟩, ⟨by decide +kernel, by decide +kernel, by decide +kernel⟩⟩
def M_X11_area : m_M := (RX11, yX11_area, cX11_area, 6, some .int, { frames := 6, cells := 0, slots := 0, locals := 157 }, 148, 4732)
theorem t_X11_area : m_mV M_X11_area 4 := ⟨⟨m_inG 934 (by decide +kernel) rfl, m_inG 935 (by decide +kernel) rfl⟩, ⟨m_inG 95 (by decide +kernel) rfl, m_inG 936 (by decide +kernel) rfl⟩, ⟨by decide +kernel, by decide +kernel, by decide +kernel⟩⟩
def M_X11_ask : m_M := (RX11, yX11_ask, cX11_ask, 6, some .int, { frames := 6, cells := 0, slots := 0, locals := 156 }, 148, 4732)
theorem t_X11_ask : m_mV M_X11_ask 1 := ⟨⟨m_inG 984 (by decide +kernel) rfl, m_inG 985 (by decide +kernel) rfl⟩, ⟨m_inG 95 (by decide +kernel) rfl, m_inG 986 (by decide +kernel) rfl⟩, ⟨by decide +kernel, by decide +kernel, by decide +kernel⟩⟩
def M_X11_atMost : m_M := (RX11, yX11_atMost, cX11_atMost, 4, some .int, { frames := 1, cells := 0, slots := 0, locals := 23 }, 148, 4732)
theorem t_X11_atMost : m_mS M_X11_atMost 2 := ⟨m_inG 847 (by decide +kernel) rfl, ⟨m_inG 95 (by decide +kernel) rfl, m_inG 848 (by decide +kernel) rfl⟩, ⟨by decide +kernel, by decide +kernel, by decide +kernel⟩⟩
def M_X11_back : m_M := (RX11, yX11_back, cX11_back, 2, some .int, { frames := 2, cells := 0, slots := 0, locals := 49 }, 148, 4732)
theorem t_X11_back : m_mV M_X11_back 1 := ⟨⟨m_inG 1176 (by decide +kernel) rfl, m_inG 1177 (by decide +kernel) rfl⟩, ⟨m_inG 95 (by decide +kernel) rfl, m_inG 1178 (by decide +kernel) rfl⟩, ⟨by decide +kernel, by decide +kernel, by decide +kernel⟩⟩
def M_X11_between : m_M := (RX11, yX11_between, cX11_between, 4, some .int, { frames := 6, cells := 0, slots := 0, locals := 156 }, 148, 4732)
theorem t_X11_between : m_mV M_X11_between 3 := ⟨⟨m_inG 802 (by decide +kernel) rfl, m_inG 803 (by decide +kernel) rfl⟩, ⟨m_inG 95 (by decide +kernel) rfl, m_inG 804 (by decide +kernel) rfl⟩, ⟨by decide +kernel, by decide +kernel, by decide +kernel⟩⟩
def M_X11_blurred : m_M := (RX11, yX11_blurred, cX11_blurred, 1, some .int, { frames := 0, cells := 0, slots := 0, locals := 0 }, 148, 4732)
theorem t_X11_blurred : m_mV M_X11_blurred 0 := ⟨⟨m_inG 580 (by decide +kernel) rfl, m_inG 581 (by decide +kernel) rfl⟩, ⟨m_inG 95 (by decide +kernel) rfl, m_inG 582 (by decide +kernel) rfl⟩, ⟨by decide +kernel, by decide +kernel, by decide +kernel⟩⟩
def M_X11_book : m_M := (RX11, yX11_book, cX11_book, 2, some .int, { frames := 10, cells := 0, slots := 0, locals := 220 }, 148, 4732)
theorem t_X11_book : m_mV M_X11_book 0 := ⟨⟨m_inG 584 (by decide +kernel) rfl, m_inG 585 (by decide +kernel) rfl⟩, ⟨m_inG 95 (by decide +kernel) rfl, m_inG 586 (by decide +kernel) rfl⟩, ⟨by decide +kernel, by decide +kernel, by decide +kernel⟩⟩
def M_X11_canBe : m_M := (RX11, yX11_canBe, cX11_canBe, 1, some .boolean, { frames := 4, cells := 0, slots := 0, locals := 105 }, 148, 4732)
theorem t_X11_canBe : m_mV M_X11_canBe 0 := ⟨⟨m_inG 725 (by decide +kernel) rfl, m_inG 13 (by decide +kernel) rfl⟩, ⟨m_inG 95 (by decide +kernel) rfl, m_inG 726 (by decide +kernel) rfl⟩, ⟨by decide +kernel, by decide +kernel, by decide +kernel⟩⟩
def M_X11_commonDivisor : m_M := (RX11, yX11_commonDivisor, cX11_commonDivisor, 11, some .long, { frames := 0, cells := 0, slots := 0, locals := 0 }, 148, 4732)
theorem t_X11_commonDivisor : m_mS M_X11_commonDivisor 2 := ⟨m_inG 898 (by decide +kernel) rfl, ⟨m_inG 95 (by decide +kernel) rfl, m_inG 899 (by decide +kernel) rfl⟩, ⟨by decide +kernel, by decide +kernel, by decide +kernel⟩⟩
def M_X11_compare : m_M := (RX11, yX11_compare, cX11_compare, 3, some .boolean, { frames := 5, cells := 0, slots := 0, locals := 134 }, 148, 4732)
theorem t_X11_compare : m_mV M_X11_compare 2 := ⟨⟨m_inG 807 (by decide +kernel) rfl, m_inG 22 (by decide +kernel) rfl⟩, ⟨m_inG 95 (by decide +kernel) rfl, m_inG 808 (by decide +kernel) rfl⟩, ⟨by decide +kernel, by decide +kernel, by decide +kernel⟩⟩
def M_X11_compareFractions : m_M := (RX11, yX11_compareFractions, cX11_compareFractions, 23, some .int, { frames := 1, cells := 0, slots := 0, locals := 23 }, 148, 4732)
theorem t_X11_compareFractions : m_mS M_X11_compareFractions 4 := ⟨m_inG 927 (by decide +kernel) rfl, ⟨m_inG 95 (by decide +kernel) rfl, m_inG 928 (by decide +kernel) rfl⟩, ⟨by decide +kernel, by decide +kernel, by decide +kernel⟩⟩
def M_X11_compareToFoot : m_M := (RX11, yX11_compareToFoot, cX11_compareToFoot, 3, some .boolean, { frames := 5, cells := 0, slots := 0, locals := 134 }, 148, 4732)
theorem t_X11_compareToFoot : m_mV M_X11_compareToFoot 2 := ⟨⟨m_inG 872 (by decide +kernel) rfl, m_inG 26 (by decide +kernel) rfl⟩, ⟨m_inG 95 (by decide +kernel) rfl, m_inG 873 (by decide +kernel) rfl⟩, ⟨by decide +kernel, by decide +kernel, by decide +kernel⟩⟩
def M_X11_core : m_M := (RX11, yX11_core, cX11_core, 1, some .int, { frames := 5, cells := 0, slots := 0, locals := 130 }, 148, 4732)
theorem t_X11_core : m_mV M_X11_core 0 := ⟨⟨m_inG 1044 (by decide +kernel) rfl, m_inG 1045 (by decide +kernel) rfl⟩, ⟨m_inG 95 (by decide +kernel) rfl, m_inG 1046 (by decide +kernel) rfl⟩, ⟨by decide +kernel, by decide +kernel, by decide +kernel⟩⟩
def M_X11_could : m_M := (RX11, yX11_could, cX11_could, 3, some .int, { frames := 5, cells := 0, slots := 0, locals := 129 }, 148, 4732)
theorem t_X11_could : m_mV M_X11_could 2 := ⟨⟨m_inG 1106 (by decide +kernel) rfl, m_inG 1107 (by decide +kernel) rfl⟩, ⟨m_inG 95 (by decide +kernel) rfl, m_inG 1108 (by decide +kernel) rfl⟩, ⟨by decide +kernel, by decide +kernel, by decide +kernel⟩⟩
def M_X11_couldBeTold : m_M := (RX11, yX11_couldBeTold, cX11_couldBeTold, 6, some .boolean, { frames := 5, cells := 0, slots := 0, locals := 134 }, 148, 4732)
theorem t_X11_couldBeTold : m_mV M_X11_couldBeTold 4 := ⟨⟨m_inG 997 (by decide +kernel) rfl, m_inG 30 (by decide +kernel) rfl⟩, ⟨m_inG 95 (by decide +kernel) rfl, m_inG 998 (by decide +kernel) rfl⟩, ⟨by decide +kernel, by decide +kernel, by decide +kernel⟩⟩
def M_X11_count : m_M := (RX11, yX11_count, cX11_count, 2, some .int, { frames := 2, cells := 0, slots := 0, locals := 40 }, 148, 4732)
theorem t_X11_count : m_mV M_X11_count 1 := ⟨⟨m_inG 1180 (by decide +kernel) rfl, m_inG 1181 (by decide +kernel) rfl⟩, ⟨m_inG 95 (by decide +kernel) rfl, m_inG 1182 (by decide +kernel) rfl⟩, ⟨by decide +kernel, by decide +kernel, by decide +kernel⟩⟩
def M_X11_counts : m_M := (RX11, yX11_counts, cX11_counts, 4, some .int, { frames := 2, cells := 0, slots := 0, locals := 44 }, 148, 4732)
theorem t_X11_counts : m_mV M_X11_counts 2 := ⟨⟨m_inG 536 (by decide +kernel) rfl, m_inG 537 (by decide +kernel) rfl⟩, ⟨m_inG 95 (by decide +kernel) rfl, m_inG 538 (by decide +kernel) rfl⟩, ⟨by decide +kernel, by decide +kernel, by decide +kernel⟩⟩
def M_X11_cut : m_M := (RX11, yX11_cut, cX11_cut, 4, some .int, { frames := 2, cells := 0, slots := 0, locals := 44 }, 148, 4732)
theorem t_X11_cut : m_mV M_X11_cut 2 := ⟨⟨m_inG 474 (by decide +kernel) rfl, m_inG 475 (by decide +kernel) rfl⟩, ⟨m_inG 95 (by decide +kernel) rfl, m_inG 476 (by decide +kernel) rfl⟩, ⟨by decide +kernel, by decide +kernel, by decide +kernel⟩⟩
def M_X11_dates : m_M := (RX11, yX11_dates, cX11_dates, 8, some .int, { frames := 6, cells := 0, slots := 0, locals := 159 }, 148, 4732)
theorem t_X11_dates : m_mV M_X11_dates 4 := ⟨⟨m_inG 992 (by decide +kernel) rfl, m_inG 993 (by decide +kernel) rfl⟩, ⟨m_inG 95 (by decide +kernel) rfl, m_inG 994 (by decide +kernel) rfl⟩, ⟨by decide +kernel, by decide +kernel, by decide +kernel⟩⟩
def M_X11_end : m_M := (RX11, yX11_end, cX11_end, 2, some .int, { frames := 1, cells := 0, slots := 0, locals := 22 }, 148, 4732)
theorem t_X11_end : m_mV M_X11_end 1 := ⟨⟨m_inG 568 (by decide +kernel) rfl, m_inG 569 (by decide +kernel) rfl⟩, ⟨m_inG 95 (by decide +kernel) rfl, m_inG 570 (by decide +kernel) rfl⟩, ⟨by decide +kernel, by decide +kernel, by decide +kernel⟩⟩
def M_X11_entry : m_M := (RX11, yX11_entry, cX11_entry, 5, some .int, { frames := 3, cells := 0, slots := 0, locals := 65 }, 148, 4732)
theorem t_X11_entry : m_mV M_X11_entry 4 := ⟨⟨m_inG 514 (by decide +kernel) rfl, m_inG 515 (by decide +kernel) rfl⟩, ⟨m_inG 95 (by decide +kernel) rfl, m_inG 516 (by decide +kernel) rfl⟩, ⟨by decide +kernel, by decide +kernel, by decide +kernel⟩⟩
def M_X11_fault : m_M := (RX11, yX11_fault, cX11_fault, 1, some .int, { frames := 0, cells := 0, slots := 0, locals := 0 }, 148, 4732)
theorem t_X11_fault : m_mV M_X11_fault 0 := ⟨⟨m_inG 716 (by decide +kernel) rfl, m_inG 717 (by decide +kernel) rfl⟩, ⟨m_inG 95 (by decide +kernel) rfl, m_inG 718 (by decide +kernel) rfl⟩, ⟨by decide +kernel, by decide +kernel, by decide +kernel⟩⟩
def M_X11_feed : m_M := (RX11, yX11_feed, cX11_feed, 6, some .int, { frames := 1, cells := 0, slots := 0, locals := 21 }, 148, 4732)
theorem t_X11_feed : m_mV M_X11_feed 5 := ⟨⟨m_inG 560 (by decide +kernel) rfl, m_inG 561 (by decide +kernel) rfl⟩, ⟨m_inG 95 (by decide +kernel) rfl, m_inG 562 (by decide +kernel) rfl⟩, ⟨by decide +kernel, by decide +kernel, by decide +kernel⟩⟩
def M_X11_feet : m_M := (RX11, yX11_feet, cX11_feet, 4, some .int, { frames := 6, cells := 0, slots := 0, locals := 156 }, 148, 4732)
theorem t_X11_feet : m_mV M_X11_feet 3 := ⟨⟨m_inG 867 (by decide +kernel) rfl, m_inG 868 (by decide +kernel) rfl⟩, ⟨m_inG 95 (by decide +kernel) rfl, m_inG 869 (by decide +kernel) rfl⟩, ⟨by decide +kernel, by decide +kernel, by decide +kernel⟩⟩
def M_X11_fits : m_M := (RX11, yX11_fits, cX11_fits, 1, some .int, { frames := 5, cells := 0, slots := 0, locals := 125 }, 148, 4732)
theorem t_X11_fits : m_mV M_X11_fits 0 := ⟨⟨m_inG 720 (by decide +kernel) rfl, m_inG 721 (by decide +kernel) rfl⟩, ⟨m_inG 95 (by decide +kernel) rfl, m_inG 722 (by decide +kernel) rfl⟩, ⟨by decide +kernel, by decide +kernel, by decide +kernel⟩⟩
def M_X11_groups : m_M := (RX11, yX11_groups, cX11_groups, 2, some .int, { frames := 4, cells := 0, slots := 0, locals := 91 }, 148, 4732)
theorem t_X11_groups : m_mV M_X11_groups 1 := ⟨⟨m_inG 1027 (by decide +kernel) rfl, m_inG 1028 (by decide +kernel) rfl⟩, ⟨m_inG 95 (by decide +kernel) rfl, m_inG 1029 (by decide +kernel) rfl⟩, ⟨by decide +kernel, by decide +kernel, by decide +kernel⟩⟩
def M_X11_hasBit : m_M := (RX11, yX11_hasBit, cX11_hasBit, 2, some .boolean, { frames := 0, cells := 0, slots := 0, locals := 0 }, 148, 4732)
theorem t_X11_hasBit : m_mS M_X11_hasBit 2 := ⟨m_inG 492 (by decide +kernel) rfl, ⟨m_inG 95 (by decide +kernel) rfl, m_inG 493 (by decide +kernel) rfl⟩, ⟨by decide +kernel, by decide +kernel, by decide +kernel⟩⟩
def M_X11_image : m_M := (RX11, yX11_image, cX11_image, 2, some .int, { frames := 2, cells := 0, slots := 0, locals := 49 }, 148, 4732)
theorem t_X11_image : m_mV M_X11_image 1 := ⟨⟨m_inG 1172 (by decide +kernel) rfl, m_inG 1173 (by decide +kernel) rfl⟩, ⟨m_inG 95 (by decide +kernel) rfl, m_inG 1174 (by decide +kernel) rfl⟩, ⟨by decide +kernel, by decide +kernel, by decide +kernel⟩⟩
def M_X11_isEntry : m_M := (RX11, yX11_isEntry, cX11_isEntry, 4, some .boolean, { frames := 2, cells := 0, slots := 0, locals := 42 }, 148, 4732)
theorem t_X11_isEntry : m_mS M_X11_isEntry 4 := ⟨m_inG 518 (by decide +kernel) rfl, ⟨m_inG 95 (by decide +kernel) rfl, m_inG 519 (by decide +kernel) rfl⟩, ⟨by decide +kernel, by decide +kernel, by decide +kernel⟩⟩
def M_X11_isKeeper : m_M := (RX11, yX11_isKeeper, cX11_isKeeper, 1, some .boolean, { frames := 1, cells := 0, slots := 0, locals := 22 }, 148, 4732)
theorem t_X11_isKeeper : m_mS M_X11_isKeeper 1 := ⟨m_inG 485 (by decide +kernel) rfl, ⟨m_inG 95 (by decide +kernel) rfl, m_inG 486 (by decide +kernel) rfl⟩, ⟨by decide +kernel, by decide +kernel, by decide +kernel⟩⟩
def M_X11_isKind : m_M := (RX11, yX11_isKind, cX11_isKind, 1, some .boolean, { frames := 1, cells := 0, slots := 0, locals := 22 }, 148, 4732)
theorem t_X11_isKind : m_mS M_X11_isKind 1 := ⟨m_inG 524 (by decide +kernel) rfl, ⟨m_inG 95 (by decide +kernel) rfl, m_inG 525 (by decide +kernel) rfl⟩, ⟨by decide +kernel, by decide +kernel, by decide +kernel⟩⟩
def M_X11_isMeasured : m_M := (RX11, yX11_isMeasured, cX11_isMeasured, 2, some .boolean, { frames := 2, cells := 0, slots := 0, locals := 44 }, 148, 4732)
theorem t_X11_isMeasured : m_mV M_X11_isMeasured 1 := ⟨⟨m_inG 876 (by decide +kernel) rfl, m_inG 27 (by decide +kernel) rfl⟩, ⟨m_inG 95 (by decide +kernel) rfl, m_inG 877 (by decide +kernel) rfl⟩, ⟨by decide +kernel, by decide +kernel, by decide +kernel⟩⟩
def M_X11_isNumber : m_M := (RX11, yX11_isNumber, cX11_isNumber, 1, some .boolean, { frames := 1, cells := 0, slots := 0, locals := 22 }, 148, 4732)
theorem t_X11_isNumber : m_mS M_X11_isNumber 1 := ⟨m_inG 521 (by decide +kernel) rfl, ⟨m_inG 95 (by decide +kernel) rfl, m_inG 522 (by decide +kernel) rfl⟩, ⟨by decide +kernel, by decide +kernel, by decide +kernel⟩⟩
def M_X11_isThing : m_M := (RX11, yX11_isThing, cX11_isThing, 1, some .boolean, { frames := 1, cells := 0, slots := 0, locals := 22 }, 148, 4732)
theorem t_X11_isThing : m_mS M_X11_isThing 1 := ⟨m_inG 478 (by decide +kernel) rfl, ⟨m_inG 95 (by decide +kernel) rfl, m_inG 479 (by decide +kernel) rfl⟩, ⟨by decide +kernel, by decide +kernel, by decide +kernel⟩⟩
def M_X11_isWeek : m_M := (RX11, yX11_isWeek, cX11_isWeek, 1, some .boolean, { frames := 1, cells := 0, slots := 0, locals := 22 }, 148, 4732)
theorem t_X11_isWeek : m_mS M_X11_isWeek 1 := ⟨m_inG 460 (by decide +kernel) rfl, ⟨m_inG 95 (by decide +kernel) rfl, m_inG 461 (by decide +kernel) rfl⟩, ⟨by decide +kernel, by decide +kernel, by decide +kernel⟩⟩
def M_X11_joined : m_M := (RX11, yX11_joined, cX11_joined, 3, some .int, { frames := 3, cells := 0, slots := 0, locals := 69 }, 148, 4732)
theorem t_X11_joined : m_mV M_X11_joined 2 := ⟨⟨m_inG 1006 (by decide +kernel) rfl, m_inG 1007 (by decide +kernel) rfl⟩, ⟨m_inG 95 (by decide +kernel) rfl, m_inG 1008 (by decide +kernel) rfl⟩, ⟨by decide +kernel, by decide +kernel, by decide +kernel⟩⟩
def M_X11_judge : m_M := (RX11, yX11_judge, cX11_judge, 5, some .int, { frames := 3, cells := 0, slots := 0, locals := 70 }, 148, 4732)
theorem t_X11_judge : m_mV M_X11_judge 1 := ⟨⟨m_inG 1125 (by decide +kernel) rfl, m_inG 1126 (by decide +kernel) rfl⟩, ⟨m_inG 95 (by decide +kernel) rfl, m_inG 1127 (by decide +kernel) rfl⟩, ⟨by decide +kernel, by decide +kernel, by decide +kernel⟩⟩
def M_X11_lay : m_M := (RX11, yX11_lay, cX11_lay, 7, some .int, { frames := 6, cells := 0, slots := 0, locals := 157 }, 148, 4732)
theorem t_X11_lay : m_mV M_X11_lay 5 := ⟨⟨m_inG 902 (by decide +kernel) rfl, m_inG 903 (by decide +kernel) rfl⟩, ⟨m_inG 95 (by decide +kernel) rfl, m_inG 904 (by decide +kernel) rfl⟩, ⟨by decide +kernel, by decide +kernel, by decide +kernel⟩⟩
def M_X11_manyKnown : m_M := (RX11, yX11_manyKnown, cX11_manyKnown, 3, some .int, { frames := 0, cells := 0, slots := 0, locals := 0 }, 148, 4732)
theorem t_X11_manyKnown : m_mS M_X11_manyKnown 1 := ⟨m_inG 1184 (by decide +kernel) rfl, ⟨m_inG 95 (by decide +kernel) rfl, m_inG 1185 (by decide +kernel) rfl⟩, ⟨by decide +kernel, by decide +kernel, by decide +kernel⟩⟩
def M_X11_manyWholes : m_M := (RX11, yX11_manyWholes, cX11_manyWholes, 3, some .int, { frames := 5, cells := 0, slots := 0, locals := 134 }, 148, 4732)
theorem t_X11_manyWholes : m_mV M_X11_manyWholes 2 := ⟨⟨m_inG 989 (by decide +kernel) rfl, m_inG 29 (by decide +kernel) rfl⟩, ⟨m_inG 95 (by decide +kernel) rfl, m_inG 990 (by decide +kernel) rfl⟩, ⟨by decide +kernel, by decide +kernel, by decide +kernel⟩⟩
def M_X11_numbers : m_M := (RX11, yX11_numbers, cX11_numbers, 6, some .int, { frames := 6, cells := 0, slots := 0, locals := 156 }, 148, 4732)
theorem t_X11_numbers : m_mV M_X11_numbers 4 := ⟨⟨m_inG 973 (by decide +kernel) rfl, m_inG 974 (by decide +kernel) rfl⟩, ⟨m_inG 95 (by decide +kernel) rfl, m_inG 975 (by decide +kernel) rfl⟩, ⟨by decide +kernel, by decide +kernel, by decide +kernel⟩⟩
def M_X11_of : m_M := (RX11, yX11_of, cX11_of, 3, some .int, { frames := 2, cells := 0, slots := 0, locals := 44 }, 148, 4732)
theorem t_X11_of : m_mV M_X11_of 2 := ⟨⟨m_inG 548 (by decide +kernel) rfl, m_inG 549 (by decide +kernel) rfl⟩, ⟨m_inG 95 (by decide +kernel) rfl, m_inG 550 (by decide +kernel) rfl⟩, ⟨by decide +kernel, by decide +kernel, by decide +kernel⟩⟩
def M_X11_ofWeeks : m_M := (RX11, yX11_ofWeeks, cX11_ofWeeks, 4, some .int, { frames := 1, cells := 0, slots := 0, locals := 21 }, 148, 4732)
theorem t_X11_ofWeeks : m_mS M_X11_ofWeeks 2 := ⟨m_inG 1001 (by decide +kernel) rfl, ⟨m_inG 95 (by decide +kernel) rfl, m_inG 1002 (by decide +kernel) rfl⟩, ⟨by decide +kernel, by decide +kernel, by decide +kernel⟩⟩
def M_X11_part : m_M := (RX11, yX11_part, cX11_part, 5, some .long, { frames := 6, cells := 0, slots := 0, locals := 156 }, 148, 4732)
theorem t_X11_part : m_mV M_X11_part 3 := ⟨⟨m_inG 889 (by decide +kernel) rfl, m_inG 890 (by decide +kernel) rfl⟩, ⟨m_inG 95 (by decide +kernel) rfl, m_inG 891 (by decide +kernel) rfl⟩, ⟨by decide +kernel, by decide +kernel, by decide +kernel⟩⟩
def M_X11_quotient : m_M := (RX11, yX11_quotient, cX11_quotient, 4, some .long, { frames := 0, cells := 0, slots := 0, locals := 0 }, 148, 4732)
theorem t_X11_quotient : m_mS M_X11_quotient 2 := ⟨m_inG 843 (by decide +kernel) rfl, ⟨m_inG 95 (by decide +kernel) rfl, m_inG 844 (by decide +kernel) rfl⟩, ⟨by decide +kernel, by decide +kernel, by decide +kernel⟩⟩
def M_X11_refuse : m_M := (RX11, yX11_refuse, cX11_refuse, 3, some .int, { frames := 1, cells := 0, slots := 0, locals := 22 }, 148, 4732)
theorem t_X11_refuse : m_mV M_X11_refuse 1 := ⟨⟨m_inG 467 (by decide +kernel) rfl, m_inG 0 (by decide +kernel) rfl⟩, ⟨m_inG 95 (by decide +kernel) rfl, m_inG 468 (by decide +kernel) rfl⟩, ⟨by decide +kernel, by decide +kernel, by decide +kernel⟩⟩
def M_X11_remainder : m_M := (RX11, yX11_remainder, cX11_remainder, 4, some .long, { frames := 0, cells := 0, slots := 0, locals := 0 }, 148, 4732)
theorem t_X11_remainder : m_mS M_X11_remainder 2 := ⟨m_inG 924 (by decide +kernel) rfl, ⟨m_inG 95 (by decide +kernel) rfl, m_inG 925 (by decide +kernel) rfl⟩, ⟨by decide +kernel, by decide +kernel, by decide +kernel⟩⟩
def M_X11_row : m_M := (RX11, yX11_row, cX11_row, 3, some .int, { frames := 4, cells := 0, slots := 0, locals := 90 }, 148, 4732)
theorem t_X11_row : m_mV M_X11_row 0 := ⟨⟨m_inG 572 (by decide +kernel) rfl, m_inG 573 (by decide +kernel) rfl⟩, ⟨m_inG 95 (by decide +kernel) rfl, m_inG 574 (by decide +kernel) rfl⟩, ⟨by decide +kernel, by decide +kernel, by decide +kernel⟩⟩
def M_X11_says : m_M := (RX11, yX11_says, cX11_says, 6, some .int, { frames := 2, cells := 0, slots := 0, locals := 42 }, 148, 4732)
theorem t_X11_says : m_mV M_X11_says 3 := ⟨⟨m_inG 1119 (by decide +kernel) rfl, m_inG 1120 (by decide +kernel) rfl⟩, ⟨m_inG 95 (by decide +kernel) rfl, m_inG 1121 (by decide +kernel) rfl⟩, ⟨by decide +kernel, by decide +kernel, by decide +kernel⟩⟩
def M_X11_shorter : m_M := (RX11, yX11_shorter, cX11_shorter, 3, some .int, { frames := 3, cells := 0, slots := 0, locals := 60 }, 148, 4732)
theorem t_X11_shorter : m_mV M_X11_shorter 2 := ⟨⟨m_inG 481 (by decide +kernel) rfl, m_inG 482 (by decide +kernel) rfl⟩, ⟨m_inG 95 (by decide +kernel) rfl, m_inG 483 (by decide +kernel) rfl⟩, ⟨by decide +kernel, by decide +kernel, by decide +kernel⟩⟩
def M_X11_status : m_M := (RX11, yX11_status, cX11_status, 1, some .int, { frames := 0, cells := 0, slots := 0, locals := 0 }, 148, 4732)
theorem t_X11_status : m_mV M_X11_status 0 := ⟨⟨m_inG 1187 (by decide +kernel) rfl, m_inG 1188 (by decide +kernel) rfl⟩, ⟨m_inG 95 (by decide +kernel) rfl, m_inG 1189 (by decide +kernel) rfl⟩, ⟨by decide +kernel, by decide +kernel, by decide +kernel⟩⟩
def M_X11_sure : m_M := (RX11, yX11_sure, cX11_sure, 3, some .int, { frames := 6, cells := 0, slots := 0, locals := 156 }, 148, 4732)
theorem t_X11_sure : m_mV M_X11_sure 2 := ⟨⟨m_inG 858 (by decide +kernel) rfl, m_inG 859 (by decide +kernel) rfl⟩, ⟨m_inG 95 (by decide +kernel) rfl, m_inG 860 (by decide +kernel) rfl⟩, ⟨by decide +kernel, by decide +kernel, by decide +kernel⟩⟩
def M_X11_takeFromRow : m_M := (RX11, yX11_takeFromRow, cX11_takeFromRow, 6, some .boolean, { frames := 3, cells := 0, slots := 0, locals := 65 }, 148, 4732)
theorem t_X11_takeFromRow : m_mV M_X11_takeFromRow 1 := ⟨⟨m_inG 577 (by decide +kernel) rfl, m_inG 2 (by decide +kernel) rfl⟩, ⟨m_inG 95 (by decide +kernel) rfl, m_inG 578 (by decide +kernel) rfl⟩, ⟨by decide +kernel, by decide +kernel, by decide +kernel⟩⟩
def M_X11_tell : m_M := (RX11, yX11_tell, cX11_tell, 4, some .int, { frames := 2, cells := 0, slots := 0, locals := 44 }, 148, 4732)
theorem t_X11_tell : m_mV M_X11_tell 2 := ⟨⟨m_inG 1115 (by decide +kernel) rfl, m_inG 1116 (by decide +kernel) rfl⟩, ⟨m_inG 95 (by decide +kernel) rfl, m_inG 1117 (by decide +kernel) rfl⟩, ⟨by decide +kernel, by decide +kernel, by decide +kernel⟩⟩
def M_X11_told : m_M := (RX11, yX11_told, cX11_told, 4, some .int, { frames := 2, cells := 0, slots := 0, locals := 45 }, 148, 4732)
theorem t_X11_told : m_mV M_X11_told 1 := ⟨⟨m_inG 1167 (by decide +kernel) rfl, m_inG 1168 (by decide +kernel) rfl⟩, ⟨m_inG 95 (by decide +kernel) rfl, m_inG 1169 (by decide +kernel) rfl⟩, ⟨by decide +kernel, by decide +kernel, by decide +kernel⟩⟩
def M_X11_trade : m_M := (RX11, yX11_trade, cX11_trade, 2, some .int, { frames := 1, cells := 0, slots := 0, locals := 22 }, 148, 4732)
theorem t_X11_trade : m_mV M_X11_trade 1 := ⟨⟨m_inG 1163 (by decide +kernel) rfl, m_inG 1164 (by decide +kernel) rfl⟩, ⟨m_inG 95 (by decide +kernel) rfl, m_inG 1165 (by decide +kernel) rfl⟩, ⟨by decide +kernel, by decide +kernel, by decide +kernel⟩⟩
def M_X11_week : m_M := (RX11, yX11_week, cX11_week, 4, some .int, { frames := 2, cells := 0, slots := 0, locals := 44 }, 148, 4732)
theorem t_X11_week : m_mV M_X11_week 2 := ⟨⟨m_inG 456 (by decide +kernel) rfl, m_inG 457 (by decide +kernel) rfl⟩, ⟨m_inG 95 (by decide +kernel) rfl, m_inG 458 (by decide +kernel) rfl⟩, ⟨by decide +kernel, by decide +kernel, by decide +kernel⟩⟩
def M_X11_when : m_M := (RX11, yX11_when, cX11_when, 5, some .int, { frames := 4, cells := 0, slots := 0, locals := 105 }, 148, 4732)
theorem t_X11_when : m_mV M_X11_when 2 := ⟨⟨m_inG 1111 (by decide +kernel) rfl, m_inG 1112 (by decide +kernel) rfl⟩, ⟨m_inG 95 (by decide +kernel) rfl, m_inG 1113 (by decide +kernel) rfl⟩, ⟨by decide +kernel, by decide +kernel, by decide +kernel⟩⟩
def M_X11_whose : m_M := (RX11, yX11_whose, cX11_whose, 2, some .int, { frames := 5, cells := 0, slots := 0, locals := 129 }, 148, 4732)
theorem t_X11_whose : m_mV M_X11_whose 1 := ⟨⟨m_inG 1069 (by decide +kernel) rfl, m_inG 1070 (by decide +kernel) rfl⟩, ⟨m_inG 95 (by decide +kernel) rfl, m_inG 1071 (by decide +kernel) rfl⟩, ⟨by decide +kernel, by decide +kernel, by decide +kernel⟩⟩
def M_X11_within : m_M := (RX11, yX11_within, cX11_within, 3, some .boolean, { frames := 0, cells := 0, slots := 0, locals := 0 }, 148, 4732)
theorem t_X11_within : m_mS M_X11_within 3 := ⟨m_inG 463 (by decide +kernel) rfl, ⟨m_inG 95 (by decide +kernel) rfl, m_inG 464 (by decide +kernel) rfl⟩, ⟨by decide +kernel, by decide +kernel, by decide +kernel⟩⟩
def M_X11_would : m_M := (RX11, yX11_would, cX11_would, 5, some .int, { frames := 6, cells := 0, slots := 0, locals := 156 }, 148, 4732)
theorem t_X11_would : m_mV M_X11_would 4 := ⟨⟨m_inG 943 (by decide +kernel) rfl, m_inG 944 (by decide +kernel) rfl⟩, ⟨m_inG 95 (by decide +kernel) rfl, m_inG 945 (by decide +kernel) rfl⟩, ⟨by decide +kernel, by decide +kernel, by decide +kernel⟩⟩
def M_X11_wrong : m_M := (RX11, yX11_wrong, cX11_wrong, 2, some .int, { frames := 6, cells := 0, slots := 0, locals := 156 }, 148, 4732)
theorem t_X11_wrong : m_mV M_X11_wrong 1 := ⟨⟨m_inG 1053 (by decide +kernel) rfl, m_inG 1054 (by decide +kernel) rfl⟩, ⟨m_inG 95 (by decide +kernel) rfl, m_inG 1055 (by decide +kernel) rfl⟩, ⟨by decide +kernel, by decide +kernel, by decide +kernel⟩⟩
def M_X11_year : m_M := (RX11, yX11_year, cX11_year, 4, some .int, { frames := 3, cells := 0, slots := 0, locals := 72 }, 148, 4732)
theorem t_X11_year : m_mV M_X11_year 3 := ⟨⟨m_inG 1144 (by decide +kernel) rfl, m_inG 1145 (by decide +kernel) rfl⟩, ⟨m_inG 95 (by decide +kernel) rfl, m_inG 1146 (by decide +kernel) rfl⟩, ⟨by decide +kernel, by decide +kernel, by decide +kernel⟩⟩
def M_X12_act : m_M := (RX12, yX12_act, cX12_act, 7, none, { frames := 0, cells := 0, slots := 0, locals := 0 }, 148, 4732)
theorem t_X12_act : m_mV M_X12_act 5 := ⟨⟨m_inG 1548 (by decide +kernel) rfl, m_inG 54 (by decide +kernel) rfl⟩, ⟨m_inG 109 (by decide +kernel) rfl, m_inG 1549 (by decide +kernel) rfl⟩, ⟨by decide +kernel, by decide +kernel, by decide +kernel⟩⟩
def M_X12_addEntry : m_M := (RX12, yX12_addEntry, cX12_addEntry, 6, none, { frames := 0, cells := 0, slots := 0, locals := 0 }, 148, 4732)
theorem t_X12_addEntry : m_mV M_X12_addEntry 4 := ⟨⟨m_inG 1453 (by decide +kernel) rfl, m_inG 42 (by decide +kernel) rfl⟩, ⟨m_inG 109 (by decide +kernel) rfl, m_inG 1454 (by decide +kernel) rfl⟩, ⟨by decide +kernel, by decide +kernel, by decide +kernel⟩⟩
def M_X12_addFactor : m_M := (RX12, yX12_addFactor, cX12_addFactor, 6, none, { frames := 0, cells := 0, slots := 0, locals := 0 }, 148, 4732)
theorem t_X12_addFactor : m_mV M_X12_addFactor 0 := ⟨⟨m_inG 1750 (by decide +kernel) rfl, m_inG 85 (by decide +kernel) rfl⟩, ⟨m_inG 109 (by decide +kernel) rfl, m_inG 1751 (by decide +kernel) rfl⟩, ⟨by decide +kernel, by decide +kernel, by decide +kernel⟩⟩
def M_X12_addShorter : m_M := (RX12, yX12_addShorter, cX12_addShorter, 3, none, { frames := 0, cells := 0, slots := 0, locals := 0 }, 148, 4732)
theorem t_X12_addShorter : m_mV M_X12_addShorter 2 := ⟨⟨m_inG 1440 (by decide +kernel) rfl, m_inG 41 (by decide +kernel) rfl⟩, ⟨m_inG 109 (by decide +kernel) rfl, m_inG 1441 (by decide +kernel) rfl⟩, ⟨by decide +kernel, by decide +kernel, by decide +kernel⟩⟩
def M_X12_answer : m_M := (RX12, yX12_answer, cX12_answer, 2, some .int, { frames := 0, cells := 0, slots := 0, locals := 0 }, 148, 4732)
theorem t_X12_answer : m_mV M_X12_answer 1 := ⟨⟨m_inG 1395 (by decide +kernel) rfl, m_inG 37 (by decide +kernel) rfl⟩, ⟨m_inG 109 (by decide +kernel) rfl, m_inG 1396 (by decide +kernel) rfl⟩, ⟨by decide +kernel, by decide +kernel, by decide +kernel⟩⟩
def M_X12_area : m_M := (RX12, yX12_area, cX12_area, 6, some .int, { frames := 6, cells := 0, slots := 0, locals := 162 }, 148, 4732)
theorem t_X12_area : m_mV M_X12_area 4 := ⟨⟨m_inG 1764 (by decide +kernel) rfl, m_inG 1765 (by decide +kernel) rfl⟩, ⟨m_inG 109 (by decide +kernel) rfl, m_inG 1766 (by decide +kernel) rfl⟩, ⟨by decide +kernel, by decide +kernel, by decide +kernel⟩⟩
def M_X12_asIs : m_M := (RX12, yX12_asIs, cX12_asIs, 2, none, { frames := 0, cells := 0, slots := 0, locals := 0 }, 148, 4732)
theorem t_X12_asIs : m_mV M_X12_asIs 0 := ⟨⟨m_inG 1594 (by decide +kernel) rfl, m_inG 62 (by decide +kernel) rfl⟩, ⟨m_inG 109 (by decide +kernel) rfl, m_inG 1595 (by decide +kernel) rfl⟩, ⟨by decide +kernel, by decide +kernel, by decide +kernel⟩⟩
def M_X12_ask : m_M := (RX12, yX12_ask, cX12_ask, 7, some .int, { frames := 5, cells := 0, slots := 0, locals := 131 }, 148, 4732)
theorem t_X12_ask : m_mV M_X12_ask 1 := ⟨⟨m_inG 1711 (by decide +kernel) rfl, m_inG 1712 (by decide +kernel) rfl⟩, ⟨m_inG 109 (by decide +kernel) rfl, m_inG 1713 (by decide +kernel) rfl⟩, ⟨by decide +kernel, by decide +kernel, by decide +kernel⟩⟩
def M_X12_back : m_M := (RX12, yX12_back, cX12_back, 3, some .int, { frames := 1, cells := 0, slots := 0, locals := 25 }, 148, 4732)
theorem t_X12_back : m_mV M_X12_back 1 := ⟨⟨m_inG 1398 (by decide +kernel) rfl, m_inG 1399 (by decide +kernel) rfl⟩, ⟨m_inG 109 (by decide +kernel) rfl, m_inG 1400 (by decide +kernel) rfl⟩, ⟨by decide +kernel, by decide +kernel, by decide +kernel⟩⟩
def M_X12_begin : m_M := (RX12, yX12_begin, cX12_begin, 1, none, { frames := 2, cells := 0, slots := 0, locals := 40 }, 148, 4732)
theorem t_X12_begin : m_mV M_X12_begin 0 := ⟨⟨m_inG 1505 (by decide +kernel) rfl, m_inG 47 (by decide +kernel) rfl⟩, ⟨m_inG 109 (by decide +kernel) rfl, m_inG 1506 (by decide +kernel) rfl⟩, ⟨by decide +kernel, by decide +kernel, by decide +kernel⟩⟩
def M_X12_beside : m_M := (RX12, yX12_beside, cX12_beside, 5, some .int, { frames := 1, cells := 0, slots := 0, locals := 29 }, 148, 4732)
theorem t_X12_beside : m_mV M_X12_beside 3 := ⟨⟨m_inG 1700 (by decide +kernel) rfl, m_inG 80 (by decide +kernel) rfl⟩, ⟨m_inG 109 (by decide +kernel) rfl, m_inG 1701 (by decide +kernel) rfl⟩, ⟨by decide +kernel, by decide +kernel, by decide +kernel⟩⟩
def M_X12_besideOne : m_M := (RX12, yX12_besideOne, cX12_besideOne, 4, some .int, { frames := 4, cells := 0, slots := 0, locals := 107 }, 148, 4732)
theorem t_X12_besideOne : m_mV M_X12_besideOne 2 := ⟨⟨m_inG 1676 (by decide +kernel) rfl, m_inG 76 (by decide +kernel) rfl⟩, ⟨m_inG 109 (by decide +kernel) rfl, m_inG 1677 (by decide +kernel) rfl⟩, ⟨by decide +kernel, by decide +kernel, by decide +kernel⟩⟩
def M_X12_besideTen : m_M := (RX12, yX12_besideTen, cX12_besideTen, 3, some .int, { frames := 0, cells := 0, slots := 0, locals := 0 }, 148, 4732)
theorem t_X12_besideTen : m_mS M_X12_besideTen 2 := ⟨m_inG 1761 (by decide +kernel) rfl, ⟨m_inG 109 (by decide +kernel) rfl, m_inG 1762 (by decide +kernel) rfl⟩, ⟨by decide +kernel, by decide +kernel, by decide +kernel⟩⟩
def M_X12_between : m_M := (RX12, yX12_between, cX12_between, 6, some .int, { frames := 6, cells := 0, slots := 0, locals := 152 }, 148, 4732)
theorem t_X12_between : m_mV M_X12_between 3 := ⟨⟨m_inG 1643 (by decide +kernel) rfl, m_inG 1644 (by decide +kernel) rfl⟩, ⟨m_inG 109 (by decide +kernel) rfl, m_inG 1645 (by decide +kernel) rfl⟩, ⟨by decide +kernel, by decide +kernel, by decide +kernel⟩⟩
def M_X12_bits : m_M := (RX12, yX12_bits, cX12_bits, 3, some .int, { frames := 0, cells := 0, slots := 0, locals := 0 }, 148, 4732)
theorem t_X12_bits : m_mS M_X12_bits 1 := ⟨m_inG 1855 (by decide +kernel) rfl, ⟨m_inG 109 (by decide +kernel) rfl, m_inG 1856 (by decide +kernel) rfl⟩, ⟨by decide +kernel, by decide +kernel, by decide +kernel⟩⟩
def M_X12_blurred : m_M := (RX12, yX12_blurred, cX12_blurred, 1, some .int, { frames := 0, cells := 0, slots := 0, locals := 0 }, 148, 4732)
theorem t_X12_blurred : m_mV M_X12_blurred 0 := ⟨⟨m_inG 1480 (by decide +kernel) rfl, m_inG 1481 (by decide +kernel) rfl⟩, ⟨m_inG 109 (by decide +kernel) rfl, m_inG 1482 (by decide +kernel) rfl⟩, ⟨by decide +kernel, by decide +kernel, by decide +kernel⟩⟩
def M_X12_book : m_M := (RX12, yX12_book, cX12_book, 3, some .int, { frames := 7, cells := 0, slots := 0, locals := 151 }, 148, 4732)
theorem t_X12_book : m_mV M_X12_book 0 := ⟨⟨m_inG 1500 (by decide +kernel) rfl, m_inG 1501 (by decide +kernel) rfl⟩, ⟨m_inG 109 (by decide +kernel) rfl, m_inG 1502 (by decide +kernel) rfl⟩, ⟨by decide +kernel, by decide +kernel, by decide +kernel⟩⟩
def M_X12_build : m_M := (RX12, yX12_build, cX12_build, 11, none, { frames := 1, cells := 0, slots := 0, locals := 25 }, 148, 4732)
theorem t_X12_build : m_mV M_X12_build 1 := ⟨⟨m_inG 1606 (by decide +kernel) rfl, m_inG 65 (by decide +kernel) rfl⟩, ⟨m_inG 109 (by decide +kernel) rfl, m_inG 1607 (by decide +kernel) rfl⟩, ⟨by decide +kernel, by decide +kernel, by decide +kernel⟩⟩
def M_X12_canBe : m_M := (RX12, yX12_canBe, cX12_canBe, 6, some .boolean, { frames := 3, cells := 0, slots := 0, locals := 85 }, 148, 4732)
theorem t_X12_canBe : m_mV M_X12_canBe 1 := ⟨⟨m_inG 1602 (by decide +kernel) rfl, m_inG 64 (by decide +kernel) rfl⟩, ⟨m_inG 109 (by decide +kernel) rfl, m_inG 1603 (by decide +kernel) rfl⟩, ⟨by decide +kernel, by decide +kernel, by decide +kernel⟩⟩
def M_X12_canBeNow : m_M := (RX12, yX12_canBeNow, cX12_canBeNow, 1, some .boolean, { frames := 4, cells := 0, slots := 0, locals := 110 }, 148, 4732)
theorem t_X12_canBeNow : m_mV M_X12_canBeNow 0 := ⟨⟨m_inG 1590 (by decide +kernel) rfl, m_inG 61 (by decide +kernel) rfl⟩, ⟨m_inG 109 (by decide +kernel) rfl, m_inG 1591 (by decide +kernel) rfl⟩, ⟨by decide +kernel, by decide +kernel, by decide +kernel⟩⟩
def M_X12_canEnter : m_M := (RX12, yX12_canEnter, cX12_canEnter, 4, some .boolean, { frames := 2, cells := 0, slots := 0, locals := 45 }, 148, 4732)
theorem t_X12_canEnter : m_mS M_X12_canEnter 4 := ⟨m_inG 1447 (by decide +kernel) rfl, ⟨m_inG 109 (by decide +kernel) rfl, m_inG 1448 (by decide +kernel) rfl⟩, ⟨by decide +kernel, by decide +kernel, by decide +kernel⟩⟩
def M_X12_change : m_M := (RX12, yX12_change, cX12_change, 4, some .int, { frames := 1, cells := 0, slots := 0, locals := 21 }, 148, 4732)
theorem t_X12_change : m_mV M_X12_change 2 := ⟨⟨m_inG 1413 (by decide +kernel) rfl, m_inG 38 (by decide +kernel) rfl⟩, ⟨m_inG 109 (by decide +kernel) rfl, m_inG 1414 (by decide +kernel) rfl⟩, ⟨by decide +kernel, by decide +kernel, by decide +kernel⟩⟩
def M_X12_common : m_M := (RX12, yX12_common, cX12_common, 10, some .long, { frames := 0, cells := 0, slots := 0, locals := 0 }, 148, 4732)
theorem t_X12_common : m_mS M_X12_common 2 := ⟨m_inG 1727 (by decide +kernel) rfl, ⟨m_inG 109 (by decide +kernel) rfl, m_inG 1728 (by decide +kernel) rfl⟩, ⟨by decide +kernel, by decide +kernel, by decide +kernel⟩⟩
def M_X12_compare : m_M := (RX12, yX12_compare, cX12_compare, 8, some .int, { frames := 1, cells := 0, slots := 0, locals := 30 }, 148, 4732)
theorem t_X12_compare : m_mV M_X12_compare 6 := ⟨⟨m_inG 1633 (by decide +kernel) rfl, m_inG 70 (by decide +kernel) rfl⟩, ⟨m_inG 109 (by decide +kernel) rfl, m_inG 1634 (by decide +kernel) rfl⟩, ⟨by decide +kernel, by decide +kernel, by decide +kernel⟩⟩
def M_X12_copyTen : m_M := (RX12, yX12_copyTen, cX12_copyTen, 3, none, { frames := 0, cells := 0, slots := 0, locals := 0 }, 148, 4732)
theorem t_X12_copyTen : m_mV M_X12_copyTen 1 := ⟨⟨m_inG 1758 (by decide +kernel) rfl, m_inG 87 (by decide +kernel) rfl⟩, ⟨m_inG 109 (by decide +kernel) rfl, m_inG 1759 (by decide +kernel) rfl⟩, ⟨by decide +kernel, by decide +kernel, by decide +kernel⟩⟩
def M_X12_core : m_M := (RX12, yX12_core, cX12_core, 3, some .int, { frames := 4, cells := 0, slots := 0, locals := 110 }, 148, 4732)
theorem t_X12_core : m_mV M_X12_core 0 := ⟨⟨m_inG 1781 (by decide +kernel) rfl, m_inG 1782 (by decide +kernel) rfl⟩, ⟨m_inG 109 (by decide +kernel) rfl, m_inG 1783 (by decide +kernel) rfl⟩, ⟨by decide +kernel, by decide +kernel, by decide +kernel⟩⟩
def M_X12_could : m_M := (RX12, yX12_could, cX12_could, 4, some .int, { frames := 5, cells := 0, slots := 0, locals := 135 }, 148, 4732)
theorem t_X12_could : m_mV M_X12_could 2 := ⟨⟨m_inG 1805 (by decide +kernel) rfl, m_inG 1806 (by decide +kernel) rfl⟩, ⟨m_inG 109 (by decide +kernel) rfl, m_inG 1807 (by decide +kernel) rfl⟩, ⟨by decide +kernel, by decide +kernel, by decide +kernel⟩⟩
def M_X12_count : m_M := (RX12, yX12_count, cX12_count, 5, some .int, { frames := 2, cells := 0, slots := 0, locals := 44 }, 148, 4732)
theorem t_X12_count : m_mV M_X12_count 1 := ⟨⟨m_inG 1851 (by decide +kernel) rfl, m_inG 1852 (by decide +kernel) rfl⟩, ⟨m_inG 109 (by decide +kernel) rfl, m_inG 1853 (by decide +kernel) rfl⟩, ⟨by decide +kernel, by decide +kernel, by decide +kernel⟩⟩
def M_X12_counting : m_M := (RX12, yX12_counting, cX12_counting, 3, some .int, { frames := 1, cells := 0, slots := 0, locals := 22 }, 148, 4732)
theorem t_X12_counting : m_mV M_X12_counting 0 := ⟨⟨m_inG 1598 (by decide +kernel) rfl, m_inG 63 (by decide +kernel) rfl⟩, ⟨m_inG 109 (by decide +kernel) rfl, m_inG 1599 (by decide +kernel) rfl⟩, ⟨by decide +kernel, by decide +kernel, by decide +kernel⟩⟩
def M_X12_counts : m_M := (RX12, yX12_counts, cX12_counts, 3, some .int, { frames := 2, cells := 0, slots := 0, locals := 46 }, 148, 4732)
theorem t_X12_counts : m_mV M_X12_counts 2 := ⟨⟨m_inG 1456 (by decide +kernel) rfl, m_inG 1457 (by decide +kernel) rfl⟩, ⟨m_inG 109 (by decide +kernel) rfl, m_inG 1458 (by decide +kernel) rfl⟩, ⟨by decide +kernel, by decide +kernel, by decide +kernel⟩⟩
def M_X12_cut : m_M := (RX12, yX12_cut, cX12_cut, 3, some .int, { frames := 2, cells := 0, slots := 0, locals := 45 }, 148, 4732)
theorem t_X12_cut : m_mV M_X12_cut 2 := ⟨⟨m_inG 1420 (by decide +kernel) rfl, m_inG 1421 (by decide +kernel) rfl⟩, ⟨m_inG 109 (by decide +kernel) rfl, m_inG 1422 (by decide +kernel) rfl⟩, ⟨by decide +kernel, by decide +kernel, by decide +kernel⟩⟩
def M_X12_dates : m_M := (RX12, yX12_dates, cX12_dates, 10, some .int, { frames := 5, cells := 0, slots := 0, locals := 131 }, 148, 4732)
theorem t_X12_dates : m_mV M_X12_dates 4 := ⟨⟨m_inG 1715 (by decide +kernel) rfl, m_inG 1716 (by decide +kernel) rfl⟩, ⟨m_inG 109 (by decide +kernel) rfl, m_inG 1717 (by decide +kernel) rfl⟩, ⟨by decide +kernel, by decide +kernel, by decide +kernel⟩⟩
def M_X12_doAct : m_M := (RX12, yX12_doAct, cX12_doAct, 3, none, { frames := 1, cells := 0, slots := 0, locals := 25 }, 148, 4732)
theorem t_X12_doAct : m_mV M_X12_doAct 1 := ⟨⟨m_inG 1582 (by decide +kernel) rfl, m_inG 60 (by decide +kernel) rfl⟩, ⟨m_inG 109 (by decide +kernel) rfl, m_inG 1583 (by decide +kernel) rfl⟩, ⟨by decide +kernel, by decide +kernel, by decide +kernel⟩⟩
def M_X12_edge : m_M := (RX12, yX12_edge, cX12_edge, 6, none, { frames := 0, cells := 0, slots := 0, locals := 0 }, 148, 4732)
theorem t_X12_edge : m_mV M_X12_edge 5 := ⟨⟨m_inG 1613 (by decide +kernel) rfl, m_inG 66 (by decide +kernel) rfl⟩, ⟨m_inG 109 (by decide +kernel) rfl, m_inG 1614 (by decide +kernel) rfl⟩, ⟨by decide +kernel, by decide +kernel, by decide +kernel⟩⟩
def M_X12_end : m_M := (RX12, yX12_end, cX12_end, 2, some .int, { frames := 0, cells := 0, slots := 0, locals := 0 }, 148, 4732)
theorem t_X12_end : m_mV M_X12_end 1 := ⟨⟨m_inG 1492 (by decide +kernel) rfl, m_inG 1493 (by decide +kernel) rfl⟩, ⟨m_inG 109 (by decide +kernel) rfl, m_inG 1494 (by decide +kernel) rfl⟩, ⟨by decide +kernel, by decide +kernel, by decide +kernel⟩⟩
def M_X12_entry : m_M := (RX12, yX12_entry, cX12_entry, 5, some .int, { frames := 3, cells := 0, slots := 0, locals := 68 }, 148, 4732)
theorem t_X12_entry : m_mV M_X12_entry 4 := ⟨⟨m_inG 1443 (by decide +kernel) rfl, m_inG 1444 (by decide +kernel) rfl⟩, ⟨m_inG 109 (by decide +kernel) rfl, m_inG 1445 (by decide +kernel) rfl⟩, ⟨by decide +kernel, by decide +kernel, by decide +kernel⟩⟩
def M_X12_fault : m_M := (RX12, yX12_fault, cX12_fault, 1, some .int, { frames := 0, cells := 0, slots := 0, locals := 0 }, 148, 4732)
theorem t_X12_fault : m_mV M_X12_fault 0 := ⟨⟨m_inG 1496 (by decide +kernel) rfl, m_inG 1497 (by decide +kernel) rfl⟩, ⟨m_inG 109 (by decide +kernel) rfl, m_inG 1498 (by decide +kernel) rfl⟩, ⟨by decide +kernel, by decide +kernel, by decide +kernel⟩⟩
def M_X12_feed : m_M := (RX12, yX12_feed, cX12_feed, 6, some .int, { frames := 1, cells := 0, slots := 0, locals := 22 }, 148, 4732)
theorem t_X12_feed : m_mV M_X12_feed 5 := ⟨⟨m_inG 1484 (by decide +kernel) rfl, m_inG 1485 (by decide +kernel) rfl⟩, ⟨m_inG 109 (by decide +kernel) rfl, m_inG 1486 (by decide +kernel) rfl⟩, ⟨by decide +kernel, by decide +kernel, by decide +kernel⟩⟩
def M_X12_feet : m_M := (RX12, yX12_feet, cX12_feet, 8, some .int, { frames := 6, cells := 0, slots := 0, locals := 152 }, 148, 4732)
theorem t_X12_feet : m_mV M_X12_feet 3 := ⟨⟨m_inG 1679 (by decide +kernel) rfl, m_inG 1680 (by decide +kernel) rfl⟩, ⟨m_inG 109 (by decide +kernel) rfl, m_inG 1681 (by decide +kernel) rfl⟩, ⟨by decide +kernel, by decide +kernel, by decide +kernel⟩⟩
def M_X12_feetOf : m_M := (RX12, yX12_feetOf, cX12_feetOf, 3, some .int, { frames := 0, cells := 0, slots := 0, locals := 0 }, 148, 4732)
theorem t_X12_feetOf : m_mV M_X12_feetOf 2 := ⟨⟨m_inG 1839 (by decide +kernel) rfl, m_inG 93 (by decide +kernel) rfl⟩, ⟨m_inG 109 (by decide +kernel) rfl, m_inG 1840 (by decide +kernel) rfl⟩, ⟨by decide +kernel, by decide +kernel, by decide +kernel⟩⟩
def M_X12_findAsked : m_M := (RX12, yX12_findAsked, cX12_findAsked, 4, some .boolean, { frames := 1, cells := 0, slots := 0, locals := 22 }, 148, 4732)
theorem t_X12_findAsked : m_mV M_X12_findAsked 0 := ⟨⟨m_inG 1794 (by decide +kernel) rfl, m_inG 89 (by decide +kernel) rfl⟩, ⟨m_inG 109 (by decide +kernel) rfl, m_inG 1795 (by decide +kernel) rfl⟩, ⟨by decide +kernel, by decide +kernel, by decide +kernel⟩⟩
def M_X12_findEnds : m_M := (RX12, yX12_findEnds, cX12_findEnds, 5, none, { frames := 4, cells := 0, slots := 0, locals := 107 }, 148, 4732)
theorem t_X12_findEnds : m_mV M_X12_findEnds 2 := ⟨⟨m_inG 1692 (by decide +kernel) rfl, m_inG 78 (by decide +kernel) rfl⟩, ⟨m_inG 109 (by decide +kernel) rfl, m_inG 1693 (by decide +kernel) rfl⟩, ⟨by decide +kernel, by decide +kernel, by decide +kernel⟩⟩
def M_X12_findGroups : m_M := (RX12, yX12_findGroups, cX12_findGroups, 6, none, { frames := 2, cells := 0, slots := 0, locals := 55 }, 148, 4732)
theorem t_X12_findGroups : m_mV M_X12_findGroups 0 := ⟨⟨m_inG 1774 (by decide +kernel) rfl, m_inG 88 (by decide +kernel) rfl⟩, ⟨m_inG 109 (by decide +kernel) rfl, m_inG 1775 (by decide +kernel) rfl⟩, ⟨by decide +kernel, by decide +kernel, by decide +kernel⟩⟩
def M_X12_fits : m_M := (RX12, yX12_fits, cX12_fits, 1, some .int, { frames := 5, cells := 0, slots := 0, locals := 130 }, 148, 4732)
theorem t_X12_fits : m_mV M_X12_fits 0 := ⟨⟨m_inG 1585 (by decide +kernel) rfl, m_inG 1586 (by decide +kernel) rfl⟩, ⟨m_inG 109 (by decide +kernel) rfl, m_inG 1587 (by decide +kernel) rfl⟩, ⟨by decide +kernel, by decide +kernel, by decide +kernel⟩⟩
def M_X12_four : m_M := (RX12, yX12_four, cX12_four, 3, none, { frames := 0, cells := 0, slots := 0, locals := 0 }, 148, 4732)
theorem t_X12_four : m_mV M_X12_four 1 := ⟨⟨m_inG 1489 (by decide +kernel) rfl, m_inG 46 (by decide +kernel) rfl⟩, ⟨m_inG 109 (by decide +kernel) rfl, m_inG 1490 (by decide +kernel) rfl⟩, ⟨by decide +kernel, by decide +kernel, by decide +kernel⟩⟩
def M_X12_goFrom : m_M := (RX12, yX12_goFrom, cX12_goFrom, 3, none, { frames := 3, cells := 0, slots := 0, locals := 85 }, 148, 4732)
theorem t_X12_goFrom : m_mV M_X12_goFrom 1 := ⟨⟨m_inG 1659 (by decide +kernel) rfl, m_inG 74 (by decide +kernel) rfl⟩, ⟨m_inG 109 (by decide +kernel) rfl, m_inG 1660 (by decide +kernel) rfl⟩, ⟨by decide +kernel, by decide +kernel, by decide +kernel⟩⟩
def M_X12_groups : m_M := (RX12, yX12_groups, cX12_groups, 7, some .int, { frames := 3, cells := 0, slots := 0, locals := 80 }, 148, 4732)
theorem t_X12_groups : m_mV M_X12_groups 1 := ⟨⟨m_inG 1777 (by decide +kernel) rfl, m_inG 1778 (by decide +kernel) rfl⟩, ⟨m_inG 109 (by decide +kernel) rfl, m_inG 1779 (by decide +kernel) rfl⟩, ⟨by decide +kernel, by decide +kernel, by decide +kernel⟩⟩
def M_X12_image : m_M := (RX12, yX12_image, cX12_image, 3, some .int, { frames := 1, cells := 0, slots := 0, locals := 25 }, 148, 4732)
theorem t_X12_image : m_mV M_X12_image 1 := ⟨⟨m_inG 1387 (by decide +kernel) rfl, m_inG 1388 (by decide +kernel) rfl⟩, ⟨m_inG 109 (by decide +kernel) rfl, m_inG 1389 (by decide +kernel) rfl⟩, ⟨by decide +kernel, by decide +kernel, by decide +kernel⟩⟩
def M_X12_in : m_M := (RX12, yX12_in, cX12_in, 6, some .boolean, { frames := 0, cells := 0, slots := 0, locals := 0 }, 148, 4732)
theorem t_X12_in : m_mS M_X12_in 3 := ⟨m_inG 1391 (by decide +kernel) rfl, ⟨m_inG 109 (by decide +kernel) rfl, m_inG 1392 (by decide +kernel) rfl⟩, ⟨by decide +kernel, by decide +kernel, by decide +kernel⟩⟩
def M_X12_is : m_M := (RX12, yX12_is, cX12_is, 2, some .boolean, { frames := 0, cells := 0, slots := 0, locals := 0 }, 148, 4732)
theorem t_X12_is : m_mS M_X12_is 2 := ⟨m_inG 1609 (by decide +kernel) rfl, ⟨m_inG 109 (by decide +kernel) rfl, m_inG 1610 (by decide +kernel) rfl⟩, ⟨by decide +kernel, by decide +kernel, by decide +kernel⟩⟩
def M_X12_isAnswered : m_M := (RX12, yX12_isAnswered, cX12_isAnswered, 3, some .boolean, { frames := 5, cells := 0, slots := 0, locals := 130 }, 148, 4732)
theorem t_X12_isAnswered : m_mV M_X12_isAnswered 2 := ⟨⟨m_inG 1648 (by decide +kernel) rfl, m_inG 72 (by decide +kernel) rfl⟩, ⟨m_inG 109 (by decide +kernel) rfl, m_inG 1649 (by decide +kernel) rfl⟩, ⟨by decide +kernel, by decide +kernel, by decide +kernel⟩⟩
def M_X12_isAsked : m_M := (RX12, yX12_isAsked, cX12_isAsked, 3, some .boolean, { frames := 6, cells := 0, slots := 0, locals := 152 }, 148, 4732)
theorem t_X12_isAsked : m_mV M_X12_isAsked 2 := ⟨⟨m_inG 1688 (by decide +kernel) rfl, m_inG 77 (by decide +kernel) rfl⟩, ⟨m_inG 109 (by decide +kernel) rfl, m_inG 1689 (by decide +kernel) rfl⟩, ⟨by decide +kernel, by decide +kernel, by decide +kernel⟩⟩
def M_X12_isDigit : m_M := (RX12, yX12_isDigit, cX12_isDigit, 1, some .boolean, { frames := 0, cells := 0, slots := 0, locals := 0 }, 148, 4732)
theorem t_X12_isDigit : m_mS M_X12_isDigit 1 := ⟨m_inG 1515 (by decide +kernel) rfl, ⟨m_inG 109 (by decide +kernel) rfl, m_inG 1516 (by decide +kernel) rfl⟩, ⟨by decide +kernel, by decide +kernel, by decide +kernel⟩⟩
def M_X12_isDrafted : m_M := (RX12, yX12_isDrafted, cX12_isDrafted, 5, some .boolean, { frames := 1, cells := 0, slots := 0, locals := 23 }, 148, 4732)
theorem t_X12_isDrafted : m_mV M_X12_isDrafted 2 := ⟨⟨m_inG 1558 (by decide +kernel) rfl, m_inG 56 (by decide +kernel) rfl⟩, ⟨m_inG 109 (by decide +kernel) rfl, m_inG 1559 (by decide +kernel) rfl⟩, ⟨by decide +kernel, by decide +kernel, by decide +kernel⟩⟩
def M_X12_isEntry : m_M := (RX12, yX12_isEntry, cX12_isEntry, 2, some .boolean, { frames := 1, cells := 0, slots := 0, locals := 25 }, 148, 4732)
theorem t_X12_isEntry : m_mV M_X12_isEntry 1 := ⟨⟨m_inG 1461 (by decide +kernel) rfl, m_inG 43 (by decide +kernel) rfl⟩, ⟨m_inG 109 (by decide +kernel) rfl, m_inG 1462 (by decide +kernel) rfl⟩, ⟨by decide +kernel, by decide +kernel, by decide +kernel⟩⟩
def M_X12_isGround : m_M := (RX12, yX12_isGround, cX12_isGround, 1, some .boolean, { frames := 1, cells := 0, slots := 0, locals := 25 }, 148, 4732)
theorem t_X12_isGround : m_mS M_X12_isGround 1 := ⟨m_inG 1734 (by decide +kernel) rfl, ⟨m_inG 109 (by decide +kernel) rfl, m_inG 1735 (by decide +kernel) rfl⟩, ⟨by decide +kernel, by decide +kernel, by decide +kernel⟩⟩
def M_X12_isKeeper : m_M := (RX12, yX12_isKeeper, cX12_isKeeper, 1, some .boolean, { frames := 1, cells := 0, slots := 0, locals := 25 }, 148, 4732)
theorem t_X12_isKeeper : m_mS M_X12_isKeeper 1 := ⟨m_inG 1432 (by decide +kernel) rfl, ⟨m_inG 109 (by decide +kernel) rfl, m_inG 1433 (by decide +kernel) rfl⟩, ⟨by decide +kernel, by decide +kernel, by decide +kernel⟩⟩
def M_X12_isLength : m_M := (RX12, yX12_isLength, cX12_isLength, 2, some .boolean, { frames := 1, cells := 0, slots := 0, locals := 25 }, 148, 4732)
theorem t_X12_isLength : m_mV M_X12_isLength 1 := ⟨⟨m_inG 1652 (by decide +kernel) rfl, m_inG 73 (by decide +kernel) rfl⟩, ⟨m_inG 109 (by decide +kernel) rfl, m_inG 1653 (by decide +kernel) rfl⟩, ⟨by decide +kernel, by decide +kernel, by decide +kernel⟩⟩
def M_X12_isShorter : m_M := (RX12, yX12_isShorter, cX12_isShorter, 4, some .boolean, { frames := 0, cells := 0, slots := 0, locals := 0 }, 148, 4732)
theorem t_X12_isShorter : m_mV M_X12_isShorter 2 := ⟨⟨m_inG 1436 (by decide +kernel) rfl, m_inG 40 (by decide +kernel) rfl⟩, ⟨m_inG 109 (by decide +kernel) rfl, m_inG 1437 (by decide +kernel) rfl⟩, ⟨by decide +kernel, by decide +kernel, by decide +kernel⟩⟩
def M_X12_isSign : m_M := (RX12, yX12_isSign, cX12_isSign, 2, some .boolean, { frames := 0, cells := 0, slots := 0, locals := 0 }, 148, 4732)
theorem t_X12_isSign : m_mV M_X12_isSign 1 := ⟨⟨m_inG 1578 (by decide +kernel) rfl, m_inG 59 (by decide +kernel) rfl⟩, ⟨m_inG 109 (by decide +kernel) rfl, m_inG 1579 (by decide +kernel) rfl⟩, ⟨by decide +kernel, by decide +kernel, by decide +kernel⟩⟩
def M_X12_isSmall : m_M := (RX12, yX12_isSmall, cX12_isSmall, 1, some .boolean, { frames := 0, cells := 0, slots := 0, locals := 0 }, 148, 4732)
theorem t_X12_isSmall : m_mS M_X12_isSmall 1 := ⟨m_inG 1512 (by decide +kernel) rfl, ⟨m_inG 109 (by decide +kernel) rfl, m_inG 1513 (by decide +kernel) rfl⟩, ⟨by decide +kernel, by decide +kernel, by decide +kernel⟩⟩
def M_X12_isSo : m_M := (RX12, yX12_isSo, cX12_isSo, 5, some .boolean, { frames := 2, cells := 0, slots := 0, locals := 44 }, 148, 4732)
theorem t_X12_isSo : m_mV M_X12_isSo 1 := ⟨⟨m_inG 1827 (by decide +kernel) rfl, m_inG 92 (by decide +kernel) rfl⟩, ⟨m_inG 109 (by decide +kernel) rfl, m_inG 1828 (by decide +kernel) rfl⟩, ⟨by decide +kernel, by decide +kernel, by decide +kernel⟩⟩
def M_X12_isThing : m_M := (RX12, yX12_isThing, cX12_isThing, 1, some .boolean, { frames := 1, cells := 0, slots := 0, locals := 25 }, 148, 4732)
theorem t_X12_isThing : m_mS M_X12_isThing 1 := ⟨m_inG 1424 (by decide +kernel) rfl, ⟨m_inG 109 (by decide +kernel) rfl, m_inG 1425 (by decide +kernel) rfl⟩, ⟨by decide +kernel, by decide +kernel, by decide +kernel⟩⟩
def M_X12_isTight : m_M := (RX12, yX12_isTight, cX12_isTight, 2, some .boolean, { frames := 2, cells := 0, slots := 0, locals := 57 }, 148, 4732)
theorem t_X12_isTight : m_mV M_X12_isTight 1 := ⟨⟨m_inG 1640 (by decide +kernel) rfl, m_inG 71 (by decide +kernel) rfl⟩, ⟨m_inG 109 (by decide +kernel) rfl, m_inG 1641 (by decide +kernel) rfl⟩, ⟨by decide +kernel, by decide +kernel, by decide +kernel⟩⟩
def M_X12_isWeek : m_M := (RX12, yX12_isWeek, cX12_isWeek, 1, some .boolean, { frames := 1, cells := 0, slots := 0, locals := 25 }, 148, 4732)
theorem t_X12_isWeek : m_mS M_X12_isWeek 1 := ⟨m_inG 1406 (by decide +kernel) rfl, ⟨m_inG 109 (by decide +kernel) rfl, m_inG 1407 (by decide +kernel) rfl⟩, ⟨by decide +kernel, by decide +kernel, by decide +kernel⟩⟩
def M_X12_isWord : m_M := (RX12, yX12_isWord, cX12_isWord, 3, some .boolean, { frames := 0, cells := 0, slots := 0, locals := 0 }, 148, 4732)
theorem t_X12_isWord : m_mV M_X12_isWord 1 := ⟨⟨m_inG 1529 (by decide +kernel) rfl, m_inG 50 (by decide +kernel) rfl⟩, ⟨m_inG 109 (by decide +kernel) rfl, m_inG 1530 (by decide +kernel) rfl⟩, ⟨by decide +kernel, by decide +kernel, by decide +kernel⟩⟩
def M_X12_joined : m_M := (RX12, yX12_joined, cX12_joined, 3, some .int, { frames := 3, cells := 0, slots := 0, locals := 80 }, 148, 4732)
theorem t_X12_joined : m_mV M_X12_joined 2 := ⟨⟨m_inG 1769 (by decide +kernel) rfl, m_inG 1770 (by decide +kernel) rfl⟩, ⟨m_inG 109 (by decide +kernel) rfl, m_inG 1771 (by decide +kernel) rfl⟩, ⟨by decide +kernel, by decide +kernel, by decide +kernel⟩⟩
def M_X12_judge : m_M := (RX12, yX12_judge, cX12_judge, 6, some .int, { frames := 3, cells := 0, slots := 0, locals := 68 }, 148, 4732)
theorem t_X12_judge : m_mV M_X12_judge 1 := ⟨⟨m_inG 1822 (by decide +kernel) rfl, m_inG 1823 (by decide +kernel) rfl⟩, ⟨m_inG 109 (by decide +kernel) rfl, m_inG 1824 (by decide +kernel) rfl⟩, ⟨by decide +kernel, by decide +kernel, by decide +kernel⟩⟩
def M_X12_keep : m_M := (RX12, yX12_keep, cX12_keep, 3, none, { frames := 0, cells := 0, slots := 0, locals := 0 }, 148, 4732)
theorem t_X12_keep : m_mV M_X12_keep 1 := ⟨⟨m_inG 1625 (by decide +kernel) rfl, m_inG 69 (by decide +kernel) rfl⟩, ⟨m_inG 109 (by decide +kernel) rfl, m_inG 1626 (by decide +kernel) rfl⟩, ⟨by decide +kernel, by decide +kernel, by decide +kernel⟩⟩
def M_X12_lay : m_M := (RX12, yX12_lay, cX12_lay, 7, some .int, { frames := 6, cells := 0, slots := 0, locals := 162 }, 148, 4732)
theorem t_X12_lay : m_mV M_X12_lay 5 := ⟨⟨m_inG 1730 (by decide +kernel) rfl, m_inG 1731 (by decide +kernel) rfl⟩, ⟨m_inG 109 (by decide +kernel) rfl, m_inG 1732 (by decide +kernel) rfl⟩, ⟨by decide +kernel, by decide +kernel, by decide +kernel⟩⟩
def M_X12_lengthOf : m_M := (RX12, yX12_lengthOf, cX12_lengthOf, 3, some .int, { frames := 1, cells := 0, slots := 0, locals := 22 }, 148, 4732)
theorem t_X12_lengthOf : m_mV M_X12_lengthOf 1 := ⟨⟨m_inG 1469 (by decide +kernel) rfl, m_inG 44 (by decide +kernel) rfl⟩, ⟨m_inG 109 (by decide +kernel) rfl, m_inG 1470 (by decide +kernel) rfl⟩, ⟨by decide +kernel, by decide +kernel, by decide +kernel⟩⟩
def M_X12_multiply : m_M := (RX12, yX12_multiply, cX12_multiply, 14, none, { frames := 0, cells := 0, slots := 0, locals := 0 }, 148, 4732)
theorem t_X12_multiply : m_mV M_X12_multiply 2 := ⟨⟨m_inG 1746 (by decide +kernel) rfl, m_inG 84 (by decide +kernel) rfl⟩, ⟨m_inG 109 (by decide +kernel) rfl, m_inG 1747 (by decide +kernel) rfl⟩, ⟨by decide +kernel, by decide +kernel, by decide +kernel⟩⟩
def M_X12_must : m_M := (RX12, yX12_must, cX12_must, 2, none, { frames := 2, cells := 0, slots := 0, locals := 40 }, 148, 4732)
theorem t_X12_must : m_mV M_X12_must 1 := ⟨⟨m_inG 1541 (by decide +kernel) rfl, m_inG 53 (by decide +kernel) rfl⟩, ⟨m_inG 109 (by decide +kernel) rfl, m_inG 1542 (by decide +kernel) rfl⟩, ⟨by decide +kernel, by decide +kernel, by decide +kernel⟩⟩
def M_X12_next : m_M := (RX12, yX12_next, cX12_next, 1, none, { frames := 1, cells := 0, slots := 0, locals := 20 }, 148, 4732)
theorem t_X12_next : m_mV M_X12_next 0 := ⟨⟨m_inG 1509 (by decide +kernel) rfl, m_inG 48 (by decide +kernel) rfl⟩, ⟨m_inG 109 (by decide +kernel) rfl, m_inG 1510 (by decide +kernel) rfl⟩, ⟨by decide +kernel, by decide +kernel, by decide +kernel⟩⟩
def M_X12_number : m_M := (RX12, yX12_number, cX12_number, 6, some .int, { frames := 3, cells := 0, slots := 0, locals := 61 }, 148, 4732)
theorem t_X12_number : m_mV M_X12_number 2 := ⟨⟨m_inG 1537 (by decide +kernel) rfl, m_inG 52 (by decide +kernel) rfl⟩, ⟨m_inG 109 (by decide +kernel) rfl, m_inG 1538 (by decide +kernel) rfl⟩, ⟨by decide +kernel, by decide +kernel, by decide +kernel⟩⟩
def M_X12_numbers : m_M := (RX12, yX12_numbers, cX12_numbers, 8, some .int, { frames := 7, cells := 0, slots := 0, locals := 174 }, 148, 4732)
theorem t_X12_numbers : m_mV M_X12_numbers 4 := ⟨⟨m_inG 1703 (by decide +kernel) rfl, m_inG 1704 (by decide +kernel) rfl⟩, ⟨m_inG 109 (by decide +kernel) rfl, m_inG 1705 (by decide +kernel) rfl⟩, ⟨by decide +kernel, by decide +kernel, by decide +kernel⟩⟩
def M_X12_numbersOf : m_M := (RX12, yX12_numbersOf, cX12_numbersOf, 4, some .int, { frames := 3, cells := 0, slots := 0, locals := 85 }, 148, 4732)
theorem t_X12_numbersOf : m_mV M_X12_numbersOf 1 := ⟨⟨m_inG 1708 (by decide +kernel) rfl, m_inG 81 (by decide +kernel) rfl⟩, ⟨m_inG 109 (by decide +kernel) rfl, m_inG 1709 (by decide +kernel) rfl⟩, ⟨by decide +kernel, by decide +kernel, by decide +kernel⟩⟩
def M_X12_of : m_M := (RX12, yX12_of, cX12_of, 3, some .int, { frames := 2, cells := 0, slots := 0, locals := 46 }, 148, 4732)
theorem t_X12_of : m_mV M_X12_of 2 := ⟨⟨m_inG 1464 (by decide +kernel) rfl, m_inG 1465 (by decide +kernel) rfl⟩, ⟨m_inG 109 (by decide +kernel) rfl, m_inG 1466 (by decide +kernel) rfl⟩, ⟨by decide +kernel, by decide +kernel, by decide +kernel⟩⟩
def M_X12_ofEntry : m_M := (RX12, yX12_ofEntry, cX12_ofEntry, 3, some .int, { frames := 0, cells := 0, slots := 0, locals := 0 }, 148, 4732)
theorem t_X12_ofEntry : m_mV M_X12_ofEntry 2 := ⟨⟨m_inG 1473 (by decide +kernel) rfl, m_inG 45 (by decide +kernel) rfl⟩, ⟨m_inG 109 (by decide +kernel) rfl, m_inG 1474 (by decide +kernel) rfl⟩, ⟨by decide +kernel, by decide +kernel, by decide +kernel⟩⟩
def M_X12_often : m_M := (RX12, yX12_often, cX12_often, 6, some .int, { frames := 1, cells := 0, slots := 0, locals := 33 }, 148, 4732)
theorem t_X12_often : m_mV M_X12_often 2 := ⟨⟨m_inG 1754 (by decide +kernel) rfl, m_inG 86 (by decide +kernel) rfl⟩, ⟨m_inG 109 (by decide +kernel) rfl, m_inG 1755 (by decide +kernel) rfl⟩, ⟨by decide +kernel, by decide +kernel, by decide +kernel⟩⟩
def M_X12_part : m_M := (RX12, yX12_part, cX12_part, 16, some .long, { frames := 6, cells := 0, slots := 0, locals := 152 }, 148, 4732)
theorem t_X12_part : m_mV M_X12_part 3 := ⟨⟨m_inG 1719 (by decide +kernel) rfl, m_inG 1720 (by decide +kernel) rfl⟩, ⟨m_inG 109 (by decide +kernel) rfl, m_inG 1721 (by decide +kernel) rfl⟩, ⟨by decide +kernel, by decide +kernel, by decide +kernel⟩⟩
def M_X12_product : m_M := (RX12, yX12_product, cX12_product, 11, none, { frames := 0, cells := 0, slots := 0, locals := 0 }, 148, 4732)
theorem t_X12_product : m_mS M_X12_product 5 := ⟨m_inG 1636 (by decide +kernel) rfl, ⟨m_inG 109 (by decide +kernel) rfl, m_inG 1637 (by decide +kernel) rfl⟩, ⟨by decide +kernel, by decide +kernel, by decide +kernel⟩⟩
def M_X12_readClause : m_M := (RX12, yX12_readClause, cX12_readClause, 1, none, { frames := 6, cells := 0, slots := 0, locals := 131 }, 148, 4732)
theorem t_X12_readClause : m_mV M_X12_readClause 0 := ⟨⟨m_inG 1524 (by decide +kernel) rfl, m_inG 49 (by decide +kernel) rfl⟩, ⟨m_inG 109 (by decide +kernel) rfl, m_inG 1525 (by decide +kernel) rfl⟩, ⟨by decide +kernel, by decide +kernel, by decide +kernel⟩⟩
def M_X12_readMeasure : m_M := (RX12, yX12_readMeasure, cX12_readMeasure, 5, none, { frames := 4, cells := 0, slots := 0, locals := 86 }, 148, 4732)
theorem t_X12_readMeasure : m_mV M_X12_readMeasure 1 := ⟨⟨m_inG 1570 (by decide +kernel) rfl, m_inG 58 (by decide +kernel) rfl⟩, ⟨m_inG 109 (by decide +kernel) rfl, m_inG 1571 (by decide +kernel) rfl⟩, ⟨by decide +kernel, by decide +kernel, by decide +kernel⟩⟩
def M_X12_readShorter : m_M := (RX12, yX12_readShorter, cX12_readShorter, 4, none, { frames := 4, cells := 0, slots := 0, locals := 86 }, 148, 4732)
theorem t_X12_readShorter : m_mV M_X12_readShorter 0 := ⟨⟨m_inG 1553 (by decide +kernel) rfl, m_inG 55 (by decide +kernel) rfl⟩, ⟨m_inG 109 (by decide +kernel) rfl, m_inG 1554 (by decide +kernel) rfl⟩, ⟨by decide +kernel, by decide +kernel, by decide +kernel⟩⟩
def M_X12_readThing : m_M := (RX12, yX12_readThing, cX12_readThing, 2, none, { frames := 5, cells := 0, slots := 0, locals := 110 }, 148, 4732)
theorem t_X12_readThing : m_mV M_X12_readThing 0 := ⟨⟨m_inG 1563 (by decide +kernel) rfl, m_inG 57 (by decide +kernel) rfl⟩, ⟨m_inG 109 (by decide +kernel) rfl, m_inG 1564 (by decide +kernel) rfl⟩, ⟨by decide +kernel, by decide +kernel, by decide +kernel⟩⟩
def M_X12_readWeeks : m_M := (RX12, yX12_readWeeks, cX12_readWeeks, 3, none, { frames := 4, cells := 0, slots := 0, locals := 86 }, 148, 4732)
theorem t_X12_readWeeks : m_mV M_X12_readWeeks 0 := ⟨⟨m_inG 1533 (by decide +kernel) rfl, m_inG 51 (by decide +kernel) rfl⟩, ⟨m_inG 109 (by decide +kernel) rfl, m_inG 1534 (by decide +kernel) rfl⟩, ⟨by decide +kernel, by decide +kernel, by decide +kernel⟩⟩
def M_X12_round : m_M := (RX12, yX12_round, cX12_round, 9, some .boolean, { frames := 2, cells := 0, slots := 0, locals := 57 }, 148, 4732)
theorem t_X12_round : m_mV M_X12_round 1 := ⟨⟨m_inG 1621 (by decide +kernel) rfl, m_inG 68 (by decide +kernel) rfl⟩, ⟨m_inG 109 (by decide +kernel) rfl, m_inG 1622 (by decide +kernel) rfl⟩, ⟨by decide +kernel, by decide +kernel, by decide +kernel⟩⟩
def M_X12_row : m_M := (RX12, yX12_row, cX12_row, 5, some .int, { frames := 3, cells := 0, slots := 0, locals := 68 }, 148, 4732)
theorem t_X12_row : m_mV M_X12_row 0 := ⟨⟨m_inG 1476 (by decide +kernel) rfl, m_inG 1477 (by decide +kernel) rfl⟩, ⟨m_inG 109 (by decide +kernel) rfl, m_inG 1478 (by decide +kernel) rfl⟩, ⟨by decide +kernel, by decide +kernel, by decide +kernel⟩⟩
def M_X12_says : m_M := (RX12, yX12_says, cX12_says, 6, some .int, { frames := 2, cells := 0, slots := 0, locals := 45 }, 148, 4732)
theorem t_X12_says : m_mV M_X12_says 3 := ⟨⟨m_inG 1818 (by decide +kernel) rfl, m_inG 1819 (by decide +kernel) rfl⟩, ⟨m_inG 109 (by decide +kernel) rfl, m_inG 1820 (by decide +kernel) rfl⟩, ⟨by decide +kernel, by decide +kernel, by decide +kernel⟩⟩
def M_X12_share : m_M := (RX12, yX12_share, cX12_share, 13, some .int, { frames := 1, cells := 0, slots := 0, locals := 29 }, 148, 4732)
theorem t_X12_share : m_mV M_X12_share 6 := ⟨⟨m_inG 1665 (by decide +kernel) rfl, m_inG 75 (by decide +kernel) rfl⟩, ⟨m_inG 109 (by decide +kernel) rfl, m_inG 1666 (by decide +kernel) rfl⟩, ⟨by decide +kernel, by decide +kernel, by decide +kernel⟩⟩
def M_X12_shorter : m_M := (RX12, yX12_shorter, cX12_shorter, 3, some .int, { frames := 2, cells := 0, slots := 0, locals := 45 }, 148, 4732)
theorem t_X12_shorter : m_mV M_X12_shorter 2 := ⟨⟨m_inG 1428 (by decide +kernel) rfl, m_inG 1429 (by decide +kernel) rfl⟩, ⟨m_inG 109 (by decide +kernel) rfl, m_inG 1430 (by decide +kernel) rfl⟩, ⟨by decide +kernel, by decide +kernel, by decide +kernel⟩⟩
def M_X12_startAt : m_M := (RX12, yX12_startAt, cX12_startAt, 4, none, { frames := 0, cells := 0, slots := 0, locals := 0 }, 148, 4732)
theorem t_X12_startAt : m_mV M_X12_startAt 1 := ⟨⟨m_inG 1617 (by decide +kernel) rfl, m_inG 67 (by decide +kernel) rfl⟩, ⟨m_inG 109 (by decide +kernel) rfl, m_inG 1618 (by decide +kernel) rfl⟩, ⟨by decide +kernel, by decide +kernel, by decide +kernel⟩⟩
def M_X12_status : m_M := (RX12, yX12_status, cX12_status, 1, some .int, { frames := 0, cells := 0, slots := 0, locals := 0 }, 148, 4732)
theorem t_X12_status : m_mV M_X12_status 0 := ⟨⟨m_inG 1858 (by decide +kernel) rfl, m_inG 1859 (by decide +kernel) rfl⟩, ⟨m_inG 109 (by decide +kernel) rfl, m_inG 1860 (by decide +kernel) rfl⟩, ⟨by decide +kernel, by decide +kernel, by decide +kernel⟩⟩
def M_X12_sure : m_M := (RX12, yX12_sure, cX12_sure, 5, some .int, { frames := 6, cells := 0, slots := 0, locals := 152 }, 148, 4732)
theorem t_X12_sure : m_mV M_X12_sure 2 := ⟨⟨m_inG 1671 (by decide +kernel) rfl, m_inG 1672 (by decide +kernel) rfl⟩, ⟨m_inG 109 (by decide +kernel) rfl, m_inG 1673 (by decide +kernel) rfl⟩, ⟨by decide +kernel, by decide +kernel, by decide +kernel⟩⟩
def M_X12_takeEnd : m_M := (RX12, yX12_takeEnd, cX12_takeEnd, 12, none, { frames := 5, cells := 0, slots := 0, locals := 131 }, 148, 4732)
theorem t_X12_takeEnd : m_mV M_X12_takeEnd 4 := ⟨⟨m_inG 1738 (by decide +kernel) rfl, m_inG 82 (by decide +kernel) rfl⟩, ⟨m_inG 109 (by decide +kernel) rfl, m_inG 1739 (by decide +kernel) rfl⟩, ⟨by decide +kernel, by decide +kernel, by decide +kernel⟩⟩
def M_X12_tell : m_M := (RX12, yX12_tell, cX12_tell, 3, some .int, { frames := 2, cells := 0, slots := 0, locals := 44 }, 148, 4732)
theorem t_X12_tell : m_mV M_X12_tell 2 := ⟨⟨m_inG 1813 (by decide +kernel) rfl, m_inG 1814 (by decide +kernel) rfl⟩, ⟨m_inG 109 (by decide +kernel) rfl, m_inG 1815 (by decide +kernel) rfl⟩, ⟨by decide +kernel, by decide +kernel, by decide +kernel⟩⟩
def M_X12_tells : m_M := (RX12, yX12_tells, cX12_tells, 13, some .int, { frames := 2, cells := 0, slots := 0, locals := 53 }, 148, 4732)
theorem t_X12_tells : m_mV M_X12_tells 2 := ⟨⟨m_inG 1696 (by decide +kernel) rfl, m_inG 79 (by decide +kernel) rfl⟩, ⟨m_inG 109 (by decide +kernel) rfl, m_inG 1697 (by decide +kernel) rfl⟩, ⟨by decide +kernel, by decide +kernel, by decide +kernel⟩⟩
def M_X12_times : m_M := (RX12, yX12_times, cX12_times, 10, none, { frames := 0, cells := 0, slots := 0, locals := 0 }, 148, 4732)
theorem t_X12_times : m_mS M_X12_times 5 := ⟨m_inG 1628 (by decide +kernel) rfl, ⟨m_inG 109 (by decide +kernel) rfl, m_inG 1629 (by decide +kernel) rfl⟩, ⟨by decide +kernel, by decide +kernel, by decide +kernel⟩⟩
def M_X12_told : m_M := (RX12, yX12_told, cX12_told, 5, some .int, { frames := 2, cells := 0, slots := 0, locals := 45 }, 148, 4732)
theorem t_X12_told : m_mV M_X12_told 1 := ⟨⟨m_inG 1847 (by decide +kernel) rfl, m_inG 1848 (by decide +kernel) rfl⟩, ⟨m_inG 109 (by decide +kernel) rfl, m_inG 1849 (by decide +kernel) rfl⟩, ⟨by decide +kernel, by decide +kernel, by decide +kernel⟩⟩
def M_X12_trade : m_M := (RX12, yX12_trade, cX12_trade, 2, some .int, { frames := 1, cells := 0, slots := 0, locals := 25 }, 148, 4732)
theorem t_X12_trade : m_mV M_X12_trade 1 := ⟨⟨m_inG 1842 (by decide +kernel) rfl, m_inG 1843 (by decide +kernel) rfl⟩, ⟨m_inG 109 (by decide +kernel) rfl, m_inG 1844 (by decide +kernel) rfl⟩, ⟨by decide +kernel, by decide +kernel, by decide +kernel⟩⟩
def M_X12_triple : m_M := (RX12, yX12_triple, cX12_triple, 9, none, { frames := 1, cells := 0, slots := 0, locals := 33 }, 148, 4732)
theorem t_X12_triple : m_mV M_X12_triple 4 := ⟨⟨m_inG 1742 (by decide +kernel) rfl, m_inG 83 (by decide +kernel) rfl⟩, ⟨m_inG 109 (by decide +kernel) rfl, m_inG 1743 (by decide +kernel) rfl⟩, ⟨by decide +kernel, by decide +kernel, by decide +kernel⟩⟩
def M_X12_was : m_M := (RX12, yX12_was, cX12_was, 2, some .int, { frames := 0, cells := 0, slots := 0, locals := 0 }, 148, 4732)
theorem t_X12_was : m_mV M_X12_was 1 := ⟨⟨m_inG 1417 (by decide +kernel) rfl, m_inG 39 (by decide +kernel) rfl⟩, ⟨m_inG 109 (by decide +kernel) rfl, m_inG 1418 (by decide +kernel) rfl⟩, ⟨by decide +kernel, by decide +kernel, by decide +kernel⟩⟩
def M_X12_waysWith : m_M := (RX12, yX12_waysWith, cX12_waysWith, 6, some .int, { frames := 4, cells := 0, slots := 0, locals := 110 }, 148, 4732)
theorem t_X12_waysWith : m_mV M_X12_waysWith 2 := ⟨⟨m_inG 1798 (by decide +kernel) rfl, m_inG 90 (by decide +kernel) rfl⟩, ⟨m_inG 109 (by decide +kernel) rfl, m_inG 1799 (by decide +kernel) rfl⟩, ⟨by decide +kernel, by decide +kernel, by decide +kernel⟩⟩
def M_X12_week : m_M := (RX12, yX12_week, cX12_week, 3, some .int, { frames := 2, cells := 0, slots := 0, locals := 45 }, 148, 4732)
theorem t_X12_week : m_mV M_X12_week 2 := ⟨⟨m_inG 1402 (by decide +kernel) rfl, m_inG 1403 (by decide +kernel) rfl⟩, ⟨m_inG 109 (by decide +kernel) rfl, m_inG 1404 (by decide +kernel) rfl⟩, ⟨by decide +kernel, by decide +kernel, by decide +kernel⟩⟩
def M_X12_when : m_M := (RX12, yX12_when, cX12_when, 7, some .int, { frames := 4, cells := 0, slots := 0, locals := 110 }, 148, 4732)
theorem t_X12_when : m_mV M_X12_when 2 := ⟨⟨m_inG 1809 (by decide +kernel) rfl, m_inG 1810 (by decide +kernel) rfl⟩, ⟨m_inG 109 (by decide +kernel) rfl, m_inG 1811 (by decide +kernel) rfl⟩, ⟨by decide +kernel, by decide +kernel, by decide +kernel⟩⟩
def M_X12_whichOf : m_M := (RX12, yX12_whichOf, cX12_whichOf, 4, some .int, { frames := 0, cells := 0, slots := 0, locals := 0 }, 148, 4732)
theorem t_X12_whichOf : m_mV M_X12_whichOf 1 := ⟨⟨m_inG 1802 (by decide +kernel) rfl, m_inG 91 (by decide +kernel) rfl⟩, ⟨m_inG 109 (by decide +kernel) rfl, m_inG 1803 (by decide +kernel) rfl⟩, ⟨by decide +kernel, by decide +kernel, by decide +kernel⟩⟩
def M_X12_whole : m_M := (RX12, yX12_whole, cX12_whole, 2, some .long, { frames := 0, cells := 0, slots := 0, locals := 0 }, 148, 4732)
theorem t_X12_whole : m_mS M_X12_whole 2 := ⟨m_inG 1724 (by decide +kernel) rfl, ⟨m_inG 109 (by decide +kernel) rfl, m_inG 1725 (by decide +kernel) rfl⟩, ⟨by decide +kernel, by decide +kernel, by decide +kernel⟩⟩
def M_X12_whose : m_M := (RX12, yX12_whose, cX12_whose, 5, some .int, { frames := 5, cells := 0, slots := 0, locals := 135 }, 148, 4732)
theorem t_X12_whose : m_mV M_X12_whose 1 := ⟨⟨m_inG 1789 (by decide +kernel) rfl, m_inG 1790 (by decide +kernel) rfl⟩, ⟨m_inG 109 (by decide +kernel) rfl, m_inG 1791 (by decide +kernel) rfl⟩, ⟨by decide +kernel, by decide +kernel, by decide +kernel⟩⟩
def M_X12_wide : m_M := (RX12, yX12_wide, cX12_wide, 10, none, { frames := 0, cells := 0, slots := 0, locals := 0 }, 148, 4732)
theorem t_X12_wide : m_mS M_X12_wide 4 := ⟨m_inG 1668 (by decide +kernel) rfl, ⟨m_inG 109 (by decide +kernel) rfl, m_inG 1669 (by decide +kernel) rfl⟩, ⟨by decide +kernel, by decide +kernel, by decide +kernel⟩⟩
def M_X12_would : m_M := (RX12, yX12_would, cX12_would, 5, some .int, { frames := 7, cells := 0, slots := 0, locals := 174 }, 148, 4732)
theorem t_X12_would : m_mV M_X12_would 4 := ⟨⟨m_inG 1683 (by decide +kernel) rfl, m_inG 1684 (by decide +kernel) rfl⟩, ⟨m_inG 109 (by decide +kernel) rfl, m_inG 1685 (by decide +kernel) rfl⟩, ⟨by decide +kernel, by decide +kernel, by decide +kernel⟩⟩
def M_X12_wrong : m_M := (RX12, yX12_wrong, cX12_wrong, 11, some .int, { frames := 4, cells := 0, slots := 0, locals := 110 }, 148, 4732)
theorem t_X12_wrong : m_mV M_X12_wrong 1 := ⟨⟨m_inG 1785 (by decide +kernel) rfl, m_inG 1786 (by decide +kernel) rfl⟩, ⟨m_inG 109 (by decide +kernel) rfl, m_inG 1787 (by decide +kernel) rfl⟩, ⟨by decide +kernel, by decide +kernel, by decide +kernel⟩⟩
def M_X12_year : m_M := (RX12, yX12_year, cX12_year, 10, some .int, { frames := 2, cells := 0, slots := 0, locals := 45 }, 148, 4732)
theorem t_X12_year : m_mV M_X12_year 3 := ⟨⟨m_inG 1830 (by decide +kernel) rfl, m_inG 1831 (by decide +kernel) rfl⟩, ⟨m_inG 109 (by decide +kernel) rfl, m_inG 1832 (by decide +kernel) rfl⟩, ⟨by decide +kernel, by decide +kernel, by decide +kernel⟩⟩
theorem l_X4_33 : Cond.methodLink RX4 33 yJ7_fill_53178 ∈ m_G := m_inG 131 (by decide +kernel) rfl
theorem l_X11_447 : Cond.methodLink RX11 447 yJ9_max_7cf53 ∈ m_G := m_inG 237 (by decide +kernel) rfl
theorem l_X11_108 : Cond.methodLink RX11 108 yX11_isWeek ∈ m_G := m_inG 459 (by decide +kernel) rfl
theorem l_X11_112 : Cond.methodLink RX11 112 yX11_within ∈ m_G := m_inG 462 (by decide +kernel) rfl
theorem l_X11_116 : Cond.methodLink RX11 116 yX11_refuse ∈ m_G := m_inG 465 (by decide +kernel) rfl
theorem l_X11_123 : Cond.methodLink RX11 123 yX11_accept ∈ m_G := m_inG 469 (by decide +kernel) rfl
theorem l_X11_126 : Cond.methodLink RX11 126 yX11_isThing ∈ m_G := m_inG 477 (by decide +kernel) rfl
theorem l_X11_132 : Cond.methodLink RX11 132 yX11_isKeeper ∈ m_G := m_inG 484 (by decide +kernel) rfl
theorem l_X11_135 : Cond.methodLink RX11 135 yX4_isShorter ∈ m_G := m_inG 487 (by decide +kernel) rfl
theorem l_X4_59 : Cond.methodLinkNest RX4 59 yX11_hasBit "WeekFoot" ∈ m_N := m_inN 491 (by decide +kernel) rfl
theorem l_X11_139 : Cond.methodLink RX11 139 yX4_hasRoomForShorter ∈ m_G := m_inG 494 (by decide +kernel) rfl
theorem l_X4_69 : Cond.methodLink RX4 69 yX4_shorters ∈ m_G := m_inG 498 (by decide +kernel) rfl
theorem l_X4_63 : Cond.methodLink RX4 63 yJ6_bitCount_0f7a4 ∈ m_G := m_inG 502 (by decide +kernel) rfl
theorem l_X11_143 : Cond.methodLink RX11 143 yX4_addShorter ∈ m_G := m_inG 508 (by decide +kernel) rfl
theorem l_X11_147 : Cond.methodLink RX11 147 yX4_shorters ∈ m_G := m_inG 512 (by decide +kernel) rfl
theorem l_X11_151 : Cond.methodLink RX11 151 yX11_isEntry ∈ m_G := m_inG 517 (by decide +kernel) rfl
theorem l_X11_298 : Cond.methodLink RX11 298 yX11_isNumber ∈ m_G := m_inG 520 (by decide +kernel) rfl
theorem l_X11_301 : Cond.methodLink RX11 301 yX11_isKind ∈ m_G := m_inG 523 (by decide +kernel) rfl
theorem l_X11_155 : Cond.methodLink RX11 155 yX4_hasRoom ∈ m_G := m_inG 526 (by decide +kernel) rfl
theorem l_X11_158 : Cond.methodLink RX11 158 yX4_addEntry ∈ m_G := m_inG 530 (by decide +kernel) rfl
theorem l_X4_55 : Cond.methodLink RX4 55 yX4_hasRoom ∈ m_G := m_inG 534 (by decide +kernel) rfl
theorem l_X11_165 : Cond.methodLink RX11 165 yX4_isCounting ∈ m_G := m_inG 539 (by decide +kernel) rfl
theorem l_X11_168 : Cond.methodLink RX11 168 yX4_setCounting ∈ m_G := m_inG 543 (by decide +kernel) rfl
theorem l_X11_184 : Cond.methodLink RX11 184 yX4_lengthOf ∈ m_G := m_inG 551 (by decide +kernel) rfl
theorem l_X4_77 : Cond.methodLink RX4 77 yX4_lengthIn ∈ m_G := m_inG 555 (by decide +kernel) rfl
theorem l_X11_190 : Cond.methodLink RX11 190 yX8_append ∈ m_G := m_inG 563 (by decide +kernel) rfl
theorem l_X11_194 : Cond.methodLink RX11 194 yX11_takeFromRow ∈ m_G := m_inG 575 (by decide +kernel) rfl
theorem l_X11_197 : Cond.methodLink RX11 197 yX4_copyFrom ∈ m_G := m_inG 587 (by decide +kernel) rfl
theorem l_X11_201 : Cond.methodLink RX11 201 yX1_readOnto ∈ m_G := m_inG 594 (by decide +kernel) rfl
theorem l_X1_22 : Cond.methodLink RX1 22 yX1_advance ∈ m_G := m_inG 598 (by decide +kernel) rfl
theorem l_X1_139 : Cond.methodLink RX1 139 yX1_familyOf ∈ m_G := m_inG 602 (by decide +kernel) rfl
theorem l_X1_27 : Cond.methodLink RX1 27 yX1_take ∈ m_G := m_inG 606 (by decide +kernel) rfl
theorem l_X1_121 : Cond.methodLink RX1 121 yX1_stands ∈ m_G := m_inG 610 (by decide +kernel) rfl
theorem l_X1_124 : Cond.methodLink RX1 124 yJ0_length_8abf5 ∈ m_G := m_inG 614 (by decide +kernel) rfl
theorem l_X1_131 : Cond.methodLink RX1 131 yJ0_charAt_5068e ∈ m_G := m_inG 624 (by decide +kernel) rfl
theorem l_X1_31 : Cond.methodLink RX1 31 yX1_readWeeks ∈ m_G := m_inG 662 (by decide +kernel) rfl
theorem l_X1_53 : Cond.methodLink RX1 53 yX1_takeNumber ∈ m_G := m_inG 666 (by decide +kernel) rfl
theorem l_X1_72 : Cond.methodLink RX1 72 yX1_value ∈ m_G := m_inG 670 (by decide +kernel) rfl
theorem l_X1_143 : Cond.methodLink RX1 143 yJ9_min_7cf53 ∈ m_G := m_inG 674 (by decide +kernel) rfl
theorem l_X1_135 : Cond.methodLinkNest RX1 135 yX11_within "WeekFoot" ∈ m_N := m_inN 677 (by decide +kernel) rfl
theorem l_X1_37 : Cond.methodLink RX1 37 yX1_readThing ∈ m_G := m_inG 682 (by decide +kernel) rfl
theorem l_X1_90 : Cond.methodLink RX1 90 yX1_readCut ∈ m_G := m_inG 687 (by decide +kernel) rfl
theorem l_X1_94 : Cond.methodLink RX1 94 yX1_readMeasure ∈ m_G := m_inG 693 (by decide +kernel) rfl
theorem l_X1_106 : Cond.methodLink RX1 106 yX4_hasRoom ∈ m_G := m_inG 697 (by decide +kernel) rfl
theorem l_X1_117 : Cond.methodLink RX1 117 yX4_addEntry ∈ m_G := m_inG 702 (by decide +kernel) rfl
theorem l_X1_40 : Cond.methodLink RX1 40 yX1_readShorter ∈ m_G := m_inG 704 (by decide +kernel) rfl
theorem l_X1_76 : Cond.methodLink RX1 76 yX4_isShorter ∈ m_G := m_inG 710 (by decide +kernel) rfl
theorem l_X1_80 : Cond.methodLink RX1 80 yX4_hasRoomForShorter ∈ m_G := m_inG 711 (by decide +kernel) rfl
theorem l_X1_84 : Cond.methodLink RX1 84 yX4_addShorter ∈ m_G := m_inG 712 (by decide +kernel) rfl
theorem l_X11_208 : Cond.methodLink RX11 208 yX11_canBe ∈ m_G := m_inG 723 (by decide +kernel) rfl
theorem l_X11_343 : Cond.methodLink RX11 343 yX9_canBe ∈ m_G := m_inG 727 (by decide +kernel) rfl
theorem l_X9_36 : Cond.methodLink RX9 36 yX9_forget ∈ m_G := m_inG 731 (by decide +kernel) rfl
theorem l_X9_83 : Cond.methodLink RX9 83 yJ7_fill_53178 ∈ m_G := m_inG 735 (by decide +kernel) rfl
theorem l_X9_89 : Cond.methodLink RX9 89 yX2_clear ∈ m_G := m_inG 736 (by decide +kernel) rfl
theorem l_X9_45 : Cond.methodLinkNest RX9 45 yX11_hasBit "WeekFoot" ∈ m_N := m_inN 740 (by decide +kernel) rfl
theorem l_X9_49 : Cond.methodLink RX9 49 yX9_tie ∈ m_G := m_inG 741 (by decide +kernel) rfl
theorem l_X9_92 : Cond.methodLink RX9 92 yX4_keeperOf ∈ m_G := m_inG 745 (by decide +kernel) rfl
theorem l_X9_96 : Cond.methodLink RX9 96 yX4_lengthOf ∈ m_G := m_inG 749 (by decide +kernel) rfl
theorem l_X9_99 : Cond.methodLink RX9 99 yX4_endHalves ∈ m_G := m_inG 750 (by decide +kernel) rfl
theorem l_X4_81 : Cond.methodLink RX4 81 yX4_leastHalves ∈ m_G := m_inG 754 (by decide +kernel) rfl
theorem l_X9_105 : Cond.methodLink RX9 105 yX9_lower ∈ m_G := m_inG 758 (by decide +kernel) rfl
theorem l_X9_109 : Cond.methodLink RX9 109 yX4_leastHalves ∈ m_G := m_inG 762 (by decide +kernel) rfl
theorem l_X9_112 : Cond.methodLink RX9 112 yJ9_max_7cf53 ∈ m_G := m_inG 763 (by decide +kernel) rfl
theorem l_X9_56 : Cond.methodLink RX9 56 yX9_tieCut ∈ m_G := m_inG 764 (by decide +kernel) rfl
theorem l_X9_60 : Cond.methodLink RX9 60 yX9_stepOver ∈ m_G := m_inG 768 (by decide +kernel) rfl
theorem l_X9_66 : Cond.methodLink RX9 66 yX2_lessen ∈ m_G := m_inG 772 (by decide +kernel) rfl
theorem l_X2_20 : Cond.methodLink RX2 20 yX2_put ∈ m_G := m_inG 776 (by decide +kernel) rfl
theorem l_X9_72 : Cond.methodLink RX9 72 yX9_eachFootHolds ∈ m_G := m_inG 780 (by decide +kernel) rfl
theorem l_X9_118 : Cond.methodLink RX9 118 yX2_isBelowOne ∈ m_G := m_inG 784 (by decide +kernel) rfl
theorem l_X9_76 : Cond.methodLink RX9 76 yX9_goOn ∈ m_G := m_inG 788 (by decide +kernel) rfl
theorem l_X9_125 : Cond.methodLink RX9 125 yX2_put ∈ m_G := m_inG 792 (by decide +kernel) rfl
theorem l_X9_80 : Cond.methodLink RX9 80 yX9_feetHoldTogether ∈ m_G := m_inG 793 (by decide +kernel) rfl
theorem l_X9_121 : Cond.methodLink RX9 121 yX2_contradicts ∈ m_G := m_inG 797 (by decide +kernel) rfl
theorem l_X11_211 : Cond.methodLink RX11 211 yX11_compare ∈ m_G := m_inG 805 (by decide +kernel) rfl
theorem l_X11_329 : Cond.methodLink RX11 329 yX4_isThere ∈ m_G := m_inG 809 (by decide +kernel) rfl
theorem l_X4_73 : Cond.methodLinkNest RX4 73 yX11_within "WeekFoot" ∈ m_N := m_inN 813 (by decide +kernel) rfl
theorem l_X11_427 : Cond.methodLink RX11 427 yX7_measure ∈ m_G := m_inG 814 (by decide +kernel) rfl
theorem l_X7_21 : Cond.methodLink RX7 21 yX9_limit ∈ m_G := m_inG 818 (by decide +kernel) rfl
theorem l_X9_138 : Cond.methodLink RX9 138 yX9_limitBy ∈ m_G := m_inG 822 (by decide +kernel) rfl
theorem l_X9_142 : Cond.methodLink RX9 142 yX9_highOf ∈ m_G := m_inG 826 (by decide +kernel) rfl
theorem l_X9_145 : Cond.methodLink RX9 145 yX9_lowOf ∈ m_G := m_inG 830 (by decide +kernel) rfl
theorem l_X9_148 : Cond.methodLink RX9 148 yX9_halvesIn ∈ m_G := m_inG 834 (by decide +kernel) rfl
theorem l_X11_214 : Cond.methodLink RX11 214 yX7_leastMillionths ∈ m_G := m_inG 837 (by decide +kernel) rfl
theorem l_X7_36 : Cond.methodLinkNest RX7 36 yX11_quotient "WeekFoot" ∈ m_N := m_inN 842 (by decide +kernel) rfl
theorem l_X11_220 : Cond.methodLink RX11 220 yX11_atMost ∈ m_G := m_inG 846 (by decide +kernel) rfl
theorem l_X11_438 : Cond.methodLink RX11 438 yJ9_min_f86c9 ∈ m_G := m_inG 849 (by decide +kernel) rfl
theorem l_X11_224 : Cond.methodLink RX11 224 yX7_greatestMillionths ∈ m_G := m_inG 852 (by decide +kernel) rfl
theorem l_X11_240 : Cond.methodLink RX11 240 yX7_isAlways ∈ m_G := m_inG 861 (by decide +kernel) rfl
theorem l_X11_244 : Cond.methodLink RX11 244 yX2_isBelowOne ∈ m_G := m_inG 865 (by decide +kernel) rfl
theorem l_X11_247 : Cond.methodLink RX11 247 yX11_compareToFoot ∈ m_G := m_inG 870 (by decide +kernel) rfl
theorem l_X11_278 : Cond.methodLink RX11 278 yX11_isMeasured ∈ m_G := m_inG 874 (by decide +kernel) rfl
theorem l_X11_250 : Cond.methodLink RX11 250 yX7_leastNumber ∈ m_G := m_inG 878 (by decide +kernel) rfl
theorem l_X11_254 : Cond.methodLink RX11 254 yX7_greatestNumber ∈ m_G := m_inG 883 (by decide +kernel) rfl
theorem l_X11_261 : Cond.methodLink RX11 261 yX7_isTheSame ∈ m_G := m_inG 893 (by decide +kernel) rfl
theorem l_X11_271 : Cond.methodLink RX11 271 yX11_commonDivisor ∈ m_G := m_inG 897 (by decide +kernel) rfl
theorem l_X11_275 : Cond.methodLink RX11 275 yX11_quotient ∈ m_G := m_inG 900 (by decide +kernel) rfl
theorem l_X11_281 : Cond.methodLink RX11 281 yX10_clear ∈ m_G := m_inG 905 (by decide +kernel) rfl
theorem l_X11_284 : Cond.methodLink RX11 284 yX11_addFeet ∈ m_G := m_inG 909 (by decide +kernel) rfl
theorem l_X11_431 : Cond.methodLink RX11 431 yX10_add ∈ m_G := m_inG 913 (by decide +kernel) rfl
theorem l_X11_288 : Cond.methodLink RX11 288 yX10_sum ∈ m_G := m_inG 917 (by decide +kernel) rfl
theorem l_X10_31 : Cond.methodLinkNest RX10 31 yX11_quotient "WeekFoot" ∈ m_N := m_inN 922 (by decide +kernel) rfl
theorem l_X10_35 : Cond.methodLinkNest RX10 35 yX11_remainder "WeekFoot" ∈ m_N := m_inN 923 (by decide +kernel) rfl
theorem l_X10_38 : Cond.methodLinkNest RX10 38 yX11_compareFractions "WeekFoot" ∈ m_N := m_inN 926 (by decide +kernel) rfl
theorem l_X11_443 : Cond.methodLink RX11 443 yJ13_compare_74951 ∈ m_G := m_inG 929 (by decide +kernel) rfl
theorem l_X11_293 : Cond.methodLink RX11 293 yX10_product ∈ m_G := m_inG 937 (by decide +kernel) rfl
theorem l_X11_304 : Cond.methodLink RX11 304 yX7_allows ∈ m_G := m_inG 946 (by decide +kernel) rfl
theorem l_X7_75 : Cond.methodLink RX7 75 yX7_firstNumber ∈ m_G := m_inG 950 (by decide +kernel) rfl
theorem l_X7_50 : Cond.methodLink RX7 50 yX7_leastNumber ∈ m_G := m_inG 955 (by decide +kernel) rfl
theorem l_X7_54 : Cond.methodLink RX7 54 yJ9_max_f86c9 ∈ m_G := m_inG 956 (by decide +kernel) rfl
theorem l_X7_59 : Cond.methodLink RX7 59 yJ9_min_f86c9 ∈ m_G := m_inG 959 (by decide +kernel) rfl
theorem l_X7_71 : Cond.methodLink RX7 71 yX7_lastNumber ∈ m_G := m_inG 960 (by decide +kernel) rfl
theorem l_X7_62 : Cond.methodLink RX7 62 yX7_greatestNumber ∈ m_G := m_inG 964 (by decide +kernel) rfl
theorem l_X7_67 : Cond.methodLinkNest RX7 67 yX11_atMost "WeekFoot" ∈ m_N := m_inN 966 (by decide +kernel) rfl
theorem l_X11_307 : Cond.methodLink RX11 307 yX7_forces ∈ m_G := m_inG 967 (by decide +kernel) rfl
theorem l_X7_81 : Cond.methodLink RX7 81 yX7_isAlways ∈ m_G := m_inG 971 (by decide +kernel) rfl
theorem l_X11_310 : Cond.methodLink RX11 310 yX7_manyNumbers ∈ m_G := m_inG 976 (by decide +kernel) rfl
theorem l_X7_78 : Cond.methodLink RX7 78 yJ9_max_7cf53 ∈ m_G := m_inG 980 (by decide +kernel) rfl
theorem l_X11_313 : Cond.methodLink RX11 313 yX7_firstNumber ∈ m_G := m_inG 981 (by decide +kernel) rfl
theorem l_X11_316 : Cond.methodLink RX11 316 yX7_lastNumber ∈ m_G := m_inG 982 (by decide +kernel) rfl
theorem l_X11_319 : Cond.methodLink RX11 319 yX11_manyWholes ∈ m_G := m_inG 987 (by decide +kernel) rfl
theorem l_X11_323 : Cond.methodLink RX11 323 yX11_couldBeTold ∈ m_G := m_inG 995 (by decide +kernel) rfl
theorem l_X11_409 : Cond.methodLink RX11 409 yX4_lengthIn ∈ m_G := m_inG 999 (by decide +kernel) rfl
theorem l_X11_326 : Cond.methodLink RX11 326 yX11_ofWeeks ∈ m_G := m_inG 1000 (by decide +kernel) rfl
theorem l_X11_415 : Cond.methodLink RX11 415 yJ6_bitCount_0f7a4 ∈ m_G := m_inG 1003 (by decide +kernel) rfl
theorem l_X11_435 : Cond.methodLink RX11 435 yX11_hasBit ∈ m_G := m_inG 1004 (by decide +kernel) rfl
theorem l_X11_332 : Cond.methodLink RX11 332 yX0_bind ∈ m_G := m_inG 1009 (by decide +kernel) rfl
theorem l_X0_21 : Cond.methodLink RX0 21 yX4_keeperOf ∈ m_G := m_inG 1013 (by decide +kernel) rfl
theorem l_X0_25 : Cond.methodLink RX0 25 yX4_lengthOf ∈ m_G := m_inG 1014 (by decide +kernel) rfl
theorem l_X0_28 : Cond.methodLink RX0 28 yX0_unite ∈ m_G := m_inG 1015 (by decide +kernel) rfl
theorem l_X0_42 : Cond.methodLink RX0 42 yJ9_min_7cf53 ∈ m_G := m_inG 1019 (by decide +kernel) rfl
theorem l_X0_48 : Cond.methodLink RX0 48 yJ9_max_7cf53 ∈ m_G := m_inG 1020 (by decide +kernel) rfl
theorem l_X0_35 : Cond.methodLinkNest RX0 35 yX11_hasBit "WeekFoot" ∈ m_N := m_inN 1021 (by decide +kernel) rfl
theorem l_X11_335 : Cond.methodLink RX11 335 yX0_areTogether ∈ m_G := m_inG 1022 (by decide +kernel) rfl
theorem l_X11_338 : Cond.methodLink RX11 338 yX0_greatest ∈ m_G := m_inG 1030 (by decide +kernel) rfl
theorem l_X0_55 : Cond.methodLink RX0 55 yX0_sizeOf ∈ m_G := m_inG 1034 (by decide +kernel) rfl
theorem l_X0_51 : Cond.methodLink RX0 51 yX4_isThere ∈ m_G := m_inG 1038 (by decide +kernel) rfl
theorem l_X11_340 : Cond.methodLink RX11 340 yX0_many ∈ m_G := m_inG 1039 (by decide +kernel) rfl
theorem l_X11_349 : Cond.methodLink RX11 349 yX3_leaveOut ∈ m_G := m_inG 1047 (by decide +kernel) rfl
theorem l_X3_15 : Cond.methodLink RX3 15 yX9_canBe ∈ m_G := m_inG 1051 (by decide +kernel) rfl
theorem l_X11_353 : Cond.methodLink RX11 353 yX3_search ∈ m_G := m_inG 1056 (by decide +kernel) rfl
theorem l_X3_36 : Cond.methodLink RX3 36 yX3_leaveOut ∈ m_G := m_inG 1060 (by decide +kernel) rfl
theorem l_X3_40 : Cond.methodLinkNest RX3 40 yX11_hasBit "WeekFoot" ∈ m_N := m_inN 1061 (by decide +kernel) rfl
theorem l_X3_44 : Cond.methodLink RX3 44 yX3_strike ∈ m_G := m_inG 1062 (by decide +kernel) rfl
theorem l_X3_52 : Cond.methodLink RX3 52 yJ9_min_7cf53 ∈ m_G := m_inG 1066 (by decide +kernel) rfl
theorem l_X3_48 : Cond.methodLink RX3 48 yX4_isCounting ∈ m_G := m_inG 1067 (by decide +kernel) rfl
theorem l_X11_366 : Cond.methodLink RX11 366 yX6_seek ∈ m_G := m_inG 1072 (by decide +kernel) rfl
theorem l_X6_26 : Cond.methodLink RX6 26 yJ7_fill_53178 ∈ m_G := m_inG 1076 (by decide +kernel) rfl
theorem l_X6_32 : Cond.methodLink RX6 32 yX6_gather ∈ m_G := m_inG 1077 (by decide +kernel) rfl
theorem l_X6_61 : Cond.methodLink RX6 61 yX6_hasEntry ∈ m_G := m_inG 1081 (by decide +kernel) rfl
theorem l_X6_70 : Cond.methodLink RX6 70 yX4_isCounting ∈ m_G := m_inG 1084 (by decide +kernel) rfl
theorem l_X6_44 : Cond.methodLink RX6 44 yX6_keeperBy ∈ m_G := m_inG 1085 (by decide +kernel) rfl
theorem l_X6_51 : Cond.methodLink RX6 51 yX9_canBe ∈ m_G := m_inG 1088 (by decide +kernel) rfl
theorem l_X6_57 : Cond.methodLink RX6 57 yX6_note ∈ m_G := m_inG 1089 (by decide +kernel) rfl
theorem l_X11_370 : Cond.methodLink RX11 370 yX6_onlyKeeper ∈ m_G := m_inG 1093 (by decide +kernel) rfl
theorem l_X6_74 : Cond.methodLink RX6 74 yX6_placeOf ∈ m_G := m_inG 1097 (by decide +kernel) rfl
theorem l_X6_78 : Cond.methodLink RX6 78 yX6_waysWith ∈ m_G := m_inG 1101 (by decide +kernel) rfl
theorem l_X11_373 : Cond.methodLink RX11 373 yX6_waysWith ∈ m_G := m_inG 1109 (by decide +kernel) rfl
theorem l_X11_383 : Cond.methodLink RX11 383 yX4_isSoByWorld ∈ m_G := m_inG 1128 (by decide +kernel) rfl
theorem l_X4_88 : Cond.methodLink RX4 88 yX4_keeperOf ∈ m_G := m_inG 1132 (by decide +kernel) rfl
theorem l_X4_91 : Cond.methodLink RX4 91 yX4_lengthOf ∈ m_G := m_inG 1133 (by decide +kernel) rfl
theorem l_X4_94 : Cond.methodLink RX4 94 yX4_endHalves ∈ m_G := m_inG 1134 (by decide +kernel) rfl
theorem l_X11_386 : Cond.methodLink RX11 386 yX4_hasShortersByWorld ∈ m_G := m_inG 1135 (by decide +kernel) rfl
theorem l_X11_389 : Cond.methodLink RX11 389 yX4_hasCutsByWorld ∈ m_G := m_inG 1139 (by decide +kernel) rfl
theorem l_X11_393 : Cond.methodLink RX11 393 yX5_draw ∈ m_G := m_inG 1148 (by decide +kernel) rfl
theorem l_X11_396 : Cond.methodLink RX11 396 yX5_bestTrade ∈ m_G := m_inG 1153 (by decide +kernel) rfl
theorem l_X5_27 : Cond.methodLink RX5 27 yX4_wholeFeet ∈ m_G := m_inG 1157 (by decide +kernel) rfl
theorem l_X4_84 : Cond.methodLinkNest RX4 84 yX11_quotient "WeekFoot" ∈ m_N := m_inN 1161 (by decide +kernel) rfl
theorem l_X11_412 : Cond.methodLink RX11 412 yX4_wholeFeet ∈ m_G := m_inG 1170 (by decide +kernel) rfl
theorem l_X11_420 : Cond.methodLink RX11 420 yX11_manyKnown ∈ m_G := m_inG 1183 (by decide +kernel) rfl
theorem l_X12_143 : Cond.methodLink RX12 143 yX12_in ∈ m_G := m_inG 1390 (by decide +kernel) rfl
theorem l_X12_147 : Cond.methodLink RX12 147 yX12_answer ∈ m_G := m_inG 1393 (by decide +kernel) rfl
theorem l_X12_156 : Cond.methodLink RX12 156 yX12_isWeek ∈ m_G := m_inG 1405 (by decide +kernel) rfl
theorem l_X12_162 : Cond.methodLink RX12 162 yX12_change ∈ m_G := m_inG 1411 (by decide +kernel) rfl
theorem l_X12_139 : Cond.methodLink RX12 139 yX12_was ∈ m_G := m_inG 1415 (by decide +kernel) rfl
theorem l_X12_166 : Cond.methodLink RX12 166 yX12_isThing ∈ m_G := m_inG 1423 (by decide +kernel) rfl
theorem l_X12_169 : Cond.methodLink RX12 169 yX12_isKeeper ∈ m_G := m_inG 1431 (by decide +kernel) rfl
theorem l_X12_172 : Cond.methodLink RX12 172 yX12_isShorter ∈ m_G := m_inG 1434 (by decide +kernel) rfl
theorem l_X12_176 : Cond.methodLink RX12 176 yX12_addShorter ∈ m_G := m_inG 1438 (by decide +kernel) rfl
theorem l_X12_184 : Cond.methodLink RX12 184 yX12_canEnter ∈ m_G := m_inG 1446 (by decide +kernel) rfl
theorem l_X12_188 : Cond.methodLink RX12 188 yX12_addEntry ∈ m_G := m_inG 1451 (by decide +kernel) rfl
theorem l_X12_192 : Cond.methodLink RX12 192 yX12_isEntry ∈ m_G := m_inG 1459 (by decide +kernel) rfl
theorem l_X12_198 : Cond.methodLink RX12 198 yX12_lengthOf ∈ m_G := m_inG 1467 (by decide +kernel) rfl
theorem l_X12_195 : Cond.methodLink RX12 195 yX12_ofEntry ∈ m_G := m_inG 1471 (by decide +kernel) rfl
theorem l_X12_207 : Cond.methodLink RX12 207 yX12_four ∈ m_G := m_inG 1487 (by decide +kernel) rfl
theorem l_X12_318 : Cond.methodLink RX12 318 yX12_begin ∈ m_G := m_inG 1503 (by decide +kernel) rfl
theorem l_X12_218 : Cond.methodLink RX12 218 yX12_next ∈ m_G := m_inG 1507 (by decide +kernel) rfl
theorem l_X12_228 : Cond.methodLink RX12 228 yX12_isSmall ∈ m_G := m_inG 1511 (by decide +kernel) rfl
theorem l_X12_231 : Cond.methodLink RX12 231 yX12_isDigit ∈ m_G := m_inG 1514 (by decide +kernel) rfl
theorem l_X12_321 : Cond.methodLink RX12 321 yX12_readClause ∈ m_G := m_inG 1522 (by decide +kernel) rfl
theorem l_X12_260 : Cond.methodLink RX12 260 yX12_isWord ∈ m_G := m_inG 1527 (by decide +kernel) rfl
theorem l_X12_305 : Cond.methodLink RX12 305 yX12_readWeeks ∈ m_G := m_inG 1531 (by decide +kernel) rfl
theorem l_X12_254 : Cond.methodLink RX12 254 yX12_number ∈ m_G := m_inG 1535 (by decide +kernel) rfl
theorem l_X12_247 : Cond.methodLink RX12 247 yX12_must ∈ m_G := m_inG 1539 (by decide +kernel) rfl
theorem l_X12_268 : Cond.methodLink RX12 268 yX12_act ∈ m_G := m_inG 1546 (by decide +kernel) rfl
theorem l_X12_310 : Cond.methodLink RX12 310 yX12_readShorter ∈ m_G := m_inG 1551 (by decide +kernel) rfl
theorem l_X12_274 : Cond.methodLink RX12 274 yX12_isDrafted ∈ m_G := m_inG 1556 (by decide +kernel) rfl
theorem l_X12_315 : Cond.methodLink RX12 315 yX12_readThing ∈ m_G := m_inG 1561 (by decide +kernel) rfl
theorem l_X12_297 : Cond.methodLink RX12 297 yX12_readMeasure ∈ m_G := m_inG 1568 (by decide +kernel) rfl
theorem l_X12_300 : Cond.methodLink RX12 300 yX12_isSign ∈ m_G := m_inG 1576 (by decide +kernel) rfl
theorem l_X12_324 : Cond.methodLink RX12 324 yX12_doAct ∈ m_G := m_inG 1580 (by decide +kernel) rfl
theorem l_X12_377 : Cond.methodLink RX12 377 yX12_canBeNow ∈ m_G := m_inG 1588 (by decide +kernel) rfl
theorem l_X12_367 : Cond.methodLink RX12 367 yX12_asIs ∈ m_G := m_inG 1592 (by decide +kernel) rfl
theorem l_X12_370 : Cond.methodLink RX12 370 yX12_counting ∈ m_G := m_inG 1596 (by decide +kernel) rfl
theorem l_X12_374 : Cond.methodLink RX12 374 yX12_canBe ∈ m_G := m_inG 1600 (by decide +kernel) rfl
theorem l_X12_354 : Cond.methodLink RX12 354 yX12_build ∈ m_G := m_inG 1604 (by decide +kernel) rfl
theorem l_X12_336 : Cond.methodLink RX12 336 yX12_is ∈ m_G := m_inG 1608 (by decide +kernel) rfl
theorem l_X12_339 : Cond.methodLink RX12 339 yX12_edge ∈ m_G := m_inG 1611 (by decide +kernel) rfl
theorem l_X12_357 : Cond.methodLink RX12 357 yX12_startAt ∈ m_G := m_inG 1615 (by decide +kernel) rfl
theorem l_X12_360 : Cond.methodLink RX12 360 yX12_round ∈ m_G := m_inG 1619 (by decide +kernel) rfl
theorem l_X12_343 : Cond.methodLink RX12 343 yX12_keep ∈ m_G := m_inG 1623 (by decide +kernel) rfl
theorem l_X12_346 : Cond.methodLink RX12 346 yX12_times ∈ m_G := m_inG 1627 (by decide +kernel) rfl
theorem l_X12_350 : Cond.methodLink RX12 350 yX12_compare ∈ m_G := m_inG 1631 (by decide +kernel) rfl
theorem l_X12_329 : Cond.methodLink RX12 329 yX12_product ∈ m_G := m_inG 1635 (by decide +kernel) rfl
theorem l_X12_364 : Cond.methodLink RX12 364 yX12_isTight ∈ m_G := m_inG 1638 (by decide +kernel) rfl
theorem l_X12_394 : Cond.methodLink RX12 394 yX12_isAnswered ∈ m_G := m_inG 1646 (by decide +kernel) rfl
theorem l_X12_391 : Cond.methodLink RX12 391 yX12_isLength ∈ m_G := m_inG 1650 (by decide +kernel) rfl
theorem l_X12_397 : Cond.methodLink RX12 397 yX12_goFrom ∈ m_G := m_inG 1657 (by decide +kernel) rfl
theorem l_X12_402 : Cond.methodLink RX12 402 yX12_share ∈ m_G := m_inG 1663 (by decide +kernel) rfl
theorem l_X12_387 : Cond.methodLink RX12 387 yX12_wide ∈ m_G := m_inG 1667 (by decide +kernel) rfl
theorem l_X12_406 : Cond.methodLink RX12 406 yX12_besideOne ∈ m_G := m_inG 1674 (by decide +kernel) rfl
theorem l_X12_425 : Cond.methodLink RX12 425 yX12_isAsked ∈ m_G := m_inG 1686 (by decide +kernel) rfl
theorem l_X12_428 : Cond.methodLink RX12 428 yX12_findEnds ∈ m_G := m_inG 1690 (by decide +kernel) rfl
theorem l_X12_431 : Cond.methodLink RX12 431 yX12_tells ∈ m_G := m_inG 1694 (by decide +kernel) rfl
theorem l_X12_421 : Cond.methodLink RX12 421 yX12_beside ∈ m_G := m_inG 1698 (by decide +kernel) rfl
theorem l_X12_434 : Cond.methodLink RX12 434 yX12_numbersOf ∈ m_G := m_inG 1706 (by decide +kernel) rfl
theorem l_X12_439 : Cond.methodLink RX12 439 yX12_whole ∈ m_G := m_inG 1723 (by decide +kernel) rfl
theorem l_X12_443 : Cond.methodLink RX12 443 yX12_common ∈ m_G := m_inG 1726 (by decide +kernel) rfl
theorem l_X12_465 : Cond.methodLink RX12 465 yX12_isGround ∈ m_G := m_inG 1733 (by decide +kernel) rfl
theorem l_X12_468 : Cond.methodLink RX12 468 yX12_takeEnd ∈ m_G := m_inG 1736 (by decide +kernel) rfl
theorem l_X12_472 : Cond.methodLink RX12 472 yX12_triple ∈ m_G := m_inG 1740 (by decide +kernel) rfl
theorem l_X12_447 : Cond.methodLink RX12 447 yX12_multiply ∈ m_G := m_inG 1744 (by decide +kernel) rfl
theorem l_X12_476 : Cond.methodLink RX12 476 yX12_addFactor ∈ m_G := m_inG 1748 (by decide +kernel) rfl
theorem l_X12_479 : Cond.methodLink RX12 479 yX12_often ∈ m_G := m_inG 1752 (by decide +kernel) rfl
theorem l_X12_451 : Cond.methodLink RX12 451 yX12_copyTen ∈ m_G := m_inG 1756 (by decide +kernel) rfl
theorem l_X12_455 : Cond.methodLink RX12 455 yX12_besideTen ∈ m_G := m_inG 1760 (by decide +kernel) rfl
theorem l_X12_484 : Cond.methodLink RX12 484 yX12_findGroups ∈ m_G := m_inG 1772 (by decide +kernel) rfl
theorem l_X12_490 : Cond.methodLink RX12 490 yX12_findAsked ∈ m_G := m_inG 1792 (by decide +kernel) rfl
theorem l_X12_493 : Cond.methodLink RX12 493 yX12_waysWith ∈ m_G := m_inG 1796 (by decide +kernel) rfl
theorem l_X12_496 : Cond.methodLink RX12 496 yX12_whichOf ∈ m_G := m_inG 1800 (by decide +kernel) rfl
theorem l_X12_501 : Cond.methodLink RX12 501 yX12_isSo ∈ m_G := m_inG 1825 (by decide +kernel) rfl
theorem l_X12_521 : Cond.methodLink RX12 521 yX12_feetOf ∈ m_G := m_inG 1837 (by decide +kernel) rfl
theorem l_X12_526 : Cond.methodLink RX12 526 yX12_bits ∈ m_G := m_inG 1854 (by decide +kernel) rfl
