theorem gw_at {w : Cond} (i : Nat) (h : (lw_tbl[i]? == some w) = true) (hg : goodWord w = true) : w ∈ gw_tbl := gw_in i (beq_iff_eq.mp h) hg
set_option maxRecDepth 100000 in
theorem gnX0 : ∀ w ∈ u_ws RX0 TX0 3, w ∈ gw_tbl := gw_all inX0 (by decide +kernel)
set_option maxRecDepth 100000 in
theorem gnX1 : ∀ w ∈ u_ws RX1 TX1 4, w ∈ gw_tbl := gw_all inX1 (by decide +kernel)
set_option maxRecDepth 100000 in
theorem gnX2 : ∀ w ∈ u_ws RX2 TX2 2, w ∈ gw_tbl := gw_all inX2 (by decide +kernel)
set_option maxRecDepth 100000 in
theorem gnX3 : ∀ w ∈ u_ws RX3 TX3 6, w ∈ gw_tbl := gw_all inX3 (by decide +kernel)
set_option maxRecDepth 100000 in
theorem gnX4 : ∀ w ∈ u_ws RX4 TX4 4, w ∈ gw_tbl := gw_all inX4 (by decide +kernel)
set_option maxRecDepth 100000 in
theorem gnX6 : ∀ w ∈ u_ws RX6 TX6 1, w ∈ gw_tbl := gw_all inX6 (by decide +kernel)
set_option maxRecDepth 100000 in
theorem gnX7 : ∀ w ∈ u_ws RX7 TX7 5, w ∈ gw_tbl := gw_all inX7 (by decide +kernel)
set_option maxRecDepth 100000 in
theorem gnX8 : ∀ w ∈ u_ws RX8 TX8 2, w ∈ gw_tbl := gw_all inX8 (by decide +kernel)
set_option maxRecDepth 100000 in
theorem gnX9 : ∀ w ∈ u_ws RX9 TX9 13, w ∈ gw_tbl := gw_all inX9 (by decide +kernel)
set_option maxRecDepth 100000 in
theorem gnX10 : ∀ w ∈ u_ws RX10 TX10 2, w ∈ gw_tbl := gw_all inX10 (by decide +kernel)
set_option maxRecDepth 100000 in
theorem gnX11 : ∀ w ∈ u_ws RX11 TX11 6, w ∈ gw_tbl := gw_all inX11 (by decide +kernel)
set_option maxRecDepth 100000 in
theorem gnX12 : ∀ w ∈ u_ws RX12 TX12 40, w ∈ gw_tbl := gw_all inX12 (by decide +kernel)
set_option maxRecDepth 100000 in
theorem flX11_10 : FL RX11 10 10 0 (9 + 2) RX11 TX11 tyX11 6 := ⟨⟨by decide, by decide, rfl, rfl⟩, rfl, gnX11, gw_at 375 (by decide +kernel) rfl, tyX11_ok, nmX11⟩
set_option maxRecDepth 100000 in
theorem flX11_18 : FL RX11 18 10 1 (13 + 2) RX11 TX11 tyX11 6 := ⟨⟨by decide, by decide, rfl, rfl⟩, rfl, gnX11, gw_at 376 (by decide +kernel) rfl, tyX11_ok, nmX11⟩
set_option maxRecDepth 100000 in
theorem flX11_26 : FL RX11 26 10 2 (5 + 2) RX11 TX11 tyX11 6 := ⟨⟨by decide, by decide, rfl, rfl⟩, rfl, gnX11, gw_at 377 (by decide +kernel) rfl, tyX11_ok, nmX11⟩
set_option maxRecDepth 100000 in
theorem flX11_33 : FL RX11 33 10 3 (1 + 2) RX11 TX11 tyX11 6 := ⟨⟨by decide, by decide, rfl, rfl⟩, rfl, gnX11, gw_at 378 (by decide +kernel) rfl, tyX11_ok, nmX11⟩
set_option maxRecDepth 100000 in
theorem flX11_40 : FL RX11 40 10 4 (0 + 2) RX11 TX11 tyX11 6 := ⟨⟨by decide, by decide, rfl, rfl⟩, rfl, gnX11, gw_at 379 (by decide +kernel) rfl, tyX11_ok, nmX11⟩
set_option maxRecDepth 100000 in
theorem flX11_44 : FL RX11 44 10 5 (0 + 2) RX11 TX11 tyX11 6 := ⟨⟨by decide, by decide, rfl, rfl⟩, rfl, gnX11, gw_at 380 (by decide +kernel) rfl, tyX11_ok, nmX11⟩
set_option maxRecDepth 100000 in
theorem flX11_51 : FL RX11 51 9 1 0 RX10 TX10 tyX10 2 := ⟨⟨by decide, by decide, rfl, rfl⟩, rfl, gnX10, gw_at 123 (by decide +kernel) rfl, tyX10_ok, nmX10⟩
set_option maxRecDepth 100000 in
theorem flX11_75 : FL RX11 75 7 1 0 RX8 TX8 tyX8 2 := ⟨⟨by decide, by decide, rfl, rfl⟩, rfl, gnX8, gw_at 216 (by decide +kernel) rfl, tyX8_ok, nmX8⟩
set_option maxRecDepth 100000 in
theorem flX11_80 : FL RX11 80 7 0 (14 + 2) RX8 TX8 tyX8 2 := ⟨⟨by decide, by decide, rfl, rfl⟩, rfl, gnX8, gw_at 215 (by decide +kernel) rfl, tyX8_ok, nmX8⟩
set_option maxRecDepth 100000 in
theorem flX11_112 : FL RX11 112 1 0 0 RX1 TX1 tyX1 4 := ⟨⟨by decide, by decide, rfl, rfl⟩, rfl, gnX1, gw_at 266 (by decide +kernel) rfl, tyX1_ok, nmX1⟩
set_option maxRecDepth 100000 in
theorem flX11_115 : FL RX11 115 0 2 (2 + 2) RX0 TX0 tyX0 3 := ⟨⟨by decide, by decide, rfl, rfl⟩, rfl, gnX0, gw_at 367 (by decide +kernel) rfl, tyX0_ok, nmX0⟩
set_option maxRecDepth 100000 in
theorem flX11_119 : FL RX11 119 2 1 0 RX2 TX2 tyX2 2 := ⟨⟨by decide, by decide, rfl, rfl⟩, rfl, gnX2, gw_at 355 (by decide +kernel) rfl, tyX2_ok, nmX2⟩
set_option maxRecDepth 100000 in
theorem flX11_122 : FL RX11 122 1 1 0 RX1 TX1 tyX1 4 := ⟨⟨by decide, by decide, rfl, rfl⟩, rfl, gnX1, gw_at 268 (by decide +kernel) rfl, tyX1_ok, nmX1⟩
set_option maxRecDepth 100000 in
theorem flX11_125 : FL RX11 125 1 2 0 RX1 TX1 tyX1 4 := ⟨⟨by decide, by decide, rfl, rfl⟩, rfl, gnX1, gw_at 270 (by decide +kernel) rfl, tyX1_ok, nmX1⟩
set_option maxRecDepth 100000 in
theorem flX11_128 : FL RX11 128 1 3 0 RX1 TX1 tyX1 4 := ⟨⟨by decide, by decide, rfl, rfl⟩, rfl, gnX1, gw_at 272 (by decide +kernel) rfl, tyX1_ok, nmX1⟩
set_option maxRecDepth 100000 in
theorem flX11_140 : FL RX11 140 0 0 (3 + 2) RX0 TX0 tyX0 3 := ⟨⟨by decide, by decide, rfl, rfl⟩, rfl, gnX0, gw_at 363 (by decide +kernel) rfl, tyX0_ok, nmX0⟩
set_option maxRecDepth 100000 in
theorem flX11_159 : FL RX11 159 0 1 (4 + 2) RX0 TX0 tyX0 3 := ⟨⟨by decide, by decide, rfl, rfl⟩, rfl, gnX0, gw_at 365 (by decide +kernel) rfl, tyX0_ok, nmX0⟩
set_option maxRecDepth 100000 in
theorem flX11_163 : FL RX11 163 4 0 (18 + 2) RX4 TX4 tyX4 4 := ⟨⟨by decide, by decide, rfl, rfl⟩, rfl, gnX4, gw_at 331 (by decide +kernel) rfl, tyX4_ok, nmX4⟩
set_option maxRecDepth 100000 in
theorem flX11_169 : FL RX11 169 8 0 1 RX9 TX9 tyX9 13 := ⟨⟨by decide, by decide, rfl, rfl⟩, rfl, gnX9, gw_at 149 (by decide +kernel) rfl, tyX9_ok, nmX9⟩
set_option maxRecDepth 100000 in
theorem flX11_175 : FL RX11 175 8 1 0 RX9 TX9 tyX9 13 := ⟨⟨by decide, by decide, rfl, rfl⟩, rfl, gnX9, gw_at 152 (by decide +kernel) rfl, tyX9_ok, nmX9⟩
set_option maxRecDepth 100000 in
theorem flX11_182 : FL RX11 182 8 11 0 RX9 TX9 tyX9 13 := ⟨⟨by decide, by decide, rfl, rfl⟩, rfl, gnX9, gw_at 183 (by decide +kernel) rfl, tyX9_ok, nmX9⟩
set_option maxRecDepth 100000 in
theorem flX11_185 : FL RX11 185 8 12 0 RX9 TX9 tyX9 13 := ⟨⟨by decide, by decide, rfl, rfl⟩, rfl, gnX9, gw_at 186 (by decide +kernel) rfl, tyX9_ok, nmX9⟩
set_option maxRecDepth 100000 in
theorem flX11_192 : FL RX11 192 8 2 0 RX9 TX9 tyX9 13 := ⟨⟨by decide, by decide, rfl, rfl⟩, rfl, gnX9, gw_at 155 (by decide +kernel) rfl, tyX9_ok, nmX9⟩
set_option maxRecDepth 100000 in
theorem flX11_193 : FL RX11 193 8 3 0 RX9 TX9 tyX9 13 := ⟨⟨by decide, by decide, rfl, rfl⟩, rfl, gnX9, gw_at 159 (by decide +kernel) rfl, tyX9_ok, nmX9⟩
set_option maxRecDepth 100000 in
theorem flX11_194 : FL RX11 194 8 5 0 RX9 TX9 tyX9 13 := ⟨⟨by decide, by decide, rfl, rfl⟩, rfl, gnX9, gw_at 166 (by decide +kernel) rfl, tyX9_ok, nmX9⟩
set_option maxRecDepth 100000 in
theorem flX11_197 : FL RX11 197 8 7 1 RX9 TX9 tyX9 13 := ⟨⟨by decide, by decide, rfl, rfl⟩, rfl, gnX9, gw_at 173 (by decide +kernel) rfl, tyX9_ok, nmX9⟩
set_option maxRecDepth 100000 in
theorem flX11_203 : FL RX11 203 8 8 0 RX9 TX9 tyX9 13 := ⟨⟨by decide, by decide, rfl, rfl⟩, rfl, gnX9, gw_at 176 (by decide +kernel) rfl, tyX9_ok, nmX9⟩
set_option maxRecDepth 100000 in
theorem flX11_219 : FL RX11 219 3 3 (17 + 2) RX3 TX3 tyX3 6 := ⟨⟨by decide, by decide, rfl, rfl⟩, rfl, gnX3, gw_at 300 (by decide +kernel) rfl, tyX3_ok, nmX3⟩
set_option maxRecDepth 100000 in
theorem flX11_228 : FL RX11 228 4 3 0 RX4 TX4 tyX4 4 := ⟨⟨by decide, by decide, rfl, rfl⟩, rfl, gnX4, gw_at 337 (by decide +kernel) rfl, tyX4_ok, nmX4⟩
set_option maxRecDepth 100000 in
theorem flX0_12 : FL RX0 12 0 0 (3 + 2) RX0 TX0 tyX0 3 := ⟨⟨by decide, by decide, rfl, rfl⟩, rfl, gnX0, gw_at 362 (by decide +kernel) rfl, tyX0_ok, nmX0⟩
set_option maxRecDepth 100000 in
theorem flX0_21 : FL RX0 21 0 1 (4 + 2) RX0 TX0 tyX0 3 := ⟨⟨by decide, by decide, rfl, rfl⟩, rfl, gnX0, gw_at 364 (by decide +kernel) rfl, tyX0_ok, nmX0⟩
set_option maxRecDepth 100000 in
theorem flX0_28 : FL RX0 28 0 2 (2 + 2) RX0 TX0 tyX0 3 := ⟨⟨by decide, by decide, rfl, rfl⟩, rfl, gnX0, gw_at 366 (by decide +kernel) rfl, tyX0_ok, nmX0⟩
set_option maxRecDepth 100000 in
theorem flX0_32 : FL RX0 32 3 5 0 RX3 TX3 tyX3 6 := ⟨⟨by decide, by decide, rfl, rfl⟩, rfl, gnX3, gw_at 304 (by decide +kernel) rfl, tyX3_ok, nmX3⟩
set_option maxRecDepth 100000 in
theorem flX0_40 : FL RX0 40 4 1 (18 + 2) RX4 TX4 tyX4 4 := ⟨⟨by decide, by decide, rfl, rfl⟩, rfl, gnX4, gw_at 333 (by decide +kernel) rfl, tyX4_ok, nmX4⟩
set_option maxRecDepth 100000 in
theorem flX0_44 : FL RX0 44 3 2 (17 + 2) RX3 TX3 tyX3 6 := ⟨⟨by decide, by decide, rfl, rfl⟩, rfl, gnX3, gw_at 297 (by decide +kernel) rfl, tyX3_ok, nmX3⟩
set_option maxRecDepth 100000 in
theorem flX0_48 : FL RX0 48 3 3 (17 + 2) RX3 TX3 tyX3 6 := ⟨⟨by decide, by decide, rfl, rfl⟩, rfl, gnX3, gw_at 299 (by decide +kernel) rfl, tyX3_ok, nmX3⟩
set_option maxRecDepth 100000 in
theorem flX0_51 : FL RX0 51 3 4 (17 + 2) RX3 TX3 tyX3 6 := ⟨⟨by decide, by decide, rfl, rfl⟩, rfl, gnX3, gw_at 302 (by decide +kernel) rfl, tyX3_ok, nmX3⟩
set_option maxRecDepth 100000 in
theorem flX0_54 : FL RX0 54 4 0 (18 + 2) RX4 TX4 tyX4 4 := ⟨⟨by decide, by decide, rfl, rfl⟩, rfl, gnX4, gw_at 330 (by decide +kernel) rfl, tyX4_ok, nmX4⟩
set_option maxRecDepth 100000 in
theorem flX0_57 : FL RX0 57 8 9 0 RX9 TX9 tyX9 13 := ⟨⟨by decide, by decide, rfl, rfl⟩, rfl, gnX9, gw_at 178 (by decide +kernel) rfl, tyX9_ok, nmX9⟩
set_option maxRecDepth 100000 in
theorem flX0_62 : FL RX0 62 8 10 0 RX9 TX9 tyX9 13 := ⟨⟨by decide, by decide, rfl, rfl⟩, rfl, gnX9, gw_at 180 (by decide +kernel) rfl, tyX9_ok, nmX9⟩
set_option maxRecDepth 100000 in
theorem flX0_65 : FL RX0 65 8 0 1 RX9 TX9 tyX9 13 := ⟨⟨by decide, by decide, rfl, rfl⟩, rfl, gnX9, gw_at 148 (by decide +kernel) rfl, tyX9_ok, nmX9⟩
set_option maxRecDepth 100000 in
theorem flX0_73 : FL RX0 73 8 3 0 RX9 TX9 tyX9 13 := ⟨⟨by decide, by decide, rfl, rfl⟩, rfl, gnX9, gw_at 158 (by decide +kernel) rfl, tyX9_ok, nmX9⟩
set_option maxRecDepth 100000 in
theorem flX0_76 : FL RX0 76 8 6 0 RX9 TX9 tyX9 13 := ⟨⟨by decide, by decide, rfl, rfl⟩, rfl, gnX9, gw_at 168 (by decide +kernel) rfl, tyX9_ok, nmX9⟩
set_option maxRecDepth 100000 in
theorem flX0_79 : FL RX0 79 4 2 (20 + 2) RX4 TX4 tyX4 4 := ⟨⟨by decide, by decide, rfl, rfl⟩, rfl, gnX4, gw_at 335 (by decide +kernel) rfl, tyX4_ok, nmX4⟩
set_option maxRecDepth 100000 in
theorem flX0_86 : FL RX0 86 8 5 0 RX9 TX9 tyX9 13 := ⟨⟨by decide, by decide, rfl, rfl⟩, rfl, gnX9, gw_at 165 (by decide +kernel) rfl, tyX9_ok, nmX9⟩
set_option maxRecDepth 100000 in
theorem flX0_96 : FL RX0 96 8 7 1 RX9 TX9 tyX9 13 := ⟨⟨by decide, by decide, rfl, rfl⟩, rfl, gnX9, gw_at 172 (by decide +kernel) rfl, tyX9_ok, nmX9⟩
set_option maxRecDepth 100000 in
theorem flX0_110 : FL RX0 110 8 4 0 RX9 TX9 tyX9 13 := ⟨⟨by decide, by decide, rfl, rfl⟩, rfl, gnX9, gw_at 161 (by decide +kernel) rfl, tyX9_ok, nmX9⟩
set_option maxRecDepth 100000 in
theorem flX1_9 : FL RX1 9 1 0 0 RX1 TX1 tyX1 4 := ⟨⟨by decide, by decide, rfl, rfl⟩, rfl, gnX1, gw_at 265 (by decide +kernel) rfl, tyX1_ok, nmX1⟩
set_option maxRecDepth 100000 in
theorem flX1_15 : FL RX1 15 1 1 0 RX1 TX1 tyX1 4 := ⟨⟨by decide, by decide, rfl, rfl⟩, rfl, gnX1, gw_at 267 (by decide +kernel) rfl, tyX1_ok, nmX1⟩
set_option maxRecDepth 100000 in
theorem flX1_18 : FL RX1 18 1 2 0 RX1 TX1 tyX1 4 := ⟨⟨by decide, by decide, rfl, rfl⟩, rfl, gnX1, gw_at 269 (by decide +kernel) rfl, tyX1_ok, nmX1⟩
set_option maxRecDepth 100000 in
theorem flX1_21 : FL RX1 21 1 3 0 RX1 TX1 tyX1 4 := ⟨⟨by decide, by decide, rfl, rfl⟩, rfl, gnX1, gw_at 271 (by decide +kernel) rfl, tyX1_ok, nmX1⟩
set_option maxRecDepth 100000 in
theorem flX2_11 : FL RX2 11 2 0 (21 + 2) RX2 TX2 tyX2 2 := ⟨⟨by decide, by decide, rfl, rfl⟩, rfl, gnX2, gw_at 353 (by decide +kernel) rfl, tyX2_ok, nmX2⟩
set_option maxRecDepth 100000 in
theorem flX2_21 : FL RX2 21 2 1 0 RX2 TX2 tyX2 2 := ⟨⟨by decide, by decide, rfl, rfl⟩, rfl, gnX2, gw_at 354 (by decide +kernel) rfl, tyX2_ok, nmX2⟩
set_option maxRecDepth 100000 in
theorem flX3_9 : FL RX3 9 3 0 (15 + 2) RX3 TX3 tyX3 6 := ⟨⟨by decide, by decide, rfl, rfl⟩, rfl, gnX3, gw_at 294 (by decide +kernel) rfl, tyX3_ok, nmX3⟩
set_option maxRecDepth 100000 in
theorem flX3_15 : FL RX3 15 3 1 (16 + 2) RX3 TX3 tyX3 6 := ⟨⟨by decide, by decide, rfl, rfl⟩, rfl, gnX3, gw_at 295 (by decide +kernel) rfl, tyX3_ok, nmX3⟩
set_option maxRecDepth 100000 in
theorem flX3_19 : FL RX3 19 3 2 (17 + 2) RX3 TX3 tyX3 6 := ⟨⟨by decide, by decide, rfl, rfl⟩, rfl, gnX3, gw_at 296 (by decide +kernel) rfl, tyX3_ok, nmX3⟩
set_option maxRecDepth 100000 in
theorem flX3_23 : FL RX3 23 3 3 (17 + 2) RX3 TX3 tyX3 6 := ⟨⟨by decide, by decide, rfl, rfl⟩, rfl, gnX3, gw_at 298 (by decide +kernel) rfl, tyX3_ok, nmX3⟩
set_option maxRecDepth 100000 in
theorem flX3_26 : FL RX3 26 3 4 (17 + 2) RX3 TX3 tyX3 6 := ⟨⟨by decide, by decide, rfl, rfl⟩, rfl, gnX3, gw_at 301 (by decide +kernel) rfl, tyX3_ok, nmX3⟩
set_option maxRecDepth 100000 in
theorem flX3_29 : FL RX3 29 3 5 0 RX3 TX3 tyX3 6 := ⟨⟨by decide, by decide, rfl, rfl⟩, rfl, gnX3, gw_at 303 (by decide +kernel) rfl, tyX3_ok, nmX3⟩
set_option maxRecDepth 100000 in
theorem flX4_11 : FL RX4 11 4 0 (18 + 2) RX4 TX4 tyX4 4 := ⟨⟨by decide, by decide, rfl, rfl⟩, rfl, gnX4, gw_at 329 (by decide +kernel) rfl, tyX4_ok, nmX4⟩
set_option maxRecDepth 100000 in
theorem flX4_16 : FL RX4 16 4 1 (18 + 2) RX4 TX4 tyX4 4 := ⟨⟨by decide, by decide, rfl, rfl⟩, rfl, gnX4, gw_at 332 (by decide +kernel) rfl, tyX4_ok, nmX4⟩
set_option maxRecDepth 100000 in
theorem flX4_19 : FL RX4 19 4 2 (20 + 2) RX4 TX4 tyX4 4 := ⟨⟨by decide, by decide, rfl, rfl⟩, rfl, gnX4, gw_at 334 (by decide +kernel) rfl, tyX4_ok, nmX4⟩
set_option maxRecDepth 100000 in
theorem flX4_29 : FL RX4 29 4 3 0 RX4 TX4 tyX4 4 := ⟨⟨by decide, by decide, rfl, rfl⟩, rfl, gnX4, gw_at 336 (by decide +kernel) rfl, tyX4_ok, nmX4⟩
set_option maxRecDepth 100000 in
theorem flX6_12 : FL RX6 12 5 0 (6 + 2) RX6 TX6 tyX6 1 := ⟨⟨by decide, by decide, rfl, rfl⟩, rfl, gnX6, gw_at 255 (by decide +kernel) rfl, tyX6_ok, nmX6⟩
set_option maxRecDepth 100000 in
theorem flX6_35 : FL RX6 35 6 2 0 RX7 TX7 tyX7 5 := ⟨⟨by decide, by decide, rfl, rfl⟩, rfl, gnX7, gw_at 238 (by decide +kernel) rfl, tyX7_ok, nmX7⟩
set_option maxRecDepth 100000 in
theorem flX6_39 : FL RX6 39 8 2 0 RX9 TX9 tyX9 13 := ⟨⟨by decide, by decide, rfl, rfl⟩, rfl, gnX9, gw_at 154 (by decide +kernel) rfl, tyX9_ok, nmX9⟩
set_option maxRecDepth 100000 in
theorem flX6_65 : FL RX6 65 6 3 0 RX7 TX7 tyX7 5 := ⟨⟨by decide, by decide, rfl, rfl⟩, rfl, gnX7, gw_at 241 (by decide +kernel) rfl, tyX7_ok, nmX7⟩
set_option maxRecDepth 100000 in
theorem flX6_68 : FL RX6 68 8 11 0 RX9 TX9 tyX9 13 := ⟨⟨by decide, by decide, rfl, rfl⟩, rfl, gnX9, gw_at 182 (by decide +kernel) rfl, tyX9_ok, nmX9⟩
set_option maxRecDepth 100000 in
theorem flX6_69 : FL RX6 69 6 4 0 RX7 TX7 tyX7 5 := ⟨⟨by decide, by decide, rfl, rfl⟩, rfl, gnX7, gw_at 243 (by decide +kernel) rfl, tyX7_ok, nmX7⟩
set_option maxRecDepth 100000 in
theorem flX6_72 : FL RX6 72 8 12 0 RX9 TX9 tyX9 13 := ⟨⟨by decide, by decide, rfl, rfl⟩, rfl, gnX9, gw_at 185 (by decide +kernel) rfl, tyX9_ok, nmX9⟩
set_option maxRecDepth 100000 in
theorem flX6_81 : FL RX6 81 8 0 1 RX9 TX9 tyX9 13 := ⟨⟨by decide, by decide, rfl, rfl⟩, rfl, gnX9, gw_at 147 (by decide +kernel) rfl, tyX9_ok, nmX9⟩
set_option maxRecDepth 100000 in
theorem flX6_84 : FL RX6 84 8 1 0 RX9 TX9 tyX9 13 := ⟨⟨by decide, by decide, rfl, rfl⟩, rfl, gnX9, gw_at 151 (by decide +kernel) rfl, tyX9_ok, nmX9⟩
set_option maxRecDepth 100000 in
theorem flX6_91 : FL RX6 91 8 3 0 RX9 TX9 tyX9 13 := ⟨⟨by decide, by decide, rfl, rfl⟩, rfl, gnX9, gw_at 157 (by decide +kernel) rfl, tyX9_ok, nmX9⟩
set_option maxRecDepth 100000 in
theorem flX6_97 : FL RX6 97 8 5 0 RX9 TX9 tyX9 13 := ⟨⟨by decide, by decide, rfl, rfl⟩, rfl, gnX9, gw_at 164 (by decide +kernel) rfl, tyX9_ok, nmX9⟩
set_option maxRecDepth 100000 in
theorem flX6_103 : FL RX6 103 8 6 0 RX9 TX9 tyX9 13 := ⟨⟨by decide, by decide, rfl, rfl⟩, rfl, gnX9, gw_at 169 (by decide +kernel) rfl, tyX9_ok, nmX9⟩
set_option maxRecDepth 100000 in
theorem flX6_112 : FL RX6 112 8 8 0 RX9 TX9 tyX9 13 := ⟨⟨by decide, by decide, rfl, rfl⟩, rfl, gnX9, gw_at 175 (by decide +kernel) rfl, tyX9_ok, nmX9⟩
set_option maxRecDepth 100000 in
theorem flX6_118 : FL RX6 118 8 7 1 RX9 TX9 tyX9 13 := ⟨⟨by decide, by decide, rfl, rfl⟩, rfl, gnX9, gw_at 171 (by decide +kernel) rfl, tyX9_ok, nmX9⟩
set_option maxRecDepth 100000 in
theorem flX6_153 : FL RX6 153 8 4 0 RX9 TX9 tyX9 13 := ⟨⟨by decide, by decide, rfl, rfl⟩, rfl, gnX9, gw_at 162 (by decide +kernel) rfl, tyX9_ok, nmX9⟩
set_option maxRecDepth 100000 in
theorem flX7_12 : FL RX7 12 6 0 (9 + 2) RX7 TX7 tyX7 5 := ⟨⟨by decide, by decide, rfl, rfl⟩, rfl, gnX7, gw_at 236 (by decide +kernel) rfl, tyX7_ok, nmX7⟩
set_option maxRecDepth 100000 in
theorem flX7_18 : FL RX7 18 6 1 0 RX7 TX7 tyX7 5 := ⟨⟨by decide, by decide, rfl, rfl⟩, rfl, gnX7, gw_at 237 (by decide +kernel) rfl, tyX7_ok, nmX7⟩
set_option maxRecDepth 100000 in
theorem flX7_22 : FL RX7 22 6 3 0 RX7 TX7 tyX7 5 := ⟨⟨by decide, by decide, rfl, rfl⟩, rfl, gnX7, gw_at 240 (by decide +kernel) rfl, tyX7_ok, nmX7⟩
set_option maxRecDepth 100000 in
theorem flX7_25 : FL RX7 25 6 4 0 RX7 TX7 tyX7 5 := ⟨⟨by decide, by decide, rfl, rfl⟩, rfl, gnX7, gw_at 242 (by decide +kernel) rfl, tyX7_ok, nmX7⟩
set_option maxRecDepth 100000 in
theorem flX7_31 : FL RX7 31 6 2 0 RX7 TX7 tyX7 5 := ⟨⟨by decide, by decide, rfl, rfl⟩, rfl, gnX7, gw_at 239 (by decide +kernel) rfl, tyX7_ok, nmX7⟩
set_option maxRecDepth 100000 in
theorem flX7_34 : FL RX7 34 9 1 0 RX10 TX10 tyX10 2 := ⟨⟨by decide, by decide, rfl, rfl⟩, rfl, gnX10, gw_at 124 (by decide +kernel) rfl, tyX10_ok, nmX10⟩
set_option maxRecDepth 100000 in
theorem flX7_37 : FL RX7 37 9 0 (12 + 2) RX10 TX10 tyX10 2 := ⟨⟨by decide, by decide, rfl, rfl⟩, rfl, gnX10, gw_at 122 (by decide +kernel) rfl, tyX10_ok, nmX10⟩
set_option maxRecDepth 100000 in
theorem flX8_11 : FL RX8 11 7 0 (14 + 2) RX8 TX8 tyX8 2 := ⟨⟨by decide, by decide, rfl, rfl⟩, rfl, gnX8, gw_at 214 (by decide +kernel) rfl, tyX8_ok, nmX8⟩
set_option maxRecDepth 100000 in
theorem flX9_9 : FL RX9 9 8 0 1 RX9 TX9 tyX9 13 := ⟨⟨by decide, by decide, rfl, rfl⟩, rfl, gnX9, gw_at 146 (by decide +kernel) rfl, tyX9_ok, nmX9⟩
set_option maxRecDepth 100000 in
theorem flX9_15 : FL RX9 15 8 1 0 RX9 TX9 tyX9 13 := ⟨⟨by decide, by decide, rfl, rfl⟩, rfl, gnX9, gw_at 150 (by decide +kernel) rfl, tyX9_ok, nmX9⟩
set_option maxRecDepth 100000 in
theorem flX9_19 : FL RX9 19 8 2 0 RX9 TX9 tyX9 13 := ⟨⟨by decide, by decide, rfl, rfl⟩, rfl, gnX9, gw_at 153 (by decide +kernel) rfl, tyX9_ok, nmX9⟩
set_option maxRecDepth 100000 in
theorem flX9_22 : FL RX9 22 8 3 0 RX9 TX9 tyX9 13 := ⟨⟨by decide, by decide, rfl, rfl⟩, rfl, gnX9, gw_at 156 (by decide +kernel) rfl, tyX9_ok, nmX9⟩
set_option maxRecDepth 100000 in
theorem flX9_25 : FL RX9 25 8 4 0 RX9 TX9 tyX9 13 := ⟨⟨by decide, by decide, rfl, rfl⟩, rfl, gnX9, gw_at 160 (by decide +kernel) rfl, tyX9_ok, nmX9⟩
set_option maxRecDepth 100000 in
theorem flX9_28 : FL RX9 28 8 5 0 RX9 TX9 tyX9 13 := ⟨⟨by decide, by decide, rfl, rfl⟩, rfl, gnX9, gw_at 163 (by decide +kernel) rfl, tyX9_ok, nmX9⟩
set_option maxRecDepth 100000 in
theorem flX9_31 : FL RX9 31 8 6 0 RX9 TX9 tyX9 13 := ⟨⟨by decide, by decide, rfl, rfl⟩, rfl, gnX9, gw_at 167 (by decide +kernel) rfl, tyX9_ok, nmX9⟩
set_option maxRecDepth 100000 in
theorem flX9_34 : FL RX9 34 8 7 1 RX9 TX9 tyX9 13 := ⟨⟨by decide, by decide, rfl, rfl⟩, rfl, gnX9, gw_at 170 (by decide +kernel) rfl, tyX9_ok, nmX9⟩
set_option maxRecDepth 100000 in
theorem flX9_37 : FL RX9 37 8 8 0 RX9 TX9 tyX9 13 := ⟨⟨by decide, by decide, rfl, rfl⟩, rfl, gnX9, gw_at 174 (by decide +kernel) rfl, tyX9_ok, nmX9⟩
set_option maxRecDepth 100000 in
theorem flX9_40 : FL RX9 40 8 9 0 RX9 TX9 tyX9 13 := ⟨⟨by decide, by decide, rfl, rfl⟩, rfl, gnX9, gw_at 177 (by decide +kernel) rfl, tyX9_ok, nmX9⟩
set_option maxRecDepth 100000 in
theorem flX9_43 : FL RX9 43 8 10 0 RX9 TX9 tyX9 13 := ⟨⟨by decide, by decide, rfl, rfl⟩, rfl, gnX9, gw_at 179 (by decide +kernel) rfl, tyX9_ok, nmX9⟩
set_option maxRecDepth 100000 in
theorem flX9_46 : FL RX9 46 8 11 0 RX9 TX9 tyX9 13 := ⟨⟨by decide, by decide, rfl, rfl⟩, rfl, gnX9, gw_at 181 (by decide +kernel) rfl, tyX9_ok, nmX9⟩
set_option maxRecDepth 100000 in
theorem flX9_49 : FL RX9 49 8 12 0 RX9 TX9 tyX9 13 := ⟨⟨by decide, by decide, rfl, rfl⟩, rfl, gnX9, gw_at 184 (by decide +kernel) rfl, tyX9_ok, nmX9⟩
set_option maxRecDepth 100000 in
theorem flX10_9 : FL RX10 9 9 0 (12 + 2) RX10 TX10 tyX10 2 := ⟨⟨by decide, by decide, rfl, rfl⟩, rfl, gnX10, gw_at 121 (by decide +kernel) rfl, tyX10_ok, nmX10⟩
set_option maxRecDepth 100000 in
theorem flX10_15 : FL RX10 15 9 1 0 RX10 TX10 tyX10 2 := ⟨⟨by decide, by decide, rfl, rfl⟩, rfl, gnX10, gw_at 125 (by decide +kernel) rfl, tyX10_ok, nmX10⟩
set_option maxRecDepth 100000 in
theorem flX12_7 : FL RX12 7 11 1 (22 + 2) RX12 TX12 tyX12 40 := ⟨⟨by decide, by decide, rfl, rfl⟩, rfl, gnX12, gw_at 930 (by decide +kernel) rfl, tyX12_ok, nmX12⟩
set_option maxRecDepth 100000 in
theorem flX12_13 : FL RX12 13 11 3 (23 + 2) RX12 TX12 tyX12 40 := ⟨⟨by decide, by decide, rfl, rfl⟩, rfl, gnX12, gw_at 932 (by decide +kernel) rfl, tyX12_ok, nmX12⟩
set_option maxRecDepth 100000 in
theorem flX12_17 : FL RX12 17 11 4 (24 + 2) RX12 TX12 tyX12 40 := ⟨⟨by decide, by decide, rfl, rfl⟩, rfl, gnX12, gw_at 933 (by decide +kernel) rfl, tyX12_ok, nmX12⟩
set_option maxRecDepth 100000 in
theorem flX12_20 : FL RX12 20 11 5 (25 + 2) RX12 TX12 tyX12 40 := ⟨⟨by decide, by decide, rfl, rfl⟩, rfl, gnX12, gw_at 934 (by decide +kernel) rfl, tyX12_ok, nmX12⟩
set_option maxRecDepth 100000 in
theorem flX12_23 : FL RX12 23 11 21 (26 + 2) RX12 TX12 tyX12 40 := ⟨⟨by decide, by decide, rfl, rfl⟩, rfl, gnX12, gw_at 950 (by decide +kernel) rfl, tyX12_ok, nmX12⟩
set_option maxRecDepth 100000 in
theorem flX12_26 : FL RX12 26 11 22 (27 + 2) RX12 TX12 tyX12 40 := ⟨⟨by decide, by decide, rfl, rfl⟩, rfl, gnX12, gw_at 951 (by decide +kernel) rfl, tyX12_ok, nmX12⟩
set_option maxRecDepth 100000 in
theorem flX12_29 : FL RX12 29 11 23 (28 + 2) RX12 TX12 tyX12 40 := ⟨⟨by decide, by decide, rfl, rfl⟩, rfl, gnX12, gw_at 952 (by decide +kernel) rfl, tyX12_ok, nmX12⟩
set_option maxRecDepth 100000 in
theorem flX12_32 : FL RX12 32 11 24 (29 + 2) RX12 TX12 tyX12 40 := ⟨⟨by decide, by decide, rfl, rfl⟩, rfl, gnX12, gw_at 953 (by decide +kernel) rfl, tyX12_ok, nmX12⟩
set_option maxRecDepth 100000 in
theorem flX12_35 : FL RX12 35 11 25 (30 + 2) RX12 TX12 tyX12 40 := ⟨⟨by decide, by decide, rfl, rfl⟩, rfl, gnX12, gw_at 954 (by decide +kernel) rfl, tyX12_ok, nmX12⟩
set_option maxRecDepth 100000 in
theorem flX12_39 : FL RX12 39 11 26 (31 + 2) RX12 TX12 tyX12 40 := ⟨⟨by decide, by decide, rfl, rfl⟩, rfl, gnX12, gw_at 955 (by decide +kernel) rfl, tyX12_ok, nmX12⟩
set_option maxRecDepth 100000 in
theorem flX12_42 : FL RX12 42 11 27 (32 + 2) RX12 TX12 tyX12 40 := ⟨⟨by decide, by decide, rfl, rfl⟩, rfl, gnX12, gw_at 956 (by decide +kernel) rfl, tyX12_ok, nmX12⟩
set_option maxRecDepth 100000 in
theorem flX12_45 : FL RX12 45 11 28 (33 + 2) RX12 TX12 tyX12 40 := ⟨⟨by decide, by decide, rfl, rfl⟩, rfl, gnX12, gw_at 957 (by decide +kernel) rfl, tyX12_ok, nmX12⟩
set_option maxRecDepth 100000 in
theorem flX12_48 : FL RX12 48 11 29 (34 + 2) RX12 TX12 tyX12 40 := ⟨⟨by decide, by decide, rfl, rfl⟩, rfl, gnX12, gw_at 958 (by decide +kernel) rfl, tyX12_ok, nmX12⟩
set_option maxRecDepth 100000 in
theorem flX12_51 : FL RX12 51 11 31 (35 + 2) RX12 TX12 tyX12 40 := ⟨⟨by decide, by decide, rfl, rfl⟩, rfl, gnX12, gw_at 960 (by decide +kernel) rfl, tyX12_ok, nmX12⟩
set_option maxRecDepth 100000 in
theorem flX12_54 : FL RX12 54 11 32 (36 + 2) RX12 TX12 tyX12 40 := ⟨⟨by decide, by decide, rfl, rfl⟩, rfl, gnX12, gw_at 961 (by decide +kernel) rfl, tyX12_ok, nmX12⟩
set_option maxRecDepth 100000 in
theorem flX12_57 : FL RX12 57 11 33 (37 + 2) RX12 TX12 tyX12 40 := ⟨⟨by decide, by decide, rfl, rfl⟩, rfl, gnX12, gw_at 962 (by decide +kernel) rfl, tyX12_ok, nmX12⟩
set_option maxRecDepth 100000 in
theorem flX12_60 : FL RX12 60 11 35 (38 + 2) RX12 TX12 tyX12 40 := ⟨⟨by decide, by decide, rfl, rfl⟩, rfl, gnX12, gw_at 964 (by decide +kernel) rfl, tyX12_ok, nmX12⟩
set_option maxRecDepth 100000 in
theorem flX12_63 : FL RX12 63 11 36 (39 + 2) RX12 TX12 tyX12 40 := ⟨⟨by decide, by decide, rfl, rfl⟩, rfl, gnX12, gw_at 965 (by decide +kernel) rfl, tyX12_ok, nmX12⟩
set_option maxRecDepth 100000 in
theorem flX12_66 : FL RX12 66 11 38 (40 + 2) RX12 TX12 tyX12 40 := ⟨⟨by decide, by decide, rfl, rfl⟩, rfl, gnX12, gw_at 967 (by decide +kernel) rfl, tyX12_ok, nmX12⟩
set_option maxRecDepth 100000 in
theorem flX12_72 : FL RX12 72 11 0 0 RX12 TX12 tyX12 40 := ⟨⟨by decide, by decide, rfl, rfl⟩, rfl, gnX12, gw_at 929 (by decide +kernel) rfl, tyX12_ok, nmX12⟩
set_option maxRecDepth 100000 in
theorem flX12_76 : FL RX12 76 11 2 0 RX12 TX12 tyX12 40 := ⟨⟨by decide, by decide, rfl, rfl⟩, rfl, gnX12, gw_at 931 (by decide +kernel) rfl, tyX12_ok, nmX12⟩
set_option maxRecDepth 100000 in
theorem flX12_94 : FL RX12 94 11 7 0 RX12 TX12 tyX12 40 := ⟨⟨by decide, by decide, rfl, rfl⟩, rfl, gnX12, gw_at 936 (by decide +kernel) rfl, tyX12_ok, nmX12⟩
set_option maxRecDepth 100000 in
theorem flX12_97 : FL RX12 97 11 8 0 RX12 TX12 tyX12 40 := ⟨⟨by decide, by decide, rfl, rfl⟩, rfl, gnX12, gw_at 937 (by decide +kernel) rfl, tyX12_ok, nmX12⟩
set_option maxRecDepth 100000 in
theorem flX12_100 : FL RX12 100 11 9 0 RX12 TX12 tyX12 40 := ⟨⟨by decide, by decide, rfl, rfl⟩, rfl, gnX12, gw_at 938 (by decide +kernel) rfl, tyX12_ok, nmX12⟩
set_option maxRecDepth 100000 in
theorem flX12_103 : FL RX12 103 11 6 0 RX12 TX12 tyX12 40 := ⟨⟨by decide, by decide, rfl, rfl⟩, rfl, gnX12, gw_at 935 (by decide +kernel) rfl, tyX12_ok, nmX12⟩
set_option maxRecDepth 100000 in
theorem flX12_106 : FL RX12 106 11 10 0 RX12 TX12 tyX12 40 := ⟨⟨by decide, by decide, rfl, rfl⟩, rfl, gnX12, gw_at 939 (by decide +kernel) rfl, tyX12_ok, nmX12⟩
set_option maxRecDepth 100000 in
theorem flX12_142 : FL RX12 142 11 17 0 RX12 TX12 tyX12 40 := ⟨⟨by decide, by decide, rfl, rfl⟩, rfl, gnX12, gw_at 946 (by decide +kernel) rfl, tyX12_ok, nmX12⟩
set_option maxRecDepth 100000 in
theorem flX12_145 : FL RX12 145 11 18 0 RX12 TX12 tyX12 40 := ⟨⟨by decide, by decide, rfl, rfl⟩, rfl, gnX12, gw_at 947 (by decide +kernel) rfl, tyX12_ok, nmX12⟩
set_option maxRecDepth 100000 in
theorem flX12_156 : FL RX12 156 11 13 0 RX12 TX12 tyX12 40 := ⟨⟨by decide, by decide, rfl, rfl⟩, rfl, gnX12, gw_at 942 (by decide +kernel) rfl, tyX12_ok, nmX12⟩
set_option maxRecDepth 100000 in
theorem flX12_159 : FL RX12 159 11 15 0 RX12 TX12 tyX12 40 := ⟨⟨by decide, by decide, rfl, rfl⟩, rfl, gnX12, gw_at 944 (by decide +kernel) rfl, tyX12_ok, nmX12⟩
set_option maxRecDepth 100000 in
theorem flX12_193 : FL RX12 193 11 16 0 RX12 TX12 tyX12 40 := ⟨⟨by decide, by decide, rfl, rfl⟩, rfl, gnX12, gw_at 945 (by decide +kernel) rfl, tyX12_ok, nmX12⟩
set_option maxRecDepth 100000 in
theorem flX12_294 : FL RX12 294 11 11 0 RX12 TX12 tyX12 40 := ⟨⟨by decide, by decide, rfl, rfl⟩, rfl, gnX12, gw_at 940 (by decide +kernel) rfl, tyX12_ok, nmX12⟩
set_option maxRecDepth 100000 in
theorem flX12_297 : FL RX12 297 11 12 0 RX12 TX12 tyX12 40 := ⟨⟨by decide, by decide, rfl, rfl⟩, rfl, gnX12, gw_at 941 (by decide +kernel) rfl, tyX12_ok, nmX12⟩
set_option maxRecDepth 100000 in
theorem flX12_304 : FL RX12 304 11 14 0 RX12 TX12 tyX12 40 := ⟨⟨by decide, by decide, rfl, rfl⟩, rfl, gnX12, gw_at 943 (by decide +kernel) rfl, tyX12_ok, nmX12⟩
set_option maxRecDepth 100000 in
theorem flX12_319 : FL RX12 319 11 19 0 RX12 TX12 tyX12 40 := ⟨⟨by decide, by decide, rfl, rfl⟩, rfl, gnX12, gw_at 948 (by decide +kernel) rfl, tyX12_ok, nmX12⟩
set_option maxRecDepth 100000 in
theorem flX12_322 : FL RX12 322 11 20 0 RX12 TX12 tyX12 40 := ⟨⟨by decide, by decide, rfl, rfl⟩, rfl, gnX12, gw_at 949 (by decide +kernel) rfl, tyX12_ok, nmX12⟩
set_option maxRecDepth 100000 in
theorem flX12_325 : FL RX12 325 11 30 0 RX12 TX12 tyX12 40 := ⟨⟨by decide, by decide, rfl, rfl⟩, rfl, gnX12, gw_at 959 (by decide +kernel) rfl, tyX12_ok, nmX12⟩
set_option maxRecDepth 100000 in
theorem flX12_393 : FL RX12 393 11 34 0 RX12 TX12 tyX12 40 := ⟨⟨by decide, by decide, rfl, rfl⟩, rfl, gnX12, gw_at 963 (by decide +kernel) rfl, tyX12_ok, nmX12⟩
set_option maxRecDepth 100000 in
theorem flX12_402 : FL RX12 402 11 39 0 RX12 TX12 tyX12 40 := ⟨⟨by decide, by decide, rfl, rfl⟩, rfl, gnX12, gw_at 968 (by decide +kernel) rfl, tyX12_ok, nmX12⟩
set_option maxRecDepth 100000 in
theorem flX12_405 : FL RX12 405 11 37 0 RX12 TX12 tyX12 40 := ⟨⟨by decide, by decide, rfl, rfl⟩, rfl, gnX12, gw_at 966 (by decide +kernel) rfl, tyX12_ok, nmX12⟩
set_option maxRecDepth 100000 in
theorem wcX11_223 : Cond.constant RX11 223 (nI 536871936) ∈ gw_tbl := gw_at 532 (by decide +kernel) rfl
set_option maxRecDepth 100000 in
theorem wcX0_135 : Cond.constant RX0 135 (-16777216) ∈ gw_tbl := gw_at 516 (by decide +kernel) rfl
set_option maxRecDepth 100000 in
theorem wcX0_136 : Cond.constant RX0 136 (nI 16777214) ∈ gw_tbl := gw_at 517 (by decide +kernel) rfl
set_option maxRecDepth 100000 in
theorem wcX0_137 : Cond.constant RX0 137 (nI 53248) ∈ gw_tbl := gw_at 522 (by decide +kernel) rfl
set_option maxRecDepth 100000 in
theorem wcX4_41 : Cond.constant RX4 41 (nI 536870912) ∈ gw_tbl := gw_at 472 (by decide +kernel) rfl
set_option maxRecDepth 100000 in
theorem wcX12_202 : Cond.constant RX12 202 (nI 48896) ∈ gw_tbl := gw_at 1176 (by decide +kernel) rfl
set_option maxRecDepth 100000 in
theorem wcX12_268 : Cond.constant RX12 268 (nI 46080) ∈ gw_tbl := gw_at 1243 (by decide +kernel) rfl
set_option maxRecDepth 100000 in
theorem wcX12_277 : Cond.constant RX12 277 (nI 48128) ∈ gw_tbl := gw_at 1250 (by decide +kernel) rfl
set_option maxRecDepth 100000 in
theorem wcX12_282 : Cond.constant RX12 282 (nI 57344) ∈ gw_tbl := gw_at 1253 (by decide +kernel) rfl
set_option maxRecDepth 100000 in
theorem wcX12_293 : Cond.constant RX12 293 (nI 53248) ∈ gw_tbl := gw_at 1264 (by decide +kernel) rfl
set_option maxRecDepth 100000 in
theorem wcX12_362 : Cond.constant RX12 362 (nI 61440) ∈ gw_tbl := gw_at 1322 (by decide +kernel) rfl
set_option maxRecDepth 100000 in
theorem wcX12_363 : Cond.constant RX12 363 (-16777216) ∈ gw_tbl := gw_at 1323 (by decide +kernel) rfl
set_option maxRecDepth 100000 in
theorem wcX12_364 : Cond.constant RX12 364 (nI 16777214) ∈ gw_tbl := gw_at 1324 (by decide +kernel) rfl
set_option maxRecDepth 100000 in
theorem wcX12_382 : Cond.constant RX12 382 (nI 536870912) ∈ gw_tbl := gw_at 1304 (by decide +kernel) rfl
set_option maxRecDepth 100000 in
theorem wcX12_383 : Cond.constant RX12 383 (nI 536871936) ∈ gw_tbl := gw_at 1305 (by decide +kernel) rfl
set_option maxRecDepth 100000 in
theorem wlX11_213 : Cond.constantLong RX11 213 (lN 1835100526) ∈ gw_tbl := gw_at 530 (by decide +kernel) rfl
set_option maxRecDepth 100000 in
theorem wlX12_129 : Cond.constantLong RX12 129 (lN 255) ∈ gw_tbl := gw_at 1143 (by decide +kernel) rfl
set_option maxRecDepth 100000 in
theorem wlX12_178 : Cond.constantLong RX12 178 (lN 199521302644) ∈ gw_tbl := gw_at 1138 (by decide +kernel) rfl
set_option maxRecDepth 100000 in
theorem wlX12_180 : Cond.constantLong RX12 180 (lN 199252604001) ∈ gw_tbl := gw_at 1144 (by decide +kernel) rfl
set_option maxRecDepth 100000 in
theorem wlX12_182 : Cond.constantLong RX12 182 (lN 778204019) ∈ gw_tbl := gw_at 1145 (by decide +kernel) rfl
set_option maxRecDepth 100000 in
theorem wlX12_184 : Cond.constantLong RX12 184 (lN 13061564351537516) ∈ gw_tbl := gw_at 1146 (by decide +kernel) rfl
set_option maxRecDepth 100000 in
theorem wlX12_186 : Cond.constantLong RX12 186 (lN 199572288100) ∈ gw_tbl := gw_at 1151 (by decide +kernel) rfl
set_option maxRecDepth 100000 in
theorem wlX12_191 : Cond.constantLong RX12 191 (lN 199220622437) ∈ gw_tbl := gw_at 1168 (by decide +kernel) rfl
set_option maxRecDepth 100000 in
theorem wlX12_196 : Cond.constantLong RX12 196 (lN 51073341547365) ∈ gw_tbl := gw_at 1169 (by decide +kernel) rfl
set_option maxRecDepth 100000 in
theorem wlX12_198 : Cond.constantLong RX12 198 (lN 50995965552494) ∈ gw_tbl := gw_at 1170 (by decide +kernel) rfl
set_option maxRecDepth 100000 in
theorem wlX12_200 : Cond.constantLong RX12 200 (lN 7237488) ∈ gw_tbl := gw_at 1175 (by decide +kernel) rfl
set_option maxRecDepth 100000 in
theorem wlX12_203 : Cond.constantLong RX12 203 (lN 1836021363) ∈ gw_tbl := gw_at 1181 (by decide +kernel) rfl
set_option maxRecDepth 100000 in
theorem wlX12_208 : Cond.constantLong RX12 208 (lN 6516080) ∈ gw_tbl := gw_at 1198 (by decide +kernel) rfl
set_option maxRecDepth 100000 in
theorem wlX12_210 : Cond.constantLong RX12 210 (lN 1633969267) ∈ gw_tbl := gw_at 1199 (by decide +kernel) rfl
set_option maxRecDepth 100000 in
theorem wlX12_215 : Cond.constantLong RX12 215 (lN 1937072755) ∈ gw_tbl := gw_at 1204 (by decide +kernel) rfl
set_option maxRecDepth 100000 in
theorem wlX12_217 : Cond.constantLong RX12 217 (lN 1819503731) ∈ gw_tbl := gw_at 1205 (by decide +kernel) rfl
set_option maxRecDepth 100000 in
theorem wlX12_223 : Cond.constantLong RX12 223 (lN 1819505267) ∈ gw_tbl := gw_at 1210 (by decide +kernel) rfl
set_option maxRecDepth 100000 in
theorem wlX12_225 : Cond.constantLong RX12 225 (lN 1634955891) ∈ gw_tbl := gw_at 1211 (by decide +kernel) rfl
set_option maxRecDepth 100000 in
theorem wlX12_234 : Cond.constantLong RX12 234 (lN 1634624627) ∈ gw_tbl := gw_at 1216 (by decide +kernel) rfl
set_option maxRecDepth 100000 in
theorem wlX12_236 : Cond.constantLong RX12 236 (lN 1701802611) ∈ gw_tbl := gw_at 1217 (by decide +kernel) rfl
set_option maxRecDepth 100000 in
theorem wlX12_238 : Cond.constantLong RX12 238 (lN 1633969011) ∈ gw_tbl := gw_at 1218 (by decide +kernel) rfl
set_option maxRecDepth 100000 in
theorem wlX12_240 : Cond.constantLong RX12 240 (lN 1935827827) ∈ gw_tbl := gw_at 1219 (by decide +kernel) rfl
set_option maxRecDepth 100000 in
theorem wlX12_242 : Cond.constantLong RX12 242 (lN 7631732) ∈ gw_tbl := gw_at 1220 (by decide +kernel) rfl
set_option maxRecDepth 100000 in
theorem wlX12_244 : Cond.constantLong RX12 244 (lN 1852139379) ∈ gw_tbl := gw_at 1221 (by decide +kernel) rfl
set_option maxRecDepth 100000 in
theorem wlX12_246 : Cond.constantLong RX12 246 (lN 1869771379) ∈ gw_tbl := gw_at 1222 (by decide +kernel) rfl
set_option maxRecDepth 100000 in
theorem wlX12_248 : Cond.constantLong RX12 248 (lN 1836412019) ∈ gw_tbl := gw_at 1223 (by decide +kernel) rfl
set_option maxRecDepth 100000 in
theorem wlX12_250 : Cond.constantLong RX12 250 (lN 1651073907) ∈ gw_tbl := gw_at 1224 (by decide +kernel) rfl
set_option maxRecDepth 100000 in
theorem wlX12_252 : Cond.constantLong RX12 252 (lN 1836478067) ∈ gw_tbl := gw_at 1225 (by decide +kernel) rfl
set_option maxRecDepth 100000 in
theorem wlX12_254 : Cond.constantLong RX12 254 (lN 7103602) ∈ gw_tbl := gw_at 1234 (by decide +kernel) rfl
set_option maxRecDepth 100000 in
theorem wlX12_260 : Cond.constantLong RX12 260 (lN 7566450) ∈ gw_tbl := gw_at 1239 (by decide +kernel) rfl
set_option maxRecDepth 100000 in
theorem wlX12_262 : Cond.constantLong RX12 262 (lN 1818522210) ∈ gw_tbl := gw_at 1240 (by decide +kernel) rfl
set_option maxRecDepth 100000 in
theorem wlX12_264 : Cond.constantLong RX12 264 (lN 1937011298) ∈ gw_tbl := gw_at 1241 (by decide +kernel) rfl
set_option maxRecDepth 100000 in
theorem wlX12_266 : Cond.constantLong RX12 266 (lN 1886745448) ∈ gw_tbl := gw_at 1242 (by decide +kernel) rfl
set_option maxRecDepth 100000 in
theorem wlX12_269 : Cond.constantLong RX12 269 (lN 27762) ∈ gw_tbl := gw_at 1244 (by decide +kernel) rfl
set_option maxRecDepth 100000 in
theorem wlX12_275 : Cond.constantLong RX12 275 (lN 7368560) ∈ gw_tbl := gw_at 1249 (by decide +kernel) rfl
set_option maxRecDepth 100000 in
theorem wlX12_278 : Cond.constantLong RX12 278 (lN 28771) ∈ gw_tbl := gw_at 1251 (by decide +kernel) rfl
set_option maxRecDepth 100000 in
theorem wlX12_280 : Cond.constantLong RX12 280 (lN 98) ∈ gw_tbl := gw_at 1252 (by decide +kernel) rfl
set_option maxRecDepth 100000 in
theorem wlX12_286 : Cond.constantLong RX12 286 (lN 25196) ∈ gw_tbl := gw_at 1258 (by decide +kernel) rfl
set_option maxRecDepth 100000 in
theorem wlX12_288 : Cond.constantLong RX12 288 (lN 25208) ∈ gw_tbl := gw_at 1259 (by decide +kernel) rfl
abbrev iX0_init : MIx := (cX0_init, RX0, 1, none, { frames := 1, cells := 0, slots := 0, locals := 20 })
set_option maxRecDepth 100000 in
theorem wkX0_init : Cond.code yX0_init iX0_init.1 iX0_init.2.2.1 iX0_init.2.2.2.1 ∈ gw_tbl := gw_at 286 (by decide +kernel) rfl
abbrev iX0_clear : MIx := (cX0_clear, RX0, 1, none, { frames := 2, cells := 0, slots := 0, locals := 44 })
set_option maxRecDepth 100000 in
theorem wkX0_clear : Cond.code yX0_clear iX0_clear.1 iX0_clear.2.2.1 iX0_clear.2.2.2.1 ∈ gw_tbl := gw_at 409 (by decide +kernel) rfl
abbrev iX0_addressOf : MIx := (cX0_addressOf, RX0, 2, (some .int), { frames := 0, cells := 0, slots := 0, locals := 0 })
set_option maxRecDepth 100000 in
theorem wkX0_addressOf : Cond.code yX0_addressOf iX0_addressOf.1 iX0_addressOf.2.2.1 iX0_addressOf.2.2.2.1 ∈ gw_tbl := gw_at 494 (by decide +kernel) rfl
abbrev iX0_layOut : MIx := (cX0_layOut, RX0, 8, (some .int), { frames := 1, cells := 0, slots := 0, locals := 25 })
set_option maxRecDepth 100000 in
theorem wkX0_layOut : Cond.code yX0_layOut iX0_layOut.1 iX0_layOut.2.2.1 iX0_layOut.2.2.2.1 ∈ gw_tbl := gw_at 439 (by decide +kernel) rfl
abbrev iX0_write : MIx := (cX0_write, RX0, 5, (some .int), { frames := 4, cells := 0, slots := 0, locals := 96 })
set_option maxRecDepth 100000 in
theorem wkX0_write : Cond.code yX0_write iX0_write.1 iX0_write.2.2.1 iX0_write.2.2.2.1 ∈ gw_tbl := gw_at 480 (by decide +kernel) rfl
abbrev iX0_writeWord : MIx := (cX0_writeWord, RX0, 5, (some .int), { frames := 3, cells := 0, slots := 0, locals := 66 })
set_option maxRecDepth 100000 in
theorem wkX0_writeWord : Cond.code yX0_writeWord iX0_writeWord.1 iX0_writeWord.2.2.1 iX0_writeWord.2.2.2.1 ∈ gw_tbl := gw_at 484 (by decide +kernel) rfl
abbrev iX0_writeInstruction : MIx := (cX0_writeInstruction, RX0, 7, (some .int), { frames := 3, cells := 0, slots := 0, locals := 70 })
set_option maxRecDepth 100000 in
theorem wkX0_writeInstruction : Cond.code yX0_writeInstruction iX0_writeInstruction.1 iX0_writeInstruction.2.2.1 iX0_writeInstruction.2.2.2.1 ∈ gw_tbl := gw_at 511 (by decide +kernel) rfl
abbrev iX0_resolve : MIx := (cX0_resolve, RX0, 5, (some .int), { frames := 1, cells := 0, slots := 0, locals := 24 })
set_option maxRecDepth 100000 in
theorem wkX0_resolve : Cond.code yX0_resolve iX0_resolve.1 iX0_resolve.2.2.1 iX0_resolve.2.2.2.1 ∈ gw_tbl := gw_at 488 (by decide +kernel) rfl
abbrev iX0_reaches : MIx := (cX0_reaches, RX0, 3, (some .boolean), { frames := 0, cells := 0, slots := 0, locals := 0 })
set_option maxRecDepth 100000 in
theorem wkX0_reaches : Cond.code yX0_reaches iX0_reaches.1 iX0_reaches.2.2.1 iX0_reaches.2.2.2.1 ∈ gw_tbl := gw_at 515 (by decide +kernel) rfl
abbrev iX0_distanceBits : MIx := (cX0_distanceBits, RX0, 2, (some .int), { frames := 0, cells := 0, slots := 0, locals := 0 })
set_option maxRecDepth 100000 in
theorem wkX0_distanceBits : Cond.code yX0_distanceBits iX0_distanceBits.1 iX0_distanceBits.2.2.1 iX0_distanceBits.2.2.2.1 ∈ gw_tbl := gw_at 525 (by decide +kernel) rfl
abbrev iX0_writeCall : MIx := (cX0_writeCall, RX0, 7, none, { frames := 2, cells := 0, slots := 0, locals := 44 })
set_option maxRecDepth 100000 in
theorem wkX0_writeCall : Cond.code yX0_writeCall iX0_writeCall.1 iX0_writeCall.2.2.1 iX0_writeCall.2.2.2.1 ∈ gw_tbl := gw_at 521 (by decide +kernel) rfl
abbrev iX1_init : MIx := (cX1_init, RX1, 1, none, { frames := 0, cells := 0, slots := 0, locals := 0 })
set_option maxRecDepth 100000 in
theorem wkX1_init : Cond.code yX1_init iX1_init.1 iX1_init.2.2.1 iX1_init.2.2.2.1 ∈ gw_tbl := gw_at 263 (by decide +kernel) rfl
abbrev iX1_forget : MIx := (cX1_forget, RX1, 1, none, { frames := 0, cells := 0, slots := 0, locals := 0 })
set_option maxRecDepth 100000 in
theorem wkX1_forget : Cond.code yX1_forget iX1_forget.1 iX1_forget.2.2.1 iX1_forget.2.2.2.1 ∈ gw_tbl := gw_at 405 (by decide +kernel) rfl
abbrev iX1_tell : MIx := (cX1_tell, RX1, 5, (some .boolean), { frames := 0, cells := 0, slots := 0, locals := 0 })
set_option maxRecDepth 100000 in
theorem wkX1_tell : Cond.code yX1_tell iX1_tell.1 iX1_tell.2.2.1 iX1_tell.2.2.2.1 ∈ gw_tbl := gw_at 435 (by decide +kernel) rfl
abbrev iX2_init : MIx := (cX2_init, RX2, 1, none, { frames := 0, cells := 0, slots := 0, locals := 0 })
set_option maxRecDepth 100000 in
theorem wkX2_init : Cond.code yX2_init iX2_init.1 iX2_init.2.2.1 iX2_init.2.2.2.1 ∈ gw_tbl := gw_at 351 (by decide +kernel) rfl
abbrev iX2_clear : MIx := (cX2_clear, RX2, 1, none, { frames := 1, cells := 0, slots := 0, locals := 23 })
set_option maxRecDepth 100000 in
theorem wkX2_clear : Cond.code yX2_clear iX2_clear.1 iX2_clear.2.2.1 iX2_clear.2.2.2.1 ∈ gw_tbl := gw_at 420 (by decide +kernel) rfl
abbrev iX2_putByte : MIx := (cX2_putByte, RX2, 3, none, { frames := 0, cells := 0, slots := 0, locals := 0 })
set_option maxRecDepth 100000 in
theorem wkX2_putByte : Cond.code yX2_putByte iX2_putByte.1 iX2_putByte.2.2.1 iX2_putByte.2.2.2.1 ∈ gw_tbl := gw_at 506 (by decide +kernel) rfl
abbrev iX2_putHalf : MIx := (cX2_putHalf, RX2, 3, none, { frames := 1, cells := 0, slots := 0, locals := 22 })
set_option maxRecDepth 100000 in
theorem wkX2_putHalf : Cond.code yX2_putHalf iX2_putHalf.1 iX2_putHalf.2.2.1 iX2_putHalf.2.2.2.1 ∈ gw_tbl := gw_at 502 (by decide +kernel) rfl
abbrev iX2_putWord : MIx := (cX2_putWord, RX2, 3, none, { frames := 2, cells := 0, slots := 0, locals := 44 })
set_option maxRecDepth 100000 in
theorem wkX2_putWord : Cond.code yX2_putWord iX2_putWord.1 iX2_putWord.2.2.1 iX2_putWord.2.2.2.1 ∈ gw_tbl := gw_at 498 (by decide +kernel) rfl
abbrev iX2_byteAt : MIx := (cX2_byteAt, RX2, 2, (some .int), { frames := 0, cells := 0, slots := 0, locals := 0 })
set_option maxRecDepth 100000 in
theorem wkX2_byteAt : Cond.code yX2_byteAt iX2_byteAt.1 iX2_byteAt.2.2.1 iX2_byteAt.2.2.2.1 ∈ gw_tbl := gw_at 542 (by decide +kernel) rfl
abbrev iX2_recordCharacter : MIx := (cX2_recordCharacter, RX2, 5, (some .char), { frames := 6, cells := 0, slots := 0, locals := 130 })
set_option maxRecDepth 100000 in
theorem wkX2_recordCharacter : Cond.code yX2_recordCharacter iX2_recordCharacter.1 iX2_recordCharacter.2.2.1 iX2_recordCharacter.2.2.2.1 ∈ gw_tbl := gw_at 550 (by decide +kernel) rfl
abbrev iX2_bodyCharacter : MIx := (cX2_bodyCharacter, RX2, 5, (some .char), { frames := 5, cells := 0, slots := 0, locals := 106 })
set_option maxRecDepth 100000 in
theorem wkX2_bodyCharacter : Cond.code yX2_bodyCharacter iX2_bodyCharacter.1 iX2_bodyCharacter.2.2.1 iX2_bodyCharacter.2.2.2.1 ∈ gw_tbl := gw_at 603 (by decide +kernel) rfl
abbrev iX2_recordByte : MIx := (cX2_recordByte, RX2, 6, (some .int), { frames := 2, cells := 0, slots := 0, locals := 44 })
set_option maxRecDepth 100000 in
theorem wkX2_recordByte : Cond.code yX2_recordByte iX2_recordByte.1 iX2_recordByte.2.2.1 iX2_recordByte.2.2.2.1 ∈ gw_tbl := gw_at 610 (by decide +kernel) rfl
abbrev iX2_plainRecordByte : MIx := (cX2_plainRecordByte, RX2, 4, (some .int), { frames := 1, cells := 0, slots := 0, locals := 21 })
set_option maxRecDepth 100000 in
theorem wkX2_plainRecordByte : Cond.code yX2_plainRecordByte iX2_plainRecordByte.1 iX2_plainRecordByte.2.2.1 iX2_plainRecordByte.2.2.2.1 ∈ gw_tbl := gw_at 614 (by decide +kernel) rfl
abbrev iX3_init : MIx := (cX3_init, RX3, 1, none, { frames := 0, cells := 0, slots := 0, locals := 0 })
set_option maxRecDepth 100000 in
theorem wkX3_init : Cond.code yX3_init iX3_init.1 iX3_init.2.2.1 iX3_init.2.2.2.1 ∈ gw_tbl := gw_at 292 (by decide +kernel) rfl
abbrev iX3_append : MIx := (cX3_append, RX3, 6, none, { frames := 0, cells := 0, slots := 0, locals := 0 })
set_option maxRecDepth 100000 in
theorem wkX3_append : Cond.code yX3_append iX3_append.1 iX3_append.2.2.1 iX3_append.2.2.2.1 ∈ gw_tbl := gw_at 443 (by decide +kernel) rfl
abbrev iX3_find : MIx := (cX3_find, RX3, 5, (some .int), { frames := 0, cells := 0, slots := 0, locals := 0 })
set_option maxRecDepth 100000 in
theorem wkX3_find : Cond.code yX3_find iX3_find.1 iX3_find.2.2.1 iX3_find.2.2.2.1 ∈ gw_tbl := gw_at 431 (by decide +kernel) rfl
abbrev iX3_findGlobal : MIx := (cX3_findGlobal, RX3, 4, (some .int), { frames := 0, cells := 0, slots := 0, locals := 0 })
set_option maxRecDepth 100000 in
theorem wkX3_findGlobal : Cond.code yX3_findGlobal iX3_findGlobal.1 iX3_findGlobal.2.2.1 iX3_findGlobal.2.2.2.1 ∈ gw_tbl := gw_at 456 (by decide +kernel) rfl
abbrev iX3_makeGlobal : MIx := (cX3_makeGlobal, RX3, 5, (some .int), { frames := 1, cells := 0, slots := 0, locals := 24 })
set_option maxRecDepth 100000 in
theorem wkX3_makeGlobal : Cond.code yX3_makeGlobal iX3_makeGlobal.1 iX3_makeGlobal.2.2.1 iX3_makeGlobal.2.2.2.1 ∈ gw_tbl := gw_at 451 (by decide +kernel) rfl
abbrev iX4_init : MIx := (cX4_init, RX4, 1, none, { frames := 0, cells := 0, slots := 0, locals := 0 })
set_option maxRecDepth 100000 in
theorem wkX4_init : Cond.code yX4_init iX4_init.1 iX4_init.2.2.1 iX4_init.2.2.2.1 ∈ gw_tbl := gw_at 325 (by decide +kernel) rfl
abbrev iX4_clear : MIx := (cX4_clear, RX4, 2, none, { frames := 1, cells := 0, slots := 0, locals := 23 })
set_option maxRecDepth 100000 in
theorem wkX4_clear : Cond.code yX4_clear iX4_clear.1 iX4_clear.2.2.1 iX4_clear.2.2.2.1 ∈ gw_tbl := gw_at 413 (by decide +kernel) rfl
abbrev iX4_arrange : MIx := (cX4_arrange, RX4, 2, (some .boolean), { frames := 2, cells := 0, slots := 0, locals := 44 })
set_option maxRecDepth 100000 in
theorem wkX4_arrange : Cond.code yX4_arrange iX4_arrange.1 iX4_arrange.2.2.1 iX4_arrange.2.2.2.1 ∈ gw_tbl := gw_at 464 (by decide +kernel) rfl
abbrev iX4_line : MIx := (cX4_line, RX4, 5, (some .int), { frames := 1, cells := 0, slots := 0, locals := 20 })
set_option maxRecDepth 100000 in
theorem wkX4_line : Cond.code yX4_line iX4_line.1 iX4_line.2.2.1 iX4_line.2.2.2.1 ∈ gw_tbl := gw_at 468 (by decide +kernel) rfl
abbrev iX4_nextFour : MIx := (cX4_nextFour, RX4, 1, (some .int), { frames := 0, cells := 0, slots := 0, locals := 0 })
set_option maxRecDepth 100000 in
theorem wkX4_nextFour : Cond.code yX4_nextFour iX4_nextFour.1 iX4_nextFour.2.2.1 iX4_nextFour.2.2.2.1 ∈ gw_tbl := gw_at 471 (by decide +kernel) rfl
abbrev iX6_init : MIx := (cX6_init, RX6, 1, none, { frames := 2, cells := 0, slots := 0, locals := 40 })
set_option maxRecDepth 100000 in
theorem wkX6_init : Cond.code yX6_init iX6_init.1 iX6_init.2.2.1 iX6_init.2.2.2.1 ∈ gw_tbl := gw_at 226 (by decide +kernel) rfl
abbrev iX6_parse : MIx := (cX6_parse, RX6, 4, none, { frames := 8, cells := 0, slots := 0, locals := 176 })
set_option maxRecDepth 100000 in
theorem wkX6_parse : Cond.code yX6_parse iX6_parse.1 iX6_parse.2.2.1 iX6_parse.2.2.2.1 ∈ gw_tbl := gw_at 730 (by decide +kernel) rfl
abbrev iX6_label : MIx := (cX6_label, RX6, 5, none, { frames := 3, cells := 0, slots := 0, locals := 65 })
set_option maxRecDepth 100000 in
theorem wkX6_label : Cond.code yX6_label iX6_label.1 iX6_label.2.2.1 iX6_label.2.2.2.1 ∈ gw_tbl := gw_at 752 (by decide +kernel) rfl
abbrev iX6_directive : MIx := (cX6_directive, RX6, 3, none, { frames := 5, cells := 0, slots := 0, locals := 109 })
set_option maxRecDepth 100000 in
theorem wkX6_directive : Cond.code yX6_directive iX6_directive.1 iX6_directive.2.2.1 iX6_directive.2.2.2.1 ∈ gw_tbl := gw_at 799 (by decide +kernel) rfl
abbrev iX6_reference : MIx := (cX6_reference, RX6, 2, none, { frames := 3, cells := 0, slots := 0, locals := 67 })
set_option maxRecDepth 100000 in
theorem wkX6_reference : Cond.code yX6_reference iX6_reference.1 iX6_reference.2.2.1 iX6_reference.2.2.2.1 ∈ gw_tbl := gw_at 803 (by decide +kernel) rfl
abbrev iX6_value : MIx := (cX6_value, RX6, 2, none, { frames := 4, cells := 0, slots := 0, locals := 88 })
set_option maxRecDepth 100000 in
theorem wkX6_value : Cond.code yX6_value iX6_value.1 iX6_value.2.2.1 iX6_value.2.2.2.1 ∈ gw_tbl := gw_at 812 (by decide +kernel) rfl
abbrev iX6_instruction : MIx := (cX6_instruction, RX6, 3, none, { frames := 7, cells := 0, slots := 0, locals := 154 })
set_option maxRecDepth 100000 in
theorem wkX6_instruction : Cond.code yX6_instruction iX6_instruction.1 iX6_instruction.2.2.1 iX6_instruction.2.2.2.1 ∈ gw_tbl := gw_at 830 (by decide +kernel) rfl
abbrev iX6_firstRegister : MIx := (cX6_firstRegister, RX6, 2, (some .int), { frames := 3, cells := 0, slots := 0, locals := 62 })
set_option maxRecDepth 100000 in
theorem wkX6_firstRegister : Cond.code yX6_firstRegister iX6_firstRegister.1 iX6_firstRegister.2.2.1 iX6_firstRegister.2.2.2.1 ∈ gw_tbl := gw_at 838 (by decide +kernel) rfl
abbrev iX6_move : MIx := (cX6_move, RX6, 3, (some .int), { frames := 4, cells := 0, slots := 0, locals := 88 })
set_option maxRecDepth 100000 in
theorem wkX6_move : Cond.code yX6_move iX6_move.1 iX6_move.2.2.1 iX6_move.2.2.2.1 ∈ gw_tbl := gw_at 834 (by decide +kernel) rfl
abbrev iX6_sum : MIx := (cX6_sum, RX6, 4, (some .int), { frames := 4, cells := 0, slots := 0, locals := 88 })
set_option maxRecDepth 100000 in
theorem wkX6_sum : Cond.code yX6_sum iX6_sum.1 iX6_sum.2.2.1 iX6_sum.2.2.2.1 ∈ gw_tbl := gw_at 854 (by decide +kernel) rfl
abbrev iX6_shift : MIx := (cX6_shift, RX6, 5, (some .int), { frames := 4, cells := 0, slots := 0, locals := 88 })
set_option maxRecDepth 100000 in
theorem wkX6_shift : Cond.code yX6_shift iX6_shift.1 iX6_shift.2.2.1 iX6_shift.2.2.2.1 ∈ gw_tbl := gw_at 858 (by decide +kernel) rfl
abbrev iX6_pair : MIx := (cX6_pair, RX6, 3, (some .int), { frames := 4, cells := 0, slots := 0, locals := 83 })
set_option maxRecDepth 100000 in
theorem wkX6_pair : Cond.code yX6_pair iX6_pair.1 iX6_pair.2.2.1 iX6_pair.2.2.2.1 ∈ gw_tbl := gw_at 862 (by decide +kernel) rfl
abbrev iX6_memory : MIx := (cX6_memory, RX6, 5, (some .int), { frames := 4, cells := 0, slots := 0, locals := 88 })
set_option maxRecDepth 100000 in
theorem wkX6_memory : Cond.code yX6_memory iX6_memory.1 iX6_memory.2.2.1 iX6_memory.2.2.2.1 ∈ gw_tbl := gw_at 867 (by decide +kernel) rfl
abbrev iX6_list : MIx := (cX6_list, RX6, 7, (some .int), { frames := 6, cells := 0, slots := 0, locals := 128 })
set_option maxRecDepth 100000 in
theorem wkX6_list : Cond.code yX6_list iX6_list.1 iX6_list.2.2.1 iX6_list.2.2.2.1 ∈ gw_tbl := gw_at 872 (by decide +kernel) rfl
abbrev iX6_exchanged : MIx := (cX6_exchanged, RX6, 1, (some .int), { frames := 6, cells := 0, slots := 0, locals := 128 })
set_option maxRecDepth 100000 in
theorem wkX6_exchanged : Cond.code yX6_exchanged iX6_exchanged.1 iX6_exchanged.2.2.1 iX6_exchanged.2.2.2.1 ∈ gw_tbl := gw_at 879 (by decide +kernel) rfl
abbrev iX7_init : MIx := (cX7_init, RX7, 1, none, { frames := 1, cells := 0, slots := 0, locals := 20 })
set_option maxRecDepth 100000 in
theorem wkX7_init : Cond.code yX7_init iX7_init.1 iX7_init.2.2.1 iX7_init.2.2.2.1 ∈ gw_tbl := gw_at 232 (by decide +kernel) rfl
abbrev iX7_begin : MIx := (cX7_begin, RX7, 2, none, { frames := 2, cells := 0, slots := 0, locals := 41 })
set_option maxRecDepth 100000 in
theorem wkX7_begin : Cond.code yX7_begin iX7_begin.1 iX7_begin.2.2.1 iX7_begin.2.2.2.1 ∈ gw_tbl := gw_at 738 (by decide +kernel) rfl
abbrev iX7_step : MIx := (cX7_step, RX7, 2, none, { frames := 1, cells := 0, slots := 0, locals := 20 })
set_option maxRecDepth 100000 in
theorem wkX7_step : Cond.code yX7_step iX7_step.1 iX7_step.2.2.1 iX7_step.2.2.2.1 ∈ gw_tbl := gw_at 742 (by decide +kernel) rfl
abbrev iX7_stepBackTo : MIx := (cX7_stepBackTo, RX7, 2, none, { frames := 2, cells := 0, slots := 0, locals := 41 })
set_option maxRecDepth 100000 in
theorem wkX7_stepBackTo : Cond.code yX7_stepBackTo iX7_stepBackTo.1 iX7_stepBackTo.2.2.1 iX7_stepBackTo.2.2.2.1 ∈ gw_tbl := gw_at 775 (by decide +kernel) rfl
abbrev iX7_fail : MIx := (cX7_fail, RX7, 3, none, { frames := 0, cells := 0, slots := 0, locals := 0 })
set_option maxRecDepth 100000 in
theorem wkX7_fail : Cond.code yX7_fail iX7_fail.1 iX7_fail.2.2.1 iX7_fail.2.2.2.1 ∈ gw_tbl := gw_at 795 (by decide +kernel) rfl
abbrev iX7_atEnd : MIx := (cX7_atEnd, RX7, 1, (some .boolean), { frames := 0, cells := 0, slots := 0, locals := 0 })
set_option maxRecDepth 100000 in
theorem wkX7_atEnd : Cond.code yX7_atEnd iX7_atEnd.1 iX7_atEnd.2.2.1 iX7_atEnd.2.2.2.1 ∈ gw_tbl := gw_at 779 (by decide +kernel) rfl
abbrev iX7_sees : MIx := (cX7_sees, RX7, 2, (some .boolean), { frames := 0, cells := 0, slots := 0, locals := 0 })
set_option maxRecDepth 100000 in
theorem wkX7_sees : Cond.code yX7_sees iX7_sees.1 iX7_sees.2.2.1 iX7_sees.2.2.2.1 ∈ gw_tbl := gw_at 771 (by decide +kernel) rfl
abbrev iX7_seesLetter : MIx := (cX7_seesLetter, RX7, 1, (some .boolean), { frames := 1, cells := 0, slots := 0, locals := 20 })
set_option maxRecDepth 100000 in
theorem wkX7_seesLetter : Cond.code yX7_seesLetter iX7_seesLetter.1 iX7_seesLetter.2.2.1 iX7_seesLetter.2.2.2.1 ∈ gw_tbl := gw_at 816 (by decide +kernel) rfl
abbrev iX7_seesWord : MIx := (cX7_seesWord, RX7, 3, (some .boolean), { frames := 5, cells := 0, slots := 0, locals := 106 })
set_option maxRecDepth 100000 in
theorem wkX7_seesWord : Cond.code yX7_seesWord iX7_seesWord.1 iX7_seesWord.2.2.1 iX7_seesWord.2.2.2.1 ∈ gw_tbl := gw_at 789 (by decide +kernel) rfl
abbrev iX7_seenMnemonic : MIx := (cX7_seenMnemonic, RX7, 2, (some (.object "ThumbLinker$Mnemonic")), { frames := 6, cells := 0, slots := 0, locals := 128 })
set_option maxRecDepth 100000 in
theorem wkX7_seenMnemonic : Cond.code yX7_seenMnemonic iX7_seenMnemonic.1 iX7_seenMnemonic.2.2.1 iX7_seenMnemonic.2.2.2.1 ∈ gw_tbl := gw_at 783 (by decide +kernel) rfl
abbrev iX7_seenRegister : MIx := (cX7_seenRegister, RX7, 2, (some .int), { frames := 0, cells := 0, slots := 0, locals := 0 })
set_option maxRecDepth 100000 in
theorem wkX7_seenRegister : Cond.code yX7_seenRegister iX7_seenRegister.1 iX7_seenRegister.2.2.1 iX7_seenRegister.2.2.2.1 ∈ gw_tbl := gw_at 846 (by decide +kernel) rfl
abbrev iX7_seenName : MIx := (cX7_seenName, RX7, 1, (some .long), { frames := 2, cells := 0, slots := 0, locals := 45 })
set_option maxRecDepth 100000 in
theorem wkX7_seenName : Cond.code yX7_seenName iX7_seenName.1 iX7_seenName.2.2.1 iX7_seenName.2.2.2.1 ∈ gw_tbl := gw_at 756 (by decide +kernel) rfl
abbrev iX7_accept : MIx := (cX7_accept, RX7, 3, (some .boolean), { frames := 2, cells := 0, slots := 0, locals := 41 })
set_option maxRecDepth 100000 in
theorem wkX7_accept : Cond.code yX7_accept iX7_accept.1 iX7_accept.2.2.1 iX7_accept.2.2.2.1 ∈ gw_tbl := gw_at 767 (by decide +kernel) rfl
abbrev iX7_expect : MIx := (cX7_expect, RX7, 2, none, { frames := 2, cells := 0, slots := 0, locals := 41 })
set_option maxRecDepth 100000 in
theorem wkX7_expect : Cond.code yX7_expect iX7_expect.1 iX7_expect.2.2.1 iX7_expect.2.2.2.1 ∈ gw_tbl := gw_at 850 (by decide +kernel) rfl
abbrev iX7_register : MIx := (cX7_register, RX7, 2, (some .int), { frames := 2, cells := 0, slots := 0, locals := 41 })
set_option maxRecDepth 100000 in
theorem wkX7_register : Cond.code yX7_register iX7_register.1 iX7_register.2.2.1 iX7_register.2.2.2.1 ∈ gw_tbl := gw_at 842 (by decide +kernel) rfl
abbrev iX7_name : MIx := (cX7_name, RX7, 3, (some .long), { frames := 2, cells := 0, slots := 0, locals := 45 })
set_option maxRecDepth 100000 in
theorem wkX7_name : Cond.code yX7_name iX7_name.1 iX7_name.2.2.1 iX7_name.2.2.2.1 ∈ gw_tbl := gw_at 807 (by decide +kernel) rfl
abbrev iX7_digits : MIx := (cX7_digits, RX7, 4, (some .int), { frames := 2, cells := 0, slots := 0, locals := 41 })
set_option maxRecDepth 100000 in
theorem wkX7_digits : Cond.code yX7_digits iX7_digits.1 iX7_digits.2.2.1 iX7_digits.2.2.2.1 ∈ gw_tbl := gw_at 825 (by decide +kernel) rfl
abbrev iX7_number : MIx := (cX7_number, RX7, 5, (some .int), { frames := 3, cells := 0, slots := 0, locals := 64 })
set_option maxRecDepth 100000 in
theorem wkX7_number : Cond.code yX7_number iX7_number.1 iX7_number.2.2.1 iX7_number.2.2.2.1 ∈ gw_tbl := gw_at 820 (by decide +kernel) rfl
abbrev iX8_init : MIx := (cX8_init, RX8, 2, none, { frames := 1, cells := 0, slots := 0, locals := 20 })
set_option maxRecDepth 100000 in
theorem wkX8_init : Cond.code yX8_init iX8_init.1 iX8_init.2.2.1 iX8_init.2.2.2.1 ∈ gw_tbl := gw_at 137 (by decide +kernel) rfl
abbrev iX9_init : MIx := (cX9_init, RX9, 1, none, { frames := 0, cells := 0, slots := 0, locals := 0 })
set_option maxRecDepth 100000 in
theorem wkX9_init : Cond.code yX9_init iX9_init.1 iX9_init.2.2.1 iX9_init.2.2.2.1 ∈ gw_tbl := gw_at 144 (by decide +kernel) rfl
abbrev iX9_clear : MIx := (cX9_clear, RX9, 1, none, { frames := 0, cells := 0, slots := 0, locals := 0 })
set_option maxRecDepth 100000 in
theorem wkX9_clear : Cond.code yX9_clear iX9_clear.1 iX9_clear.2.2.1 iX9_clear.2.2.2.1 ∈ gw_tbl := gw_at 734 (by decide +kernel) rfl
abbrev iX10_init : MIx := (cX10_init, RX10, 1, none, { frames := 0, cells := 0, slots := 0, locals := 0 })
set_option maxRecDepth 100000 in
theorem wkX10_init : Cond.code yX10_init iX10_init.1 iX10_init.2.2.1 iX10_init.2.2.2.1 ∈ gw_tbl := gw_at 119 (by decide +kernel) rfl
abbrev iX10_charactersIn : MIx := (cX10_charactersIn, RX10, 3, (some .int), { frames := 0, cells := 0, slots := 0, locals := 0 })
set_option maxRecDepth 100000 in
theorem wkX10_charactersIn : Cond.code yX10_charactersIn iX10_charactersIn.1 iX10_charactersIn.2.2.1 iX10_charactersIn.2.2.2.1 ∈ gw_tbl := gw_at 628 (by decide +kernel) rfl
abbrev iX10_appendFour : MIx := (cX10_appendFour, RX10, 4, none, { frames := 0, cells := 0, slots := 0, locals := 0 })
set_option maxRecDepth 100000 in
theorem wkX10_appendFour : Cond.code yX10_appendFour iX10_appendFour.1 iX10_appendFour.2.2.1 iX10_appendFour.2.2.2.1 ∈ gw_tbl := gw_at 698 (by decide +kernel) rfl
abbrev iX10_nameBetween : MIx := (cX10_nameBetween, RX10, 6, (some .long), { frames := 1, cells := 0, slots := 0, locals := 20 })
set_option maxRecDepth 100000 in
theorem wkX10_nameBetween : Cond.code yX10_nameBetween iX10_nameBetween.1 iX10_nameBetween.2.2.1 iX10_nameBetween.2.2.2.1 ∈ gw_tbl := gw_at 760 (by decide +kernel) rfl
abbrev iX11_init : MIx := (cX11_init, RX11, 2, none, { frames := 3, cells := 0, slots := 0, locals := 60 })
set_option maxRecDepth 100000 in
theorem wkX11_init : Cond.code yX11_init iX11_init.1 iX11_init.2.2.1 iX11_init.2.2.2.1 ∈ gw_tbl := gw_at 111 (by decide +kernel) rfl
abbrev iX11_type : MIx := (cX11_type, RX11, 6, (some .int), { frames := 1, cells := 0, slots := 0, locals := 23 })
set_option maxRecDepth 100000 in
theorem wkX11_type : Cond.code yX11_type iX11_type.1 iX11_type.2.2.1 iX11_type.2.2.2.1 ∈ gw_tbl := gw_at 625 (by decide +kernel) rfl
abbrev iX11_erase : MIx := (cX11_erase, RX11, 2, (some .int), { frames := 0, cells := 0, slots := 0, locals := 0 })
set_option maxRecDepth 100000 in
theorem wkX11_erase : Cond.code yX11_erase iX11_erase.1 iX11_erase.2.2.1 iX11_erase.2.2.2.1 ∈ gw_tbl := gw_at 397 (by decide +kernel) rfl
abbrev iX11_add : MIx := (cX11_add, RX11, 3, (some .int), { frames := 9, cells := 0, slots := 0, locals := 199 })
set_option maxRecDepth 100000 in
theorem wkX11_add : Cond.code yX11_add iX11_add.1 iX11_add.2.2.1 iX11_add.2.2.2.1 ∈ gw_tbl := gw_at 706 (by decide +kernel) rfl
abbrev iX11_change : MIx := (cX11_change, RX11, 4, none, { frames := 9, cells := 0, slots := 0, locals := 199 })
set_option maxRecDepth 100000 in
theorem wkX11_change : Cond.code yX11_change iX11_change.1 iX11_change.2.2.1 iX11_change.2.2.2.1 ∈ gw_tbl := gw_at 886 (by decide +kernel) rfl
abbrev iX11_drop : MIx := (cX11_drop, RX11, 3, (some .int), { frames := 1, cells := 0, slots := 0, locals := 20 })
set_option maxRecDepth 100000 in
theorem wkX11_drop : Cond.code yX11_drop iX11_drop.1 iX11_drop.2.2.1 iX11_drop.2.2.2.1 ∈ gw_tbl := gw_at 894 (by decide +kernel) rfl
abbrev iX11_link : MIx := (cX11_link, RX11, 2, (some .int), { frames := 6, cells := 0, slots := 0, locals := 144 })
set_option maxRecDepth 100000 in
theorem wkX11_link : Cond.code yX11_link iX11_link.1 iX11_link.2.2.1 iX11_link.2.2.2.1 ∈ gw_tbl := gw_at 401 (by decide +kernel) rfl
abbrev iX11_fault : MIx := (cX11_fault, RX11, 2, (some .int), { frames := 0, cells := 0, slots := 0, locals := 0 })
set_option maxRecDepth 100000 in
theorem wkX11_fault : Cond.code yX11_fault iX11_fault.1 iX11_fault.2.2.1 iX11_fault.2.2.2.1 ∈ gw_tbl := gw_at 901 (by decide +kernel) rfl
abbrev iX11_octet : MIx := (cX11_octet, RX11, 2, (some .int), { frames := 1, cells := 0, slots := 0, locals := 21 })
set_option maxRecDepth 100000 in
theorem wkX11_octet : Cond.code yX11_octet iX11_octet.1 iX11_octet.2.2.1 iX11_octet.2.2.2.1 ∈ gw_tbl := gw_at 538 (by decide +kernel) rfl
abbrev iX11_hex : MIx := (cX11_hex, RX11, 2, (some .char), { frames := 7, cells := 0, slots := 0, locals := 154 })
set_option maxRecDepth 100000 in
theorem wkX11_hex : Cond.code yX11_hex iX11_hex.1 iX11_hex.2.2.1 iX11_hex.2.2.2.1 ∈ gw_tbl := gw_at 546 (by decide +kernel) rfl
abbrev iX11_address : MIx := (cX11_address, RX11, 2, (some .int), { frames := 2, cells := 0, slots := 0, locals := 45 })
set_option maxRecDepth 100000 in
theorem wkX11_address : Cond.code yX11_address iX11_address.1 iX11_address.2.2.1 iX11_address.2.2.2.1 ∈ gw_tbl := gw_at 909 (by decide +kernel) rfl
abbrev iX11_size : MIx := (cX11_size, RX11, 3, (some .int), { frames := 1, cells := 0, slots := 0, locals := 20 })
set_option maxRecDepth 100000 in
theorem wkX11_size : Cond.code yX11_size iX11_size.1 iX11_size.2.2.1 iX11_size.2.2.2.1 ∈ gw_tbl := gw_at 917 (by decide +kernel) rfl
abbrev iX11_isModule : MIx := (cX11_isModule, RX11, 1, (some .boolean), { frames := 0, cells := 0, slots := 0, locals := 0 })
set_option maxRecDepth 100000 in
theorem wkX11_isModule : Cond.code yX11_isModule iX11_isModule.1 iX11_isModule.2.2.1 iX11_isModule.2.2.2.1 ∈ gw_tbl := gw_at 709 (by decide +kernel) rfl
abbrev iX11_isLetter : MIx := (cX11_isLetter, RX11, 1, (some .boolean), { frames := 0, cells := 0, slots := 0, locals := 0 })
set_option maxRecDepth 100000 in
theorem wkX11_isLetter : Cond.code yX11_isLetter iX11_isLetter.1 iX11_isLetter.2.2.1 iX11_isLetter.2.2.2.1 ∈ gw_tbl := gw_at 745 (by decide +kernel) rfl
abbrev iX11_isDigit : MIx := (cX11_isDigit, RX11, 1, (some .boolean), { frames := 0, cells := 0, slots := 0, locals := 0 })
set_option maxRecDepth 100000 in
theorem wkX11_isDigit : Cond.code yX11_isDigit iX11_isDigit.1 iX11_isDigit.2.2.1 iX11_isDigit.2.2.2.1 ∈ gw_tbl := gw_at 748 (by decide +kernel) rfl
abbrev iX11_layOutLines : MIx := (cX11_layOutLines, RX11, 7, (some .boolean), { frames := 2, cells := 0, slots := 0, locals := 52 })
set_option maxRecDepth 100000 in
theorem wkX11_layOutLines : Cond.code yX11_layOutLines iX11_layOutLines.1 iX11_layOutLines.2.2.1 iX11_layOutLines.2.2.2.1 ∈ gw_tbl := gw_at 427 (by decide +kernel) rfl
abbrev iX11_tellGlobals : MIx := (cX11_tellGlobals, RX11, 6, (some .boolean), { frames := 2, cells := 0, slots := 0, locals := 48 })
set_option maxRecDepth 100000 in
theorem wkX11_tellGlobals : Cond.code yX11_tellGlobals iX11_tellGlobals.1 iX11_tellGlobals.2.2.1 iX11_tellGlobals.2.2.2.1 ∈ gw_tbl := gw_at 447 (by decide +kernel) rfl
abbrev iX11_findRoom : MIx := (cX11_findRoom, RX11, 1, (some .boolean), { frames := 3, cells := 0, slots := 0, locals := 65 })
set_option maxRecDepth 100000 in
theorem wkX11_findRoom : Cond.code yX11_findRoom iX11_findRoom.1 iX11_findRoom.2.2.1 iX11_findRoom.2.2.2.1 ∈ gw_tbl := gw_at 460 (by decide +kernel) rfl
abbrev iX11_writeLines : MIx := (cX11_writeLines, RX11, 5, (some .boolean), { frames := 5, cells := 0, slots := 0, locals := 120 })
set_option maxRecDepth 100000 in
theorem wkX11_writeLines : Cond.code yX11_writeLines iX11_writeLines.1 iX11_writeLines.2.2.1 iX11_writeLines.2.2.2.1 ∈ gw_tbl := gw_at 476 (by decide +kernel) rfl
abbrev iX11_writeVectors : MIx := (cX11_writeVectors, RX11, 2, (some .boolean), { frames := 3, cells := 0, slots := 0, locals := 66 })
set_option maxRecDepth 100000 in
theorem wkX11_writeVectors : Cond.code yX11_writeVectors iX11_writeVectors.1 iX11_writeVectors.2.2.1 iX11_writeVectors.2.2.2.1 ∈ gw_tbl := gw_at 529 (by decide +kernel) rfl
abbrev iX12_init : MIx := (cX12_init, RX12, 1, none, { frames := 1, cells := 0, slots := 0, locals := 21 })
set_option maxRecDepth 100000 in
theorem wkX12_init : Cond.code yX12_init iX12_init.1 iX12_init.2.2.1 iX12_init.2.2.2.1 ∈ gw_tbl := gw_at 923 (by decide +kernel) rfl
abbrev iX12_thrown : MIx := (cX12_thrown, RX12, 1, (some .int), { frames := 0, cells := 0, slots := 0, locals := 0 })
set_option maxRecDepth 100000 in
theorem wkX12_thrown : Cond.code yX12_thrown iX12_thrown.1 iX12_thrown.2.2.1 iX12_thrown.2.2.2.1 ∈ gw_tbl := gw_at 1053 (by decide +kernel) rfl
abbrev iX12_refused : MIx := (cX12_refused, RX12, 2, (some .boolean), { frames := 0, cells := 0, slots := 0, locals := 0 })
set_option maxRecDepth 100000 in
theorem wkX12_refused : Cond.code yX12_refused iX12_refused.1 iX12_refused.2.2.1 iX12_refused.2.2.2.1 ∈ gw_tbl := gw_at 1065 (by decide +kernel) rfl
abbrev iX12_forget : MIx := (cX12_forget, RX12, 2, none, { frames := 0, cells := 0, slots := 0, locals := 0 })
set_option maxRecDepth 100000 in
theorem wkX12_forget : Cond.code yX12_forget iX12_forget.1 iX12_forget.2.2.1 iX12_forget.2.2.2.1 ∈ gw_tbl := gw_at 928 (by decide +kernel) rfl
abbrev iX12_isIn : MIx := (cX12_isIn, RX12, 3, (some .boolean), { frames := 0, cells := 0, slots := 0, locals := 0 })
set_option maxRecDepth 100000 in
theorem wkX12_isIn : Cond.code yX12_isIn iX12_isIn.1 iX12_isIn.2.2.1 iX12_isIn.2.2.2.1 ∈ gw_tbl := gw_at 1359 (by decide +kernel) rfl
abbrev iX12_put : MIx := (cX12_put, RX12, 4, none, { frames := 0, cells := 0, slots := 0, locals := 0 })
set_option maxRecDepth 100000 in
theorem wkX12_put : Cond.code yX12_put iX12_put.1 iX12_put.2.2.1 iX12_put.2.2.2.1 ∈ gw_tbl := gw_at 1061 (by decide +kernel) rfl
abbrev iX12_type : MIx := (cX12_type, RX12, 9, (some .int), { frames := 1, cells := 0, slots := 0, locals := 23 })
set_option maxRecDepth 100000 in
theorem wkX12_type : Cond.code yX12_type iX12_type.1 iX12_type.2.2.1 iX12_type.2.2.2.1 ∈ gw_tbl := gw_at 1057 (by decide +kernel) rfl
abbrev iX12_erase : MIx := (cX12_erase, RX12, 2, (some .int), { frames := 0, cells := 0, slots := 0, locals := 0 })
set_option maxRecDepth 100000 in
theorem wkX12_erase : Cond.code yX12_erase iX12_erase.1 iX12_erase.2.2.1 iX12_erase.2.2.2.1 ∈ gw_tbl := gw_at 1069 (by decide +kernel) rfl
abbrev iX12_store : MIx := (cX12_store, RX12, 3, none, { frames := 0, cells := 0, slots := 0, locals := 0 })
set_option maxRecDepth 100000 in
theorem wkX12_store : Cond.code yX12_store iX12_store.1 iX12_store.2.2.1 iX12_store.2.2.2.1 ∈ gw_tbl := gw_at 1080 (by decide +kernel) rfl
abbrev iX12_isModule : MIx := (cX12_isModule, RX12, 1, (some .boolean), { frames := 0, cells := 0, slots := 0, locals := 0 })
set_option maxRecDepth 100000 in
theorem wkX12_isModule : Cond.code yX12_isModule iX12_isModule.1 iX12_isModule.2.2.1 iX12_isModule.2.2.2.1 ∈ gw_tbl := gw_at 1076 (by decide +kernel) rfl
abbrev iX12_add : MIx := (cX12_add, RX12, 2, (some .int), { frames := 1, cells := 0, slots := 0, locals := 22 })
set_option maxRecDepth 100000 in
theorem wkX12_add : Cond.code yX12_add iX12_add.1 iX12_add.2.2.1 iX12_add.2.2.2.1 ∈ gw_tbl := gw_at 1073 (by decide +kernel) rfl
abbrev iX12_change : MIx := (cX12_change, RX12, 3, none, { frames := 1, cells := 0, slots := 0, locals := 22 })
set_option maxRecDepth 100000 in
theorem wkX12_change : Cond.code yX12_change iX12_change.1 iX12_change.2.2.1 iX12_change.2.2.2.1 ∈ gw_tbl := gw_at 1084 (by decide +kernel) rfl
abbrev iX12_drop : MIx := (cX12_drop, RX12, 3, (some .int), { frames := 1, cells := 0, slots := 0, locals := 21 })
set_option maxRecDepth 100000 in
theorem wkX12_drop : Cond.code yX12_drop iX12_drop.1 iX12_drop.2.2.1 iX12_drop.2.2.2.1 ∈ gw_tbl := gw_at 1088 (by decide +kernel) rfl
abbrev iX12_next : MIx := (cX12_next, RX12, 1, (some .char), { frames := 0, cells := 0, slots := 0, locals := 0 })
set_option maxRecDepth 100000 in
theorem wkX12_next : Cond.code yX12_next iX12_next.1 iX12_next.2.2.1 iX12_next.2.2.2.1 ∈ gw_tbl := gw_at 1104 (by decide +kernel) rfl
abbrev iX12_wrong : MIx := (cX12_wrong, RX12, 3, none, { frames := 0, cells := 0, slots := 0, locals := 0 })
set_option maxRecDepth 100000 in
theorem wkX12_wrong : Cond.code yX12_wrong iX12_wrong.1 iX12_wrong.2.2.1 iX12_wrong.2.2.2.1 ∈ gw_tbl := gw_at 1133 (by decide +kernel) rfl
abbrev iX12_isSmall : MIx := (cX12_isSmall, RX12, 1, (some .boolean), { frames := 0, cells := 0, slots := 0, locals := 0 })
set_option maxRecDepth 100000 in
theorem wkX12_isSmall : Cond.code yX12_isSmall iX12_isSmall.1 iX12_isSmall.2.2.1 iX12_isSmall.2.2.2.1 ∈ gw_tbl := gw_at 1111 (by decide +kernel) rfl
abbrev iX12_isDigit : MIx := (cX12_isDigit, RX12, 1, (some .boolean), { frames := 0, cells := 0, slots := 0, locals := 0 })
set_option maxRecDepth 100000 in
theorem wkX12_isDigit : Cond.code yX12_isDigit iX12_isDigit.1 iX12_isDigit.2.2.1 iX12_isDigit.2.2.2.1 ∈ gw_tbl := gw_at 1117 (by decide +kernel) rfl
abbrev iX12_isWordSign : MIx := (cX12_isWordSign, RX12, 1, (some .boolean), { frames := 1, cells := 0, slots := 0, locals := 20 })
set_option maxRecDepth 100000 in
theorem wkX12_isWordSign : Cond.code yX12_isWordSign iX12_isWordSign.1 iX12_isWordSign.2.2.1 iX12_isWordSign.2.2.2.1 ∈ gw_tbl := gw_at 1114 (by decide +kernel) rfl
abbrev iX12_takes : MIx := (cX12_takes, RX12, 2, (some .boolean), { frames := 1, cells := 0, slots := 0, locals := 20 })
set_option maxRecDepth 100000 in
theorem wkX12_takes : Cond.code yX12_takes iX12_takes.1 iX12_takes.2.2.1 iX12_takes.2.2.2.1 ∈ gw_tbl := gw_at 1167 (by decide +kernel) rfl
abbrev iX12_want : MIx := (cX12_want, RX12, 2, none, { frames := 2, cells := 0, slots := 0, locals := 41 })
set_option maxRecDepth 100000 in
theorem wkX12_want : Cond.code yX12_want iX12_want.1 iX12_want.2.2.1 iX12_want.2.2.2.1 ∈ gw_tbl := gw_at 1193 (by decide +kernel) rfl
abbrev iX12_wordEnd : MIx := (cX12_wordEnd, RX12, 2, (some .int), { frames := 2, cells := 0, slots := 0, locals := 40 })
set_option maxRecDepth 100000 in
theorem wkX12_wordEnd : Cond.code yX12_wordEnd iX12_wordEnd.1 iX12_wordEnd.2.2.1 iX12_wordEnd.2.2.2.1 ∈ gw_tbl := gw_at 1108 (by decide +kernel) rfl
abbrev iX12_isWord : MIx := (cX12_isWord, RX12, 8, (some .boolean), { frames := 0, cells := 0, slots := 0, locals := 0 })
set_option maxRecDepth 100000 in
theorem wkX12_isWord : Cond.code yX12_isWord iX12_isWord.1 iX12_isWord.2.2.1 iX12_isWord.2.2.2.1 ∈ gw_tbl := gw_at 1142 (by decide +kernel) rfl
abbrev iX12_isName : MIx := (cX12_isName, RX12, 5, (some .boolean), { frames := 1, cells := 0, slots := 0, locals := 20 })
set_option maxRecDepth 100000 in
theorem wkX12_isName : Cond.code yX12_isName iX12_isName.1 iX12_isName.2.2.1 iX12_isName.2.2.2.1 ∈ gw_tbl := gw_at 1121 (by decide +kernel) rfl
abbrev iX12_register : MIx := (cX12_register, RX12, 4, (some .int), { frames := 3, cells := 0, slots := 0, locals := 61 })
set_option maxRecDepth 100000 in
theorem wkX12_register : Cond.code yX12_register iX12_register.1 iX12_register.2.2.1 iX12_register.2.2.2.1 ∈ gw_tbl := gw_at 1189 (by decide +kernel) rfl
abbrev iX12_digits : MIx := (cX12_digits, RX12, 5, (some .int), { frames := 3, cells := 0, slots := 0, locals := 61 })
set_option maxRecDepth 100000 in
theorem wkX12_digits : Cond.code yX12_digits iX12_digits.1 iX12_digits.2.2.1 iX12_digits.2.2.2.1 ∈ gw_tbl := gw_at 1163 (by decide +kernel) rfl
abbrev iX12_readNumber : MIx := (cX12_readNumber, RX12, 7, (some .int), { frames := 4, cells := 0, slots := 0, locals := 85 })
set_option maxRecDepth 100000 in
theorem wkX12_readNumber : Cond.code yX12_readNumber iX12_readNumber.1 iX12_readNumber.2.2.1 iX12_readNumber.2.2.2.1 ∈ gw_tbl := gw_at 1159 (by decide +kernel) rfl
abbrev iX12_readName : MIx := (cX12_readName, RX12, 2, none, { frames := 3, cells := 0, slots := 0, locals := 61 })
set_option maxRecDepth 100000 in
theorem wkX12_readName : Cond.code yX12_readName iX12_readName.1 iX12_readName.2.2.1 iX12_readName.2.2.2.1 ∈ gw_tbl := gw_at 1150 (by decide +kernel) rfl
abbrev iX12_immediate : MIx := (cX12_immediate, RX12, 4, (some .int), { frames := 5, cells := 0, slots := 0, locals := 111 })
set_option maxRecDepth 100000 in
theorem wkX12_immediate : Cond.code yX12_immediate iX12_immediate.1 iX12_immediate.2.2.1 iX12_immediate.2.2.2.1 ∈ gw_tbl := gw_at 1197 (by decide +kernel) rfl
abbrev iX12_plain : MIx := (cX12_plain, RX12, 2, none, { frames := 0, cells := 0, slots := 0, locals := 0 })
set_option maxRecDepth 100000 in
theorem wkX12_plain : Cond.code yX12_plain iX12_plain.1 iX12_plain.2.2.1 iX12_plain.2.2.2.1 ∈ gw_tbl := gw_at 1180 (by decide +kernel) rfl
abbrev iX12_two : MIx := (cX12_two, RX12, 3, none, { frames := 4, cells := 0, slots := 0, locals := 84 })
set_option maxRecDepth 100000 in
theorem wkX12_two : Cond.code yX12_two iX12_two.1 iX12_two.2.2.1 iX12_two.2.2.2.1 ∈ gw_tbl := gw_at 1229 (by decide +kernel) rfl
abbrev iX12_oneOrNumber : MIx := (cX12_oneOrNumber, RX12, 5, none, { frames := 6, cells := 0, slots := 0, locals := 134 })
set_option maxRecDepth 100000 in
theorem wkX12_oneOrNumber : Cond.code yX12_oneOrNumber iX12_oneOrNumber.1 iX12_oneOrNumber.2.2.1 iX12_oneOrNumber.2.2.2.1 ∈ gw_tbl := gw_at 1185 (by decide +kernel) rfl
abbrev iX12_sums : MIx := (cX12_sums, RX12, 5, none, { frames := 6, cells := 0, slots := 0, locals := 134 })
set_option maxRecDepth 100000 in
theorem wkX12_sums : Cond.code yX12_sums iX12_sums.1 iX12_sums.2.2.1 iX12_sums.2.2.2.1 ∈ gw_tbl := gw_at 1203 (by decide +kernel) rfl
abbrev iX12_shifts : MIx := (cX12_shifts, RX12, 6, none, { frames := 6, cells := 0, slots := 0, locals := 134 })
set_option maxRecDepth 100000 in
theorem wkX12_shifts : Cond.code yX12_shifts iX12_shifts.1 iX12_shifts.2.2.1 iX12_shifts.2.2.2.1 ∈ gw_tbl := gw_at 1209 (by decide +kernel) rfl
abbrev iX12_memory : MIx := (cX12_memory, RX12, 7, none, { frames := 6, cells := 0, slots := 0, locals := 134 })
set_option maxRecDepth 100000 in
theorem wkX12_memory : Cond.code yX12_memory iX12_memory.1 iX12_memory.2.2.1 iX12_memory.2.2.2.1 ∈ gw_tbl := gw_at 1238 (by decide +kernel) rfl
abbrev iX12_listed : MIx := (cX12_listed, RX12, 10, none, { frames := 4, cells := 0, slots := 0, locals := 84 })
set_option maxRecDepth 100000 in
theorem wkX12_listed : Cond.code yX12_listed iX12_listed.1 iX12_listed.2.2.1 iX12_listed.2.2.2.1 ∈ gw_tbl := gw_at 1248 (by decide +kernel) rfl
abbrev iX12_jump : MIx := (cX12_jump, RX12, 3, none, { frames := 4, cells := 0, slots := 0, locals := 82 })
set_option maxRecDepth 100000 in
theorem wkX12_jump : Cond.code yX12_jump iX12_jump.1 iX12_jump.2.2.1 iX12_jump.2.2.2.1 ∈ gw_tbl := gw_at 1257 (by decide +kernel) rfl
abbrev iX12_condition : MIx := (cX12_condition, RX12, 4, (some .int), { frames := 0, cells := 0, slots := 0, locals := 0 })
set_option maxRecDepth 100000 in
theorem wkX12_condition : Cond.code yX12_condition iX12_condition.1 iX12_condition.2.2.1 iX12_condition.2.2.2.1 ∈ gw_tbl := gw_at 1263 (by decide +kernel) rfl
abbrev iX12_directive : MIx := (cX12_directive, RX12, 3, (some .boolean), { frames := 6, cells := 0, slots := 0, locals := 132 })
set_option maxRecDepth 100000 in
theorem wkX12_directive : Cond.code yX12_directive iX12_directive.1 iX12_directive.2.2.1 iX12_directive.2.2.2.1 ∈ gw_tbl := gw_at 1137 (by decide +kernel) rfl
abbrev iX12_word : MIx := (cX12_word, RX12, 2, none, { frames := 5, cells := 0, slots := 0, locals := 111 })
set_option maxRecDepth 100000 in
theorem wkX12_word : Cond.code yX12_word iX12_word.1 iX12_word.2.2.1 iX12_word.2.2.2.1 ∈ gw_tbl := gw_at 1155 (by decide +kernel) rfl
abbrev iX12_simple : MIx := (cX12_simple, RX12, 4, (some .boolean), { frames := 7, cells := 0, slots := 0, locals := 159 })
set_option maxRecDepth 100000 in
theorem wkX12_simple : Cond.code yX12_simple iX12_simple.1 iX12_simple.2.2.1 iX12_simple.2.2.2.1 ∈ gw_tbl := gw_at 1174 (by decide +kernel) rfl
abbrev iX12_pairOf : MIx := (cX12_pairOf, RX12, 3, (some .int), { frames := 1, cells := 0, slots := 0, locals := 27 })
set_option maxRecDepth 100000 in
theorem wkX12_pairOf : Cond.code yX12_pairOf iX12_pairOf.1 iX12_pairOf.2.2.1 iX12_pairOf.2.2.2.1 ∈ gw_tbl := gw_at 1215 (by decide +kernel) rfl
abbrev iX12_other : MIx := (cX12_other, RX12, 6, (some .boolean), { frames := 7, cells := 0, slots := 0, locals := 160 })
set_option maxRecDepth 100000 in
theorem wkX12_other : Cond.code yX12_other iX12_other.1 iX12_other.2.2.1 iX12_other.2.2.2.1 ∈ gw_tbl := gw_at 1233 (by decide +kernel) rfl
abbrev iX12_isTwice : MIx := (cX12_isTwice, RX12, 2, (some .boolean), { frames := 1, cells := 0, slots := 0, locals := 28 })
set_option maxRecDepth 100000 in
theorem wkX12_isTwice : Cond.code yX12_isTwice iX12_isTwice.1 iX12_isTwice.2.2.1 iX12_isTwice.2.2.2.1 ∈ gw_tbl := gw_at 1125 (by decide +kernel) rfl
abbrev iX12_read : MIx := (cX12_read, RX12, 6, none, { frames := 8, cells := 0, slots := 0, locals := 185 })
set_option maxRecDepth 100000 in
theorem wkX12_read : Cond.code yX12_read iX12_read.1 iX12_read.2.2.1 iX12_read.2.2.2.1 ∈ gw_tbl := gw_at 1100 (by decide +kernel) rfl
abbrev iX12_labelOf : MIx := (cX12_labelOf, RX12, 9, (some .int), { frames := 0, cells := 0, slots := 0, locals := 0 })
set_option maxRecDepth 100000 in
theorem wkX12_labelOf : Cond.code yX12_labelOf iX12_labelOf.1 iX12_labelOf.2.2.1 iX12_labelOf.2.2.2.1 ∈ gw_tbl := gw_at 1129 (by decide +kernel) rfl
abbrev iX12_addLabel : MIx := (cX12_addLabel, RX12, 3, none, { frames := 0, cells := 0, slots := 0, locals := 0 })
set_option maxRecDepth 100000 in
theorem wkX12_addLabel : Cond.code yX12_addLabel iX12_addLabel.1 iX12_addLabel.2.2.1 iX12_addLabel.2.2.2.1 ∈ gw_tbl := gw_at 1272 (by decide +kernel) rfl
abbrev iX12_putByte : MIx := (cX12_putByte, RX12, 3, none, { frames := 0, cells := 0, slots := 0, locals := 0 })
set_option maxRecDepth 100000 in
theorem wkX12_putByte : Cond.code yX12_putByte iX12_putByte.1 iX12_putByte.2.2.1 iX12_putByte.2.2.2.1 ∈ gw_tbl := gw_at 1280 (by decide +kernel) rfl
abbrev iX12_putMany : MIx := (cX12_putMany, RX12, 5, none, { frames := 1, cells := 0, slots := 0, locals := 22 })
set_option maxRecDepth 100000 in
theorem wkX12_putMany : Cond.code yX12_putMany iX12_putMany.1 iX12_putMany.2.2.1 iX12_putMany.2.2.2.1 ∈ gw_tbl := gw_at 1284 (by decide +kernel) rfl
abbrev iX12_lay : MIx := (cX12_lay, RX12, 7, (some .int), { frames := 2, cells := 0, slots := 0, locals := 46 })
set_option maxRecDepth 100000 in
theorem wkX12_lay : Cond.code yX12_lay iX12_lay.1 iX12_lay.2.2.1 iX12_lay.2.2.2.1 ∈ gw_tbl := gw_at 1276 (by decide +kernel) rfl
abbrev iX12_report : MIx := (cX12_report, RX12, 5, (some .int), { frames := 0, cells := 0, slots := 0, locals := 0 })
set_option maxRecDepth 100000 in
theorem wkX12_report : Cond.code yX12_report iX12_report.1 iX12_report.2.2.1 iX12_report.2.2.2.1 ∈ gw_tbl := gw_at 1268 (by decide +kernel) rfl
abbrev iX12_firstPass : MIx := (cX12_firstPass, RX12, 4, (some .int), { frames := 9, cells := 0, slots := 0, locals := 210 })
set_option maxRecDepth 100000 in
theorem wkX12_firstPass : Cond.code yX12_firstPass iX12_firstPass.1 iX12_firstPass.2.2.1 iX12_firstPass.2.2.2.1 ∈ gw_tbl := gw_at 1096 (by decide +kernel) rfl
abbrev iX12_isGlobalName : MIx := (cX12_isGlobalName, RX12, 3, (some .boolean), { frames := 2, cells := 0, slots := 0, locals := 52 })
set_option maxRecDepth 100000 in
theorem wkX12_isGlobalName : Cond.code yX12_isGlobalName iX12_isGlobalName.1 iX12_isGlobalName.2.2.1 iX12_isGlobalName.2.2.2.1 ∈ gw_tbl := gw_at 1292 (by decide +kernel) rfl
abbrev iX12_globalOf : MIx := (cX12_globalOf, RX12, 5, (some .int), { frames := 1, cells := 0, slots := 0, locals := 28 })
set_option maxRecDepth 100000 in
theorem wkX12_globalOf : Cond.code yX12_globalOf iX12_globalOf.1 iX12_globalOf.2.2.1 iX12_globalOf.2.2.2.1 ∈ gw_tbl := gw_at 1296 (by decide +kernel) rfl
abbrev iX12_secondPass : MIx := (cX12_secondPass, RX12, 4, (some .int), { frames := 9, cells := 0, slots := 0, locals := 210 })
set_option maxRecDepth 100000 in
theorem wkX12_secondPass : Cond.code yX12_secondPass iX12_secondPass.1 iX12_secondPass.2.2.1 iX12_secondPass.2.2.2.1 ∈ gw_tbl := gw_at 1288 (by decide +kernel) rfl
abbrev iX12_up : MIx := (cX12_up, RX12, 1, (some .int), { frames := 0, cells := 0, slots := 0, locals := 0 })
set_option maxRecDepth 100000 in
theorem wkX12_up : Cond.code yX12_up iX12_up.1 iX12_up.2.2.1 iX12_up.2.2.2.1 ∈ gw_tbl := gw_at 1303 (by decide +kernel) rfl
abbrev iX12_place : MIx := (cX12_place, RX12, 7, (some .int), { frames := 1, cells := 0, slots := 0, locals := 20 })
set_option maxRecDepth 100000 in
theorem wkX12_place : Cond.code yX12_place iX12_place.1 iX12_place.2.2.1 iX12_place.2.2.2.1 ∈ gw_tbl := gw_at 1300 (by decide +kernel) rfl
abbrev iX12_addressOf : MIx := (cX12_addressOf, RX12, 2, (some .int), { frames := 0, cells := 0, slots := 0, locals := 0 })
set_option maxRecDepth 100000 in
theorem wkX12_addressOf : Cond.code yX12_addressOf iX12_addressOf.1 iX12_addressOf.2.2.1 iX12_addressOf.2.2.2.1 ∈ gw_tbl := gw_at 1317 (by decide +kernel) rfl
abbrev iX12_setHalf : MIx := (cX12_setHalf, RX12, 4, none, { frames := 0, cells := 0, slots := 0, locals := 0 })
set_option maxRecDepth 100000 in
theorem wkX12_setHalf : Cond.code yX12_setHalf iX12_setHalf.1 iX12_setHalf.2.2.1 iX12_setHalf.2.2.2.1 ∈ gw_tbl := gw_at 1321 (by decide +kernel) rfl
abbrev iX12_resolve : MIx := (cX12_resolve, RX12, 11, (some .boolean), { frames := 1, cells := 0, slots := 0, locals := 23 })
set_option maxRecDepth 100000 in
theorem wkX12_resolve : Cond.code yX12_resolve iX12_resolve.1 iX12_resolve.2.2.1 iX12_resolve.2.2.2.1 ∈ gw_tbl := gw_at 1313 (by decide +kernel) rfl
abbrev iX12_thirdPass : MIx := (cX12_thirdPass, RX12, 6, (some .int), { frames := 9, cells := 0, slots := 0, locals := 210 })
set_option maxRecDepth 100000 in
theorem wkX12_thirdPass : Cond.code yX12_thirdPass iX12_thirdPass.1 iX12_thirdPass.2.2.1 iX12_thirdPass.2.2.2.1 ∈ gw_tbl := gw_at 1309 (by decide +kernel) rfl
abbrev iX12_sizeOf : MIx := (cX12_sizeOf, RX12, 2, (some .int), { frames := 1, cells := 0, slots := 0, locals := 20 })
set_option maxRecDepth 100000 in
theorem wkX12_sizeOf : Cond.code yX12_sizeOf iX12_sizeOf.1 iX12_sizeOf.2.2.1 iX12_sizeOf.2.2.2.1 ∈ gw_tbl := gw_at 1328 (by decide +kernel) rfl
abbrev iX12_mainAddress : MIx := (cX12_mainAddress, RX12, 3, (some .int), { frames := 1, cells := 0, slots := 0, locals := 21 })
set_option maxRecDepth 100000 in
theorem wkX12_mainAddress : Cond.code yX12_mainAddress iX12_mainAddress.1 iX12_mainAddress.2.2.1 iX12_mainAddress.2.2.2.1 ∈ gw_tbl := gw_at 1332 (by decide +kernel) rfl
abbrev iX12_link : MIx := (cX12_link, RX12, 5, (some .int), { frames := 10, cells := 0, slots := 0, locals := 235 })
set_option maxRecDepth 100000 in
theorem wkX12_link : Cond.code yX12_link iX12_link.1 iX12_link.2.2.1 iX12_link.2.2.2.1 ∈ gw_tbl := gw_at 1092 (by decide +kernel) rfl
abbrev iX12_setWord : MIx := (cX12_setWord, RX12, 4, none, { frames := 0, cells := 0, slots := 0, locals := 0 })
set_option maxRecDepth 100000 in
theorem wkX12_setWord : Cond.code yX12_setWord iX12_setWord.1 iX12_setWord.2.2.1 iX12_setWord.2.2.2.1 ∈ gw_tbl := gw_at 1340 (by decide +kernel) rfl
abbrev iX12_finish : MIx := (cX12_finish, RX12, 6, none, { frames := 3, cells := 0, slots := 0, locals := 69 })
set_option maxRecDepth 100000 in
theorem wkX12_finish : Cond.code yX12_finish iX12_finish.1 iX12_finish.2.2.1 iX12_finish.2.2.2.1 ∈ gw_tbl := gw_at 1336 (by decide +kernel) rfl
abbrev iX12_putHex : MIx := (cX12_putHex, RX12, 4, none, { frames := 0, cells := 0, slots := 0, locals := 0 })
set_option maxRecDepth 100000 in
theorem wkX12_putHex : Cond.code yX12_putHex iX12_putHex.1 iX12_putHex.2.2.1 iX12_putHex.2.2.2.1 ∈ gw_tbl := gw_at 1352 (by decide +kernel) rfl
abbrev iX12_record : MIx := (cX12_record, RX12, 6, none, { frames := 1, cells := 0, slots := 0, locals := 23 })
set_option maxRecDepth 100000 in
theorem wkX12_record : Cond.code yX12_record iX12_record.1 iX12_record.2.2.1 iX12_record.2.2.2.1 ∈ gw_tbl := gw_at 1348 (by decide +kernel) rfl
abbrev iX12_write : MIx := (cX12_write, RX12, 2, none, { frames := 2, cells := 0, slots := 0, locals := 48 })
set_option maxRecDepth 100000 in
theorem wkX12_write : Cond.code yX12_write iX12_write.1 iX12_write.2.2.1 iX12_write.2.2.2.1 ∈ gw_tbl := gw_at 1344 (by decide +kernel) rfl
abbrev iX12_fault : MIx := (cX12_fault, RX12, 2, (some .int), { frames := 1, cells := 0, slots := 0, locals := 22 })
set_option maxRecDepth 100000 in
theorem wkX12_fault : Cond.code yX12_fault iX12_fault.1 iX12_fault.2.2.1 iX12_fault.2.2.2.1 ∈ gw_tbl := gw_at 1356 (by decide +kernel) rfl
abbrev iX12_octet : MIx := (cX12_octet, RX12, 2, (some .int), { frames := 1, cells := 0, slots := 0, locals := 22 })
set_option maxRecDepth 100000 in
theorem wkX12_octet : Cond.code yX12_octet iX12_octet.1 iX12_octet.2.2.1 iX12_octet.2.2.2.1 ∈ gw_tbl := gw_at 1363 (by decide +kernel) rfl
abbrev iX12_hex : MIx := (cX12_hex, RX12, 2, (some .char), { frames := 1, cells := 0, slots := 0, locals := 22 })
set_option maxRecDepth 100000 in
theorem wkX12_hex : Cond.code yX12_hex iX12_hex.1 iX12_hex.2.2.1 iX12_hex.2.2.2.1 ∈ gw_tbl := gw_at 1367 (by decide +kernel) rfl
abbrev iX12_address : MIx := (cX12_address, RX12, 5, (some .int), { frames := 1, cells := 0, slots := 0, locals := 21 })
set_option maxRecDepth 100000 in
theorem wkX12_address : Cond.code yX12_address iX12_address.1 iX12_address.2.2.1 iX12_address.2.2.2.1 ∈ gw_tbl := gw_at 1371 (by decide +kernel) rfl
abbrev iX12_size : MIx := (cX12_size, RX12, 3, (some .int), { frames := 1, cells := 0, slots := 0, locals := 22 })
set_option maxRecDepth 100000 in
theorem wkX12_size : Cond.code yX12_size iX12_size.1 iX12_size.2.2.1 iX12_size.2.2.2.1 ∈ gw_tbl := gw_at 1375 (by decide +kernel) rfl
abbrev iJ9_min_7cf53 : MIx := (cJ9_min_7cf53, RJ9, 2, (some .int), { frames := 0, cells := 0, slots := 0, locals := 0 })
set_option maxRecDepth 100000 in
theorem wkJ9_min_7cf53 : Cond.code yJ9_min_7cf53 iJ9_min_7cf53.1 iJ9_min_7cf53.2.2.1 iJ9_min_7cf53.2.2.2.1 ∈ gw_tbl := gw_at 606 (by decide +kernel) rfl
abbrev iJ0_length_8abf5 : MIx := (cJ0_length_8abf5, RJ0, 1, (some .int), { frames := 1, cells := 0, slots := 0, locals := 20 })
set_option maxRecDepth 100000 in
theorem wkJ0_length_8abf5 : Cond.code yJ0_length_8abf5 iJ0_length_8abf5.1 iJ0_length_8abf5.2.2.1 iJ0_length_8abf5.2.2.2.1 ∈ gw_tbl := gw_at 555 (by decide +kernel) rfl
abbrev iJ0_charAt_5068e : MIx := (cJ0_charAt_5068e, RJ0, 2, (some .char), { frames := 4, cells := 0, slots := 0, locals := 85 })
set_option maxRecDepth 100000 in
theorem wkJ0_charAt_5068e : Cond.code yJ0_charAt_5068e iJ0_charAt_5068e.1 iJ0_charAt_5068e.2.2.1 iJ0_charAt_5068e.2.2.2.1 ∈ gw_tbl := gw_at 565 (by decide +kernel) rfl
abbrev iJ0_coder_7d493 : MIx := (cJ0_coder_7d493, RJ0, 1, (some .byte), { frames := 0, cells := 0, slots := 0, locals := 0 })
set_option maxRecDepth 100000 in
theorem wkJ0_coder_7d493 : Cond.code yJ0_coder_7d493 iJ0_coder_7d493.1 iJ0_coder_7d493.2.2.1 iJ0_coder_7d493.2.2.2.1 ∈ gw_tbl := gw_at 559 (by decide +kernel) rfl
abbrev iJ0_isLatin1_aae02 : MIx := (cJ0_isLatin1_aae02, RJ0, 1, (some .boolean), { frames := 0, cells := 0, slots := 0, locals := 0 })
set_option maxRecDepth 100000 in
theorem wkJ0_isLatin1_aae02 : Cond.code yJ0_isLatin1_aae02 iJ0_isLatin1_aae02.1 iJ0_isLatin1_aae02.2.2.1 iJ0_isLatin1_aae02.2.2.2.1 ∈ gw_tbl := gw_at 569 (by decide +kernel) rfl
abbrev iJ0_checkIndex_df160 : MIx := (cJ0_checkIndex_df160, RJ0, 2, none, { frames := 1, cells := 0, slots := 0, locals := 22 })
set_option maxRecDepth 100000 in
theorem wkJ0_checkIndex_df160 : Cond.code yJ0_checkIndex_df160 iJ0_checkIndex_df160.1 iJ0_checkIndex_df160.2.2.1 iJ0_checkIndex_df160.2.2.2.1 ∈ gw_tbl := gw_at 575 (by decide +kernel) rfl
abbrev iJ1_charAt_3b067 : MIx := (cJ1_charAt_3b067, RJ1, 2, (some .char), { frames := 2, cells := 0, slots := 0, locals := 43 })
set_option maxRecDepth 100000 in
theorem wkJ1_charAt_3b067 : Cond.code yJ1_charAt_3b067 iJ1_charAt_3b067.1 iJ1_charAt_3b067.2.2.1 iJ1_charAt_3b067.2.2.2.1 ∈ gw_tbl := gw_at 572 (by decide +kernel) rfl
abbrev iJ2_getChar_3b067 : MIx := (cJ2_getChar_3b067, RJ2, 2, (some .char), { frames := 1, cells := 0, slots := 0, locals := 20 })
set_option maxRecDepth 100000 in
theorem wkJ2_getChar_3b067 : Cond.code yJ2_getChar_3b067 iJ2_getChar_3b067.1 iJ2_getChar_3b067.2.2.1 iJ2_getChar_3b067.2.2.2.1 ∈ gw_tbl := gw_at 593 (by decide +kernel) rfl
abbrev iJ2_length_9d52b : MIx := (cJ2_length_9d52b, RJ2, 1, (some .int), { frames := 0, cells := 0, slots := 0, locals := 0 })
set_option maxRecDepth 100000 in
theorem wkJ2_length_9d52b : Cond.code yJ2_length_9d52b iJ2_length_9d52b.1 iJ2_length_9d52b.2.2.1 iJ2_length_9d52b.2.2.2.1 ∈ gw_tbl := gw_at 589 (by decide +kernel) rfl
abbrev iJ2_charAt_3b067 : MIx := (cJ2_charAt_3b067, RJ2, 2, (some .char), { frames := 3, cells := 0, slots := 0, locals := 64 })
set_option maxRecDepth 100000 in
theorem wkJ2_charAt_3b067 : Cond.code yJ2_charAt_3b067 iJ2_charAt_3b067.1 iJ2_charAt_3b067.2.2.1 iJ2_charAt_3b067.2.2.2.1 ∈ gw_tbl := gw_at 583 (by decide +kernel) rfl
abbrev iJ2_checkIndex_2214a : MIx := (cJ2_checkIndex_2214a, RJ2, 2, none, { frames := 2, cells := 0, slots := 0, locals := 43 })
set_option maxRecDepth 100000 in
theorem wkJ2_checkIndex_2214a : Cond.code yJ2_checkIndex_2214a iJ2_checkIndex_2214a.1 iJ2_checkIndex_2214a.2.2.1 iJ2_checkIndex_2214a.2.2.2.1 ∈ gw_tbl := gw_at 586 (by decide +kernel) rfl
abbrev iJ7_fill_53178 : MIx := (cJ7_fill_53178, RJ7, 4, none, { frames := 0, cells := 0, slots := 0, locals := 0 })
set_option maxRecDepth 100000 in
theorem wkJ7_fill_53178 : Cond.code yJ7_fill_53178 iJ7_fill_53178.1 iJ7_fill_53178.2.2.1 iJ7_fill_53178.2.2.2.1 ∈ gw_tbl := gw_at 416 (by decide +kernel) rfl
abbrev iJ7_fill_031fb : MIx := (cJ7_fill_031fb, RJ7, 4, none, { frames := 0, cells := 0, slots := 0, locals := 0 })
set_option maxRecDepth 100000 in
theorem wkJ7_fill_031fb : Cond.code yJ7_fill_031fb iJ7_fill_031fb.1 iJ7_fill_031fb.2.2.1 iJ7_fill_031fb.2.2.2.1 ∈ gw_tbl := gw_at 423 (by decide +kernel) rfl
abbrev iJ3_checkIndex_8e157 : MIx := (cJ3_checkIndex_8e157, RJ3, 3, (some .int), { frames := 0, cells := 0, slots := 0, locals := 0 })
set_option maxRecDepth 100000 in
theorem wkJ3_checkIndex_8e157 : Cond.code yJ3_checkIndex_8e157 iJ3_checkIndex_8e157.1 iJ3_checkIndex_8e157.2.2.1 iJ3_checkIndex_8e157.2.2.2.1 ∈ gw_tbl := gw_at 580 (by decide +kernel) rfl
set_option maxRecDepth 100000 in
theorem cvX0_36 : CV RX0 36 RX4 yX4_clear iX4_clear 0 := ⟨⟨gw_at 410 (by decide +kernel) rfl, gw_at 411 (by decide +kernel) rfl, gw_at 412 (by decide +kernel) rfl, gw_at 91 (by decide +kernel) rfl, wkX4_clear⟩, (by decide +kernel), rfl, rfl⟩
set_option maxRecDepth 100000 in
theorem cvX0_39 : CV RX0 39 RX2 yX2_clear iX2_clear 0 := ⟨⟨gw_at 417 (by decide +kernel) rfl, gw_at 418 (by decide +kernel) rfl, gw_at 419 (by decide +kernel) rfl, gw_at 92 (by decide +kernel) rfl, wkX2_clear⟩, (by decide +kernel), rfl, rfl⟩
set_option maxRecDepth 100000 in
theorem cvX0_69 : CV RX0 69 RX3 yX3_append iX3_append 4 := ⟨⟨gw_at 440 (by decide +kernel) rfl, gw_at 441 (by decide +kernel) rfl, gw_at 442 (by decide +kernel) rfl, gw_at 90 (by decide +kernel) rfl, wkX3_append⟩, (by decide +kernel), rfl, rfl⟩
set_option maxRecDepth 100000 in
theorem cvX0_82 : CV RX0 82 RX0 yX0_writeWord iX0_writeWord 3 := ⟨⟨gw_at 481 (by decide +kernel) rfl, gw_at 483 (by decide +kernel) rfl, gw_at 5 (by decide +kernel) rfl, gw_at 89 (by decide +kernel) rfl, wkX0_writeWord⟩, (by decide +kernel), rfl, rfl⟩
set_option maxRecDepth 100000 in
theorem cvX0_89 : CV RX0 89 RX2 yX2_putByte iX2_putByte 2 := ⟨⟨gw_at 507 (by decide +kernel) rfl, gw_at 504 (by decide +kernel) rfl, gw_at 505 (by decide +kernel) rfl, gw_at 92 (by decide +kernel) rfl, wkX2_putByte⟩, (by decide +kernel), rfl, rfl⟩
set_option maxRecDepth 100000 in
theorem cvX0_93 : CV RX0 93 RX0 yX0_writeInstruction iX0_writeInstruction 3 := ⟨⟨gw_at 508 (by decide +kernel) rfl, gw_at 510 (by decide +kernel) rfl, gw_at 7 (by decide +kernel) rfl, gw_at 89 (by decide +kernel) rfl, wkX0_writeInstruction⟩, (by decide +kernel), rfl, rfl⟩
set_option maxRecDepth 100000 in
theorem cvX0_99 : CV RX0 99 RX0 yX0_resolve iX0_resolve 2 := ⟨⟨gw_at 485 (by decide +kernel) rfl, gw_at 487 (by decide +kernel) rfl, gw_at 6 (by decide +kernel) rfl, gw_at 89 (by decide +kernel) rfl, wkX0_resolve⟩, (by decide +kernel), rfl, rfl⟩
set_option maxRecDepth 100000 in
theorem cvX0_103 : CV RX0 103 RX0 yX0_addressOf iX0_addressOf 1 := ⟨⟨gw_at 491 (by decide +kernel) rfl, gw_at 492 (by decide +kernel) rfl, gw_at 493 (by decide +kernel) rfl, gw_at 89 (by decide +kernel) rfl, wkX0_addressOf⟩, (by decide +kernel), rfl, rfl⟩
set_option maxRecDepth 100000 in
theorem cvX0_107 : CV RX0 107 RX2 yX2_putWord iX2_putWord 2 := ⟨⟨gw_at 495 (by decide +kernel) rfl, gw_at 496 (by decide +kernel) rfl, gw_at 497 (by decide +kernel) rfl, gw_at 92 (by decide +kernel) rfl, wkX2_putWord⟩, (by decide +kernel), rfl, rfl⟩
set_option maxRecDepth 100000 in
theorem cvX0_113 : CV RX0 113 RX2 yX2_putHalf iX2_putHalf 2 := ⟨⟨gw_at 512 (by decide +kernel) rfl, gw_at 500 (by decide +kernel) rfl, gw_at 501 (by decide +kernel) rfl, gw_at 92 (by decide +kernel) rfl, wkX2_putHalf⟩, (by decide +kernel), rfl, rfl⟩
set_option maxRecDepth 100000 in
theorem csX0_116 : CS RX0 116 yX0_reaches iX0_reaches 3 := ⟨⟨gw_at 513 (by decide +kernel) rfl, gw_at 514 (by decide +kernel) rfl, gw_at 89 (by decide +kernel) rfl, wkX0_reaches⟩, (by decide +kernel), rfl, rfl⟩
set_option maxRecDepth 100000 in
theorem cvX0_120 : CV RX0 120 RX0 yX0_writeCall iX0_writeCall 3 := ⟨⟨gw_at 518 (by decide +kernel) rfl, gw_at 520 (by decide +kernel) rfl, gw_at 8 (by decide +kernel) rfl, gw_at 89 (by decide +kernel) rfl, wkX0_writeCall⟩, (by decide +kernel), rfl, rfl⟩
set_option maxRecDepth 100000 in
theorem csX0_124 : CS RX0 124 yX0_distanceBits iX0_distanceBits 2 := ⟨⟨gw_at 523 (by decide +kernel) rfl, gw_at 524 (by decide +kernel) rfl, gw_at 89 (by decide +kernel) rfl, wkX0_distanceBits⟩, (by decide +kernel), rfl, rfl⟩
set_option maxRecDepth 100000 in
theorem cvX0_128 : CV RX0 128 RX3 yX3_find iX3_find 2 := ⟨⟨gw_at 489 (by decide +kernel) rfl, gw_at 429 (by decide +kernel) rfl, gw_at 430 (by decide +kernel) rfl, gw_at 90 (by decide +kernel) rfl, wkX3_find⟩, (by decide +kernel), rfl, rfl⟩
set_option maxRecDepth 100000 in
theorem cvX0_131 : CV RX0 131 RX3 yX3_findGlobal iX3_findGlobal 1 := ⟨⟨gw_at 490 (by decide +kernel) rfl, gw_at 454 (by decide +kernel) rfl, gw_at 455 (by decide +kernel) rfl, gw_at 90 (by decide +kernel) rfl, wkX3_findGlobal⟩, (by decide +kernel), rfl, rfl⟩
set_option maxRecDepth 100000 in
theorem csX2_15 : CS RX2 15 yJ7_fill_031fb iJ7_fill_031fb 2 := ⟨⟨gw_at 421 (by decide +kernel) rfl, gw_at 422 (by decide +kernel) rfl, gw_at 105 (by decide +kernel) rfl, wkJ7_fill_031fb⟩, (by decide +kernel), rfl, rfl⟩
set_option maxRecDepth 100000 in
theorem cvX2_25 : CV RX2 25 RX2 yX2_putByte iX2_putByte 2 := ⟨⟨gw_at 503 (by decide +kernel) rfl, gw_at 504 (by decide +kernel) rfl, gw_at 505 (by decide +kernel) rfl, gw_at 92 (by decide +kernel) rfl, wkX2_putByte⟩, (by decide +kernel), rfl, rfl⟩
set_option maxRecDepth 100000 in
theorem cvX2_29 : CV RX2 29 RX2 yX2_putHalf iX2_putHalf 2 := ⟨⟨gw_at 499 (by decide +kernel) rfl, gw_at 500 (by decide +kernel) rfl, gw_at 501 (by decide +kernel) rfl, gw_at 92 (by decide +kernel) rfl, wkX2_putHalf⟩, (by decide +kernel), rfl, rfl⟩
set_option maxRecDepth 100000 in
theorem cvX2_34 : CV RX2 34 RJ0 yJ0_length_8abf5 iJ0_length_8abf5 0 := ⟨⟨gw_at 552 (by decide +kernel) rfl, gw_at 553 (by decide +kernel) rfl, gw_at 554 (by decide +kernel) rfl, gw_at 101 (by decide +kernel) rfl, wkJ0_length_8abf5⟩, (by decide +kernel), rfl, rfl⟩
set_option maxRecDepth 100000 in
theorem cvX2_39 : CV RX2 39 RJ0 yJ0_charAt_5068e iJ0_charAt_5068e 1 := ⟨⟨gw_at 562 (by decide +kernel) rfl, gw_at 563 (by decide +kernel) rfl, gw_at 564 (by decide +kernel) rfl, gw_at 101 (by decide +kernel) rfl, wkJ0_charAt_5068e⟩, (by decide +kernel), rfl, rfl⟩
set_option maxRecDepth 100000 in
theorem cvX2_43 : CV RX2 43 RX2 yX2_bodyCharacter iX2_bodyCharacter 2 := ⟨⟨gw_at 600 (by decide +kernel) rfl, gw_at 602 (by decide +kernel) rfl, gw_at 10 (by decide +kernel) rfl, gw_at 92 (by decide +kernel) rfl, wkX2_bodyCharacter⟩, (by decide +kernel), rfl, rfl⟩
set_option maxRecDepth 100000 in
theorem csX2_49 : CS RX2 49 yJ9_min_7cf53 iJ9_min_7cf53 2 := ⟨⟨gw_at 604 (by decide +kernel) rfl, gw_at 605 (by decide +kernel) rfl, gw_at 106 (by decide +kernel) rfl, wkJ9_min_7cf53⟩, (by decide +kernel), rfl, rfl⟩
set_option maxRecDepth 100000 in
theorem cvX2_55 : CV RX2 55 RX2 yX2_recordByte iX2_recordByte 3 := ⟨⟨gw_at 607 (by decide +kernel) rfl, gw_at 609 (by decide +kernel) rfl, gw_at 11 (by decide +kernel) rfl, gw_at 92 (by decide +kernel) rfl, wkX2_recordByte⟩, (by decide +kernel), rfl, rfl⟩
set_option maxRecDepth 100000 in
theorem cvX2_61 : CV RX2 61 RX2 yX2_plainRecordByte iX2_plainRecordByte 3 := ⟨⟨gw_at 611 (by decide +kernel) rfl, gw_at 613 (by decide +kernel) rfl, gw_at 12 (by decide +kernel) rfl, gw_at 92 (by decide +kernel) rfl, wkX2_plainRecordByte⟩, (by decide +kernel), rfl, rfl⟩
set_option maxRecDepth 100000 in
theorem cvX2_64 : CV RX2 64 RX2 yX2_byteAt iX2_byteAt 1 := ⟨⟨gw_at 615 (by decide +kernel) rfl, gw_at 540 (by decide +kernel) rfl, gw_at 541 (by decide +kernel) rfl, gw_at 92 (by decide +kernel) rfl, wkX2_byteAt⟩, (by decide +kernel), rfl, rfl⟩
set_option maxRecDepth 100000 in
theorem cvX3_33 : CV RX3 33 RX3 yX3_find iX3_find 2 := ⟨⟨gw_at 452 (by decide +kernel) rfl, gw_at 429 (by decide +kernel) rfl, gw_at 430 (by decide +kernel) rfl, gw_at 90 (by decide +kernel) rfl, wkX3_find⟩, (by decide +kernel), rfl, rfl⟩
set_option maxRecDepth 100000 in
theorem cvX3_37 : CV RX3 37 RX3 yX3_findGlobal iX3_findGlobal 1 := ⟨⟨gw_at 453 (by decide +kernel) rfl, gw_at 454 (by decide +kernel) rfl, gw_at 455 (by decide +kernel) rfl, gw_at 90 (by decide +kernel) rfl, wkX3_findGlobal⟩, (by decide +kernel), rfl, rfl⟩
set_option maxRecDepth 100000 in
theorem csX4_23 : CS RX4 23 yJ7_fill_53178 iJ7_fill_53178 2 := ⟨⟨gw_at 414 (by decide +kernel) rfl, gw_at 415 (by decide +kernel) rfl, gw_at 105 (by decide +kernel) rfl, wkJ7_fill_53178⟩, (by decide +kernel), rfl, rfl⟩
set_option maxRecDepth 100000 in
theorem cvX4_33 : CV RX4 33 RX4 yX4_line iX4_line 2 := ⟨⟨gw_at 465 (by decide +kernel) rfl, gw_at 467 (by decide +kernel) rfl, gw_at 3 (by decide +kernel) rfl, gw_at 91 (by decide +kernel) rfl, wkX4_line⟩, (by decide +kernel), rfl, rfl⟩
set_option maxRecDepth 100000 in
theorem csX4_37 : CS RX4 37 yX4_nextFour iX4_nextFour 1 := ⟨⟨gw_at 469 (by decide +kernel) rfl, gw_at 470 (by decide +kernel) rfl, gw_at 91 (by decide +kernel) rfl, wkX4_nextFour⟩, (by decide +kernel), rfl, rfl⟩
set_option maxRecDepth 100000 in
theorem cvX6_18 : CV RX6 18 RX9 yX9_clear iX9_clear 0 := ⟨⟨gw_at 731 (by decide +kernel) rfl, gw_at 732 (by decide +kernel) rfl, gw_at 733 (by decide +kernel) rfl, gw_at 85 (by decide +kernel) rfl, wkX9_clear⟩, (by decide +kernel), rfl, rfl⟩
set_option maxRecDepth 100000 in
theorem cvX6_23 : CV RX6 23 RX7 yX7_begin iX7_begin 1 := ⟨⟨gw_at 735 (by decide +kernel) rfl, gw_at 736 (by decide +kernel) rfl, gw_at 737 (by decide +kernel) rfl, gw_at 87 (by decide +kernel) rfl, wkX7_begin⟩, (by decide +kernel), rfl, rfl⟩
set_option maxRecDepth 100000 in
theorem cvX6_27 : CV RX6 27 RX6 yX6_label iX6_label 1 := ⟨⟨gw_at 749 (by decide +kernel) rfl, gw_at 751 (by decide +kernel) rfl, gw_at 14 (by decide +kernel) rfl, gw_at 86 (by decide +kernel) rfl, wkX6_label⟩, (by decide +kernel), rfl, rfl⟩
set_option maxRecDepth 100000 in
theorem cvX6_31 : CV RX6 31 RX7 yX7_atEnd iX7_atEnd 0 := ⟨⟨gw_at 776 (by decide +kernel) rfl, gw_at 777 (by decide +kernel) rfl, gw_at 778 (by decide +kernel) rfl, gw_at 87 (by decide +kernel) rfl, wkX7_atEnd⟩, (by decide +kernel), rfl, rfl⟩
set_option maxRecDepth 100000 in
theorem cvX6_42 : CV RX6 42 RX7 yX7_seenMnemonic iX7_seenMnemonic 0 := ⟨⟨gw_at 780 (by decide +kernel) rfl, gw_at 781 (by decide +kernel) rfl, gw_at 782 (by decide +kernel) rfl, gw_at 87 (by decide +kernel) rfl, wkX7_seenMnemonic⟩, (by decide +kernel), rfl, rfl⟩
set_option maxRecDepth 100000 in
theorem cvX6_46 : CV RX6 46 RX7 yX7_fail iX7_fail 2 := ⟨⟨gw_at 792 (by decide +kernel) rfl, gw_at 793 (by decide +kernel) rfl, gw_at 794 (by decide +kernel) rfl, gw_at 87 (by decide +kernel) rfl, wkX7_fail⟩, (by decide +kernel), rfl, rfl⟩
set_option maxRecDepth 100000 in
theorem cvX6_55 : CV RX6 55 RX7 yX7_step iX7_step 0 := ⟨⟨gw_at 763 (by decide +kernel) rfl, gw_at 740 (by decide +kernel) rfl, gw_at 741 (by decide +kernel) rfl, gw_at 87 (by decide +kernel) rfl, wkX7_step⟩, (by decide +kernel), rfl, rfl⟩
set_option maxRecDepth 100000 in
theorem cvX6_58 : CV RX6 58 RX6 yX6_directive iX6_directive 2 := ⟨⟨gw_at 796 (by decide +kernel) rfl, gw_at 798 (by decide +kernel) rfl, gw_at 15 (by decide +kernel) rfl, gw_at 86 (by decide +kernel) rfl, wkX6_directive⟩, (by decide +kernel), rfl, rfl⟩
set_option maxRecDepth 100000 in
theorem cvX6_62 : CV RX6 62 RX6 yX6_instruction iX6_instruction 2 := ⟨⟨gw_at 827 (by decide +kernel) rfl, gw_at 829 (by decide +kernel) rfl, gw_at 18 (by decide +kernel) rfl, gw_at 86 (by decide +kernel) rfl, wkX6_instruction⟩, (by decide +kernel), rfl, rfl⟩
set_option maxRecDepth 100000 in
theorem cvX6_73 : CV RX6 73 RX7 yX7_seenName iX7_seenName 0 := ⟨⟨gw_at 753 (by decide +kernel) rfl, gw_at 754 (by decide +kernel) rfl, gw_at 755 (by decide +kernel) rfl, gw_at 87 (by decide +kernel) rfl, wkX7_seenName⟩, (by decide +kernel), rfl, rfl⟩
set_option maxRecDepth 100000 in
theorem cvX6_77 : CV RX6 77 RX7 yX7_accept iX7_accept 1 := ⟨⟨gw_at 764 (by decide +kernel) rfl, gw_at 765 (by decide +kernel) rfl, gw_at 766 (by decide +kernel) rfl, gw_at 87 (by decide +kernel) rfl, wkX7_accept⟩, (by decide +kernel), rfl, rfl⟩
set_option maxRecDepth 100000 in
theorem cvX6_87 : CV RX6 87 RX7 yX7_stepBackTo iX7_stepBackTo 1 := ⟨⟨gw_at 772 (by decide +kernel) rfl, gw_at 773 (by decide +kernel) rfl, gw_at 774 (by decide +kernel) rfl, gw_at 87 (by decide +kernel) rfl, wkX7_stepBackTo⟩, (by decide +kernel), rfl, rfl⟩
set_option maxRecDepth 100000 in
theorem cvX6_100 : CV RX6 100 RX6 yX6_reference iX6_reference 1 := ⟨⟨gw_at 800 (by decide +kernel) rfl, gw_at 802 (by decide +kernel) rfl, gw_at 16 (by decide +kernel) rfl, gw_at 86 (by decide +kernel) rfl, wkX6_reference⟩, (by decide +kernel), rfl, rfl⟩
set_option maxRecDepth 100000 in
theorem cvX6_106 : CV RX6 106 RX6 yX6_value iX6_value 1 := ⟨⟨gw_at 809 (by decide +kernel) rfl, gw_at 811 (by decide +kernel) rfl, gw_at 17 (by decide +kernel) rfl, gw_at 86 (by decide +kernel) rfl, wkX6_value⟩, (by decide +kernel), rfl, rfl⟩
set_option maxRecDepth 100000 in
theorem cvX6_109 : CV RX6 109 RX7 yX7_number iX7_number 2 := ⟨⟨gw_at 817 (by decide +kernel) rfl, gw_at 818 (by decide +kernel) rfl, gw_at 819 (by decide +kernel) rfl, gw_at 87 (by decide +kernel) rfl, wkX7_number⟩, (by decide +kernel), rfl, rfl⟩
set_option maxRecDepth 100000 in
theorem cvX6_115 : CV RX6 115 RX7 yX7_name iX7_name 0 := ⟨⟨gw_at 804 (by decide +kernel) rfl, gw_at 805 (by decide +kernel) rfl, gw_at 806 (by decide +kernel) rfl, gw_at 87 (by decide +kernel) rfl, wkX7_name⟩, (by decide +kernel), rfl, rfl⟩
set_option maxRecDepth 100000 in
theorem cvX6_120 : CV RX6 120 RX7 yX7_seesLetter iX7_seesLetter 0 := ⟨⟨gw_at 813 (by decide +kernel) rfl, gw_at 814 (by decide +kernel) rfl, gw_at 815 (by decide +kernel) rfl, gw_at 87 (by decide +kernel) rfl, wkX7_seesLetter⟩, (by decide +kernel), rfl, rfl⟩
set_option maxRecDepth 100000 in
theorem cvX6_123 : CV RX6 123 RX7 yX7_digits iX7_digits 0 := ⟨⟨gw_at 826 (by decide +kernel) rfl, gw_at 823 (by decide +kernel) rfl, gw_at 824 (by decide +kernel) rfl, gw_at 87 (by decide +kernel) rfl, wkX7_digits⟩, (by decide +kernel), rfl, rfl⟩
set_option maxRecDepth 100000 in
theorem cvX6_127 : CV RX6 127 RX6 yX6_move iX6_move 1 := ⟨⟨gw_at 831 (by decide +kernel) rfl, gw_at 833 (by decide +kernel) rfl, gw_at 19 (by decide +kernel) rfl, gw_at 86 (by decide +kernel) rfl, wkX6_move⟩, (by decide +kernel), rfl, rfl⟩
set_option maxRecDepth 100000 in
theorem cvX6_131 : CV RX6 131 RX6 yX6_sum iX6_sum 1 := ⟨⟨gw_at 851 (by decide +kernel) rfl, gw_at 853 (by decide +kernel) rfl, gw_at 21 (by decide +kernel) rfl, gw_at 86 (by decide +kernel) rfl, wkX6_sum⟩, (by decide +kernel), rfl, rfl⟩
set_option maxRecDepth 100000 in
theorem cvX6_134 : CV RX6 134 RX6 yX6_shift iX6_shift 1 := ⟨⟨gw_at 855 (by decide +kernel) rfl, gw_at 857 (by decide +kernel) rfl, gw_at 22 (by decide +kernel) rfl, gw_at 86 (by decide +kernel) rfl, wkX6_shift⟩, (by decide +kernel), rfl, rfl⟩
set_option maxRecDepth 100000 in
theorem cvX6_137 : CV RX6 137 RX6 yX6_pair iX6_pair 1 := ⟨⟨gw_at 859 (by decide +kernel) rfl, gw_at 861 (by decide +kernel) rfl, gw_at 23 (by decide +kernel) rfl, gw_at 86 (by decide +kernel) rfl, wkX6_pair⟩, (by decide +kernel), rfl, rfl⟩
set_option maxRecDepth 100000 in
theorem cvX6_140 : CV RX6 140 RX6 yX6_firstRegister iX6_firstRegister 0 := ⟨⟨gw_at 835 (by decide +kernel) rfl, gw_at 837 (by decide +kernel) rfl, gw_at 20 (by decide +kernel) rfl, gw_at 86 (by decide +kernel) rfl, wkX6_firstRegister⟩, (by decide +kernel), rfl, rfl⟩
set_option maxRecDepth 100000 in
theorem cvX6_143 : CV RX6 143 RX7 yX7_sees iX7_sees 1 := ⟨⟨gw_at 863 (by decide +kernel) rfl, gw_at 769 (by decide +kernel) rfl, gw_at 770 (by decide +kernel) rfl, gw_at 87 (by decide +kernel) rfl, wkX7_sees⟩, (by decide +kernel), rfl, rfl⟩
set_option maxRecDepth 100000 in
theorem cvX6_146 : CV RX6 146 RX6 yX6_memory iX6_memory 1 := ⟨⟨gw_at 864 (by decide +kernel) rfl, gw_at 866 (by decide +kernel) rfl, gw_at 24 (by decide +kernel) rfl, gw_at 86 (by decide +kernel) rfl, wkX6_memory⟩, (by decide +kernel), rfl, rfl⟩
set_option maxRecDepth 100000 in
theorem cvX6_158 : CV RX6 158 RX6 yX6_list iX6_list 1 := ⟨⟨gw_at 869 (by decide +kernel) rfl, gw_at 871 (by decide +kernel) rfl, gw_at 25 (by decide +kernel) rfl, gw_at 86 (by decide +kernel) rfl, wkX6_list⟩, (by decide +kernel), rfl, rfl⟩
set_option maxRecDepth 100000 in
theorem cvX6_164 : CV RX6 164 RX6 yX6_exchanged iX6_exchanged 0 := ⟨⟨gw_at 876 (by decide +kernel) rfl, gw_at 878 (by decide +kernel) rfl, gw_at 26 (by decide +kernel) rfl, gw_at 86 (by decide +kernel) rfl, wkX6_exchanged⟩, (by decide +kernel), rfl, rfl⟩
set_option maxRecDepth 100000 in
theorem cvX6_167 : CV RX6 167 RX7 yX7_register iX7_register 0 := ⟨⟨gw_at 839 (by decide +kernel) rfl, gw_at 840 (by decide +kernel) rfl, gw_at 841 (by decide +kernel) rfl, gw_at 87 (by decide +kernel) rfl, wkX7_register⟩, (by decide +kernel), rfl, rfl⟩
set_option maxRecDepth 100000 in
theorem cvX6_170 : CV RX6 170 RX7 yX7_expect iX7_expect 1 := ⟨⟨gw_at 847 (by decide +kernel) rfl, gw_at 848 (by decide +kernel) rfl, gw_at 849 (by decide +kernel) rfl, gw_at 87 (by decide +kernel) rfl, wkX7_expect⟩, (by decide +kernel), rfl, rfl⟩
set_option maxRecDepth 100000 in
theorem cvX6_174 : CV RX6 174 RX7 yX7_seenRegister iX7_seenRegister 0 := ⟨⟨gw_at 873 (by decide +kernel) rfl, gw_at 844 (by decide +kernel) rfl, gw_at 845 (by decide +kernel) rfl, gw_at 87 (by decide +kernel) rfl, wkX7_seenRegister⟩, (by decide +kernel), rfl, rfl⟩
set_option maxRecDepth 100000 in
theorem cvX6_177 : CV RX6 177 RX7 yX7_seesWord iX7_seesWord 1 := ⟨⟨gw_at 874 (by decide +kernel) rfl, gw_at 787 (by decide +kernel) rfl, gw_at 788 (by decide +kernel) rfl, gw_at 87 (by decide +kernel) rfl, wkX7_seesWord⟩, (by decide +kernel), rfl, rfl⟩
set_option maxRecDepth 100000 in
theorem cvX7_28 : CV RX7 28 RX7 yX7_step iX7_step 0 := ⟨⟨gw_at 739 (by decide +kernel) rfl, gw_at 740 (by decide +kernel) rfl, gw_at 741 (by decide +kernel) rfl, gw_at 87 (by decide +kernel) rfl, wkX7_step⟩, (by decide +kernel), rfl, rfl⟩
set_option maxRecDepth 100000 in
theorem cnX7_41 : CN RX7 41 yX11_isLetter iX11_isLetter 1 := ⟨⟨by decide, gw_at 744 (by decide +kernel) rfl, gw_at 82 (by decide +kernel) rfl, wkX11_isLetter⟩, (by decide +kernel), rfl, rfl⟩
set_option maxRecDepth 100000 in
theorem cnX7_45 : CN RX7 45 yX11_isDigit iX11_isDigit 1 := ⟨⟨by decide, gw_at 747 (by decide +kernel) rfl, gw_at 82 (by decide +kernel) rfl, wkX11_isDigit⟩, (by decide +kernel), rfl, rfl⟩
set_option maxRecDepth 100000 in
theorem cvX7_48 : CV RX7 48 RJ0 yJ0_length_8abf5 iJ0_length_8abf5 0 := ⟨⟨gw_at 790 (by decide +kernel) rfl, gw_at 553 (by decide +kernel) rfl, gw_at 554 (by decide +kernel) rfl, gw_at 101 (by decide +kernel) rfl, wkJ0_length_8abf5⟩, (by decide +kernel), rfl, rfl⟩
set_option maxRecDepth 100000 in
theorem cvX7_53 : CV RX7 53 RJ0 yJ0_charAt_5068e iJ0_charAt_5068e 1 := ⟨⟨gw_at 791 (by decide +kernel) rfl, gw_at 563 (by decide +kernel) rfl, gw_at 564 (by decide +kernel) rfl, gw_at 101 (by decide +kernel) rfl, wkJ0_charAt_5068e⟩, (by decide +kernel), rfl, rfl⟩
set_option maxRecDepth 100000 in
theorem cvX7_67 : CV RX7 67 RX7 yX7_seesWord iX7_seesWord 1 := ⟨⟨gw_at 786 (by decide +kernel) rfl, gw_at 787 (by decide +kernel) rfl, gw_at 788 (by decide +kernel) rfl, gw_at 87 (by decide +kernel) rfl, wkX7_seesWord⟩, (by decide +kernel), rfl, rfl⟩
set_option maxRecDepth 100000 in
theorem cvX7_71 : CV RX7 71 RX10 yX10_nameBetween iX10_nameBetween 2 := ⟨⟨gw_at 757 (by decide +kernel) rfl, gw_at 758 (by decide +kernel) rfl, gw_at 759 (by decide +kernel) rfl, gw_at 83 (by decide +kernel) rfl, wkX10_nameBetween⟩, (by decide +kernel), rfl, rfl⟩
set_option maxRecDepth 100000 in
theorem cvX7_75 : CV RX7 75 RX7 yX7_sees iX7_sees 1 := ⟨⟨gw_at 768 (by decide +kernel) rfl, gw_at 769 (by decide +kernel) rfl, gw_at 770 (by decide +kernel) rfl, gw_at 87 (by decide +kernel) rfl, wkX7_sees⟩, (by decide +kernel), rfl, rfl⟩
set_option maxRecDepth 100000 in
theorem cvX7_78 : CV RX7 78 RX7 yX7_fail iX7_fail 2 := ⟨⟨gw_at 808 (by decide +kernel) rfl, gw_at 793 (by decide +kernel) rfl, gw_at 794 (by decide +kernel) rfl, gw_at 87 (by decide +kernel) rfl, wkX7_fail⟩, (by decide +kernel), rfl, rfl⟩
set_option maxRecDepth 100000 in
theorem cvX7_82 : CV RX7 82 RX7 yX7_seenRegister iX7_seenRegister 0 := ⟨⟨gw_at 843 (by decide +kernel) rfl, gw_at 844 (by decide +kernel) rfl, gw_at 845 (by decide +kernel) rfl, gw_at 87 (by decide +kernel) rfl, wkX7_seenRegister⟩, (by decide +kernel), rfl, rfl⟩
set_option maxRecDepth 100000 in
theorem cvX7_85 : CV RX7 85 RX7 yX7_accept iX7_accept 1 := ⟨⟨gw_at 821 (by decide +kernel) rfl, gw_at 765 (by decide +kernel) rfl, gw_at 766 (by decide +kernel) rfl, gw_at 87 (by decide +kernel) rfl, wkX7_accept⟩, (by decide +kernel), rfl, rfl⟩
set_option maxRecDepth 100000 in
theorem cvX7_88 : CV RX7 88 RX7 yX7_digits iX7_digits 0 := ⟨⟨gw_at 822 (by decide +kernel) rfl, gw_at 823 (by decide +kernel) rfl, gw_at 824 (by decide +kernel) rfl, gw_at 87 (by decide +kernel) rfl, wkX7_digits⟩, (by decide +kernel), rfl, rfl⟩
set_option maxRecDepth 100000 in
theorem cnX10_19 : CN RX10 19 yX11_isLetter iX11_isLetter 1 := ⟨⟨by decide, gw_at 744 (by decide +kernel) rfl, gw_at 82 (by decide +kernel) rfl, wkX11_isLetter⟩, (by decide +kernel), rfl, rfl⟩
set_option maxRecDepth 100000 in
theorem cnX10_23 : CN RX10 23 yX11_isDigit iX11_isDigit 1 := ⟨⟨by decide, gw_at 747 (by decide +kernel) rfl, gw_at 82 (by decide +kernel) rfl, wkX11_isDigit⟩, (by decide +kernel), rfl, rfl⟩
set_option maxRecDepth 100000 in
theorem csX11_47 : CS RX11 47 yX10_charactersIn iX10_charactersIn 1 := ⟨⟨gw_at 626 (by decide +kernel) rfl, gw_at 627 (by decide +kernel) rfl, gw_at 83 (by decide +kernel) rfl, wkX10_charactersIn⟩, (by decide +kernel), rfl, rfl⟩
set_option maxRecDepth 100000 in
theorem cvX11_62 : CV RX11 62 RX10 yX10_appendFour iX10_appendFour 1 := ⟨⟨gw_at 695 (by decide +kernel) rfl, gw_at 696 (by decide +kernel) rfl, gw_at 697 (by decide +kernel) rfl, gw_at 83 (by decide +kernel) rfl, wkX10_appendFour⟩, (by decide +kernel), rfl, rfl⟩
set_option maxRecDepth 100000 in
theorem csX11_66 : CS RX11 66 yX11_isModule iX11_isModule 1 := ⟨⟨gw_at 707 (by decide +kernel) rfl, gw_at 708 (by decide +kernel) rfl, gw_at 82 (by decide +kernel) rfl, wkX11_isModule⟩, (by decide +kernel), rfl, rfl⟩
set_option maxRecDepth 100000 in
theorem cvX11_84 : CV RX11 84 RX6 yX6_parse iX6_parse 2 := ⟨⟨gw_at 727 (by decide +kernel) rfl, gw_at 728 (by decide +kernel) rfl, gw_at 729 (by decide +kernel) rfl, gw_at 86 (by decide +kernel) rfl, wkX6_parse⟩, (by decide +kernel), rfl, rfl⟩
set_option maxRecDepth 100000 in
theorem cvX11_90 : CV RX11 90 RX1 yX1_forget iX1_forget 0 := ⟨⟨gw_at 402 (by decide +kernel) rfl, gw_at 403 (by decide +kernel) rfl, gw_at 404 (by decide +kernel) rfl, gw_at 88 (by decide +kernel) rfl, wkX1_forget⟩, (by decide +kernel), rfl, rfl⟩
set_option maxRecDepth 100000 in
theorem cvX11_93 : CV RX11 93 RX0 yX0_clear iX0_clear 0 := ⟨⟨gw_at 406 (by decide +kernel) rfl, gw_at 407 (by decide +kernel) rfl, gw_at 408 (by decide +kernel) rfl, gw_at 89 (by decide +kernel) rfl, wkX0_clear⟩, (by decide +kernel), rfl, rfl⟩
set_option maxRecDepth 100000 in
theorem cvX11_96 : CV RX11 96 RX11 yX11_layOutLines iX11_layOutLines 0 := ⟨⟨gw_at 424 (by decide +kernel) rfl, gw_at 426 (by decide +kernel) rfl, gw_at 0 (by decide +kernel) rfl, gw_at 82 (by decide +kernel) rfl, wkX11_layOutLines⟩, (by decide +kernel), rfl, rfl⟩
set_option maxRecDepth 100000 in
theorem cvX11_100 : CV RX11 100 RX11 yX11_tellGlobals iX11_tellGlobals 0 := ⟨⟨gw_at 444 (by decide +kernel) rfl, gw_at 446 (by decide +kernel) rfl, gw_at 1 (by decide +kernel) rfl, gw_at 82 (by decide +kernel) rfl, wkX11_tellGlobals⟩, (by decide +kernel), rfl, rfl⟩
set_option maxRecDepth 100000 in
theorem cvX11_103 : CV RX11 103 RX11 yX11_findRoom iX11_findRoom 0 := ⟨⟨gw_at 457 (by decide +kernel) rfl, gw_at 459 (by decide +kernel) rfl, gw_at 2 (by decide +kernel) rfl, gw_at 82 (by decide +kernel) rfl, wkX11_findRoom⟩, (by decide +kernel), rfl, rfl⟩
set_option maxRecDepth 100000 in
theorem cvX11_106 : CV RX11 106 RX11 yX11_writeLines iX11_writeLines 0 := ⟨⟨gw_at 473 (by decide +kernel) rfl, gw_at 475 (by decide +kernel) rfl, gw_at 4 (by decide +kernel) rfl, gw_at 82 (by decide +kernel) rfl, wkX11_writeLines⟩, (by decide +kernel), rfl, rfl⟩
set_option maxRecDepth 100000 in
theorem cvX11_109 : CV RX11 109 RX11 yX11_writeVectors iX11_writeVectors 0 := ⟨⟨gw_at 526 (by decide +kernel) rfl, gw_at 528 (by decide +kernel) rfl, gw_at 9 (by decide +kernel) rfl, gw_at 82 (by decide +kernel) rfl, wkX11_writeVectors⟩, (by decide +kernel), rfl, rfl⟩
set_option maxRecDepth 100000 in
theorem cvX11_133 : CV RX11 133 RX2 yX2_byteAt iX2_byteAt 1 := ⟨⟨gw_at 539 (by decide +kernel) rfl, gw_at 540 (by decide +kernel) rfl, gw_at 541 (by decide +kernel) rfl, gw_at 92 (by decide +kernel) rfl, wkX2_byteAt⟩, (by decide +kernel), rfl, rfl⟩
set_option maxRecDepth 100000 in
theorem cvX11_136 : CV RX11 136 RX2 yX2_recordCharacter iX2_recordCharacter 1 := ⟨⟨gw_at 547 (by decide +kernel) rfl, gw_at 548 (by decide +kernel) rfl, gw_at 549 (by decide +kernel) rfl, gw_at 92 (by decide +kernel) rfl, wkX2_recordCharacter⟩, (by decide +kernel), rfl, rfl⟩
set_option maxRecDepth 100000 in
theorem cvX11_144 : CV RX11 144 RX10 yX10_nameBetween iX10_nameBetween 2 := ⟨⟨gw_at 910 (by decide +kernel) rfl, gw_at 758 (by decide +kernel) rfl, gw_at 759 (by decide +kernel) rfl, gw_at 83 (by decide +kernel) rfl, wkX10_nameBetween⟩, (by decide +kernel), rfl, rfl⟩
set_option maxRecDepth 100000 in
theorem cvX11_148 : CV RX11 148 RX3 yX3_find iX3_find 2 := ⟨⟨gw_at 428 (by decide +kernel) rfl, gw_at 429 (by decide +kernel) rfl, gw_at 430 (by decide +kernel) rfl, gw_at 90 (by decide +kernel) rfl, wkX3_find⟩, (by decide +kernel), rfl, rfl⟩
set_option maxRecDepth 100000 in
theorem cvX11_154 : CV RX11 154 RX0 yX0_addressOf iX0_addressOf 1 := ⟨⟨gw_at 534 (by decide +kernel) rfl, gw_at 492 (by decide +kernel) rfl, gw_at 493 (by decide +kernel) rfl, gw_at 89 (by decide +kernel) rfl, wkX0_addressOf⟩, (by decide +kernel), rfl, rfl⟩
set_option maxRecDepth 100000 in
theorem cvX11_178 : CV RX11 178 RX1 yX1_tell iX1_tell 4 := ⟨⟨gw_at 432 (by decide +kernel) rfl, gw_at 433 (by decide +kernel) rfl, gw_at 434 (by decide +kernel) rfl, gw_at 88 (by decide +kernel) rfl, wkX1_tell⟩, (by decide +kernel), rfl, rfl⟩
set_option maxRecDepth 100000 in
theorem cvX11_188 : CV RX11 188 RX0 yX0_layOut iX0_layOut 3 := ⟨⟨gw_at 436 (by decide +kernel) rfl, gw_at 437 (by decide +kernel) rfl, gw_at 438 (by decide +kernel) rfl, gw_at 89 (by decide +kernel) rfl, wkX0_layOut⟩, (by decide +kernel), rfl, rfl⟩
set_option maxRecDepth 100000 in
theorem cvX11_200 : CV RX11 200 RX3 yX3_makeGlobal iX3_makeGlobal 2 := ⟨⟨gw_at 448 (by decide +kernel) rfl, gw_at 449 (by decide +kernel) rfl, gw_at 450 (by decide +kernel) rfl, gw_at 90 (by decide +kernel) rfl, wkX3_makeGlobal⟩, (by decide +kernel), rfl, rfl⟩
set_option maxRecDepth 100000 in
theorem cvX11_206 : CV RX11 206 RX4 yX4_arrange iX4_arrange 0 := ⟨⟨gw_at 461 (by decide +kernel) rfl, gw_at 462 (by decide +kernel) rfl, gw_at 463 (by decide +kernel) rfl, gw_at 91 (by decide +kernel) rfl, wkX4_arrange⟩, (by decide +kernel), rfl, rfl⟩
set_option maxRecDepth 100000 in
theorem cvX11_209 : CV RX11 209 RX0 yX0_write iX0_write 2 := ⟨⟨gw_at 477 (by decide +kernel) rfl, gw_at 478 (by decide +kernel) rfl, gw_at 479 (by decide +kernel) rfl, gw_at 89 (by decide +kernel) rfl, wkX0_write⟩, (by decide +kernel), rfl, rfl⟩
set_option maxRecDepth 100000 in
theorem cvX11_215 : CV RX11 215 RX3 yX3_findGlobal iX3_findGlobal 1 := ⟨⟨gw_at 531 (by decide +kernel) rfl, gw_at 454 (by decide +kernel) rfl, gw_at 455 (by decide +kernel) rfl, gw_at 90 (by decide +kernel) rfl, wkX3_findGlobal⟩, (by decide +kernel), rfl, rfl⟩
set_option maxRecDepth 100000 in
theorem cvX11_224 : CV RX11 224 RX2 yX2_putWord iX2_putWord 2 := ⟨⟨gw_at 533 (by decide +kernel) rfl, gw_at 496 (by decide +kernel) rfl, gw_at 497 (by decide +kernel) rfl, gw_at 92 (by decide +kernel) rfl, wkX2_putWord⟩, (by decide +kernel), rfl, rfl⟩
set_option maxRecDepth 100000 in
theorem cvX12_69 : CV RX12 69 RX12 yX12_forget iX12_forget 0 := ⟨⟨gw_at 925 (by decide +kernel) rfl, gw_at 927 (by decide +kernel) rfl, gw_at 27 (by decide +kernel) rfl, gw_at 93 (by decide +kernel) rfl, wkX12_forget⟩, (by decide +kernel), rfl, rfl⟩
set_option maxRecDepth 100000 in
theorem cvX12_79 : CV RX12 79 RX12 yX12_put iX12_put 2 := ⟨⟨gw_at 1058 (by decide +kernel) rfl, gw_at 1060 (by decide +kernel) rfl, gw_at 28 (by decide +kernel) rfl, gw_at 93 (by decide +kernel) rfl, wkX12_put⟩, (by decide +kernel), rfl, rfl⟩
set_option maxRecDepth 100000 in
theorem cvX12_83 : CV RX12 83 RX12 yX12_refused iX12_refused 1 := ⟨⟨gw_at 1062 (by decide +kernel) rfl, gw_at 1064 (by decide +kernel) rfl, gw_at 29 (by decide +kernel) rfl, gw_at 93 (by decide +kernel) rfl, wkX12_refused⟩, (by decide +kernel), rfl, rfl⟩
set_option maxRecDepth 100000 in
theorem csX12_87 : CS RX12 87 yX12_isModule iX12_isModule 1 := ⟨⟨gw_at 1074 (by decide +kernel) rfl, gw_at 1075 (by decide +kernel) rfl, gw_at 93 (by decide +kernel) rfl, wkX12_isModule⟩, (by decide +kernel), rfl, rfl⟩
set_option maxRecDepth 100000 in
theorem cvX12_90 : CV RX12 90 RX12 yX12_store iX12_store 1 := ⟨⟨gw_at 1077 (by decide +kernel) rfl, gw_at 1079 (by decide +kernel) rfl, gw_at 30 (by decide +kernel) rfl, gw_at 93 (by decide +kernel) rfl, wkX12_store⟩, (by decide +kernel), rfl, rfl⟩
set_option maxRecDepth 100000 in
theorem csX12_109 : CS RX12 109 yX12_isSmall iX12_isSmall 1 := ⟨⟨gw_at 1109 (by decide +kernel) rfl, gw_at 1110 (by decide +kernel) rfl, gw_at 93 (by decide +kernel) rfl, wkX12_isSmall⟩, (by decide +kernel), rfl, rfl⟩
set_option maxRecDepth 100000 in
theorem csX12_113 : CS RX12 113 yX12_isDigit iX12_isDigit 1 := ⟨⟨gw_at 1115 (by decide +kernel) rfl, gw_at 1116 (by decide +kernel) rfl, gw_at 93 (by decide +kernel) rfl, wkX12_isDigit⟩, (by decide +kernel), rfl, rfl⟩
set_option maxRecDepth 100000 in
theorem cvX12_116 : CV RX12 116 RX12 yX12_next iX12_next 0 := ⟨⟨gw_at 1101 (by decide +kernel) rfl, gw_at 1103 (by decide +kernel) rfl, gw_at 33 (by decide +kernel) rfl, gw_at 93 (by decide +kernel) rfl, wkX12_next⟩, (by decide +kernel), rfl, rfl⟩
set_option maxRecDepth 100000 in
theorem cvX12_120 : CV RX12 120 RX12 yX12_takes iX12_takes 1 := ⟨⟨gw_at 1164 (by decide +kernel) rfl, gw_at 1166 (by decide +kernel) rfl, gw_at 45 (by decide +kernel) rfl, gw_at 93 (by decide +kernel) rfl, wkX12_takes⟩, (by decide +kernel), rfl, rfl⟩
set_option maxRecDepth 100000 in
theorem cvX12_123 : CV RX12 123 RX12 yX12_wrong iX12_wrong 2 := ⟨⟨gw_at 1130 (by decide +kernel) rfl, gw_at 1132 (by decide +kernel) rfl, gw_at 38 (by decide +kernel) rfl, gw_at 93 (by decide +kernel) rfl, wkX12_wrong⟩, (by decide +kernel), rfl, rfl⟩
set_option maxRecDepth 100000 in
theorem csX12_126 : CS RX12 126 yX12_isWordSign iX12_isWordSign 1 := ⟨⟨gw_at 1112 (by decide +kernel) rfl, gw_at 1113 (by decide +kernel) rfl, gw_at 93 (by decide +kernel) rfl, wkX12_isWordSign⟩, (by decide +kernel), rfl, rfl⟩
set_option maxRecDepth 100000 in
theorem cvX12_131 : CV RX12 131 RX12 yX12_wordEnd iX12_wordEnd 0 := ⟨⟨gw_at 1105 (by decide +kernel) rfl, gw_at 1107 (by decide +kernel) rfl, gw_at 34 (by decide +kernel) rfl, gw_at 93 (by decide +kernel) rfl, wkX12_wordEnd⟩, (by decide +kernel), rfl, rfl⟩
set_option maxRecDepth 100000 in
theorem cvX12_135 : CV RX12 135 RX12 yX12_digits iX12_digits 0 := ⟨⟨gw_at 1160 (by decide +kernel) rfl, gw_at 1162 (by decide +kernel) rfl, gw_at 44 (by decide +kernel) rfl, gw_at 93 (by decide +kernel) rfl, wkX12_digits⟩, (by decide +kernel), rfl, rfl⟩
set_option maxRecDepth 100000 in
theorem cvX12_138 : CV RX12 138 RX12 yX12_isName iX12_isName 2 := ⟨⟨gw_at 1118 (by decide +kernel) rfl, gw_at 1120 (by decide +kernel) rfl, gw_at 35 (by decide +kernel) rfl, gw_at 93 (by decide +kernel) rfl, wkX12_isName⟩, (by decide +kernel), rfl, rfl⟩
set_option maxRecDepth 100000 in
theorem cvX12_148 : CV RX12 148 RX12 yX12_want iX12_want 1 := ⟨⟨gw_at 1190 (by decide +kernel) rfl, gw_at 1192 (by decide +kernel) rfl, gw_at 50 (by decide +kernel) rfl, gw_at 93 (by decide +kernel) rfl, wkX12_want⟩, (by decide +kernel), rfl, rfl⟩
set_option maxRecDepth 100000 in
theorem cvX12_152 : CV RX12 152 RX12 yX12_readNumber iX12_readNumber 3 := ⟨⟨gw_at 1156 (by decide +kernel) rfl, gw_at 1158 (by decide +kernel) rfl, gw_at 43 (by decide +kernel) rfl, gw_at 93 (by decide +kernel) rfl, wkX12_readNumber⟩, (by decide +kernel), rfl, rfl⟩
set_option maxRecDepth 100000 in
theorem cvX12_162 : CV RX12 162 RX12 yX12_register iX12_register 0 := ⟨⟨gw_at 1186 (by decide +kernel) rfl, gw_at 1188 (by decide +kernel) rfl, gw_at 49 (by decide +kernel) rfl, gw_at 93 (by decide +kernel) rfl, wkX12_register⟩, (by decide +kernel), rfl, rfl⟩
set_option maxRecDepth 100000 in
theorem cvX12_165 : CV RX12 165 RX12 yX12_plain iX12_plain 1 := ⟨⟨gw_at 1177 (by decide +kernel) rfl, gw_at 1179 (by decide +kernel) rfl, gw_at 47 (by decide +kernel) rfl, gw_at 93 (by decide +kernel) rfl, wkX12_plain⟩, (by decide +kernel), rfl, rfl⟩
set_option maxRecDepth 100000 in
theorem cvX12_168 : CV RX12 168 RX12 yX12_immediate iX12_immediate 3 := ⟨⟨gw_at 1194 (by decide +kernel) rfl, gw_at 1196 (by decide +kernel) rfl, gw_at 51 (by decide +kernel) rfl, gw_at 93 (by decide +kernel) rfl, wkX12_immediate⟩, (by decide +kernel), rfl, rfl⟩
set_option maxRecDepth 100000 in
theorem cvX12_171 : CV RX12 171 RX12 yX12_readName iX12_readName 0 := ⟨⟨gw_at 1147 (by decide +kernel) rfl, gw_at 1149 (by decide +kernel) rfl, gw_at 41 (by decide +kernel) rfl, gw_at 93 (by decide +kernel) rfl, wkX12_readName⟩, (by decide +kernel), rfl, rfl⟩
set_option maxRecDepth 100000 in
theorem cvX12_174 : CV RX12 174 RX12 yX12_isWord iX12_isWord 3 := ⟨⟨gw_at 1139 (by decide +kernel) rfl, gw_at 1141 (by decide +kernel) rfl, gw_at 40 (by decide +kernel) rfl, gw_at 93 (by decide +kernel) rfl, wkX12_isWord⟩, (by decide +kernel), rfl, rfl⟩
set_option maxRecDepth 100000 in
theorem cvX12_188 : CV RX12 188 RX12 yX12_word iX12_word 0 := ⟨⟨gw_at 1152 (by decide +kernel) rfl, gw_at 1154 (by decide +kernel) rfl, gw_at 42 (by decide +kernel) rfl, gw_at 93 (by decide +kernel) rfl, wkX12_word⟩, (by decide +kernel), rfl, rfl⟩
set_option maxRecDepth 100000 in
theorem cvX12_205 : CV RX12 205 RX12 yX12_oneOrNumber iX12_oneOrNumber 2 := ⟨⟨gw_at 1182 (by decide +kernel) rfl, gw_at 1184 (by decide +kernel) rfl, gw_at 48 (by decide +kernel) rfl, gw_at 93 (by decide +kernel) rfl, wkX12_oneOrNumber⟩, (by decide +kernel), rfl, rfl⟩
set_option maxRecDepth 100000 in
theorem cvX12_212 : CV RX12 212 RX12 yX12_sums iX12_sums 2 := ⟨⟨gw_at 1200 (by decide +kernel) rfl, gw_at 1202 (by decide +kernel) rfl, gw_at 52 (by decide +kernel) rfl, gw_at 93 (by decide +kernel) rfl, wkX12_sums⟩, (by decide +kernel), rfl, rfl⟩
set_option maxRecDepth 100000 in
theorem cvX12_219 : CV RX12 219 RX12 yX12_shifts iX12_shifts 3 := ⟨⟨gw_at 1206 (by decide +kernel) rfl, gw_at 1208 (by decide +kernel) rfl, gw_at 53 (by decide +kernel) rfl, gw_at 93 (by decide +kernel) rfl, wkX12_shifts⟩, (by decide +kernel), rfl, rfl⟩
set_option maxRecDepth 100000 in
theorem cvX12_227 : CV RX12 227 RX12 yX12_pairOf iX12_pairOf 2 := ⟨⟨gw_at 1212 (by decide +kernel) rfl, gw_at 1214 (by decide +kernel) rfl, gw_at 54 (by decide +kernel) rfl, gw_at 93 (by decide +kernel) rfl, wkX12_pairOf⟩, (by decide +kernel), rfl, rfl⟩
set_option maxRecDepth 100000 in
theorem cvX12_231 : CV RX12 231 RX12 yX12_two iX12_two 1 := ⟨⟨gw_at 1226 (by decide +kernel) rfl, gw_at 1228 (by decide +kernel) rfl, gw_at 55 (by decide +kernel) rfl, gw_at 93 (by decide +kernel) rfl, wkX12_two⟩, (by decide +kernel), rfl, rfl⟩
set_option maxRecDepth 100000 in
theorem cvX12_256 : CV RX12 256 RX12 yX12_memory iX12_memory 3 := ⟨⟨gw_at 1235 (by decide +kernel) rfl, gw_at 1237 (by decide +kernel) rfl, gw_at 57 (by decide +kernel) rfl, gw_at 93 (by decide +kernel) rfl, wkX12_memory⟩, (by decide +kernel), rfl, rfl⟩
set_option maxRecDepth 100000 in
theorem cvX12_271 : CV RX12 271 RX12 yX12_listed iX12_listed 2 := ⟨⟨gw_at 1245 (by decide +kernel) rfl, gw_at 1247 (by decide +kernel) rfl, gw_at 58 (by decide +kernel) rfl, gw_at 93 (by decide +kernel) rfl, wkX12_listed⟩, (by decide +kernel), rfl, rfl⟩
set_option maxRecDepth 100000 in
theorem cvX12_283 : CV RX12 283 RX12 yX12_jump iX12_jump 2 := ⟨⟨gw_at 1254 (by decide +kernel) rfl, gw_at 1256 (by decide +kernel) rfl, gw_at 59 (by decide +kernel) rfl, gw_at 93 (by decide +kernel) rfl, wkX12_jump⟩, (by decide +kernel), rfl, rfl⟩
set_option maxRecDepth 100000 in
theorem cvX12_290 : CV RX12 290 RX12 yX12_condition iX12_condition 2 := ⟨⟨gw_at 1260 (by decide +kernel) rfl, gw_at 1262 (by decide +kernel) rfl, gw_at 60 (by decide +kernel) rfl, gw_at 93 (by decide +kernel) rfl, wkX12_condition⟩, (by decide +kernel), rfl, rfl⟩
set_option maxRecDepth 100000 in
theorem cvX12_300 : CV RX12 300 RX12 yX12_labelOf iX12_labelOf 4 := ⟨⟨gw_at 1126 (by decide +kernel) rfl, gw_at 1128 (by decide +kernel) rfl, gw_at 37 (by decide +kernel) rfl, gw_at 93 (by decide +kernel) rfl, wkX12_labelOf⟩, (by decide +kernel), rfl, rfl⟩
set_option maxRecDepth 100000 in
theorem cvX12_307 : CV RX12 307 RX12 yX12_isTwice iX12_isTwice 1 := ⟨⟨gw_at 1122 (by decide +kernel) rfl, gw_at 1124 (by decide +kernel) rfl, gw_at 36 (by decide +kernel) rfl, gw_at 93 (by decide +kernel) rfl, wkX12_isTwice⟩, (by decide +kernel), rfl, rfl⟩
set_option maxRecDepth 100000 in
theorem cvX12_310 : CV RX12 310 RX12 yX12_directive iX12_directive 2 := ⟨⟨gw_at 1134 (by decide +kernel) rfl, gw_at 1136 (by decide +kernel) rfl, gw_at 39 (by decide +kernel) rfl, gw_at 93 (by decide +kernel) rfl, wkX12_directive⟩, (by decide +kernel), rfl, rfl⟩
set_option maxRecDepth 100000 in
theorem cvX12_313 : CV RX12 313 RX12 yX12_simple iX12_simple 2 := ⟨⟨gw_at 1171 (by decide +kernel) rfl, gw_at 1173 (by decide +kernel) rfl, gw_at 46 (by decide +kernel) rfl, gw_at 93 (by decide +kernel) rfl, wkX12_simple⟩, (by decide +kernel), rfl, rfl⟩
set_option maxRecDepth 100000 in
theorem cvX12_316 : CV RX12 316 RX12 yX12_other iX12_other 2 := ⟨⟨gw_at 1230 (by decide +kernel) rfl, gw_at 1232 (by decide +kernel) rfl, gw_at 56 (by decide +kernel) rfl, gw_at 93 (by decide +kernel) rfl, wkX12_other⟩, (by decide +kernel), rfl, rfl⟩
set_option maxRecDepth 100000 in
theorem cvX12_328 : CV RX12 328 RX12 yX12_putByte iX12_putByte 2 := ⟨⟨gw_at 1277 (by decide +kernel) rfl, gw_at 1279 (by decide +kernel) rfl, gw_at 64 (by decide +kernel) rfl, gw_at 93 (by decide +kernel) rfl, wkX12_putByte⟩, (by decide +kernel), rfl, rfl⟩
set_option maxRecDepth 100000 in
theorem cvX12_331 : CV RX12 331 RX12 yX12_putMany iX12_putMany 3 := ⟨⟨gw_at 1281 (by decide +kernel) rfl, gw_at 1283 (by decide +kernel) rfl, gw_at 65 (by decide +kernel) rfl, gw_at 93 (by decide +kernel) rfl, wkX12_putMany⟩, (by decide +kernel), rfl, rfl⟩
set_option maxRecDepth 100000 in
theorem cvX12_334 : CV RX12 334 RX12 yX12_read iX12_read 3 := ⟨⟨gw_at 1097 (by decide +kernel) rfl, gw_at 1099 (by decide +kernel) rfl, gw_at 32 (by decide +kernel) rfl, gw_at 93 (by decide +kernel) rfl, wkX12_read⟩, (by decide +kernel), rfl, rfl⟩
set_option maxRecDepth 100000 in
theorem cvX12_337 : CV RX12 337 RX12 yX12_report iX12_report 4 := ⟨⟨gw_at 1265 (by decide +kernel) rfl, gw_at 1267 (by decide +kernel) rfl, gw_at 61 (by decide +kernel) rfl, gw_at 93 (by decide +kernel) rfl, wkX12_report⟩, (by decide +kernel), rfl, rfl⟩
set_option maxRecDepth 100000 in
theorem cvX12_340 : CV RX12 340 RX12 yX12_addLabel iX12_addLabel 1 := ⟨⟨gw_at 1269 (by decide +kernel) rfl, gw_at 1271 (by decide +kernel) rfl, gw_at 62 (by decide +kernel) rfl, gw_at 93 (by decide +kernel) rfl, wkX12_addLabel⟩, (by decide +kernel), rfl, rfl⟩
set_option maxRecDepth 100000 in
theorem cvX12_343 : CV RX12 343 RX12 yX12_lay iX12_lay 1 := ⟨⟨gw_at 1273 (by decide +kernel) rfl, gw_at 1275 (by decide +kernel) rfl, gw_at 63 (by decide +kernel) rfl, gw_at 93 (by decide +kernel) rfl, wkX12_lay⟩, (by decide +kernel), rfl, rfl⟩
set_option maxRecDepth 100000 in
theorem cvX12_347 : CV RX12 347 RX12 yX12_globalOf iX12_globalOf 2 := ⟨⟨gw_at 1293 (by decide +kernel) rfl, gw_at 1295 (by decide +kernel) rfl, gw_at 68 (by decide +kernel) rfl, gw_at 93 (by decide +kernel) rfl, wkX12_globalOf⟩, (by decide +kernel), rfl, rfl⟩
set_option maxRecDepth 100000 in
theorem cvX12_350 : CV RX12 350 RX12 yX12_isGlobalName iX12_isGlobalName 2 := ⟨⟨gw_at 1289 (by decide +kernel) rfl, gw_at 1291 (by decide +kernel) rfl, gw_at 67 (by decide +kernel) rfl, gw_at 93 (by decide +kernel) rfl, wkX12_isGlobalName⟩, (by decide +kernel), rfl, rfl⟩
set_option maxRecDepth 100000 in
theorem csX12_353 : CS RX12 353 yX12_up iX12_up 1 := ⟨⟨gw_at 1301 (by decide +kernel) rfl, gw_at 1302 (by decide +kernel) rfl, gw_at 93 (by decide +kernel) rfl, wkX12_up⟩, (by decide +kernel), rfl, rfl⟩
set_option maxRecDepth 100000 in
theorem cvX12_356 : CV RX12 356 RX12 yX12_addressOf iX12_addressOf 1 := ⟨⟨gw_at 1314 (by decide +kernel) rfl, gw_at 1316 (by decide +kernel) rfl, gw_at 72 (by decide +kernel) rfl, gw_at 93 (by decide +kernel) rfl, wkX12_addressOf⟩, (by decide +kernel), rfl, rfl⟩
set_option maxRecDepth 100000 in
theorem cvX12_359 : CV RX12 359 RX12 yX12_setHalf iX12_setHalf 3 := ⟨⟨gw_at 1318 (by decide +kernel) rfl, gw_at 1320 (by decide +kernel) rfl, gw_at 73 (by decide +kernel) rfl, gw_at 93 (by decide +kernel) rfl, wkX12_setHalf⟩, (by decide +kernel), rfl, rfl⟩
set_option maxRecDepth 100000 in
theorem cvX12_365 : CV RX12 365 RX12 yX12_resolve iX12_resolve 4 := ⟨⟨gw_at 1310 (by decide +kernel) rfl, gw_at 1312 (by decide +kernel) rfl, gw_at 71 (by decide +kernel) rfl, gw_at 93 (by decide +kernel) rfl, wkX12_resolve⟩, (by decide +kernel), rfl, rfl⟩
set_option maxRecDepth 100000 in
theorem cvX12_369 : CV RX12 369 RX12 yX12_sizeOf iX12_sizeOf 1 := ⟨⟨gw_at 1325 (by decide +kernel) rfl, gw_at 1327 (by decide +kernel) rfl, gw_at 74 (by decide +kernel) rfl, gw_at 93 (by decide +kernel) rfl, wkX12_sizeOf⟩, (by decide +kernel), rfl, rfl⟩
set_option maxRecDepth 100000 in
theorem cvX12_372 : CV RX12 372 RX12 yX12_firstPass iX12_firstPass 0 := ⟨⟨gw_at 1093 (by decide +kernel) rfl, gw_at 1095 (by decide +kernel) rfl, gw_at 31 (by decide +kernel) rfl, gw_at 93 (by decide +kernel) rfl, wkX12_firstPass⟩, (by decide +kernel), rfl, rfl⟩
set_option maxRecDepth 100000 in
theorem cvX12_375 : CV RX12 375 RX12 yX12_secondPass iX12_secondPass 0 := ⟨⟨gw_at 1285 (by decide +kernel) rfl, gw_at 1287 (by decide +kernel) rfl, gw_at 66 (by decide +kernel) rfl, gw_at 93 (by decide +kernel) rfl, wkX12_secondPass⟩, (by decide +kernel), rfl, rfl⟩
set_option maxRecDepth 100000 in
theorem cvX12_378 : CV RX12 378 RX12 yX12_place iX12_place 3 := ⟨⟨gw_at 1297 (by decide +kernel) rfl, gw_at 1299 (by decide +kernel) rfl, gw_at 69 (by decide +kernel) rfl, gw_at 93 (by decide +kernel) rfl, wkX12_place⟩, (by decide +kernel), rfl, rfl⟩
set_option maxRecDepth 100000 in
theorem cvX12_384 : CV RX12 384 RX12 yX12_thirdPass iX12_thirdPass 0 := ⟨⟨gw_at 1306 (by decide +kernel) rfl, gw_at 1308 (by decide +kernel) rfl, gw_at 70 (by decide +kernel) rfl, gw_at 93 (by decide +kernel) rfl, wkX12_thirdPass⟩, (by decide +kernel), rfl, rfl⟩
set_option maxRecDepth 100000 in
theorem cvX12_387 : CV RX12 387 RX12 yX12_mainAddress iX12_mainAddress 0 := ⟨⟨gw_at 1329 (by decide +kernel) rfl, gw_at 1331 (by decide +kernel) rfl, gw_at 75 (by decide +kernel) rfl, gw_at 93 (by decide +kernel) rfl, wkX12_mainAddress⟩, (by decide +kernel), rfl, rfl⟩
set_option maxRecDepth 100000 in
theorem cvX12_390 : CV RX12 390 RX12 yX12_finish iX12_finish 2 := ⟨⟨gw_at 1333 (by decide +kernel) rfl, gw_at 1335 (by decide +kernel) rfl, gw_at 76 (by decide +kernel) rfl, gw_at 93 (by decide +kernel) rfl, wkX12_finish⟩, (by decide +kernel), rfl, rfl⟩
set_option maxRecDepth 100000 in
theorem cvX12_396 : CV RX12 396 RX12 yX12_setWord iX12_setWord 2 := ⟨⟨gw_at 1337 (by decide +kernel) rfl, gw_at 1339 (by decide +kernel) rfl, gw_at 77 (by decide +kernel) rfl, gw_at 93 (by decide +kernel) rfl, wkX12_setWord⟩, (by decide +kernel), rfl, rfl⟩
set_option maxRecDepth 100000 in
theorem cvX12_399 : CV RX12 399 RX12 yX12_write iX12_write 0 := ⟨⟨gw_at 1341 (by decide +kernel) rfl, gw_at 1343 (by decide +kernel) rfl, gw_at 78 (by decide +kernel) rfl, gw_at 93 (by decide +kernel) rfl, wkX12_write⟩, (by decide +kernel), rfl, rfl⟩
set_option maxRecDepth 100000 in
theorem cvX12_408 : CV RX12 408 RX12 yX12_putHex iX12_putHex 1 := ⟨⟨gw_at 1349 (by decide +kernel) rfl, gw_at 1351 (by decide +kernel) rfl, gw_at 80 (by decide +kernel) rfl, gw_at 93 (by decide +kernel) rfl, wkX12_putHex⟩, (by decide +kernel), rfl, rfl⟩
set_option maxRecDepth 100000 in
theorem cvX12_411 : CV RX12 411 RX12 yX12_record iX12_record 4 := ⟨⟨gw_at 1345 (by decide +kernel) rfl, gw_at 1347 (by decide +kernel) rfl, gw_at 79 (by decide +kernel) rfl, gw_at 93 (by decide +kernel) rfl, wkX12_record⟩, (by decide +kernel), rfl, rfl⟩
set_option maxRecDepth 100000 in
theorem csX12_415 : CS RX12 415 yX12_isIn iX12_isIn 3 := ⟨⟨gw_at 1357 (by decide +kernel) rfl, gw_at 1358 (by decide +kernel) rfl, gw_at 93 (by decide +kernel) rfl, wkX12_isIn⟩, (by decide +kernel), rfl, rfl⟩
set_option maxRecDepth 100000 in
theorem cvJ0_335 : CV RJ0 335 RJ0 yJ0_coder_7d493 iJ0_coder_7d493 0 := ⟨⟨gw_at 556 (by decide +kernel) rfl, gw_at 557 (by decide +kernel) rfl, gw_at 558 (by decide +kernel) rfl, gw_at 101 (by decide +kernel) rfl, wkJ0_coder_7d493⟩, (by decide +kernel), rfl, rfl⟩
set_option maxRecDepth 100000 in
theorem cvJ0_492 : CV RJ0 492 RJ0 yJ0_isLatin1_aae02 iJ0_isLatin1_aae02 0 := ⟨⟨gw_at 566 (by decide +kernel) rfl, gw_at 567 (by decide +kernel) rfl, gw_at 568 (by decide +kernel) rfl, gw_at 101 (by decide +kernel) rfl, wkJ0_isLatin1_aae02⟩, (by decide +kernel), rfl, rfl⟩
set_option maxRecDepth 100000 in
theorem csJ0_495 : CS RJ0 495 yJ1_charAt_3b067 iJ1_charAt_3b067 2 := ⟨⟨gw_at 570 (by decide +kernel) rfl, gw_at 571 (by decide +kernel) rfl, gw_at 102 (by decide +kernel) rfl, wkJ1_charAt_3b067⟩, (by decide +kernel), rfl, rfl⟩
set_option maxRecDepth 100000 in
theorem csJ0_498 : CS RJ0 498 yJ2_charAt_3b067 iJ2_charAt_3b067 2 := ⟨⟨gw_at 581 (by decide +kernel) rfl, gw_at 582 (by decide +kernel) rfl, gw_at 104 (by decide +kernel) rfl, wkJ2_charAt_3b067⟩, (by decide +kernel), rfl, rfl⟩
set_option maxRecDepth 100000 in
theorem csJ0_1059 : CS RJ0 1059 yJ3_checkIndex_8e157 iJ3_checkIndex_8e157 3 := ⟨⟨gw_at 578 (by decide +kernel) rfl, gw_at 579 (by decide +kernel) rfl, gw_at 103 (by decide +kernel) rfl, wkJ3_checkIndex_8e157⟩, (by decide +kernel), rfl, rfl⟩
set_option maxRecDepth 100000 in
theorem csJ1_9 : CS RJ1 9 yJ0_checkIndex_df160 iJ0_checkIndex_df160 2 := ⟨⟨gw_at 573 (by decide +kernel) rfl, gw_at 574 (by decide +kernel) rfl, gw_at 101 (by decide +kernel) rfl, wkJ0_checkIndex_df160⟩, (by decide +kernel), rfl, rfl⟩
set_option maxRecDepth 100000 in
theorem csJ2_48 : CS RJ2 48 yJ2_length_9d52b iJ2_length_9d52b 1 := ⟨⟨gw_at 587 (by decide +kernel) rfl, gw_at 588 (by decide +kernel) rfl, gw_at 104 (by decide +kernel) rfl, wkJ2_length_9d52b⟩, (by decide +kernel), rfl, rfl⟩
set_option maxRecDepth 100000 in
theorem csJ2_67 : CS RJ2 67 yJ2_checkIndex_2214a iJ2_checkIndex_2214a 2 := ⟨⟨gw_at 584 (by decide +kernel) rfl, gw_at 585 (by decide +kernel) rfl, gw_at 104 (by decide +kernel) rfl, wkJ2_checkIndex_2214a⟩, (by decide +kernel), rfl, rfl⟩
set_option maxRecDepth 100000 in
theorem csJ2_71 : CS RJ2 71 yJ2_getChar_3b067 iJ2_getChar_3b067 2 := ⟨⟨gw_at 591 (by decide +kernel) rfl, gw_at 592 (by decide +kernel) rfl, gw_at 104 (by decide +kernel) rfl, wkJ2_getChar_3b067⟩, (by decide +kernel), rfl, rfl⟩
set_option maxRecDepth 100000 in
theorem csJ2_414 : CS RJ2 414 yJ0_checkIndex_df160 iJ0_checkIndex_df160 2 := ⟨⟨gw_at 590 (by decide +kernel) rfl, gw_at 574 (by decide +kernel) rfl, gw_at 101 (by decide +kernel) rfl, wkJ0_checkIndex_df160⟩, (by decide +kernel), rfl, rfl⟩
set_option maxRecDepth 100000 in
theorem cvL_7 : CV RL 7 RX11 yX11_type iX11_type 4 := ⟨⟨gw_at 622 (by decide +kernel) rfl, gw_at 623 (by decide +kernel) rfl, gw_at 624 (by decide +kernel) rfl, gw_at 82 (by decide +kernel) rfl, wkX11_type⟩, (by decide +kernel), rfl, rfl⟩
set_option maxRecDepth 100000 in
theorem cvL_15 : CV RL 15 RX11 yX11_add iX11_add 1 := ⟨⟨gw_at 703 (by decide +kernel) rfl, gw_at 704 (by decide +kernel) rfl, gw_at 705 (by decide +kernel) rfl, gw_at 82 (by decide +kernel) rfl, wkX11_add⟩, (by decide +kernel), rfl, rfl⟩
set_option maxRecDepth 100000 in
theorem cvL_21 : CV RL 21 RX11 yX11_change iX11_change 2 := ⟨⟨gw_at 883 (by decide +kernel) rfl, gw_at 884 (by decide +kernel) rfl, gw_at 885 (by decide +kernel) rfl, gw_at 82 (by decide +kernel) rfl, wkX11_change⟩, (by decide +kernel), rfl, rfl⟩
set_option maxRecDepth 100000 in
theorem cvL_25 : CV RL 25 RX11 yX11_drop iX11_drop 1 := ⟨⟨gw_at 891 (by decide +kernel) rfl, gw_at 892 (by decide +kernel) rfl, gw_at 893 (by decide +kernel) rfl, gw_at 82 (by decide +kernel) rfl, wkX11_drop⟩, (by decide +kernel), rfl, rfl⟩
set_option maxRecDepth 100000 in
theorem cvL_28 : CV RL 28 RX11 yX11_fault iX11_fault 1 := ⟨⟨gw_at 898 (by decide +kernel) rfl, gw_at 899 (by decide +kernel) rfl, gw_at 900 (by decide +kernel) rfl, gw_at 82 (by decide +kernel) rfl, wkX11_fault⟩, (by decide +kernel), rfl, rfl⟩
set_option maxRecDepth 100000 in
theorem cvL_31 : CV RL 31 RX11 yX11_address iX11_address 1 := ⟨⟨gw_at 906 (by decide +kernel) rfl, gw_at 907 (by decide +kernel) rfl, gw_at 908 (by decide +kernel) rfl, gw_at 82 (by decide +kernel) rfl, wkX11_address⟩, (by decide +kernel), rfl, rfl⟩
set_option maxRecDepth 100000 in
theorem cvL_34 : CV RL 34 RX11 yX11_size iX11_size 2 := ⟨⟨gw_at 914 (by decide +kernel) rfl, gw_at 915 (by decide +kernel) rfl, gw_at 916 (by decide +kernel) rfl, gw_at 82 (by decide +kernel) rfl, wkX11_size⟩, (by decide +kernel), rfl, rfl⟩
set_option maxRecDepth 100000 in
theorem cvL_47 : CV RL 47 RX12 yX12_type iX12_type 4 := ⟨⟨gw_at 1054 (by decide +kernel) rfl, gw_at 1055 (by decide +kernel) rfl, gw_at 1056 (by decide +kernel) rfl, gw_at 93 (by decide +kernel) rfl, wkX12_type⟩, (by decide +kernel), rfl, rfl⟩
set_option maxRecDepth 100000 in
theorem cvL_48 : CV RL 48 RX12 yX12_thrown iX12_thrown 0 := ⟨⟨gw_at 1050 (by decide +kernel) rfl, gw_at 1051 (by decide +kernel) rfl, gw_at 1052 (by decide +kernel) rfl, gw_at 93 (by decide +kernel) rfl, wkX12_thrown⟩, (by decide +kernel), rfl, rfl⟩
set_option maxRecDepth 100000 in
theorem cvL_52 : CV RL 52 RX11 yX11_erase iX11_erase 0 := ⟨⟨gw_at 394 (by decide +kernel) rfl, gw_at 395 (by decide +kernel) rfl, gw_at 396 (by decide +kernel) rfl, gw_at 82 (by decide +kernel) rfl, wkX11_erase⟩, (by decide +kernel), rfl, rfl⟩
set_option maxRecDepth 100000 in
theorem cvL_55 : CV RL 55 RX12 yX12_erase iX12_erase 0 := ⟨⟨gw_at 1066 (by decide +kernel) rfl, gw_at 1067 (by decide +kernel) rfl, gw_at 1068 (by decide +kernel) rfl, gw_at 93 (by decide +kernel) rfl, wkX12_erase⟩, (by decide +kernel), rfl, rfl⟩
set_option maxRecDepth 100000 in
theorem cvL_59 : CV RL 59 RX12 yX12_add iX12_add 1 := ⟨⟨gw_at 1070 (by decide +kernel) rfl, gw_at 1071 (by decide +kernel) rfl, gw_at 1072 (by decide +kernel) rfl, gw_at 93 (by decide +kernel) rfl, wkX12_add⟩, (by decide +kernel), rfl, rfl⟩
set_option maxRecDepth 100000 in
theorem cvL_63 : CV RL 63 RX12 yX12_change iX12_change 2 := ⟨⟨gw_at 1081 (by decide +kernel) rfl, gw_at 1082 (by decide +kernel) rfl, gw_at 1083 (by decide +kernel) rfl, gw_at 93 (by decide +kernel) rfl, wkX12_change⟩, (by decide +kernel), rfl, rfl⟩
set_option maxRecDepth 100000 in
theorem cvL_66 : CV RL 66 RX12 yX12_drop iX12_drop 1 := ⟨⟨gw_at 1085 (by decide +kernel) rfl, gw_at 1086 (by decide +kernel) rfl, gw_at 1087 (by decide +kernel) rfl, gw_at 93 (by decide +kernel) rfl, wkX12_drop⟩, (by decide +kernel), rfl, rfl⟩
set_option maxRecDepth 100000 in
theorem cvL_67 : CV RL 67 RX11 yX11_link iX11_link 0 := ⟨⟨gw_at 398 (by decide +kernel) rfl, gw_at 399 (by decide +kernel) rfl, gw_at 400 (by decide +kernel) rfl, gw_at 82 (by decide +kernel) rfl, wkX11_link⟩, (by decide +kernel), rfl, rfl⟩
set_option maxRecDepth 100000 in
theorem cvL_70 : CV RL 70 RX12 yX12_link iX12_link 0 := ⟨⟨gw_at 1089 (by decide +kernel) rfl, gw_at 1090 (by decide +kernel) rfl, gw_at 1091 (by decide +kernel) rfl, gw_at 93 (by decide +kernel) rfl, wkX12_link⟩, (by decide +kernel), rfl, rfl⟩
set_option maxRecDepth 100000 in
theorem cvL_73 : CV RL 73 RX12 yX12_fault iX12_fault 1 := ⟨⟨gw_at 1353 (by decide +kernel) rfl, gw_at 1354 (by decide +kernel) rfl, gw_at 1355 (by decide +kernel) rfl, gw_at 93 (by decide +kernel) rfl, wkX12_fault⟩, (by decide +kernel), rfl, rfl⟩
set_option maxRecDepth 100000 in
theorem cvL_74 : CV RL 74 RX11 yX11_octet iX11_octet 1 := ⟨⟨gw_at 535 (by decide +kernel) rfl, gw_at 536 (by decide +kernel) rfl, gw_at 537 (by decide +kernel) rfl, gw_at 82 (by decide +kernel) rfl, wkX11_octet⟩, (by decide +kernel), rfl, rfl⟩
set_option maxRecDepth 100000 in
theorem cvL_77 : CV RL 77 RX12 yX12_octet iX12_octet 1 := ⟨⟨gw_at 1360 (by decide +kernel) rfl, gw_at 1361 (by decide +kernel) rfl, gw_at 1362 (by decide +kernel) rfl, gw_at 93 (by decide +kernel) rfl, wkX12_octet⟩, (by decide +kernel), rfl, rfl⟩
set_option maxRecDepth 100000 in
theorem cvL_78 : CV RL 78 RX11 yX11_hex iX11_hex 1 := ⟨⟨gw_at 543 (by decide +kernel) rfl, gw_at 544 (by decide +kernel) rfl, gw_at 545 (by decide +kernel) rfl, gw_at 82 (by decide +kernel) rfl, wkX11_hex⟩, (by decide +kernel), rfl, rfl⟩
set_option maxRecDepth 100000 in
theorem cvL_82 : CV RL 82 RX12 yX12_hex iX12_hex 1 := ⟨⟨gw_at 1364 (by decide +kernel) rfl, gw_at 1365 (by decide +kernel) rfl, gw_at 1366 (by decide +kernel) rfl, gw_at 93 (by decide +kernel) rfl, wkX12_hex⟩, (by decide +kernel), rfl, rfl⟩
set_option maxRecDepth 100000 in
theorem cvL_85 : CV RL 85 RX12 yX12_address iX12_address 1 := ⟨⟨gw_at 1368 (by decide +kernel) rfl, gw_at 1369 (by decide +kernel) rfl, gw_at 1370 (by decide +kernel) rfl, gw_at 93 (by decide +kernel) rfl, wkX12_address⟩, (by decide +kernel), rfl, rfl⟩
set_option maxRecDepth 100000 in
theorem cvL_89 : CV RL 89 RX12 yX12_size iX12_size 2 := ⟨⟨gw_at 1372 (by decide +kernel) rfl, gw_at 1373 (by decide +kernel) rfl, gw_at 1374 (by decide +kernel) rfl, gw_at 93 (by decide +kernel) rfl, wkX12_size⟩, (by decide +kernel), rfl, rfl⟩
