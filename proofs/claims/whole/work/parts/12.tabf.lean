abbrev rc0 : vw_C := (RX0, TX0, 4)
set_option maxRecDepth 100000 in
theorem ku0 : ∀ w ∈ u_ws RX0 TX0 4, InT w := by decide +kernel
set_option maxRecDepth 100000 in
theorem kc0 : KC 0 rc0 tyX0 := ⟨rfl, ku0, nmX0, tyX0_ok⟩
abbrev rc1 : vw_C := (RX1, TX1, 11)
set_option maxRecDepth 100000 in
theorem ku1 : ∀ w ∈ u_ws RX1 TX1 11, InT w := by decide +kernel
set_option maxRecDepth 100000 in
theorem kc1 : KC 1 rc1 tyX1 := ⟨rfl, ku1, nmX1, tyX1_ok⟩
abbrev rc2 : vw_C := (RX2, TX2, 3)
set_option maxRecDepth 100000 in
theorem ku2 : ∀ w ∈ u_ws RX2 TX2 3, InT w := by decide +kernel
set_option maxRecDepth 100000 in
theorem kc2 : KC 2 rc2 tyX2 := ⟨rfl, ku2, nmX2, tyX2_ok⟩
abbrev rc3 : vw_C := (RX3, TX3, 4)
set_option maxRecDepth 100000 in
theorem ku3 : ∀ w ∈ u_ws RX3 TX3 4, InT w := by decide +kernel
set_option maxRecDepth 100000 in
theorem kc3 : KC 3 rc3 tyX3 := ⟨rfl, ku3, nmX3, tyX3_ok⟩
abbrev rc4 : vw_C := (RX4, TX4, 8)
set_option maxRecDepth 100000 in
theorem ku4 : ∀ w ∈ u_ws RX4 TX4 8, InT w := by decide +kernel
set_option maxRecDepth 100000 in
theorem kc4 : KC 4 rc4 tyX4 := ⟨rfl, ku4, nmX4, tyX4_ok⟩
abbrev rc5 : vw_C := (RX5, TX5, 4)
set_option maxRecDepth 100000 in
theorem ku5 : ∀ w ∈ u_ws RX5 TX5 4, InT w := by decide +kernel
set_option maxRecDepth 100000 in
theorem kc5 : KC 5 rc5 tyX5 := ⟨rfl, ku5, nmX5, tyX5_ok⟩
abbrev rc6 : vw_C := (RX6, TX6, 2)
set_option maxRecDepth 100000 in
theorem ku6 : ∀ w ∈ u_ws RX6 TX6 2, InT w := by decide +kernel
set_option maxRecDepth 100000 in
theorem kc6 : KC 6 rc6 tyX6 := ⟨rfl, ku6, nmX6, tyX6_ok⟩
abbrev rc7 : vw_C := (RX7, TX7, 3)
set_option maxRecDepth 100000 in
theorem ku7 : ∀ w ∈ u_ws RX7 TX7 3, InT w := by decide +kernel
set_option maxRecDepth 100000 in
theorem kc7 : KC 7 rc7 tyX7 := ⟨rfl, ku7, nmX7, tyX7_ok⟩
abbrev rc8 : vw_C := (RX8, TX8, 7)
set_option maxRecDepth 100000 in
theorem ku8 : ∀ w ∈ u_ws RX8 TX8 7, InT w := by decide +kernel
set_option maxRecDepth 100000 in
theorem kc8 : KC 8 rc8 tyX8 := ⟨rfl, ku8, nmX8, tyX8_ok⟩
abbrev rc9 : vw_C := (RX9, TX9, 4)
set_option maxRecDepth 100000 in
theorem ku9 : ∀ w ∈ u_ws RX9 TX9 4, InT w := by decide +kernel
set_option maxRecDepth 100000 in
theorem kc9 : KC 9 rc9 tyX9 := ⟨rfl, ku9, nmX9, tyX9_ok⟩
abbrev rc10 : vw_C := (RX10, TX10, 16)
set_option maxRecDepth 100000 in
theorem ku10 : ∀ w ∈ u_ws RX10 TX10 16, InT w := by decide +kernel
set_option maxRecDepth 100000 in
theorem kc10 : KC 10 rc10 tyX10 := ⟨rfl, ku10, nmX10, tyX10_ok⟩
abbrev rc11 : vw_C := (RX11, TX11, 49)
set_option maxRecDepth 100000 in
theorem ku11 : ∀ w ∈ u_ws RX11 TX11 49, InT w := by decide +kernel
set_option maxRecDepth 100000 in
theorem kc11 : KC 11 rc11 tyX11 := ⟨rfl, ku11, nmX11, tyX11_ok⟩
set_option maxRecDepth 100000 in
theorem fl_X8_9 : FLp RX8 9 0 rc8 := ⟨by decide, List.mem_of_getElem? (i := 186) rfl, rfl⟩
set_option maxRecDepth 100000 in
theorem fl_X8_19 : FLp RX8 19 1 rc8 := ⟨by decide, List.mem_of_getElem? (i := 187) rfl, rfl⟩
set_option maxRecDepth 100000 in
theorem fl_X10_107 : FLn RX10 107 1 rc8 "RelicHouse" := ⟨by decide, List.mem_of_getElem? (i := 188) rfl, rfl⟩
set_option maxRecDepth 100000 in
theorem fl_X8_22 : FLp RX8 22 2 rc8 := ⟨by decide, List.mem_of_getElem? (i := 189) rfl, rfl⟩
set_option maxRecDepth 100000 in
theorem fl_X8_25 : FLp RX8 25 3 rc8 := ⟨by decide, List.mem_of_getElem? (i := 190) rfl, rfl⟩
set_option maxRecDepth 100000 in
theorem fl_X2_40 : FLn RX2 40 3 rc8 "RelicHouse" := ⟨by decide, List.mem_of_getElem? (i := 191) rfl, rfl⟩
set_option maxRecDepth 100000 in
theorem fl_X8_28 : FLp RX8 28 4 rc8 := ⟨by decide, List.mem_of_getElem? (i := 192) rfl, rfl⟩
set_option maxRecDepth 100000 in
theorem fl_X6_49 : FLn RX6 49 4 rc8 "RelicHouse" := ⟨by decide, List.mem_of_getElem? (i := 193) rfl, rfl⟩
set_option maxRecDepth 100000 in
theorem fl_X4_83 : FLn RX4 83 4 rc8 "RelicHouse" := ⟨by decide, List.mem_of_getElem? (i := 194) rfl, rfl⟩
set_option maxRecDepth 100000 in
theorem fl_X1_70 : FLn RX1 70 4 rc8 "RelicHouse" := ⟨by decide, List.mem_of_getElem? (i := 195) rfl, rfl⟩
set_option maxRecDepth 100000 in
theorem fl_X2_87 : FLn RX2 87 4 rc8 "RelicHouse" := ⟨by decide, List.mem_of_getElem? (i := 196) rfl, rfl⟩
set_option maxRecDepth 100000 in
theorem fl_X10_121 : FLn RX10 121 5 rc8 "RelicHouse" := ⟨by decide, List.mem_of_getElem? (i := 197) rfl, rfl⟩
set_option maxRecDepth 100000 in
theorem fl_X8_31 : FLp RX8 31 5 rc8 := ⟨by decide, List.mem_of_getElem? (i := 198) rfl, rfl⟩
set_option maxRecDepth 100000 in
theorem fl_X8_15 : FLp RX8 15 6 rc8 := ⟨by decide, List.mem_of_getElem? (i := 199) rfl, rfl⟩
set_option maxRecDepth 100000 in
theorem fl_X10_171 : FLn RX10 171 6 rc8 "RelicHouse" := ⟨by decide, List.mem_of_getElem? (i := 200) rfl, rfl⟩
set_option maxRecDepth 100000 in
theorem fl_X1_9 : FLp RX1 9 0 rc1 := ⟨by decide, List.mem_of_getElem? (i := 225) rfl, rfl⟩
set_option maxRecDepth 100000 in
theorem fl_X9_64 : FLn RX9 64 0 rc1 "RelicHouse" := ⟨by decide, List.mem_of_getElem? (i := 226) rfl, rfl⟩
set_option maxRecDepth 100000 in
theorem fl_X0_66 : FLn RX0 66 0 rc1 "RelicHouse" := ⟨by decide, List.mem_of_getElem? (i := 227) rfl, rfl⟩
set_option maxRecDepth 100000 in
theorem fl_X10_202 : FLn RX10 202 0 rc1 "RelicHouse" := ⟨by decide, List.mem_of_getElem? (i := 228) rfl, rfl⟩
set_option maxRecDepth 100000 in
theorem fl_X1_15 : FLp RX1 15 1 rc1 := ⟨by decide, List.mem_of_getElem? (i := 229) rfl, rfl⟩
set_option maxRecDepth 100000 in
theorem fl_X0_46 : FLn RX0 46 1 rc1 "RelicHouse" := ⟨by decide, List.mem_of_getElem? (i := 230) rfl, rfl⟩
set_option maxRecDepth 100000 in
theorem fl_X10_205 : FLn RX10 205 1 rc1 "RelicHouse" := ⟨by decide, List.mem_of_getElem? (i := 231) rfl, rfl⟩
set_option maxRecDepth 100000 in
theorem fl_X1_18 : FLp RX1 18 2 rc1 := ⟨by decide, List.mem_of_getElem? (i := 232) rfl, rfl⟩
set_option maxRecDepth 100000 in
theorem fl_X10_212 : FLn RX10 212 2 rc1 "RelicHouse" := ⟨by decide, List.mem_of_getElem? (i := 233) rfl, rfl⟩
set_option maxRecDepth 100000 in
theorem fl_X1_21 : FLp RX1 21 3 rc1 := ⟨by decide, List.mem_of_getElem? (i := 234) rfl, rfl⟩
set_option maxRecDepth 100000 in
theorem fl_X7_45 : FLn RX7 45 3 rc1 "RelicHouse" := ⟨by decide, List.mem_of_getElem? (i := 235) rfl, rfl⟩
set_option maxRecDepth 100000 in
theorem fl_X0_60 : FLn RX0 60 3 rc1 "RelicHouse" := ⟨by decide, List.mem_of_getElem? (i := 236) rfl, rfl⟩
set_option maxRecDepth 100000 in
theorem fl_X10_218 : FLn RX10 218 3 rc1 "RelicHouse" := ⟨by decide, List.mem_of_getElem? (i := 237) rfl, rfl⟩
set_option maxRecDepth 100000 in
theorem fl_X1_24 : FLp RX1 24 4 rc1 := ⟨by decide, List.mem_of_getElem? (i := 238) rfl, rfl⟩
set_option maxRecDepth 100000 in
theorem fl_X0_69 : FLn RX0 69 4 rc1 "RelicHouse" := ⟨by decide, List.mem_of_getElem? (i := 239) rfl, rfl⟩
set_option maxRecDepth 100000 in
theorem fl_X10_221 : FLn RX10 221 4 rc1 "RelicHouse" := ⟨by decide, List.mem_of_getElem? (i := 240) rfl, rfl⟩
set_option maxRecDepth 100000 in
theorem fl_X1_27 : FLp RX1 27 5 rc1 := ⟨by decide, List.mem_of_getElem? (i := 241) rfl, rfl⟩
set_option maxRecDepth 100000 in
theorem fl_X0_63 : FLn RX0 63 5 rc1 "RelicHouse" := ⟨by decide, List.mem_of_getElem? (i := 242) rfl, rfl⟩
set_option maxRecDepth 100000 in
theorem fl_X10_224 : FLn RX10 224 5 rc1 "RelicHouse" := ⟨by decide, List.mem_of_getElem? (i := 243) rfl, rfl⟩
set_option maxRecDepth 100000 in
theorem fl_X1_30 : FLp RX1 30 6 rc1 := ⟨by decide, List.mem_of_getElem? (i := 244) rfl, rfl⟩
set_option maxRecDepth 100000 in
theorem fl_X10_239 : FLn RX10 239 6 rc1 "RelicHouse" := ⟨by decide, List.mem_of_getElem? (i := 245) rfl, rfl⟩
set_option maxRecDepth 100000 in
theorem fl_X0_95 : FLn RX0 95 6 rc1 "RelicHouse" := ⟨by decide, List.mem_of_getElem? (i := 246) rfl, rfl⟩
set_option maxRecDepth 100000 in
theorem fl_X1_33 : FLp RX1 33 7 rc1 := ⟨by decide, List.mem_of_getElem? (i := 247) rfl, rfl⟩
set_option maxRecDepth 100000 in
theorem fl_X10_242 : FLn RX10 242 7 rc1 "RelicHouse" := ⟨by decide, List.mem_of_getElem? (i := 248) rfl, rfl⟩
set_option maxRecDepth 100000 in
theorem fl_X0_98 : FLn RX0 98 7 rc1 "RelicHouse" := ⟨by decide, List.mem_of_getElem? (i := 249) rfl, rfl⟩
set_option maxRecDepth 100000 in
theorem fl_X1_36 : FLp RX1 36 8 rc1 := ⟨by decide, List.mem_of_getElem? (i := 250) rfl, rfl⟩
set_option maxRecDepth 100000 in
theorem fl_X7_15 : FLn RX7 15 8 rc1 "RelicHouse" := ⟨by decide, List.mem_of_getElem? (i := 251) rfl, rfl⟩
set_option maxRecDepth 100000 in
theorem fl_X0_31 : FLn RX0 31 8 rc1 "RelicHouse" := ⟨by decide, List.mem_of_getElem? (i := 252) rfl, rfl⟩
set_option maxRecDepth 100000 in
theorem fl_X9_48 : FLn RX9 48 8 rc1 "RelicHouse" := ⟨by decide, List.mem_of_getElem? (i := 253) rfl, rfl⟩
set_option maxRecDepth 100000 in
theorem fl_X4_64 : FLn RX4 64 8 rc1 "RelicHouse" := ⟨by decide, List.mem_of_getElem? (i := 254) rfl, rfl⟩
set_option maxRecDepth 100000 in
theorem fl_X10_185 : FLn RX10 185 8 rc1 "RelicHouse" := ⟨by decide, List.mem_of_getElem? (i := 255) rfl, rfl⟩
set_option maxRecDepth 100000 in
theorem fl_X3_33 : FLn RX3 33 9 rc1 "RelicHouse" := ⟨by decide, List.mem_of_getElem? (i := 256) rfl, rfl⟩
set_option maxRecDepth 100000 in
theorem fl_X7_36 : FLn RX7 36 9 rc1 "RelicHouse" := ⟨by decide, List.mem_of_getElem? (i := 257) rfl, rfl⟩
set_option maxRecDepth 100000 in
theorem fl_X1_40 : FLp RX1 40 9 rc1 := ⟨by decide, List.mem_of_getElem? (i := 258) rfl, rfl⟩
set_option maxRecDepth 100000 in
theorem fl_X10_136 : FLn RX10 136 9 rc1 "RelicHouse" := ⟨by decide, List.mem_of_getElem? (i := 259) rfl, rfl⟩
set_option maxRecDepth 100000 in
theorem fl_X6_36 : FLn RX6 36 9 rc1 "RelicHouse" := ⟨by decide, List.mem_of_getElem? (i := 260) rfl, rfl⟩
set_option maxRecDepth 100000 in
theorem fl_X9_71 : FLn RX9 71 9 rc1 "RelicHouse" := ⟨by decide, List.mem_of_getElem? (i := 261) rfl, rfl⟩
set_option maxRecDepth 100000 in
theorem fl_X4_73 : FLn RX4 73 9 rc1 "RelicHouse" := ⟨by decide, List.mem_of_getElem? (i := 262) rfl, rfl⟩
set_option maxRecDepth 100000 in
theorem fl_X0_89 : FLn RX0 89 9 rc1 "RelicHouse" := ⟨by decide, List.mem_of_getElem? (i := 263) rfl, rfl⟩
set_option maxRecDepth 100000 in
theorem fl_X3_27 : FLn RX3 27 10 rc1 "RelicHouse" := ⟨by decide, List.mem_of_getElem? (i := 264) rfl, rfl⟩
set_option maxRecDepth 100000 in
theorem fl_X1_43 : FLp RX1 43 10 rc1 := ⟨by decide, List.mem_of_getElem? (i := 265) rfl, rfl⟩
set_option maxRecDepth 100000 in
theorem fl_X9_74 : FLn RX9 74 10 rc1 "RelicHouse" := ⟨by decide, List.mem_of_getElem? (i := 266) rfl, rfl⟩
set_option maxRecDepth 100000 in
theorem fl_X4_76 : FLn RX4 76 10 rc1 "RelicHouse" := ⟨by decide, List.mem_of_getElem? (i := 267) rfl, rfl⟩
set_option maxRecDepth 100000 in
theorem fl_X10_188 : FLn RX10 188 10 rc1 "RelicHouse" := ⟨by decide, List.mem_of_getElem? (i := 268) rfl, rfl⟩
set_option maxRecDepth 100000 in
theorem fl_X2_9 : FLp RX2 9 0 rc2 := ⟨by decide, List.mem_of_getElem? (i := 299) rfl, rfl⟩
set_option maxRecDepth 100000 in
theorem fl_X2_15 : FLp RX2 15 1 rc2 := ⟨by decide, List.mem_of_getElem? (i := 300) rfl, rfl⟩
set_option maxRecDepth 100000 in
theorem fl_X2_18 : FLp RX2 18 2 rc2 := ⟨by decide, List.mem_of_getElem? (i := 301) rfl, rfl⟩
set_option maxRecDepth 100000 in
theorem fl_X0_11 : FLp RX0 11 0 rc0 := ⟨by decide, List.mem_of_getElem? (i := 325) rfl, rfl⟩
set_option maxRecDepth 100000 in
theorem fl_X3_44 : FLn RX3 44 0 rc0 "RelicHouse" := ⟨by decide, List.mem_of_getElem? (i := 326) rfl, rfl⟩
set_option maxRecDepth 100000 in
theorem fl_X10_146 : FLn RX10 146 0 rc0 "RelicHouse" := ⟨by decide, List.mem_of_getElem? (i := 327) rfl, rfl⟩
set_option maxRecDepth 100000 in
theorem fl_X4_122 : FLn RX4 122 0 rc0 "RelicHouse" := ⟨by decide, List.mem_of_getElem? (i := 328) rfl, rfl⟩
set_option maxRecDepth 100000 in
theorem fl_X0_17 : FLp RX0 17 1 rc0 := ⟨by decide, List.mem_of_getElem? (i := 329) rfl, rfl⟩
set_option maxRecDepth 100000 in
theorem fl_X10_249 : FLn RX10 249 1 rc0 "RelicHouse" := ⟨by decide, List.mem_of_getElem? (i := 330) rfl, rfl⟩
set_option maxRecDepth 100000 in
theorem fl_X0_20 : FLp RX0 20 2 rc0 := ⟨by decide, List.mem_of_getElem? (i := 331) rfl, rfl⟩
set_option maxRecDepth 100000 in
theorem fl_X10_54 : FLn RX10 54 2 rc0 "RelicHouse" := ⟨by decide, List.mem_of_getElem? (i := 332) rfl, rfl⟩
set_option maxRecDepth 100000 in
theorem fl_X3_21 : FLn RX3 21 2 rc0 "RelicHouse" := ⟨by decide, List.mem_of_getElem? (i := 333) rfl, rfl⟩
set_option maxRecDepth 100000 in
theorem fl_X7_9 : FLn RX7 9 2 rc0 "RelicHouse" := ⟨by decide, List.mem_of_getElem? (i := 334) rfl, rfl⟩
set_option maxRecDepth 100000 in
theorem fl_X9_44 : FLn RX9 44 2 rc0 "RelicHouse" := ⟨by decide, List.mem_of_getElem? (i := 335) rfl, rfl⟩
set_option maxRecDepth 100000 in
theorem fl_X0_24 : FLp RX0 24 3 rc0 := ⟨by decide, List.mem_of_getElem? (i := 336) rfl, rfl⟩
set_option maxRecDepth 100000 in
theorem fl_X10_58 : FLn RX10 58 3 rc0 "RelicHouse" := ⟨by decide, List.mem_of_getElem? (i := 337) rfl, rfl⟩
set_option maxRecDepth 100000 in
theorem fl_X4_11 : FLp RX4 11 0 rc4 := ⟨by decide, List.mem_of_getElem? (i := 353) rfl, rfl⟩
set_option maxRecDepth 100000 in
theorem fl_X4_15 : FLp RX4 15 1 rc4 := ⟨by decide, List.mem_of_getElem? (i := 354) rfl, rfl⟩
set_option maxRecDepth 100000 in
theorem fl_X4_18 : FLp RX4 18 2 rc4 := ⟨by decide, List.mem_of_getElem? (i := 355) rfl, rfl⟩
set_option maxRecDepth 100000 in
theorem fl_X4_21 : FLp RX4 21 3 rc4 := ⟨by decide, List.mem_of_getElem? (i := 356) rfl, rfl⟩
set_option maxRecDepth 100000 in
theorem fl_X4_24 : FLp RX4 24 4 rc4 := ⟨by decide, List.mem_of_getElem? (i := 357) rfl, rfl⟩
set_option maxRecDepth 100000 in
theorem fl_X10_154 : FLn RX10 154 4 rc4 "RelicHouse" := ⟨by decide, List.mem_of_getElem? (i := 358) rfl, rfl⟩
set_option maxRecDepth 100000 in
theorem fl_X4_28 : FLp RX4 28 5 rc4 := ⟨by decide, List.mem_of_getElem? (i := 359) rfl, rfl⟩
set_option maxRecDepth 100000 in
theorem fl_X4_31 : FLp RX4 31 6 rc4 := ⟨by decide, List.mem_of_getElem? (i := 360) rfl, rfl⟩
set_option maxRecDepth 100000 in
theorem fl_X10_164 : FLn RX10 164 6 rc4 "RelicHouse" := ⟨by decide, List.mem_of_getElem? (i := 361) rfl, rfl⟩
set_option maxRecDepth 100000 in
theorem fl_X4_34 : FLp RX4 34 7 rc4 := ⟨by decide, List.mem_of_getElem? (i := 362) rfl, rfl⟩
set_option maxRecDepth 100000 in
theorem fl_X10_161 : FLn RX10 161 7 rc4 "RelicHouse" := ⟨by decide, List.mem_of_getElem? (i := 363) rfl, rfl⟩
set_option maxRecDepth 100000 in
theorem fl_X7_21 : FLp RX7 21 0 rc7 := ⟨by decide, List.mem_of_getElem? (i := 387) rfl, rfl⟩
set_option maxRecDepth 100000 in
theorem fl_X7_30 : FLp RX7 30 1 rc7 := ⟨by decide, List.mem_of_getElem? (i := 388) rfl, rfl⟩
set_option maxRecDepth 100000 in
theorem fl_X7_33 : FLp RX7 33 2 rc7 := ⟨by decide, List.mem_of_getElem? (i := 389) rfl, rfl⟩
set_option maxRecDepth 100000 in
theorem fl_X3_9 : FLp RX3 9 0 rc3 := ⟨by decide, List.mem_of_getElem? (i := 403) rfl, rfl⟩
set_option maxRecDepth 100000 in
theorem fl_X3_15 : FLp RX3 15 1 rc3 := ⟨by decide, List.mem_of_getElem? (i := 404) rfl, rfl⟩
set_option maxRecDepth 100000 in
theorem fl_X10_275 : FLn RX10 275 1 rc3 "RelicHouse" := ⟨by decide, List.mem_of_getElem? (i := 405) rfl, rfl⟩
set_option maxRecDepth 100000 in
theorem fl_X3_18 : FLp RX3 18 2 rc3 := ⟨by decide, List.mem_of_getElem? (i := 406) rfl, rfl⟩
set_option maxRecDepth 100000 in
theorem fl_X3_51 : FLp RX3 51 3 rc3 := ⟨by decide, List.mem_of_getElem? (i := 407) rfl, rfl⟩
set_option maxRecDepth 100000 in
theorem fl_X9_14 : FLp RX9 14 0 rc9 := ⟨by decide, List.mem_of_getElem? (i := 425) rfl, rfl⟩
set_option maxRecDepth 100000 in
theorem fl_X10_341 : FLn RX10 341 0 rc9 "RelicHouse" := ⟨by decide, List.mem_of_getElem? (i := 426) rfl, rfl⟩
set_option maxRecDepth 100000 in
theorem fl_X9_24 : FLp RX9 24 1 rc9 := ⟨by decide, List.mem_of_getElem? (i := 427) rfl, rfl⟩
set_option maxRecDepth 100000 in
theorem fl_X9_28 : FLp RX9 28 2 rc9 := ⟨by decide, List.mem_of_getElem? (i := 428) rfl, rfl⟩
set_option maxRecDepth 100000 in
theorem fl_X10_335 : FLn RX10 335 2 rc9 "RelicHouse" := ⟨by decide, List.mem_of_getElem? (i := 429) rfl, rfl⟩
set_option maxRecDepth 100000 in
theorem fl_X9_31 : FLp RX9 31 3 rc9 := ⟨by decide, List.mem_of_getElem? (i := 430) rfl, rfl⟩
set_option maxRecDepth 100000 in
theorem fl_X10_338 : FLn RX10 338 3 rc9 "RelicHouse" := ⟨by decide, List.mem_of_getElem? (i := 431) rfl, rfl⟩
set_option maxRecDepth 100000 in
theorem fl_X5_7 : FLp RX5 7 0 rc5 := ⟨by decide, List.mem_of_getElem? (i := 447) rfl, rfl⟩
set_option maxRecDepth 100000 in
theorem fl_X5_13 : FLp RX5 13 1 rc5 := ⟨by decide, List.mem_of_getElem? (i := 448) rfl, rfl⟩
set_option maxRecDepth 100000 in
theorem fl_X5_16 : FLp RX5 16 2 rc5 := ⟨by decide, List.mem_of_getElem? (i := 449) rfl, rfl⟩
set_option maxRecDepth 100000 in
theorem fl_X5_20 : FLp RX5 20 3 rc5 := ⟨by decide, List.mem_of_getElem? (i := 450) rfl, rfl⟩
set_option maxRecDepth 100000 in
theorem fl_X10_130 : FLn RX10 130 3 rc5 "RelicHouse" := ⟨by decide, List.mem_of_getElem? (i := 451) rfl, rfl⟩
set_option maxRecDepth 100000 in
theorem fl_X6_9 : FLp RX6 9 0 rc6 := ⟨by decide, List.mem_of_getElem? (i := 472) rfl, rfl⟩
set_option maxRecDepth 100000 in
theorem fl_X7_39 : FLn RX7 39 0 rc6 "RelicHouse" := ⟨by decide, List.mem_of_getElem? (i := 473) rfl, rfl⟩
set_option maxRecDepth 100000 in
theorem fl_X10_291 : FLn RX10 291 0 rc6 "RelicHouse" := ⟨by decide, List.mem_of_getElem? (i := 474) rfl, rfl⟩
set_option maxRecDepth 100000 in
theorem fl_X6_18 : FLp RX6 18 1 rc6 := ⟨by decide, List.mem_of_getElem? (i := 475) rfl, rfl⟩
set_option maxRecDepth 100000 in
theorem fl_X10_168 : FLn RX10 168 1 rc6 "RelicHouse" := ⟨by decide, List.mem_of_getElem? (i := 476) rfl, rfl⟩
set_option maxRecDepth 100000 in
theorem fl_X10_10 : FLp RX10 10 0 rc10 := ⟨by decide, List.mem_of_getElem? (i := 482) rfl, rfl⟩
set_option maxRecDepth 100000 in
theorem fl_X10_27 : FLp RX10 27 1 rc10 := ⟨by decide, List.mem_of_getElem? (i := 483) rfl, rfl⟩
set_option maxRecDepth 100000 in
theorem fl_X10_34 : FLp RX10 34 2 rc10 := ⟨by decide, List.mem_of_getElem? (i := 484) rfl, rfl⟩
set_option maxRecDepth 100000 in
theorem fl_X10_41 : FLp RX10 41 3 rc10 := ⟨by decide, List.mem_of_getElem? (i := 485) rfl, rfl⟩
set_option maxRecDepth 100000 in
theorem fl_X10_48 : FLp RX10 48 4 rc10 := ⟨by decide, List.mem_of_getElem? (i := 486) rfl, rfl⟩
set_option maxRecDepth 100000 in
theorem fl_X10_63 : FLp RX10 63 5 rc10 := ⟨by decide, List.mem_of_getElem? (i := 487) rfl, rfl⟩
set_option maxRecDepth 100000 in
theorem fl_X10_72 : FLp RX10 72 6 rc10 := ⟨by decide, List.mem_of_getElem? (i := 488) rfl, rfl⟩
set_option maxRecDepth 100000 in
theorem fl_X10_76 : FLp RX10 76 7 rc10 := ⟨by decide, List.mem_of_getElem? (i := 489) rfl, rfl⟩
set_option maxRecDepth 100000 in
theorem fl_X10_79 : FLp RX10 79 8 rc10 := ⟨by decide, List.mem_of_getElem? (i := 490) rfl, rfl⟩
set_option maxRecDepth 100000 in
theorem fl_X10_86 : FLp RX10 86 9 rc10 := ⟨by decide, List.mem_of_getElem? (i := 491) rfl, rfl⟩
set_option maxRecDepth 100000 in
theorem fl_X10_90 : FLp RX10 90 10 rc10 := ⟨by decide, List.mem_of_getElem? (i := 492) rfl, rfl⟩
set_option maxRecDepth 100000 in
theorem fl_X10_93 : FLp RX10 93 11 rc10 := ⟨by decide, List.mem_of_getElem? (i := 493) rfl, rfl⟩
set_option maxRecDepth 100000 in
theorem fl_X10_96 : FLp RX10 96 12 rc10 := ⟨by decide, List.mem_of_getElem? (i := 494) rfl, rfl⟩
set_option maxRecDepth 100000 in
theorem fl_X10_133 : FLp RX10 133 13 rc10 := ⟨by decide, List.mem_of_getElem? (i := 495) rfl, rfl⟩
set_option maxRecDepth 100000 in
theorem fl_X10_351 : FLp RX10 351 14 rc10 := ⟨by decide, List.mem_of_getElem? (i := 496) rfl, rfl⟩
set_option maxRecDepth 100000 in
theorem fl_X10_354 : FLp RX10 354 15 rc10 := ⟨by decide, List.mem_of_getElem? (i := 497) rfl, rfl⟩
set_option maxRecDepth 100000 in
theorem fl_X11_103 : FLp RX11 103 0 rc11 := ⟨by decide, List.mem_of_getElem? (i := 1411) rfl, rfl⟩
set_option maxRecDepth 100000 in
theorem fl_X11_106 : FLp RX11 106 1 rc11 := ⟨by decide, List.mem_of_getElem? (i := 1412) rfl, rfl⟩
set_option maxRecDepth 100000 in
theorem fl_X11_109 : FLp RX11 109 2 rc11 := ⟨by decide, List.mem_of_getElem? (i := 1413) rfl, rfl⟩
set_option maxRecDepth 100000 in
theorem fl_X11_9 : FLp RX11 9 3 rc11 := ⟨by decide, List.mem_of_getElem? (i := 1414) rfl, rfl⟩
set_option maxRecDepth 100000 in
theorem fl_X11_112 : FLp RX11 112 4 rc11 := ⟨by decide, List.mem_of_getElem? (i := 1415) rfl, rfl⟩
set_option maxRecDepth 100000 in
theorem fl_X11_119 : FLp RX11 119 5 rc11 := ⟨by decide, List.mem_of_getElem? (i := 1416) rfl, rfl⟩
set_option maxRecDepth 100000 in
theorem fl_X11_122 : FLp RX11 122 6 rc11 := ⟨by decide, List.mem_of_getElem? (i := 1417) rfl, rfl⟩
set_option maxRecDepth 100000 in
theorem fl_X11_159 : FLp RX11 159 7 rc11 := ⟨by decide, List.mem_of_getElem? (i := 1418) rfl, rfl⟩
set_option maxRecDepth 100000 in
theorem fl_X11_162 : FLp RX11 162 8 rc11 := ⟨by decide, List.mem_of_getElem? (i := 1419) rfl, rfl⟩
set_option maxRecDepth 100000 in
theorem fl_X11_13 : FLp RX11 13 9 rc11 := ⟨by decide, List.mem_of_getElem? (i := 1420) rfl, rfl⟩
set_option maxRecDepth 100000 in
theorem fl_X11_17 : FLp RX11 17 10 rc11 := ⟨by decide, List.mem_of_getElem? (i := 1421) rfl, rfl⟩
set_option maxRecDepth 100000 in
theorem fl_X11_20 : FLp RX11 20 11 rc11 := ⟨by decide, List.mem_of_getElem? (i := 1422) rfl, rfl⟩
set_option maxRecDepth 100000 in
theorem fl_X11_23 : FLp RX11 23 12 rc11 := ⟨by decide, List.mem_of_getElem? (i := 1423) rfl, rfl⟩
set_option maxRecDepth 100000 in
theorem fl_X11_26 : FLp RX11 26 13 rc11 := ⟨by decide, List.mem_of_getElem? (i := 1424) rfl, rfl⟩
set_option maxRecDepth 100000 in
theorem fl_X11_29 : FLp RX11 29 14 rc11 := ⟨by decide, List.mem_of_getElem? (i := 1425) rfl, rfl⟩
set_option maxRecDepth 100000 in
theorem fl_X11_32 : FLp RX11 32 15 rc11 := ⟨by decide, List.mem_of_getElem? (i := 1426) rfl, rfl⟩
set_option maxRecDepth 100000 in
theorem fl_X11_35 : FLp RX11 35 16 rc11 := ⟨by decide, List.mem_of_getElem? (i := 1427) rfl, rfl⟩
set_option maxRecDepth 100000 in
theorem fl_X11_40 : FLp RX11 40 17 rc11 := ⟨by decide, List.mem_of_getElem? (i := 1428) rfl, rfl⟩
set_option maxRecDepth 100000 in
theorem fl_X11_43 : FLp RX11 43 18 rc11 := ⟨by decide, List.mem_of_getElem? (i := 1429) rfl, rfl⟩
set_option maxRecDepth 100000 in
theorem fl_X11_46 : FLp RX11 46 19 rc11 := ⟨by decide, List.mem_of_getElem? (i := 1430) rfl, rfl⟩
set_option maxRecDepth 100000 in
theorem fl_X11_49 : FLp RX11 49 20 rc11 := ⟨by decide, List.mem_of_getElem? (i := 1431) rfl, rfl⟩
set_option maxRecDepth 100000 in
theorem fl_X11_200 : FLp RX11 200 21 rc11 := ⟨by decide, List.mem_of_getElem? (i := 1432) rfl, rfl⟩
set_option maxRecDepth 100000 in
theorem fl_X11_215 : FLp RX11 215 22 rc11 := ⟨by decide, List.mem_of_getElem? (i := 1433) rfl, rfl⟩
set_option maxRecDepth 100000 in
theorem fl_X11_52 : FLp RX11 52 23 rc11 := ⟨by decide, List.mem_of_getElem? (i := 1434) rfl, rfl⟩
set_option maxRecDepth 100000 in
theorem fl_X11_55 : FLp RX11 55 24 rc11 := ⟨by decide, List.mem_of_getElem? (i := 1435) rfl, rfl⟩
set_option maxRecDepth 100000 in
theorem fl_X11_58 : FLp RX11 58 25 rc11 := ⟨by decide, List.mem_of_getElem? (i := 1436) rfl, rfl⟩
set_option maxRecDepth 100000 in
theorem fl_X11_61 : FLp RX11 61 26 rc11 := ⟨by decide, List.mem_of_getElem? (i := 1437) rfl, rfl⟩
set_option maxRecDepth 100000 in
theorem fl_X11_64 : FLp RX11 64 27 rc11 := ⟨by decide, List.mem_of_getElem? (i := 1438) rfl, rfl⟩
set_option maxRecDepth 100000 in
theorem fl_X11_67 : FLp RX11 67 28 rc11 := ⟨by decide, List.mem_of_getElem? (i := 1439) rfl, rfl⟩
set_option maxRecDepth 100000 in
theorem fl_X11_70 : FLp RX11 70 29 rc11 := ⟨by decide, List.mem_of_getElem? (i := 1440) rfl, rfl⟩
set_option maxRecDepth 100000 in
theorem fl_X11_257 : FLp RX11 257 30 rc11 := ⟨by decide, List.mem_of_getElem? (i := 1441) rfl, rfl⟩
set_option maxRecDepth 100000 in
theorem fl_X11_73 : FLp RX11 73 31 rc11 := ⟨by decide, List.mem_of_getElem? (i := 1442) rfl, rfl⟩
set_option maxRecDepth 100000 in
theorem fl_X11_76 : FLp RX11 76 32 rc11 := ⟨by decide, List.mem_of_getElem? (i := 1443) rfl, rfl⟩
set_option maxRecDepth 100000 in
theorem fl_X11_79 : FLp RX11 79 33 rc11 := ⟨by decide, List.mem_of_getElem? (i := 1444) rfl, rfl⟩
set_option maxRecDepth 100000 in
theorem fl_X11_82 : FLp RX11 82 34 rc11 := ⟨by decide, List.mem_of_getElem? (i := 1445) rfl, rfl⟩
set_option maxRecDepth 100000 in
theorem fl_X11_203 : FLp RX11 203 35 rc11 := ⟨by decide, List.mem_of_getElem? (i := 1446) rfl, rfl⟩
set_option maxRecDepth 100000 in
theorem fl_X11_206 : FLp RX11 206 36 rc11 := ⟨by decide, List.mem_of_getElem? (i := 1447) rfl, rfl⟩
set_option maxRecDepth 100000 in
theorem fl_X11_209 : FLp RX11 209 37 rc11 := ⟨by decide, List.mem_of_getElem? (i := 1448) rfl, rfl⟩
set_option maxRecDepth 100000 in
theorem fl_X11_212 : FLp RX11 212 38 rc11 := ⟨by decide, List.mem_of_getElem? (i := 1449) rfl, rfl⟩
set_option maxRecDepth 100000 in
theorem fl_X11_404 : FLp RX11 404 39 rc11 := ⟨by decide, List.mem_of_getElem? (i := 1450) rfl, rfl⟩
set_option maxRecDepth 100000 in
theorem fl_X11_312 : FLp RX11 312 40 rc11 := ⟨by decide, List.mem_of_getElem? (i := 1451) rfl, rfl⟩
set_option maxRecDepth 100000 in
theorem fl_X11_322 : FLp RX11 322 41 rc11 := ⟨by decide, List.mem_of_getElem? (i := 1452) rfl, rfl⟩
set_option maxRecDepth 100000 in
theorem fl_X11_85 : FLp RX11 85 42 rc11 := ⟨by decide, List.mem_of_getElem? (i := 1453) rfl, rfl⟩
set_option maxRecDepth 100000 in
theorem fl_X11_88 : FLp RX11 88 43 rc11 := ⟨by decide, List.mem_of_getElem? (i := 1454) rfl, rfl⟩
set_option maxRecDepth 100000 in
theorem fl_X11_91 : FLp RX11 91 44 rc11 := ⟨by decide, List.mem_of_getElem? (i := 1455) rfl, rfl⟩
set_option maxRecDepth 100000 in
theorem fl_X11_94 : FLp RX11 94 45 rc11 := ⟨by decide, List.mem_of_getElem? (i := 1456) rfl, rfl⟩
set_option maxRecDepth 100000 in
theorem fl_X11_345 : FLp RX11 345 46 rc11 := ⟨by decide, List.mem_of_getElem? (i := 1457) rfl, rfl⟩
set_option maxRecDepth 100000 in
theorem fl_X11_388 : FLp RX11 388 47 rc11 := ⟨by decide, List.mem_of_getElem? (i := 1458) rfl, rfl⟩
set_option maxRecDepth 100000 in
theorem fl_X11_392 : FLp RX11 392 48 rc11 := ⟨by decide, List.mem_of_getElem? (i := 1459) rfl, rfl⟩
