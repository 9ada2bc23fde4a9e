abbrev yObj : MethodName := ⟨"java/lang/Object", "<init>", "()V"⟩
abbrev mObj : Mt := (yObj, object_method_1_code, 1, none)
abbrev mX10_init : Mt := (yX10_init, cX10_init, 2, none)
set_option maxRecDepth 100000 in
theorem cf_X10_init : CF mX10_init 0 := ⟨⟨List.mem_of_getElem? (i := 176) rfl, rfl⟩, ⟨List.mem_of_getElem? (i := 147) rfl, rfl⟩, ⟨by decide, by decide⟩, by decide, by decide⟩
set_option maxRecDepth 100000 in
theorem cv_X10_init : InT (.instanceMethod yX10_init) ∧ MethodName.name yX10_init = "<init>" ∧ mX10_init.2.2.2 = none := ⟨⟨List.mem_of_getElem? (i := 175) rfl, rfl⟩, rfl, rfl⟩
abbrev mX8_init : Mt := (yX8_init, cX8_init, 1, none)
set_option maxRecDepth 100000 in
theorem cf_X8_init : CF mX8_init 0 := ⟨⟨List.mem_of_getElem? (i := 184) rfl, rfl⟩, ⟨List.mem_of_getElem? (i := 148) rfl, rfl⟩, ⟨by decide, by decide⟩, by decide, by decide⟩
set_option maxRecDepth 100000 in
theorem cv_X8_init : InT (.instanceMethod yX8_init) ∧ MethodName.name yX8_init = "<init>" ∧ mX8_init.2.2.2 = none := ⟨⟨List.mem_of_getElem? (i := 183) rfl, rfl⟩, rfl, rfl⟩
abbrev mX1_init : Mt := (yX1_init, cX1_init, 1, none)
set_option maxRecDepth 100000 in
theorem cf_X1_init : CF mX1_init 0 := ⟨⟨List.mem_of_getElem? (i := 223) rfl, rfl⟩, ⟨List.mem_of_getElem? (i := 150) rfl, rfl⟩, ⟨by decide, by decide⟩, by decide, by decide⟩
set_option maxRecDepth 100000 in
theorem cv_X1_init : InT (.instanceMethod yX1_init) ∧ MethodName.name yX1_init = "<init>" ∧ mX1_init.2.2.2 = none := ⟨⟨List.mem_of_getElem? (i := 222) rfl, rfl⟩, rfl, rfl⟩
abbrev mX2_init : Mt := (yX2_init, cX2_init, 1, none)
set_option maxRecDepth 100000 in
theorem cf_X2_init : CF mX2_init 0 := ⟨⟨List.mem_of_getElem? (i := 297) rfl, rfl⟩, ⟨List.mem_of_getElem? (i := 151) rfl, rfl⟩, ⟨by decide, by decide⟩, by decide, by decide⟩
set_option maxRecDepth 100000 in
theorem cv_X2_init : InT (.instanceMethod yX2_init) ∧ MethodName.name yX2_init = "<init>" ∧ mX2_init.2.2.2 = none := ⟨⟨List.mem_of_getElem? (i := 296) rfl, rfl⟩, rfl, rfl⟩
abbrev mX0_init : Mt := (yX0_init, cX0_init, 3, none)
set_option maxRecDepth 100000 in
theorem cf_X0_init : CF mX0_init 2 := ⟨⟨List.mem_of_getElem? (i := 311) rfl, rfl⟩, ⟨List.mem_of_getElem? (i := 149) rfl, rfl⟩, ⟨by decide, by decide⟩, by decide, by decide⟩
set_option maxRecDepth 100000 in
theorem cv_X0_init : InT (.instanceMethod yX0_init) ∧ MethodName.name yX0_init = "<init>" ∧ mX0_init.2.2.2 = none := ⟨⟨List.mem_of_getElem? (i := 310) rfl, rfl⟩, rfl, rfl⟩
abbrev mX0_begin : Mt := (yX0_begin, cX0_begin, 2, none)
set_option maxRecDepth 100000 in
theorem cf_X0_begin : CF mX0_begin 0 := ⟨⟨List.mem_of_getElem? (i := 316) rfl, rfl⟩, ⟨List.mem_of_getElem? (i := 149) rfl, rfl⟩, ⟨by decide, by decide⟩, by decide, by decide⟩
set_option maxRecDepth 100000 in
theorem cv_X0_begin : CFv mX0_begin := ⟨⟨List.mem_of_getElem? (i := 315) rfl, rfl⟩, ⟨List.mem_of_getElem? (i := 0) rfl, rfl⟩⟩
abbrev mX2_setPlain : Mt := (yX2_setPlain, cX2_setPlain, 1, none)
set_option maxRecDepth 100000 in
theorem cf_X2_setPlain : CF mX2_setPlain 0 := ⟨⟨List.mem_of_getElem? (i := 320) rfl, rfl⟩, ⟨List.mem_of_getElem? (i := 151) rfl, rfl⟩, ⟨by decide, by decide⟩, by decide, by decide⟩
set_option maxRecDepth 100000 in
theorem cv_X2_setPlain : CFv mX2_setPlain := ⟨⟨List.mem_of_getElem? (i := 319) rfl, rfl⟩, ⟨List.mem_of_getElem? (i := 1) rfl, rfl⟩⟩
abbrev mX2_add : Mt := (yX2_add, cX2_add, 2, none)
set_option maxRecDepth 100000 in
theorem cf_X2_add : CF mX2_add 1 := ⟨⟨List.mem_of_getElem? (i := 324) rfl, rfl⟩, ⟨List.mem_of_getElem? (i := 151) rfl, rfl⟩, ⟨by decide, by decide⟩, by decide, by decide⟩
set_option maxRecDepth 100000 in
theorem cv_X2_add : CFv mX2_add := ⟨⟨List.mem_of_getElem? (i := 323) rfl, rfl⟩, ⟨List.mem_of_getElem? (i := 2) rfl, rfl⟩⟩
abbrev mX4_init : Mt := (yX4_init, cX4_init, 1, none)
set_option maxRecDepth 100000 in
theorem cf_X4_init : CF mX4_init 0 := ⟨⟨List.mem_of_getElem? (i := 351) rfl, rfl⟩, ⟨List.mem_of_getElem? (i := 152) rfl, rfl⟩, ⟨by decide, by decide⟩, by decide, by decide⟩
set_option maxRecDepth 100000 in
theorem cv_X4_init : InT (.instanceMethod yX4_init) ∧ MethodName.name yX4_init = "<init>" ∧ mX4_init.2.2.2 = none := ⟨⟨List.mem_of_getElem? (i := 350) rfl, rfl⟩, rfl, rfl⟩
abbrev mX7_init : Mt := (yX7_init, cX7_init, 1, none)
set_option maxRecDepth 100000 in
theorem cf_X7_init : CF mX7_init 0 := ⟨⟨List.mem_of_getElem? (i := 385) rfl, rfl⟩, ⟨List.mem_of_getElem? (i := 153) rfl, rfl⟩, ⟨by decide, by decide⟩, by decide, by decide⟩
set_option maxRecDepth 100000 in
theorem cv_X7_init : InT (.instanceMethod yX7_init) ∧ MethodName.name yX7_init = "<init>" ∧ mX7_init.2.2.2 = none := ⟨⟨List.mem_of_getElem? (i := 384) rfl, rfl⟩, rfl, rfl⟩
abbrev mX3_init : Mt := (yX3_init, cX3_init, 1, none)
set_option maxRecDepth 100000 in
theorem cf_X3_init : CF mX3_init 0 := ⟨⟨List.mem_of_getElem? (i := 401) rfl, rfl⟩, ⟨List.mem_of_getElem? (i := 154) rfl, rfl⟩, ⟨by decide, by decide⟩, by decide, by decide⟩
set_option maxRecDepth 100000 in
theorem cv_X3_init : InT (.instanceMethod yX3_init) ∧ MethodName.name yX3_init = "<init>" ∧ mX3_init.2.2.2 = none := ⟨⟨List.mem_of_getElem? (i := 400) rfl, rfl⟩, rfl, rfl⟩
abbrev mX9_init : Mt := (yX9_init, cX9_init, 3, none)
set_option maxRecDepth 100000 in
theorem cf_X9_init : CF mX9_init 2 := ⟨⟨List.mem_of_getElem? (i := 421) rfl, rfl⟩, ⟨List.mem_of_getElem? (i := 155) rfl, rfl⟩, ⟨by decide, by decide⟩, by decide, by decide⟩
set_option maxRecDepth 100000 in
theorem cv_X9_init : InT (.instanceMethod yX9_init) ∧ MethodName.name yX9_init = "<init>" ∧ mX9_init.2.2.2 = none := ⟨⟨List.mem_of_getElem? (i := 420) rfl, rfl⟩, rfl, rfl⟩
abbrev mX5_init : Mt := (yX5_init, cX5_init, 3, none)
set_option maxRecDepth 100000 in
theorem cf_X5_init : CF mX5_init 2 := ⟨⟨List.mem_of_getElem? (i := 445) rfl, rfl⟩, ⟨List.mem_of_getElem? (i := 156) rfl, rfl⟩, ⟨by decide, by decide⟩, by decide, by decide⟩
set_option maxRecDepth 100000 in
theorem cv_X5_init : InT (.instanceMethod yX5_init) ∧ MethodName.name yX5_init = "<init>" ∧ mX5_init.2.2.2 = none := ⟨⟨List.mem_of_getElem? (i := 444) rfl, rfl⟩, rfl, rfl⟩
abbrev mX6_init : Mt := (yX6_init, cX6_init, 1, none)
set_option maxRecDepth 100000 in
theorem cf_X6_init : CF mX6_init 0 := ⟨⟨List.mem_of_getElem? (i := 466) rfl, rfl⟩, ⟨List.mem_of_getElem? (i := 157) rfl, rfl⟩, ⟨by decide, by decide⟩, by decide, by decide⟩
set_option maxRecDepth 100000 in
theorem cv_X6_init : InT (.instanceMethod yX6_init) ∧ MethodName.name yX6_init = "<init>" ∧ mX6_init.2.2.2 = none := ⟨⟨List.mem_of_getElem? (i := 465) rfl, rfl⟩, rfl, rfl⟩
abbrev mX6_clear : Mt := (yX6_clear, cX6_clear, 2, none)
set_option maxRecDepth 100000 in
theorem cf_X6_clear : CF mX6_clear 0 := ⟨⟨List.mem_of_getElem? (i := 471) rfl, rfl⟩, ⟨List.mem_of_getElem? (i := 157) rfl, rfl⟩, ⟨by decide, by decide⟩, by decide, by decide⟩
set_option maxRecDepth 100000 in
theorem cv_X6_clear : CFv mX6_clear := ⟨⟨List.mem_of_getElem? (i := 470) rfl, rfl⟩, ⟨List.mem_of_getElem? (i := 3) rfl, rfl⟩⟩
abbrev mX10_feed : Mt := (yX10_feed, cX10_feed, 6, (some .int))
set_option maxRecDepth 100000 in
theorem cf_X10_feed : CF mX10_feed 5 := ⟨⟨List.mem_of_getElem? (i := 534) rfl, rfl⟩, ⟨List.mem_of_getElem? (i := 147) rfl, rfl⟩, ⟨by decide, by decide⟩, by decide, by decide⟩
set_option maxRecDepth 100000 in
theorem cv_X10_feed : CFv mX10_feed := ⟨⟨List.mem_of_getElem? (i := 532) rfl, rfl⟩, ⟨List.mem_of_getElem? (i := 533) rfl, rfl⟩⟩
abbrev mX8_hasRoom : Mt := (yX8_hasRoom, cX8_hasRoom, 1, (some .boolean))
set_option maxRecDepth 100000 in
theorem cf_X8_hasRoom : CF mX8_hasRoom 0 := ⟨⟨List.mem_of_getElem? (i := 538) rfl, rfl⟩, ⟨List.mem_of_getElem? (i := 148) rfl, rfl⟩, ⟨by decide, by decide⟩, by decide, by decide⟩
set_option maxRecDepth 100000 in
theorem cv_X8_hasRoom : CFv mX8_hasRoom := ⟨⟨List.mem_of_getElem? (i := 537) rfl, rfl⟩, ⟨List.mem_of_getElem? (i := 4) rfl, rfl⟩⟩
abbrev mX8_put : Mt := (yX8_put, cX8_put, 3, none)
set_option maxRecDepth 100000 in
theorem cf_X8_put : CF mX8_put 1 := ⟨⟨List.mem_of_getElem? (i := 542) rfl, rfl⟩, ⟨List.mem_of_getElem? (i := 148) rfl, rfl⟩, ⟨by decide, by decide⟩, by decide, by decide⟩
set_option maxRecDepth 100000 in
theorem cv_X8_put : CFv mX8_put := ⟨⟨List.mem_of_getElem? (i := 541) rfl, rfl⟩, ⟨List.mem_of_getElem? (i := 5) rfl, rfl⟩⟩
abbrev mX10_fault : Mt := (yX10_fault, cX10_fault, 1, (some .int))
set_option maxRecDepth 100000 in
theorem cf_X10_fault : CF mX10_fault 0 := ⟨⟨List.mem_of_getElem? (i := 546) rfl, rfl⟩, ⟨List.mem_of_getElem? (i := 147) rfl, rfl⟩, ⟨by decide, by decide⟩, by decide, by decide⟩
set_option maxRecDepth 100000 in
theorem cv_X10_fault : CFv mX10_fault := ⟨⟨List.mem_of_getElem? (i := 544) rfl, rfl⟩, ⟨List.mem_of_getElem? (i := 545) rfl, rfl⟩⟩
abbrev mX10_undo : Mt := (yX10_undo, cX10_undo, 1, (some .int))
set_option maxRecDepth 100000 in
theorem cf_X10_undo : CF mX10_undo 0 := ⟨⟨List.mem_of_getElem? (i := 550) rfl, rfl⟩, ⟨List.mem_of_getElem? (i := 147) rfl, rfl⟩, ⟨by decide, by decide⟩, by decide, by decide⟩
set_option maxRecDepth 100000 in
theorem cv_X10_undo : CFv mX10_undo := ⟨⟨List.mem_of_getElem? (i := 548) rfl, rfl⟩, ⟨List.mem_of_getElem? (i := 549) rfl, rfl⟩⟩
abbrev mX5_pop : Mt := (yX5_pop, cX5_pop, 2, none)
set_option maxRecDepth 100000 in
theorem cf_X5_pop : CF mX5_pop 1 := ⟨⟨List.mem_of_getElem? (i := 554) rfl, rfl⟩, ⟨List.mem_of_getElem? (i := 156) rfl, rfl⟩, ⟨by decide, by decide⟩, by decide, by decide⟩
set_option maxRecDepth 100000 in
theorem cv_X5_pop : CFv mX5_pop := ⟨⟨List.mem_of_getElem? (i := 553) rfl, rfl⟩, ⟨List.mem_of_getElem? (i := 6) rfl, rfl⟩⟩
abbrev mX10_match : Mt := (yX10_match, cX10_match, 3, (some .int))
set_option maxRecDepth 100000 in
theorem cf_X10_match : CF mX10_match 0 := ⟨⟨List.mem_of_getElem? (i := 561) rfl, rfl⟩, ⟨List.mem_of_getElem? (i := 147) rfl, rfl⟩, ⟨by decide, by decide⟩, by decide, by decide⟩
set_option maxRecDepth 100000 in
theorem cv_X10_match : CFv mX10_match := ⟨⟨List.mem_of_getElem? (i := 559) rfl, rfl⟩, ⟨List.mem_of_getElem? (i := 560) rfl, rfl⟩⟩
abbrev mX3_pair : Mt := (yX3_pair, cX3_pair, 8, none)
set_option maxRecDepth 100000 in
theorem cf_X3_pair : CF mX3_pair 1 := ⟨⟨List.mem_of_getElem? (i := 565) rfl, rfl⟩, ⟨List.mem_of_getElem? (i := 154) rfl, rfl⟩, ⟨by decide, by decide⟩, by decide, by decide⟩
set_option maxRecDepth 100000 in
theorem cv_X3_pair : CFv mX3_pair := ⟨⟨List.mem_of_getElem? (i := 564) rfl, rfl⟩, ⟨List.mem_of_getElem? (i := 7) rfl, rfl⟩⟩
abbrev mX0_isCured : Mt := (yX0_isCured, cX0_isCured, 2, (some .boolean))
set_option maxRecDepth 100000 in
theorem cf_X0_isCured : CF mX0_isCured 1 := ⟨⟨List.mem_of_getElem? (i := 569) rfl, rfl⟩, ⟨List.mem_of_getElem? (i := 149) rfl, rfl⟩, ⟨by decide, by decide⟩, by decide, by decide⟩
set_option maxRecDepth 100000 in
theorem cv_X0_isCured : CFv mX0_isCured := ⟨⟨List.mem_of_getElem? (i := 568) rfl, rfl⟩, ⟨List.mem_of_getElem? (i := 8) rfl, rfl⟩⟩
abbrev mX0_relicsThatCan : Mt := (yX0_relicsThatCan, cX0_relicsThatCan, 5, (some .int))
set_option maxRecDepth 100000 in
theorem cf_X0_relicsThatCan : CF mX0_relicsThatCan 2 := ⟨⟨List.mem_of_getElem? (i := 573) rfl, rfl⟩, ⟨List.mem_of_getElem? (i := 149) rfl, rfl⟩, ⟨by decide, by decide⟩, by decide, by decide⟩
set_option maxRecDepth 100000 in
theorem cv_X0_relicsThatCan : CFv mX0_relicsThatCan := ⟨⟨List.mem_of_getElem? (i := 572) rfl, rfl⟩, ⟨List.mem_of_getElem? (i := 9) rfl, rfl⟩⟩
abbrev mX0_canIn : Mt := (yX0_canIn, cX0_canIn, 5, (some .boolean))
set_option maxRecDepth 100000 in
theorem cf_X0_canIn : CF mX0_canIn 3 := ⟨⟨List.mem_of_getElem? (i := 577) rfl, rfl⟩, ⟨List.mem_of_getElem? (i := 149) rfl, rfl⟩, ⟨by decide, by decide⟩, by decide, by decide⟩
set_option maxRecDepth 100000 in
theorem cv_X0_canIn : CFv mX0_canIn := ⟨⟨List.mem_of_getElem? (i := 576) rfl, rfl⟩, ⟨List.mem_of_getElem? (i := 10) rfl, rfl⟩⟩
abbrev mX0_powerIf : Mt := (yX0_powerIf, cX0_powerIf, 6, (some .int))
set_option maxRecDepth 100000 in
theorem cf_X0_powerIf : CF mX0_powerIf 4 := ⟨⟨List.mem_of_getElem? (i := 581) rfl, rfl⟩, ⟨List.mem_of_getElem? (i := 149) rfl, rfl⟩, ⟨by decide, by decide⟩, by decide, by decide⟩
set_option maxRecDepth 100000 in
theorem cv_X0_powerIf : CFv mX0_powerIf := ⟨⟨List.mem_of_getElem? (i := 580) rfl, rfl⟩, ⟨List.mem_of_getElem? (i := 11) rfl, rfl⟩⟩
abbrev mX0_isKept : Mt := (yX0_isKept, cX0_isKept, 2, (some .boolean))
set_option maxRecDepth 100000 in
theorem cf_X0_isKept : CF mX0_isKept 1 := ⟨⟨List.mem_of_getElem? (i := 585) rfl, rfl⟩, ⟨List.mem_of_getElem? (i := 149) rfl, rfl⟩, ⟨by decide, by decide⟩, by decide, by decide⟩
set_option maxRecDepth 100000 in
theorem cv_X0_isKept : CFv mX0_isKept := ⟨⟨List.mem_of_getElem? (i := 584) rfl, rfl⟩, ⟨List.mem_of_getElem? (i := 12) rfl, rfl⟩⟩
abbrev mX0_keptOf : Mt := (yX0_keptOf, cX0_keptOf, 2, (some .int))
set_option maxRecDepth 100000 in
theorem cf_X0_keptOf : CF mX0_keptOf 1 := ⟨⟨List.mem_of_getElem? (i := 589) rfl, rfl⟩, ⟨List.mem_of_getElem? (i := 149) rfl, rfl⟩, ⟨by decide, by decide⟩, by decide, by decide⟩
set_option maxRecDepth 100000 in
theorem cv_X0_keptOf : CFv mX0_keptOf := ⟨⟨List.mem_of_getElem? (i := 588) rfl, rfl⟩, ⟨List.mem_of_getElem? (i := 13) rfl, rfl⟩⟩
abbrev mJ6_bitCount_0f7a4 : Mt := (yJ6_bitCount_0f7a4, cJ6_bitCount_0f7a4, 1, (some .int))
set_option maxRecDepth 100000 in
theorem cf_J6_bitCount_0f7a4 : CF mJ6_bitCount_0f7a4 1 := ⟨⟨List.mem_of_getElem? (i := 592) rfl, rfl⟩, ⟨List.mem_of_getElem? (i := 170) rfl, rfl⟩, ⟨by decide, by decide⟩, by decide, by decide⟩
set_option maxRecDepth 100000 in
theorem cs_J6_bitCount_0f7a4 : InT (.static yJ6_bitCount_0f7a4) := ⟨List.mem_of_getElem? (i := 591) rfl, rfl⟩
abbrev mX2_power : Mt := (yX2_power, cX2_power, 5, (some .int))
set_option maxRecDepth 100000 in
theorem cf_X2_power : CF mX2_power 1 := ⟨⟨List.mem_of_getElem? (i := 599) rfl, rfl⟩, ⟨List.mem_of_getElem? (i := 151) rfl, rfl⟩, ⟨by decide, by decide⟩, by decide, by decide⟩
set_option maxRecDepth 100000 in
theorem cv_X2_power : CFv mX2_power := ⟨⟨List.mem_of_getElem? (i := 598) rfl, rfl⟩, ⟨List.mem_of_getElem? (i := 14) rfl, rfl⟩⟩
abbrev mX2_combine : Mt := (yX2_combine, cX2_combine, 3, (some .int))
set_option maxRecDepth 100000 in
theorem cf_X2_combine : CF mX2_combine 3 := ⟨⟨List.mem_of_getElem? (i := 602) rfl, rfl⟩, ⟨List.mem_of_getElem? (i := 151) rfl, rfl⟩, ⟨by decide, by decide⟩, by decide, by decide⟩
set_option maxRecDepth 100000 in
theorem cs_X2_combine : InT (.static yX2_combine) := ⟨List.mem_of_getElem? (i := 601) rfl, rfl⟩
abbrev mJ9_min_7cf53 : Mt := (yJ9_min_7cf53, cJ9_min_7cf53, 2, (some .int))
set_option maxRecDepth 100000 in
theorem cf_J9_min_7cf53 : CF mJ9_min_7cf53 2 := ⟨⟨List.mem_of_getElem? (i := 605) rfl, rfl⟩, ⟨List.mem_of_getElem? (i := 159) rfl, rfl⟩, ⟨by decide, by decide⟩, by decide, by decide⟩
set_option maxRecDepth 100000 in
theorem cs_J9_min_7cf53 : InT (.static yJ9_min_7cf53) := ⟨List.mem_of_getElem? (i := 604) rfl, rfl⟩
abbrev mJ9_max_7cf53 : Mt := (yJ9_max_7cf53, cJ9_max_7cf53, 2, (some .int))
set_option maxRecDepth 100000 in
theorem cf_J9_max_7cf53 : CF mJ9_max_7cf53 2 := ⟨⟨List.mem_of_getElem? (i := 608) rfl, rfl⟩, ⟨List.mem_of_getElem? (i := 159) rfl, rfl⟩, ⟨by decide, by decide⟩, by decide, by decide⟩
set_option maxRecDepth 100000 in
theorem cs_J9_max_7cf53 : InT (.static yJ9_max_7cf53) := ⟨List.mem_of_getElem? (i := 607) rfl, rfl⟩
abbrev mX3_mostPairs : Mt := (yX3_mostPairs, cX3_mostPairs, 6, (some .int))
set_option maxRecDepth 100000 in
theorem cf_X3_mostPairs : CF mX3_mostPairs 3 := ⟨⟨List.mem_of_getElem? (i := 612) rfl, rfl⟩, ⟨List.mem_of_getElem? (i := 154) rfl, rfl⟩, ⟨by decide, by decide⟩, by decide, by decide⟩
set_option maxRecDepth 100000 in
theorem cv_X3_mostPairs : CFv mX3_mostPairs := ⟨⟨List.mem_of_getElem? (i := 611) rfl, rfl⟩, ⟨List.mem_of_getElem? (i := 15) rfl, rfl⟩⟩
abbrev mX3_findsRelic : Mt := (yX3_findsRelic, cX3_findsRelic, 5, (some .boolean))
set_option maxRecDepth 100000 in
theorem cf_X3_findsRelic : CF mX3_findsRelic 3 := ⟨⟨List.mem_of_getElem? (i := 616) rfl, rfl⟩, ⟨List.mem_of_getElem? (i := 154) rfl, rfl⟩, ⟨by decide, by decide⟩, by decide, by decide⟩
set_option maxRecDepth 100000 in
theorem cv_X3_findsRelic : CFv mX3_findsRelic := ⟨⟨List.mem_of_getElem? (i := 615) rfl, rfl⟩, ⟨List.mem_of_getElem? (i := 16) rfl, rfl⟩⟩
abbrev mX10_bare : Mt := (yX10_bare, cX10_bare, 3, (some .int))
set_option maxRecDepth 100000 in
theorem cf_X10_bare : CF mX10_bare 0 := ⟨⟨List.mem_of_getElem? (i := 620) rfl, rfl⟩, ⟨List.mem_of_getElem? (i := 147) rfl, rfl⟩, ⟨by decide, by decide⟩, by decide, by decide⟩
set_option maxRecDepth 100000 in
theorem cv_X10_bare : CFv mX10_bare := ⟨⟨List.mem_of_getElem? (i := 618) rfl, rfl⟩, ⟨List.mem_of_getElem? (i := 619) rfl, rfl⟩⟩
abbrev mX10_idle : Mt := (yX10_idle, cX10_idle, 1, (some .int))
set_option maxRecDepth 100000 in
theorem cf_X10_idle : CF mX10_idle 0 := ⟨⟨List.mem_of_getElem? (i := 625) rfl, rfl⟩, ⟨List.mem_of_getElem? (i := 147) rfl, rfl⟩, ⟨by decide, by decide⟩, by decide, by decide⟩
set_option maxRecDepth 100000 in
theorem cv_X10_idle : CFv mX10_idle := ⟨⟨List.mem_of_getElem? (i := 623) rfl, rfl⟩, ⟨List.mem_of_getElem? (i := 624) rfl, rfl⟩⟩
abbrev mX0_keepers : Mt := (yX0_keepers, cX0_keepers, 3, (some .int))
set_option maxRecDepth 100000 in
theorem cf_X0_keepers : CF mX0_keepers 0 := ⟨⟨List.mem_of_getElem? (i := 629) rfl, rfl⟩, ⟨List.mem_of_getElem? (i := 149) rfl, rfl⟩, ⟨by decide, by decide⟩, by decide, by decide⟩
set_option maxRecDepth 100000 in
theorem cv_X0_keepers : CFv mX0_keepers := ⟨⟨List.mem_of_getElem? (i := 628) rfl, rfl⟩, ⟨List.mem_of_getElem? (i := 17) rfl, rfl⟩⟩
abbrev mX0_isLiving : Mt := (yX0_isLiving, cX0_isLiving, 2, (some .boolean))
set_option maxRecDepth 100000 in
theorem cf_X0_isLiving : CF mX0_isLiving 1 := ⟨⟨List.mem_of_getElem? (i := 633) rfl, rfl⟩, ⟨List.mem_of_getElem? (i := 149) rfl, rfl⟩, ⟨by decide, by decide⟩, by decide, by decide⟩
set_option maxRecDepth 100000 in
theorem cv_X0_isLiving : CFv mX0_isLiving := ⟨⟨List.mem_of_getElem? (i := 632) rfl, rfl⟩, ⟨List.mem_of_getElem? (i := 18) rfl, rfl⟩⟩
abbrev mX10_image : Mt := (yX10_image, cX10_image, 1, (some .int))
set_option maxRecDepth 100000 in
theorem cf_X10_image : CF mX10_image 0 := ⟨⟨List.mem_of_getElem? (i := 637) rfl, rfl⟩, ⟨List.mem_of_getElem? (i := 147) rfl, rfl⟩, ⟨by decide, by decide⟩, by decide, by decide⟩
set_option maxRecDepth 100000 in
theorem cv_X10_image : CFv mX10_image := ⟨⟨List.mem_of_getElem? (i := 635) rfl, rfl⟩, ⟨List.mem_of_getElem? (i := 636) rfl, rfl⟩⟩
abbrev mX5_isFull : Mt := (yX5_isFull, cX5_isFull, 1, (some .boolean))
set_option maxRecDepth 100000 in
theorem cf_X5_isFull : CF mX5_isFull 0 := ⟨⟨List.mem_of_getElem? (i := 641) rfl, rfl⟩, ⟨List.mem_of_getElem? (i := 156) rfl, rfl⟩, ⟨by decide, by decide⟩, by decide, by decide⟩
set_option maxRecDepth 100000 in
theorem cv_X5_isFull : CFv mX5_isFull := ⟨⟨List.mem_of_getElem? (i := 640) rfl, rfl⟩, ⟨List.mem_of_getElem? (i := 19) rfl, rfl⟩⟩
abbrev mX5_copyOf : Mt := (yX5_copyOf, cX5_copyOf, 2, none)
set_option maxRecDepth 100000 in
theorem cf_X5_copyOf : CF mX5_copyOf 1 := ⟨⟨List.mem_of_getElem? (i := 645) rfl, rfl⟩, ⟨List.mem_of_getElem? (i := 156) rfl, rfl⟩, ⟨by decide, by decide⟩, by decide, by decide⟩
set_option maxRecDepth 100000 in
theorem cv_X5_copyOf : CFv mX5_copyOf := ⟨⟨List.mem_of_getElem? (i := 644) rfl, rfl⟩, ⟨List.mem_of_getElem? (i := 20) rfl, rfl⟩⟩
abbrev mX5_push : Mt := (yX5_push, cX5_push, 2, none)
set_option maxRecDepth 100000 in
theorem cf_X5_push : CF mX5_push 1 := ⟨⟨List.mem_of_getElem? (i := 649) rfl, rfl⟩, ⟨List.mem_of_getElem? (i := 156) rfl, rfl⟩, ⟨by decide, by decide⟩, by decide, by decide⟩
set_option maxRecDepth 100000 in
theorem cv_X5_push : CFv mX5_push := ⟨⟨List.mem_of_getElem? (i := 648) rfl, rfl⟩, ⟨List.mem_of_getElem? (i := 21) rfl, rfl⟩⟩
abbrev mX10_restore : Mt := (yX10_restore, cX10_restore, 1, (some .int))
set_option maxRecDepth 100000 in
theorem cf_X10_restore : CF mX10_restore 0 := ⟨⟨List.mem_of_getElem? (i := 653) rfl, rfl⟩, ⟨List.mem_of_getElem? (i := 147) rfl, rfl⟩, ⟨by decide, by decide⟩, by decide, by decide⟩
set_option maxRecDepth 100000 in
theorem cv_X10_restore : CFv mX10_restore := ⟨⟨List.mem_of_getElem? (i := 651) rfl, rfl⟩, ⟨List.mem_of_getElem? (i := 652) rfl, rfl⟩⟩
abbrev mX10_status : Mt := (yX10_status, cX10_status, 2, (some .int))
set_option maxRecDepth 100000 in
theorem cf_X10_status : CF mX10_status 1 := ⟨⟨List.mem_of_getElem? (i := 657) rfl, rfl⟩, ⟨List.mem_of_getElem? (i := 147) rfl, rfl⟩, ⟨by decide, by decide⟩, by decide, by decide⟩
set_option maxRecDepth 100000 in
theorem cv_X10_status : CFv mX10_status := ⟨⟨List.mem_of_getElem? (i := 655) rfl, rfl⟩, ⟨List.mem_of_getElem? (i := 656) rfl, rfl⟩⟩
abbrev mX10_count : Mt := (yX10_count, cX10_count, 2, (some .int))
set_option maxRecDepth 100000 in
theorem cf_X10_count : CF mX10_count 1 := ⟨⟨List.mem_of_getElem? (i := 661) rfl, rfl⟩, ⟨List.mem_of_getElem? (i := 147) rfl, rfl⟩, ⟨by decide, by decide⟩, by decide, by decide⟩
set_option maxRecDepth 100000 in
theorem cv_X10_count : CFv mX10_count := ⟨⟨List.mem_of_getElem? (i := 659) rfl, rfl⟩, ⟨List.mem_of_getElem? (i := 660) rfl, rfl⟩⟩
abbrev mX10_house : Mt := (yX10_house, cX10_house, 3, (some .int))
set_option maxRecDepth 100000 in
theorem cf_X10_house : CF mX10_house 1 := ⟨⟨List.mem_of_getElem? (i := 669) rfl, rfl⟩, ⟨List.mem_of_getElem? (i := 147) rfl, rfl⟩, ⟨by decide, by decide⟩, by decide, by decide⟩
set_option maxRecDepth 100000 in
theorem cv_X10_house : CFv mX10_house := ⟨⟨List.mem_of_getElem? (i := 667) rfl, rfl⟩, ⟨List.mem_of_getElem? (i := 668) rfl, rfl⟩⟩
abbrev mX10_openText : Mt := (yX10_openText, cX10_openText, 3, none)
set_option maxRecDepth 100000 in
theorem cf_X10_openText : CF mX10_openText 2 := ⟨⟨List.mem_of_getElem? (i := 673) rfl, rfl⟩, ⟨List.mem_of_getElem? (i := 147) rfl, rfl⟩, ⟨by decide, by decide⟩, by decide, by decide⟩
set_option maxRecDepth 100000 in
theorem cv_X10_openText : CFv mX10_openText := ⟨⟨List.mem_of_getElem? (i := 672) rfl, rfl⟩, ⟨List.mem_of_getElem? (i := 22) rfl, rfl⟩⟩
abbrev mX10_isWithin : Mt := (yX10_isWithin, cX10_isWithin, 3, (some .boolean))
set_option maxRecDepth 100000 in
theorem cf_X10_isWithin : CF mX10_isWithin 3 := ⟨⟨List.mem_of_getElem? (i := 677) rfl, rfl⟩, ⟨List.mem_of_getElem? (i := 147) rfl, rfl⟩, ⟨by decide, by decide⟩, by decide, by decide⟩
set_option maxRecDepth 100000 in
theorem cs_X10_isWithin : InT (.static yX10_isWithin) := ⟨List.mem_of_getElem? (i := 676) rfl, rfl⟩
abbrev mX10_needArgument : Mt := (yX10_needArgument, cX10_needArgument, 2, none)
set_option maxRecDepth 100000 in
theorem cf_X10_needArgument : CF mX10_needArgument 1 := ⟨⟨List.mem_of_getElem? (i := 681) rfl, rfl⟩, ⟨List.mem_of_getElem? (i := 147) rfl, rfl⟩, ⟨by decide, by decide⟩, by decide, by decide⟩
set_option maxRecDepth 100000 in
theorem cv_X10_needArgument : CFv mX10_needArgument := ⟨⟨List.mem_of_getElem? (i := 680) rfl, rfl⟩, ⟨List.mem_of_getElem? (i := 23) rfl, rfl⟩⟩
abbrev mX8_open : Mt := (yX8_open, cX8_open, 2, none)
set_option maxRecDepth 100000 in
theorem cf_X8_open : CF mX8_open 1 := ⟨⟨List.mem_of_getElem? (i := 751) rfl, rfl⟩, ⟨List.mem_of_getElem? (i := 148) rfl, rfl⟩, ⟨by decide, by decide⟩, by decide, by decide⟩
set_option maxRecDepth 100000 in
theorem cv_X8_open : CFv mX8_open := ⟨⟨List.mem_of_getElem? (i := 750) rfl, rfl⟩, ⟨List.mem_of_getElem? (i := 25) rfl, rfl⟩⟩
abbrev mX1_read : Mt := (yX1_read, cX1_read, 3, none)
set_option maxRecDepth 100000 in
theorem cf_X1_read : CF mX1_read 1 := ⟨⟨List.mem_of_getElem? (i := 755) rfl, rfl⟩, ⟨List.mem_of_getElem? (i := 150) rfl, rfl⟩, ⟨by decide, by decide⟩, by decide, by decide⟩
set_option maxRecDepth 100000 in
theorem cv_X1_read : CFv mX1_read := ⟨⟨List.mem_of_getElem? (i := 754) rfl, rfl⟩, ⟨List.mem_of_getElem? (i := 26) rfl, rfl⟩⟩
abbrev mX8_isSound : Mt := (yX8_isSound, cX8_isSound, 1, (some .boolean))
set_option maxRecDepth 100000 in
theorem cf_X8_isSound : CF mX8_isSound 0 := ⟨⟨List.mem_of_getElem? (i := 759) rfl, rfl⟩, ⟨List.mem_of_getElem? (i := 148) rfl, rfl⟩, ⟨by decide, by decide⟩, by decide, by decide⟩
set_option maxRecDepth 100000 in
theorem cv_X8_isSound : CFv mX8_isSound := ⟨⟨List.mem_of_getElem? (i := 758) rfl, rfl⟩, ⟨List.mem_of_getElem? (i := 27) rfl, rfl⟩⟩
abbrev mX8_next : Mt := (yX8_next, cX8_next, 1, (some .int))
set_option maxRecDepth 100000 in
theorem cf_X8_next : CF mX8_next 0 := ⟨⟨List.mem_of_getElem? (i := 763) rfl, rfl⟩, ⟨List.mem_of_getElem? (i := 148) rfl, rfl⟩, ⟨by decide, by decide⟩, by decide, by decide⟩
set_option maxRecDepth 100000 in
theorem cv_X8_next : CFv mX8_next := ⟨⟨List.mem_of_getElem? (i := 762) rfl, rfl⟩, ⟨List.mem_of_getElem? (i := 28) rfl, rfl⟩⟩
abbrev mX1_readClause : Mt := (yX1_readClause, cX1_readClause, 4, none)
set_option maxRecDepth 100000 in
theorem cf_X1_readClause : CF mX1_readClause 2 := ⟨⟨List.mem_of_getElem? (i := 767) rfl, rfl⟩, ⟨List.mem_of_getElem? (i := 150) rfl, rfl⟩, ⟨by decide, by decide⟩, by decide, by decide⟩
set_option maxRecDepth 100000 in
theorem cv_X1_readClause : CFv mX1_readClause := ⟨⟨List.mem_of_getElem? (i := 766) rfl, rfl⟩, ⟨List.mem_of_getElem? (i := 29) rfl, rfl⟩⟩
abbrev mX8_word : Mt := (yX8_word, cX8_word, 5, (some .int))
set_option maxRecDepth 100000 in
theorem cf_X8_word : CF mX8_word 1 := ⟨⟨List.mem_of_getElem? (i := 772) rfl, rfl⟩, ⟨List.mem_of_getElem? (i := 148) rfl, rfl⟩, ⟨by decide, by decide⟩, by decide, by decide⟩
set_option maxRecDepth 100000 in
theorem cv_X8_word : CFv mX8_word := ⟨⟨List.mem_of_getElem? (i := 771) rfl, rfl⟩, ⟨List.mem_of_getElem? (i := 30) rfl, rfl⟩⟩
abbrev mX8_byteAt : Mt := (yX8_byteAt, cX8_byteAt, 2, (some .int))
set_option maxRecDepth 100000 in
theorem cf_X8_byteAt : CF mX8_byteAt 1 := ⟨⟨List.mem_of_getElem? (i := 777) rfl, rfl⟩, ⟨List.mem_of_getElem? (i := 148) rfl, rfl⟩, ⟨by decide, by decide⟩, by decide, by decide⟩
set_option maxRecDepth 100000 in
theorem cv_X8_byteAt : CFv mX8_byteAt := ⟨⟨List.mem_of_getElem? (i := 776) rfl, rfl⟩, ⟨List.mem_of_getElem? (i := 31) rfl, rfl⟩⟩
abbrev mX8_isLetter : Mt := (yX8_isLetter, cX8_isLetter, 2, (some .boolean))
set_option maxRecDepth 100000 in
theorem cf_X8_isLetter : CF mX8_isLetter 1 := ⟨⟨List.mem_of_getElem? (i := 781) rfl, rfl⟩, ⟨List.mem_of_getElem? (i := 148) rfl, rfl⟩, ⟨by decide, by decide⟩, by decide, by decide⟩
set_option maxRecDepth 100000 in
theorem cv_X8_isLetter : CFv mX8_isLetter := ⟨⟨List.mem_of_getElem? (i := 780) rfl, rfl⟩, ⟨List.mem_of_getElem? (i := 32) rfl, rfl⟩⟩
abbrev mJ0_length_8abf5 : Mt := (yJ0_length_8abf5, cJ0_length_8abf5, 1, (some .int))
set_option maxRecDepth 100000 in
theorem cf_J0_length_8abf5 : CF mJ0_length_8abf5 0 := ⟨⟨List.mem_of_getElem? (i := 785) rfl, rfl⟩, ⟨List.mem_of_getElem? (i := 164) rfl, rfl⟩, ⟨by decide, by decide⟩, by decide, by decide⟩
set_option maxRecDepth 100000 in
theorem cv_J0_length_8abf5 : CFv mJ0_length_8abf5 := ⟨⟨List.mem_of_getElem? (i := 783) rfl, rfl⟩, ⟨List.mem_of_getElem? (i := 784) rfl, rfl⟩⟩
abbrev mJ0_coder_7d493 : Mt := (yJ0_coder_7d493, cJ0_coder_7d493, 1, (some .byte))
set_option maxRecDepth 100000 in
theorem cf_J0_coder_7d493 : CF mJ0_coder_7d493 0 := ⟨⟨List.mem_of_getElem? (i := 789) rfl, rfl⟩, ⟨List.mem_of_getElem? (i := 164) rfl, rfl⟩, ⟨by decide, by decide⟩, by decide, by decide⟩
set_option maxRecDepth 100000 in
theorem cv_J0_coder_7d493 : CFv mJ0_coder_7d493 := ⟨⟨List.mem_of_getElem? (i := 787) rfl, rfl⟩, ⟨List.mem_of_getElem? (i := 788) rfl, rfl⟩⟩
abbrev mJ0_charAt_5068e : Mt := (yJ0_charAt_5068e, cJ0_charAt_5068e, 2, (some .char))
set_option maxRecDepth 100000 in
theorem cf_J0_charAt_5068e : CF mJ0_charAt_5068e 1 := ⟨⟨List.mem_of_getElem? (i := 795) rfl, rfl⟩, ⟨List.mem_of_getElem? (i := 164) rfl, rfl⟩, ⟨by decide, by decide⟩, by decide, by decide⟩
set_option maxRecDepth 100000 in
theorem cv_J0_charAt_5068e : CFv mJ0_charAt_5068e := ⟨⟨List.mem_of_getElem? (i := 793) rfl, rfl⟩, ⟨List.mem_of_getElem? (i := 794) rfl, rfl⟩⟩
abbrev mJ0_isLatin1_aae02 : Mt := (yJ0_isLatin1_aae02, cJ0_isLatin1_aae02, 1, (some .boolean))
set_option maxRecDepth 100000 in
theorem cf_J0_isLatin1_aae02 : CF mJ0_isLatin1_aae02 0 := ⟨⟨List.mem_of_getElem? (i := 799) rfl, rfl⟩, ⟨List.mem_of_getElem? (i := 164) rfl, rfl⟩, ⟨by decide, by decide⟩, by decide, by decide⟩
set_option maxRecDepth 100000 in
theorem cv_J0_isLatin1_aae02 : CFv mJ0_isLatin1_aae02 := ⟨⟨List.mem_of_getElem? (i := 797) rfl, rfl⟩, ⟨List.mem_of_getElem? (i := 798) rfl, rfl⟩⟩
abbrev mJ1_charAt_3b067 : Mt := (yJ1_charAt_3b067, cJ1_charAt_3b067, 2, (some .char))
set_option maxRecDepth 100000 in
theorem cf_J1_charAt_3b067 : CF mJ1_charAt_3b067 2 := ⟨⟨List.mem_of_getElem? (i := 802) rfl, rfl⟩, ⟨List.mem_of_getElem? (i := 165) rfl, rfl⟩, ⟨by decide, by decide⟩, by decide, by decide⟩
set_option maxRecDepth 100000 in
theorem cs_J1_charAt_3b067 : InT (.static yJ1_charAt_3b067) := ⟨List.mem_of_getElem? (i := 801) rfl, rfl⟩
abbrev mJ0_checkIndex_df160 : Mt := (yJ0_checkIndex_df160, cJ0_checkIndex_df160, 2, none)
set_option maxRecDepth 100000 in
theorem cf_J0_checkIndex_df160 : CF mJ0_checkIndex_df160 2 := ⟨⟨List.mem_of_getElem? (i := 805) rfl, rfl⟩, ⟨List.mem_of_getElem? (i := 164) rfl, rfl⟩, ⟨by decide, by decide⟩, by decide, by decide⟩
set_option maxRecDepth 100000 in
theorem cs_J0_checkIndex_df160 : InT (.static yJ0_checkIndex_df160) := ⟨List.mem_of_getElem? (i := 804) rfl, rfl⟩
abbrev mJ3_checkIndex_8e157 : Mt := (yJ3_checkIndex_8e157, cJ3_checkIndex_8e157, 3, (some .int))
set_option maxRecDepth 100000 in
theorem cf_J3_checkIndex_8e157 : CF mJ3_checkIndex_8e157 3 := ⟨⟨List.mem_of_getElem? (i := 810) rfl, rfl⟩, ⟨List.mem_of_getElem? (i := 166) rfl, rfl⟩, ⟨by decide, by decide⟩, by decide, by decide⟩
set_option maxRecDepth 100000 in
theorem cs_J3_checkIndex_8e157 : InT (.static yJ3_checkIndex_8e157) := ⟨List.mem_of_getElem? (i := 809) rfl, rfl⟩
abbrev mJ2_charAt_3b067 : Mt := (yJ2_charAt_3b067, cJ2_charAt_3b067, 2, (some .char))
set_option maxRecDepth 100000 in
theorem cf_J2_charAt_3b067 : CF mJ2_charAt_3b067 2 := ⟨⟨List.mem_of_getElem? (i := 813) rfl, rfl⟩, ⟨List.mem_of_getElem? (i := 167) rfl, rfl⟩, ⟨by decide, by decide⟩, by decide, by decide⟩
set_option maxRecDepth 100000 in
theorem cs_J2_charAt_3b067 : InT (.static yJ2_charAt_3b067) := ⟨List.mem_of_getElem? (i := 812) rfl, rfl⟩
abbrev mJ2_checkIndex_2214a : Mt := (yJ2_checkIndex_2214a, cJ2_checkIndex_2214a, 2, none)
set_option maxRecDepth 100000 in
theorem cf_J2_checkIndex_2214a : CF mJ2_checkIndex_2214a 2 := ⟨⟨List.mem_of_getElem? (i := 816) rfl, rfl⟩, ⟨List.mem_of_getElem? (i := 167) rfl, rfl⟩, ⟨by decide, by decide⟩, by decide, by decide⟩
set_option maxRecDepth 100000 in
theorem cs_J2_checkIndex_2214a : InT (.static yJ2_checkIndex_2214a) := ⟨List.mem_of_getElem? (i := 815) rfl, rfl⟩
abbrev mJ2_length_9d52b : Mt := (yJ2_length_9d52b, cJ2_length_9d52b, 1, (some .int))
set_option maxRecDepth 100000 in
theorem cf_J2_length_9d52b : CF mJ2_length_9d52b 1 := ⟨⟨List.mem_of_getElem? (i := 819) rfl, rfl⟩, ⟨List.mem_of_getElem? (i := 167) rfl, rfl⟩, ⟨by decide, by decide⟩, by decide, by decide⟩
set_option maxRecDepth 100000 in
theorem cs_J2_length_9d52b : InT (.static yJ2_length_9d52b) := ⟨List.mem_of_getElem? (i := 818) rfl, rfl⟩
abbrev mJ2_getChar_3b067 : Mt := (yJ2_getChar_3b067, cJ2_getChar_3b067, 2, (some .char))
set_option maxRecDepth 100000 in
theorem cf_J2_getChar_3b067 : CF mJ2_getChar_3b067 2 := ⟨⟨List.mem_of_getElem? (i := 823) rfl, rfl⟩, ⟨List.mem_of_getElem? (i := 167) rfl, rfl⟩, ⟨by decide, by decide⟩, by decide, by decide⟩
set_option maxRecDepth 100000 in
theorem cs_J2_getChar_3b067 : InT (.static yJ2_getChar_3b067) := ⟨List.mem_of_getElem? (i := 822) rfl, rfl⟩
abbrev mX8_isToken : Mt := (yX8_isToken, cX8_isToken, 5, (some .boolean))
set_option maxRecDepth 100000 in
theorem cf_X8_isToken : CF mX8_isToken 3 := ⟨⟨List.mem_of_getElem? (i := 833) rfl, rfl⟩, ⟨List.mem_of_getElem? (i := 148) rfl, rfl⟩, ⟨by decide, by decide⟩, by decide, by decide⟩
set_option maxRecDepth 100000 in
theorem cv_X8_isToken : CFv mX8_isToken := ⟨⟨List.mem_of_getElem? (i := 832) rfl, rfl⟩, ⟨List.mem_of_getElem? (i := 33) rfl, rfl⟩⟩
abbrev mX8_mark : Mt := (yX8_mark, cX8_mark, 3, none)
set_option maxRecDepth 100000 in
theorem cf_X8_mark : CF mX8_mark 2 := ⟨⟨List.mem_of_getElem? (i := 837) rfl, rfl⟩, ⟨List.mem_of_getElem? (i := 148) rfl, rfl⟩, ⟨by decide, by decide⟩, by decide, by decide⟩
set_option maxRecDepth 100000 in
theorem cv_X8_mark : CFv mX8_mark := ⟨⟨List.mem_of_getElem? (i := 836) rfl, rfl⟩, ⟨List.mem_of_getElem? (i := 34) rfl, rfl⟩⟩
abbrev mX1_isFull : Mt := (yX1_isFull, cX1_isFull, 2, (some .boolean))
set_option maxRecDepth 100000 in
theorem cf_X1_isFull : CF mX1_isFull 1 := ⟨⟨List.mem_of_getElem? (i := 841) rfl, rfl⟩, ⟨List.mem_of_getElem? (i := 150) rfl, rfl⟩, ⟨by decide, by decide⟩, by decide, by decide⟩
set_option maxRecDepth 100000 in
theorem cv_X1_isFull : CFv mX1_isFull := ⟨⟨List.mem_of_getElem? (i := 840) rfl, rfl⟩, ⟨List.mem_of_getElem? (i := 35) rfl, rfl⟩⟩
abbrev mX1_readSister : Mt := (yX1_readSister, cX1_readSister, 3, none)
set_option maxRecDepth 100000 in
theorem cf_X1_readSister : CF mX1_readSister 1 := ⟨⟨List.mem_of_getElem? (i := 846) rfl, rfl⟩, ⟨List.mem_of_getElem? (i := 150) rfl, rfl⟩, ⟨by decide, by decide⟩, by decide, by decide⟩
set_option maxRecDepth 100000 in
theorem cv_X1_readSister : CFv mX1_readSister := ⟨⟨List.mem_of_getElem? (i := 845) rfl, rfl⟩, ⟨List.mem_of_getElem? (i := 36) rfl, rfl⟩⟩
abbrev mX8_number : Mt := (yX8_number, cX8_number, 4, (some .int))
set_option maxRecDepth 100000 in
theorem cf_X8_number : CF mX8_number 2 := ⟨⟨List.mem_of_getElem? (i := 850) rfl, rfl⟩, ⟨List.mem_of_getElem? (i := 148) rfl, rfl⟩, ⟨by decide, by decide⟩, by decide, by decide⟩
set_option maxRecDepth 100000 in
theorem cv_X8_number : CFv mX8_number := ⟨⟨List.mem_of_getElem? (i := 849) rfl, rfl⟩, ⟨List.mem_of_getElem? (i := 37) rfl, rfl⟩⟩
abbrev mX8_isDigit : Mt := (yX8_isDigit, cX8_isDigit, 2, (some .boolean))
set_option maxRecDepth 100000 in
theorem cf_X8_isDigit : CF mX8_isDigit 1 := ⟨⟨List.mem_of_getElem? (i := 854) rfl, rfl⟩, ⟨List.mem_of_getElem? (i := 148) rfl, rfl⟩, ⟨by decide, by decide⟩, by decide, by decide⟩
set_option maxRecDepth 100000 in
theorem cv_X8_isDigit : CFv mX8_isDigit := ⟨⟨List.mem_of_getElem? (i := 853) rfl, rfl⟩, ⟨List.mem_of_getElem? (i := 38) rfl, rfl⟩⟩
abbrev mX1_readRelic : Mt := (yX1_readRelic, cX1_readRelic, 5, none)
set_option maxRecDepth 100000 in
theorem cf_X1_readRelic : CF mX1_readRelic 1 := ⟨⟨List.mem_of_getElem? (i := 860) rfl, rfl⟩, ⟨List.mem_of_getElem? (i := 150) rfl, rfl⟩, ⟨by decide, by decide⟩, by decide, by decide⟩
set_option maxRecDepth 100000 in
theorem cv_X1_readRelic : CFv mX1_readRelic := ⟨⟨List.mem_of_getElem? (i := 859) rfl, rfl⟩, ⟨List.mem_of_getElem? (i := 39) rfl, rfl⟩⟩
abbrev mX1_hasSister : Mt := (yX1_hasSister, cX1_hasSister, 2, (some .boolean))
set_option maxRecDepth 100000 in
theorem cf_X1_hasSister : CF mX1_hasSister 1 := ⟨⟨List.mem_of_getElem? (i := 864) rfl, rfl⟩, ⟨List.mem_of_getElem? (i := 150) rfl, rfl⟩, ⟨by decide, by decide⟩, by decide, by decide⟩
set_option maxRecDepth 100000 in
theorem cv_X1_hasSister : CFv mX1_hasSister := ⟨⟨List.mem_of_getElem? (i := 863) rfl, rfl⟩, ⟨List.mem_of_getElem? (i := 40) rfl, rfl⟩⟩
abbrev mX1_readPilgrim : Mt := (yX1_readPilgrim, cX1_readPilgrim, 4, none)
set_option maxRecDepth 100000 in
theorem cf_X1_readPilgrim : CF mX1_readPilgrim 1 := ⟨⟨List.mem_of_getElem? (i := 868) rfl, rfl⟩, ⟨List.mem_of_getElem? (i := 150) rfl, rfl⟩, ⟨by decide, by decide⟩, by decide, by decide⟩
set_option maxRecDepth 100000 in
theorem cv_X1_readPilgrim : CFv mX1_readPilgrim := ⟨⟨List.mem_of_getElem? (i := 867) rfl, rfl⟩, ⟨List.mem_of_getElem? (i := 41) rfl, rfl⟩⟩
abbrev mX1_readVow : Mt := (yX1_readVow, cX1_readVow, 4, none)
set_option maxRecDepth 100000 in
theorem cf_X1_readVow : CF mX1_readVow 1 := ⟨⟨List.mem_of_getElem? (i := 872) rfl, rfl⟩, ⟨List.mem_of_getElem? (i := 150) rfl, rfl⟩, ⟨by decide, by decide⟩, by decide, by decide⟩
set_option maxRecDepth 100000 in
theorem cv_X1_readVow : CFv mX1_readVow := ⟨⟨List.mem_of_getElem? (i := 871) rfl, rfl⟩, ⟨List.mem_of_getElem? (i := 42) rfl, rfl⟩⟩
abbrev mX8_demand : Mt := (yX8_demand, cX8_demand, 2, none)
set_option maxRecDepth 100000 in
theorem cf_X8_demand : CF mX8_demand 1 := ⟨⟨List.mem_of_getElem? (i := 876) rfl, rfl⟩, ⟨List.mem_of_getElem? (i := 148) rfl, rfl⟩, ⟨by decide, by decide⟩, by decide, by decide⟩
set_option maxRecDepth 100000 in
theorem cv_X8_demand : CFv mX8_demand := ⟨⟨List.mem_of_getElem? (i := 875) rfl, rfl⟩, ⟨List.mem_of_getElem? (i := 43) rfl, rfl⟩⟩
abbrev mX10_law : Mt := (yX10_law, cX10_law, 3, (some .int))
set_option maxRecDepth 100000 in
theorem cf_X10_law : CF mX10_law 1 := ⟨⟨List.mem_of_getElem? (i := 886) rfl, rfl⟩, ⟨List.mem_of_getElem? (i := 147) rfl, rfl⟩, ⟨by decide, by decide⟩, by decide, by decide⟩
set_option maxRecDepth 100000 in
theorem cv_X10_law : CFv mX10_law := ⟨⟨List.mem_of_getElem? (i := 884) rfl, rfl⟩, ⟨List.mem_of_getElem? (i := 885) rfl, rfl⟩⟩
abbrev mX2_read : Mt := (yX2_read, cX2_read, 2, none)
set_option maxRecDepth 100000 in
theorem cf_X2_read : CF mX2_read 1 := ⟨⟨List.mem_of_getElem? (i := 890) rfl, rfl⟩, ⟨List.mem_of_getElem? (i := 151) rfl, rfl⟩, ⟨by decide, by decide⟩, by decide, by decide⟩
set_option maxRecDepth 100000 in
theorem cv_X2_read : CFv mX2_read := ⟨⟨List.mem_of_getElem? (i := 889) rfl, rfl⟩, ⟨List.mem_of_getElem? (i := 44) rfl, rfl⟩⟩
abbrev mX2_readSum : Mt := (yX2_readSum, cX2_readSum, 5, none)
set_option maxRecDepth 100000 in
theorem cf_X2_readSum : CF mX2_readSum 2 := ⟨⟨List.mem_of_getElem? (i := 894) rfl, rfl⟩, ⟨List.mem_of_getElem? (i := 151) rfl, rfl⟩, ⟨by decide, by decide⟩, by decide, by decide⟩
set_option maxRecDepth 100000 in
theorem cv_X2_readSum : CFv mX2_readSum := ⟨⟨List.mem_of_getElem? (i := 893) rfl, rfl⟩, ⟨List.mem_of_getElem? (i := 45) rfl, rfl⟩⟩
abbrev mX2_readProduct : Mt := (yX2_readProduct, cX2_readProduct, 5, none)
set_option maxRecDepth 100000 in
theorem cf_X2_readProduct : CF mX2_readProduct 2 := ⟨⟨List.mem_of_getElem? (i := 898) rfl, rfl⟩, ⟨List.mem_of_getElem? (i := 151) rfl, rfl⟩, ⟨by decide, by decide⟩, by decide, by decide⟩
set_option maxRecDepth 100000 in
theorem cv_X2_readProduct : CFv mX2_readProduct := ⟨⟨List.mem_of_getElem? (i := 897) rfl, rfl⟩, ⟨List.mem_of_getElem? (i := 46) rfl, rfl⟩⟩
abbrev mX2_readUnit : Mt := (yX2_readUnit, cX2_readUnit, 4, none)
set_option maxRecDepth 100000 in
theorem cf_X2_readUnit : CF mX2_readUnit 2 := ⟨⟨List.mem_of_getElem? (i := 902) rfl, rfl⟩, ⟨List.mem_of_getElem? (i := 151) rfl, rfl⟩, ⟨by decide, by decide⟩, by decide, by decide⟩
set_option maxRecDepth 100000 in
theorem cv_X2_readUnit : CFv mX2_readUnit := ⟨⟨List.mem_of_getElem? (i := 901) rfl, rfl⟩, ⟨List.mem_of_getElem? (i := 47) rfl, rfl⟩⟩
abbrev mX8_takeOne : Mt := (yX8_takeOne, cX8_takeOne, 4, (some .int))
set_option maxRecDepth 100000 in
theorem cf_X8_takeOne : CF mX8_takeOne 1 := ⟨⟨List.mem_of_getElem? (i := 910) rfl, rfl⟩, ⟨List.mem_of_getElem? (i := 148) rfl, rfl⟩, ⟨by decide, by decide⟩, by decide, by decide⟩
set_option maxRecDepth 100000 in
theorem cv_X8_takeOne : CFv mX8_takeOne := ⟨⟨List.mem_of_getElem? (i := 909) rfl, rfl⟩, ⟨List.mem_of_getElem? (i := 48) rfl, rfl⟩⟩
abbrev mJ0_indexOf_0f7a4 : Mt := (yJ0_indexOf_0f7a4, cJ0_indexOf_0f7a4, 2, (some .int))
set_option maxRecDepth 100000 in
theorem cf_J0_indexOf_0f7a4 : CF mJ0_indexOf_0f7a4 1 := ⟨⟨List.mem_of_getElem? (i := 914) rfl, rfl⟩, ⟨List.mem_of_getElem? (i := 164) rfl, rfl⟩, ⟨by decide, by decide⟩, by decide, by decide⟩
set_option maxRecDepth 100000 in
theorem cv_J0_indexOf_0f7a4 : CFv mJ0_indexOf_0f7a4 := ⟨⟨List.mem_of_getElem? (i := 912) rfl, rfl⟩, ⟨List.mem_of_getElem? (i := 913) rfl, rfl⟩⟩
abbrev mJ0_indexOf_7cf53 : Mt := (yJ0_indexOf_7cf53, cJ0_indexOf_7cf53, 3, (some .int))
set_option maxRecDepth 100000 in
theorem cf_J0_indexOf_7cf53 : CF mJ0_indexOf_7cf53 2 := ⟨⟨List.mem_of_getElem? (i := 918) rfl, rfl⟩, ⟨List.mem_of_getElem? (i := 164) rfl, rfl⟩, ⟨by decide, by decide⟩, by decide, by decide⟩
set_option maxRecDepth 100000 in
theorem cv_J0_indexOf_7cf53 : CFv mJ0_indexOf_7cf53 := ⟨⟨List.mem_of_getElem? (i := 916) rfl, rfl⟩, ⟨List.mem_of_getElem? (i := 917) rfl, rfl⟩⟩
abbrev mJ1_indexOf_4cfef : Mt := (yJ1_indexOf_4cfef, cJ1_indexOf_4cfef, 4, (some .int))
set_option maxRecDepth 100000 in
theorem cf_J1_indexOf_4cfef : CF mJ1_indexOf_4cfef 4 := ⟨⟨List.mem_of_getElem? (i := 922) rfl, rfl⟩, ⟨List.mem_of_getElem? (i := 165) rfl, rfl⟩, ⟨by decide, by decide⟩, by decide, by decide⟩
set_option maxRecDepth 100000 in
theorem cs_J1_indexOf_4cfef : InT (.static yJ1_indexOf_4cfef) := ⟨List.mem_of_getElem? (i := 921) rfl, rfl⟩
abbrev mJ1_canEncode_9a6ad : Mt := (yJ1_canEncode_9a6ad, cJ1_canEncode_9a6ad, 1, (some .boolean))
set_option maxRecDepth 100000 in
theorem cf_J1_canEncode_9a6ad : CF mJ1_canEncode_9a6ad 1 := ⟨⟨List.mem_of_getElem? (i := 925) rfl, rfl⟩, ⟨List.mem_of_getElem? (i := 165) rfl, rfl⟩, ⟨by decide, by decide⟩, by decide, by decide⟩
set_option maxRecDepth 100000 in
theorem cs_J1_canEncode_9a6ad : InT (.static yJ1_canEncode_9a6ad) := ⟨List.mem_of_getElem? (i := 924) rfl, rfl⟩
abbrev mJ1_indexOfChar_4cfef : Mt := (yJ1_indexOfChar_4cfef, cJ1_indexOfChar_4cfef, 6, (some .int))
set_option maxRecDepth 100000 in
theorem cf_J1_indexOfChar_4cfef : CF mJ1_indexOfChar_4cfef 4 := ⟨⟨List.mem_of_getElem? (i := 930) rfl, rfl⟩, ⟨List.mem_of_getElem? (i := 165) rfl, rfl⟩, ⟨by decide, by decide⟩, by decide, by decide⟩
set_option maxRecDepth 100000 in
theorem cs_J1_indexOfChar_4cfef : InT (.static yJ1_indexOfChar_4cfef) := ⟨List.mem_of_getElem? (i := 929) rfl, rfl⟩
abbrev mJ2_indexOf_4cfef : Mt := (yJ2_indexOf_4cfef, cJ2_indexOf_4cfef, 4, (some .int))
set_option maxRecDepth 100000 in
theorem cf_J2_indexOf_4cfef : CF mJ2_indexOf_4cfef 4 := ⟨⟨List.mem_of_getElem? (i := 933) rfl, rfl⟩, ⟨List.mem_of_getElem? (i := 167) rfl, rfl⟩, ⟨by decide, by decide⟩, by decide, by decide⟩
set_option maxRecDepth 100000 in
theorem cs_J2_indexOf_4cfef : InT (.static yJ2_indexOf_4cfef) := ⟨List.mem_of_getElem? (i := 932) rfl, rfl⟩
abbrev mJ2_indexOfChar_4cfef : Mt := (yJ2_indexOfChar_4cfef, cJ2_indexOfChar_4cfef, 4, (some .int))
set_option maxRecDepth 100000 in
theorem cf_J2_indexOfChar_4cfef : CF mJ2_indexOfChar_4cfef 4 := ⟨⟨List.mem_of_getElem? (i := 939) rfl, rfl⟩, ⟨List.mem_of_getElem? (i := 167) rfl, rfl⟩, ⟨by decide, by decide⟩, by decide, by decide⟩
set_option maxRecDepth 100000 in
theorem cs_J2_indexOfChar_4cfef : InT (.static yJ2_indexOfChar_4cfef) := ⟨List.mem_of_getElem? (i := 938) rfl, rfl⟩
abbrev mJ2_checkBoundsBeginEnd_d044e : Mt := (yJ2_checkBoundsBeginEnd_d044e, cJ2_checkBoundsBeginEnd_d044e, 3, none)
set_option maxRecDepth 100000 in
theorem cf_J2_checkBoundsBeginEnd_d044e : CF mJ2_checkBoundsBeginEnd_d044e 3 := ⟨⟨List.mem_of_getElem? (i := 942) rfl, rfl⟩, ⟨List.mem_of_getElem? (i := 167) rfl, rfl⟩, ⟨by decide, by decide⟩, by decide, by decide⟩
set_option maxRecDepth 100000 in
theorem cs_J2_checkBoundsBeginEnd_d044e : InT (.static yJ2_checkBoundsBeginEnd_d044e) := ⟨List.mem_of_getElem? (i := 941) rfl, rfl⟩
abbrev mJ0_checkBoundsBeginEnd_23922 : Mt := (yJ0_checkBoundsBeginEnd_23922, cJ0_checkBoundsBeginEnd_23922, 3, none)
set_option maxRecDepth 100000 in
theorem cf_J0_checkBoundsBeginEnd_23922 : CF mJ0_checkBoundsBeginEnd_23922 3 := ⟨⟨List.mem_of_getElem? (i := 945) rfl, rfl⟩, ⟨List.mem_of_getElem? (i := 164) rfl, rfl⟩, ⟨by decide, by decide⟩, by decide, by decide⟩
set_option maxRecDepth 100000 in
theorem cs_J0_checkBoundsBeginEnd_23922 : InT (.static yJ0_checkBoundsBeginEnd_23922) := ⟨List.mem_of_getElem? (i := 944) rfl, rfl⟩
abbrev mJ3_checkFromToIndex_8c36e : Mt := (yJ3_checkFromToIndex_8c36e, cJ3_checkFromToIndex_8c36e, 4, (some .int))
set_option maxRecDepth 100000 in
theorem cf_J3_checkFromToIndex_8c36e : CF mJ3_checkFromToIndex_8c36e 4 := ⟨⟨List.mem_of_getElem? (i := 948) rfl, rfl⟩, ⟨List.mem_of_getElem? (i := 166) rfl, rfl⟩, ⟨by decide, by decide⟩, by decide, by decide⟩
set_option maxRecDepth 100000 in
theorem cs_J3_checkFromToIndex_8c36e : InT (.static yJ3_checkFromToIndex_8c36e) := ⟨List.mem_of_getElem? (i := 947) rfl, rfl⟩
abbrev mJ2_indexOfCharUnsafe_4cfef : Mt := (yJ2_indexOfCharUnsafe_4cfef, cJ2_indexOfCharUnsafe_4cfef, 5, (some .int))
set_option maxRecDepth 100000 in
theorem cf_J2_indexOfCharUnsafe_4cfef : CF mJ2_indexOfCharUnsafe_4cfef 4 := ⟨⟨List.mem_of_getElem? (i := 951) rfl, rfl⟩, ⟨List.mem_of_getElem? (i := 167) rfl, rfl⟩, ⟨by decide, by decide⟩, by decide, by decide⟩
set_option maxRecDepth 100000 in
theorem cs_J2_indexOfCharUnsafe_4cfef : InT (.static yJ2_indexOfCharUnsafe_4cfef) := ⟨List.mem_of_getElem? (i := 950) rfl, rfl⟩
abbrev mJ2_indexOfSupplementary_4cfef : Mt := (yJ2_indexOfSupplementary_4cfef, cJ2_indexOfSupplementary_4cfef, 7, (some .int))
set_option maxRecDepth 100000 in
theorem cf_J2_indexOfSupplementary_4cfef : CF mJ2_indexOfSupplementary_4cfef 4 := ⟨⟨List.mem_of_getElem? (i := 954) rfl, rfl⟩, ⟨List.mem_of_getElem? (i := 167) rfl, rfl⟩, ⟨by decide, by decide⟩, by decide, by decide⟩
set_option maxRecDepth 100000 in
theorem cs_J2_indexOfSupplementary_4cfef : InT (.static yJ2_indexOfSupplementary_4cfef) := ⟨List.mem_of_getElem? (i := 953) rfl, rfl⟩
abbrev mJ11_isValidCodePoint_9a6ad : Mt := (yJ11_isValidCodePoint_9a6ad, cJ11_isValidCodePoint_9a6ad, 2, (some .boolean))
set_option maxRecDepth 100000 in
theorem cf_J11_isValidCodePoint_9a6ad : CF mJ11_isValidCodePoint_9a6ad 1 := ⟨⟨List.mem_of_getElem? (i := 957) rfl, rfl⟩, ⟨List.mem_of_getElem? (i := 168) rfl, rfl⟩, ⟨by decide, by decide⟩, by decide, by decide⟩
set_option maxRecDepth 100000 in
theorem cs_J11_isValidCodePoint_9a6ad : InT (.static yJ11_isValidCodePoint_9a6ad) := ⟨List.mem_of_getElem? (i := 956) rfl, rfl⟩
abbrev mJ11_highSurrogate_5068e : Mt := (yJ11_highSurrogate_5068e, cJ11_highSurrogate_5068e, 1, (some .char))
set_option maxRecDepth 100000 in
theorem cf_J11_highSurrogate_5068e : CF mJ11_highSurrogate_5068e 1 := ⟨⟨List.mem_of_getElem? (i := 960) rfl, rfl⟩, ⟨List.mem_of_getElem? (i := 168) rfl, rfl⟩, ⟨by decide, by decide⟩, by decide, by decide⟩
set_option maxRecDepth 100000 in
theorem cs_J11_highSurrogate_5068e : InT (.static yJ11_highSurrogate_5068e) := ⟨List.mem_of_getElem? (i := 959) rfl, rfl⟩
abbrev mJ11_lowSurrogate_5068e : Mt := (yJ11_lowSurrogate_5068e, cJ11_lowSurrogate_5068e, 1, (some .char))
set_option maxRecDepth 100000 in
theorem cf_J11_lowSurrogate_5068e : CF mJ11_lowSurrogate_5068e 1 := ⟨⟨List.mem_of_getElem? (i := 964) rfl, rfl⟩, ⟨List.mem_of_getElem? (i := 168) rfl, rfl⟩, ⟨by decide, by decide⟩, by decide, by decide⟩
set_option maxRecDepth 100000 in
theorem cs_J11_lowSurrogate_5068e : InT (.static yJ11_lowSurrogate_5068e) := ⟨List.mem_of_getElem? (i := 963) rfl, rfl⟩
abbrev mX2_mayOpen : Mt := (yX2_mayOpen, cX2_mayOpen, 3, (some .boolean))
set_option maxRecDepth 100000 in
theorem cf_X2_mayOpen : CF mX2_mayOpen 2 := ⟨⟨List.mem_of_getElem? (i := 969) rfl, rfl⟩, ⟨List.mem_of_getElem? (i := 151) rfl, rfl⟩, ⟨by decide, by decide⟩, by decide, by decide⟩
set_option maxRecDepth 100000 in
theorem cv_X2_mayOpen : CFv mX2_mayOpen := ⟨⟨List.mem_of_getElem? (i := 968) rfl, rfl⟩, ⟨List.mem_of_getElem? (i := 49) rfl, rfl⟩⟩
abbrev mX2_readPair : Mt := (yX2_readPair, cX2_readPair, 3, none)
set_option maxRecDepth 100000 in
theorem cf_X2_readPair : CF mX2_readPair 2 := ⟨⟨List.mem_of_getElem? (i := 977) rfl, rfl⟩, ⟨List.mem_of_getElem? (i := 151) rfl, rfl⟩, ⟨by decide, by decide⟩, by decide, by decide⟩
set_option maxRecDepth 100000 in
theorem cv_X2_readPair : CFv mX2_readPair := ⟨⟨List.mem_of_getElem? (i := 976) rfl, rfl⟩, ⟨List.mem_of_getElem? (i := 50) rfl, rfl⟩⟩
abbrev mX10_work : Mt := (yX10_work, cX10_work, 2, (some .int))
set_option maxRecDepth 100000 in
theorem cf_X10_work : CF mX10_work 1 := ⟨⟨List.mem_of_getElem? (i := 987) rfl, rfl⟩, ⟨List.mem_of_getElem? (i := 147) rfl, rfl⟩, ⟨by decide, by decide⟩, by decide, by decide⟩
set_option maxRecDepth 100000 in
theorem cv_X10_work : CFv mX10_work := ⟨⟨List.mem_of_getElem? (i := 985) rfl, rfl⟩, ⟨List.mem_of_getElem? (i := 986) rfl, rfl⟩⟩
abbrev mX4_read : Mt := (yX4_read, cX4_read, 3, none)
set_option maxRecDepth 100000 in
theorem cf_X4_read : CF mX4_read 2 := ⟨⟨List.mem_of_getElem? (i := 991) rfl, rfl⟩, ⟨List.mem_of_getElem? (i := 152) rfl, rfl⟩, ⟨by decide, by decide⟩, by decide, by decide⟩
set_option maxRecDepth 100000 in
theorem cv_X4_read : CFv mX4_read := ⟨⟨List.mem_of_getElem? (i := 990) rfl, rfl⟩, ⟨List.mem_of_getElem? (i := 51) rfl, rfl⟩⟩
abbrev mX4_readSteps : Mt := (yX4_readSteps, cX4_readSteps, 5, none)
set_option maxRecDepth 100000 in
theorem cf_X4_readSteps : CF mX4_readSteps 3 := ⟨⟨List.mem_of_getElem? (i := 995) rfl, rfl⟩, ⟨List.mem_of_getElem? (i := 152) rfl, rfl⟩, ⟨by decide, by decide⟩, by decide, by decide⟩
set_option maxRecDepth 100000 in
theorem cv_X4_readSteps : CFv mX4_readSteps := ⟨⟨List.mem_of_getElem? (i := 994) rfl, rfl⟩, ⟨List.mem_of_getElem? (i := 52) rfl, rfl⟩⟩
abbrev mX4_readStep : Mt := (yX4_readStep, cX4_readStep, 6, none)
set_option maxRecDepth 100000 in
theorem cf_X4_readStep : CF mX4_readStep 3 := ⟨⟨List.mem_of_getElem? (i := 1001) rfl, rfl⟩, ⟨List.mem_of_getElem? (i := 152) rfl, rfl⟩, ⟨by decide, by decide⟩, by decide, by decide⟩
set_option maxRecDepth 100000 in
theorem cv_X4_readStep : CFv mX4_readStep := ⟨⟨List.mem_of_getElem? (i := 1000) rfl, rfl⟩, ⟨List.mem_of_getElem? (i := 53) rfl, rfl⟩⟩
abbrev mX4_readAgain : Mt := (yX4_readAgain, cX4_readAgain, 5, none)
set_option maxRecDepth 100000 in
theorem cf_X4_readAgain : CF mX4_readAgain 4 := ⟨⟨List.mem_of_getElem? (i := 1007) rfl, rfl⟩, ⟨List.mem_of_getElem? (i := 152) rfl, rfl⟩, ⟨by decide, by decide⟩, by decide, by decide⟩
set_option maxRecDepth 100000 in
theorem cv_X4_readAgain : CFv mX4_readAgain := ⟨⟨List.mem_of_getElem? (i := 1006) rfl, rfl⟩, ⟨List.mem_of_getElem? (i := 54) rfl, rfl⟩⟩
abbrev mX4_carryOut : Mt := (yX4_carryOut, cX4_carryOut, 7, none)
set_option maxRecDepth 100000 in
theorem cf_X4_carryOut : CF mX4_carryOut 4 := ⟨⟨List.mem_of_getElem? (i := 1014) rfl, rfl⟩, ⟨List.mem_of_getElem? (i := 152) rfl, rfl⟩, ⟨by decide, by decide⟩, by decide, by decide⟩
set_option maxRecDepth 100000 in
theorem cv_X4_carryOut : CFv mX4_carryOut := ⟨⟨List.mem_of_getElem? (i := 1013) rfl, rfl⟩, ⟨List.mem_of_getElem? (i := 55) rfl, rfl⟩⟩
abbrev mX4_isDone : Mt := (yX4_isDone, cX4_isDone, 4, (some .boolean))
set_option maxRecDepth 100000 in
theorem cf_X4_isDone : CF mX4_isDone 4 := ⟨⟨List.mem_of_getElem? (i := 1017) rfl, rfl⟩, ⟨List.mem_of_getElem? (i := 152) rfl, rfl⟩, ⟨by decide, by decide⟩, by decide, by decide⟩
set_option maxRecDepth 100000 in
theorem cs_X4_isDone : InT (.static yX4_isDone) := ⟨List.mem_of_getElem? (i := 1016) rfl, rfl⟩
abbrev mX0_give : Mt := (yX0_give, cX0_give, 2, (some .boolean))
set_option maxRecDepth 100000 in
theorem cf_X0_give : CF mX0_give 1 := ⟨⟨List.mem_of_getElem? (i := 1021) rfl, rfl⟩, ⟨List.mem_of_getElem? (i := 149) rfl, rfl⟩, ⟨by decide, by decide⟩, by decide, by decide⟩
set_option maxRecDepth 100000 in
theorem cv_X0_give : CFv mX0_give := ⟨⟨List.mem_of_getElem? (i := 1020) rfl, rfl⟩, ⟨List.mem_of_getElem? (i := 56) rfl, rfl⟩⟩
abbrev mX0_giveBack : Mt := (yX0_giveBack, cX0_giveBack, 2, (some .boolean))
set_option maxRecDepth 100000 in
theorem cf_X0_giveBack : CF mX0_giveBack 1 := ⟨⟨List.mem_of_getElem? (i := 1025) rfl, rfl⟩, ⟨List.mem_of_getElem? (i := 149) rfl, rfl⟩, ⟨by decide, by decide⟩, by decide, by decide⟩
set_option maxRecDepth 100000 in
theorem cv_X0_giveBack : CFv mX0_giveBack := ⟨⟨List.mem_of_getElem? (i := 1024) rfl, rfl⟩, ⟨List.mem_of_getElem? (i := 57) rfl, rfl⟩⟩
abbrev mX0_lapse : Mt := (yX0_lapse, cX0_lapse, 3, (some .boolean))
set_option maxRecDepth 100000 in
theorem cf_X0_lapse : CF mX0_lapse 1 := ⟨⟨List.mem_of_getElem? (i := 1029) rfl, rfl⟩, ⟨List.mem_of_getElem? (i := 149) rfl, rfl⟩, ⟨by decide, by decide⟩, by decide, by decide⟩
set_option maxRecDepth 100000 in
theorem cv_X0_lapse : CFv mX0_lapse := ⟨⟨List.mem_of_getElem? (i := 1028) rfl, rfl⟩, ⟨List.mem_of_getElem? (i := 58) rfl, rfl⟩⟩
abbrev mX0_cure : Mt := (yX0_cure, cX0_cure, 3, (some .boolean))
set_option maxRecDepth 100000 in
theorem cf_X0_cure : CF mX0_cure 2 := ⟨⟨List.mem_of_getElem? (i := 1033) rfl, rfl⟩, ⟨List.mem_of_getElem? (i := 149) rfl, rfl⟩, ⟨by decide, by decide⟩, by decide, by decide⟩
set_option maxRecDepth 100000 in
theorem cv_X0_cure : CFv mX0_cure := ⟨⟨List.mem_of_getElem? (i := 1032) rfl, rfl⟩, ⟨List.mem_of_getElem? (i := 59) rfl, rfl⟩⟩
abbrev mX0_isUsed : Mt := (yX0_isUsed, cX0_isUsed, 2, (some .boolean))
set_option maxRecDepth 100000 in
theorem cf_X0_isUsed : CF mX0_isUsed 1 := ⟨⟨List.mem_of_getElem? (i := 1038) rfl, rfl⟩, ⟨List.mem_of_getElem? (i := 149) rfl, rfl⟩, ⟨by decide, by decide⟩, by decide, by decide⟩
set_option maxRecDepth 100000 in
theorem cv_X0_isUsed : CFv mX0_isUsed := ⟨⟨List.mem_of_getElem? (i := 1037) rfl, rfl⟩, ⟨List.mem_of_getElem? (i := 60) rfl, rfl⟩⟩
abbrev mX0_die : Mt := (yX0_die, cX0_die, 2, (some .boolean))
set_option maxRecDepth 100000 in
theorem cf_X0_die : CF mX0_die 1 := ⟨⟨List.mem_of_getElem? (i := 1042) rfl, rfl⟩, ⟨List.mem_of_getElem? (i := 149) rfl, rfl⟩, ⟨by decide, by decide⟩, by decide, by decide⟩
set_option maxRecDepth 100000 in
theorem cv_X0_die : CFv mX0_die := ⟨⟨List.mem_of_getElem? (i := 1041) rfl, rfl⟩, ⟨List.mem_of_getElem? (i := 61) rfl, rfl⟩⟩
abbrev mX0_passDay : Mt := (yX0_passDay, cX0_passDay, 2, (some .boolean))
set_option maxRecDepth 100000 in
theorem cf_X0_passDay : CF mX0_passDay 0 := ⟨⟨List.mem_of_getElem? (i := 1046) rfl, rfl⟩, ⟨List.mem_of_getElem? (i := 149) rfl, rfl⟩, ⟨by decide, by decide⟩, by decide, by decide⟩
set_option maxRecDepth 100000 in
theorem cv_X0_passDay : CFv mX0_passDay := ⟨⟨List.mem_of_getElem? (i := 1045) rfl, rfl⟩, ⟨List.mem_of_getElem? (i := 62) rfl, rfl⟩⟩
abbrev mX10_seen : Mt := (yX10_seen, cX10_seen, 3, (some .int))
set_option maxRecDepth 100000 in
theorem cf_X10_seen : CF mX10_seen 1 := ⟨⟨List.mem_of_getElem? (i := 1055) rfl, rfl⟩, ⟨List.mem_of_getElem? (i := 147) rfl, rfl⟩, ⟨by decide, by decide⟩, by decide, by decide⟩
set_option maxRecDepth 100000 in
theorem cv_X10_seen : CFv mX10_seen := ⟨⟨List.mem_of_getElem? (i := 1053) rfl, rfl⟩, ⟨List.mem_of_getElem? (i := 1054) rfl, rfl⟩⟩
abbrev mX6_read : Mt := (yX6_read, cX6_read, 4, none)
set_option maxRecDepth 100000 in
theorem cf_X6_read : CF mX6_read 2 := ⟨⟨List.mem_of_getElem? (i := 1059) rfl, rfl⟩, ⟨List.mem_of_getElem? (i := 157) rfl, rfl⟩, ⟨by decide, by decide⟩, by decide, by decide⟩
set_option maxRecDepth 100000 in
theorem cv_X6_read : CFv mX6_read := ⟨⟨List.mem_of_getElem? (i := 1058) rfl, rfl⟩, ⟨List.mem_of_getElem? (i := 63) rfl, rfl⟩⟩
abbrev mX6_readLine : Mt := (yX6_readLine, cX6_readLine, 4, none)
set_option maxRecDepth 100000 in
theorem cf_X6_readLine : CF mX6_readLine 2 := ⟨⟨List.mem_of_getElem? (i := 1065) rfl, rfl⟩, ⟨List.mem_of_getElem? (i := 157) rfl, rfl⟩, ⟨by decide, by decide⟩, by decide, by decide⟩
set_option maxRecDepth 100000 in
theorem cv_X6_readLine : CFv mX6_readLine := ⟨⟨List.mem_of_getElem? (i := 1064) rfl, rfl⟩, ⟨List.mem_of_getElem? (i := 64) rfl, rfl⟩⟩
abbrev mX1_hasRelic : Mt := (yX1_hasRelic, cX1_hasRelic, 2, (some .boolean))
set_option maxRecDepth 100000 in
theorem cf_X1_hasRelic : CF mX1_hasRelic 1 := ⟨⟨List.mem_of_getElem? (i := 1070) rfl, rfl⟩, ⟨List.mem_of_getElem? (i := 150) rfl, rfl⟩, ⟨by decide, by decide⟩, by decide, by decide⟩
set_option maxRecDepth 100000 in
theorem cv_X1_hasRelic : CFv mX1_hasRelic := ⟨⟨List.mem_of_getElem? (i := 1069) rfl, rfl⟩, ⟨List.mem_of_getElem? (i := 65) rfl, rfl⟩⟩
abbrev mX10_told : Mt := (yX10_told, cX10_told, 2, (some .int))
set_option maxRecDepth 100000 in
theorem cf_X10_told : CF mX10_told 1 := ⟨⟨List.mem_of_getElem? (i := 1079) rfl, rfl⟩, ⟨List.mem_of_getElem? (i := 147) rfl, rfl⟩, ⟨by decide, by decide⟩, by decide, by decide⟩
set_option maxRecDepth 100000 in
theorem cv_X10_told : CFv mX10_told := ⟨⟨List.mem_of_getElem? (i := 1077) rfl, rfl⟩, ⟨List.mem_of_getElem? (i := 1078) rfl, rfl⟩⟩
abbrev mX0_powerOfAll : Mt := (yX0_powerOfAll, cX0_powerOfAll, 3, (some .int))
set_option maxRecDepth 100000 in
theorem cf_X0_powerOfAll : CF mX0_powerOfAll 0 := ⟨⟨List.mem_of_getElem? (i := 1083) rfl, rfl⟩, ⟨List.mem_of_getElem? (i := 149) rfl, rfl⟩, ⟨by decide, by decide⟩, by decide, by decide⟩
set_option maxRecDepth 100000 in
theorem cv_X0_powerOfAll : CFv mX0_powerOfAll := ⟨⟨List.mem_of_getElem? (i := 1082) rfl, rfl⟩, ⟨List.mem_of_getElem? (i := 66) rfl, rfl⟩⟩
abbrev mX0_powerOf : Mt := (yX0_powerOf, cX0_powerOf, 2, (some .int))
set_option maxRecDepth 100000 in
theorem cf_X0_powerOf : CF mX0_powerOf 1 := ⟨⟨List.mem_of_getElem? (i := 1087) rfl, rfl⟩, ⟨List.mem_of_getElem? (i := 149) rfl, rfl⟩, ⟨by decide, by decide⟩, by decide, by decide⟩
set_option maxRecDepth 100000 in
theorem cv_X0_powerOf : CFv mX0_powerOf := ⟨⟨List.mem_of_getElem? (i := 1086) rfl, rfl⟩, ⟨List.mem_of_getElem? (i := 67) rfl, rfl⟩⟩
abbrev mX0_powerIn : Mt := (yX0_powerIn, cX0_powerIn, 3, (some .int))
set_option maxRecDepth 100000 in
theorem cf_X0_powerIn : CF mX0_powerIn 2 := ⟨⟨List.mem_of_getElem? (i := 1091) rfl, rfl⟩, ⟨List.mem_of_getElem? (i := 149) rfl, rfl⟩, ⟨by decide, by decide⟩, by decide, by decide⟩
set_option maxRecDepth 100000 in
theorem cv_X0_powerIn : CFv mX0_powerIn := ⟨⟨List.mem_of_getElem? (i := 1090) rfl, rfl⟩, ⟨List.mem_of_getElem? (i := 68) rfl, rfl⟩⟩
abbrev mX10_sister : Mt := (yX10_sister, cX10_sister, 3, (some .int))
set_option maxRecDepth 100000 in
theorem cf_X10_sister : CF mX10_sister 2 := ⟨⟨List.mem_of_getElem? (i := 1099) rfl, rfl⟩, ⟨List.mem_of_getElem? (i := 147) rfl, rfl⟩, ⟨by decide, by decide⟩, by decide, by decide⟩
set_option maxRecDepth 100000 in
theorem cv_X10_sister : CFv mX10_sister := ⟨⟨List.mem_of_getElem? (i := 1097) rfl, rfl⟩, ⟨List.mem_of_getElem? (i := 1098) rfl, rfl⟩⟩
abbrev mX10_needElement : Mt := (yX10_needElement, cX10_needElement, 2, none)
set_option maxRecDepth 100000 in
theorem cf_X10_needElement : CF mX10_needElement 1 := ⟨⟨List.mem_of_getElem? (i := 1104) rfl, rfl⟩, ⟨List.mem_of_getElem? (i := 147) rfl, rfl⟩, ⟨by decide, by decide⟩, by decide, by decide⟩
set_option maxRecDepth 100000 in
theorem cv_X10_needElement : CFv mX10_needElement := ⟨⟨List.mem_of_getElem? (i := 1103) rfl, rfl⟩, ⟨List.mem_of_getElem? (i := 69) rfl, rfl⟩⟩
abbrev mX10_relic : Mt := (yX10_relic, cX10_relic, 3, (some .int))
set_option maxRecDepth 100000 in
theorem cf_X10_relic : CF mX10_relic 2 := ⟨⟨List.mem_of_getElem? (i := 1128) rfl, rfl⟩, ⟨List.mem_of_getElem? (i := 147) rfl, rfl⟩, ⟨by decide, by decide⟩, by decide, by decide⟩
set_option maxRecDepth 100000 in
theorem cv_X10_relic : CFv mX10_relic := ⟨⟨List.mem_of_getElem? (i := 1126) rfl, rfl⟩, ⟨List.mem_of_getElem? (i := 1127) rfl, rfl⟩⟩
abbrev mX10_openPilgrimsOf : Mt := (yX10_openPilgrimsOf, cX10_openPilgrimsOf, 4, (some .int))
set_option maxRecDepth 100000 in
theorem cf_X10_openPilgrimsOf : CF mX10_openPilgrimsOf 1 := ⟨⟨List.mem_of_getElem? (i := 1134) rfl, rfl⟩, ⟨List.mem_of_getElem? (i := 147) rfl, rfl⟩, ⟨by decide, by decide⟩, by decide, by decide⟩
set_option maxRecDepth 100000 in
theorem cv_X10_openPilgrimsOf : CFv mX10_openPilgrimsOf := ⟨⟨List.mem_of_getElem? (i := 1133) rfl, rfl⟩, ⟨List.mem_of_getElem? (i := 70) rfl, rfl⟩⟩
abbrev mX10_pilgrim : Mt := (yX10_pilgrim, cX10_pilgrim, 3, (some .int))
set_option maxRecDepth 100000 in
theorem cf_X10_pilgrim : CF mX10_pilgrim 2 := ⟨⟨List.mem_of_getElem? (i := 1143) rfl, rfl⟩, ⟨List.mem_of_getElem? (i := 147) rfl, rfl⟩, ⟨by decide, by decide⟩, by decide, by decide⟩
set_option maxRecDepth 100000 in
theorem cv_X10_pilgrim : CFv mX10_pilgrim := ⟨⟨List.mem_of_getElem? (i := 1141) rfl, rfl⟩, ⟨List.mem_of_getElem? (i := 1142) rfl, rfl⟩⟩
abbrev mX1_hasPilgrim : Mt := (yX1_hasPilgrim, cX1_hasPilgrim, 2, (some .boolean))
set_option maxRecDepth 100000 in
theorem cf_X1_hasPilgrim : CF mX1_hasPilgrim 1 := ⟨⟨List.mem_of_getElem? (i := 1147) rfl, rfl⟩, ⟨List.mem_of_getElem? (i := 150) rfl, rfl⟩, ⟨by decide, by decide⟩, by decide, by decide⟩
set_option maxRecDepth 100000 in
theorem cv_X1_hasPilgrim : CFv mX1_hasPilgrim := ⟨⟨List.mem_of_getElem? (i := 1146) rfl, rfl⟩, ⟨List.mem_of_getElem? (i := 71) rfl, rfl⟩⟩
abbrev mX10_would : Mt := (yX10_would, cX10_would, 10, (some .int))
set_option maxRecDepth 100000 in
theorem cf_X10_would : CF mX10_would 8 := ⟨⟨List.mem_of_getElem? (i := 1155) rfl, rfl⟩, ⟨List.mem_of_getElem? (i := 147) rfl, rfl⟩, ⟨by decide, by decide⟩, by decide, by decide⟩
set_option maxRecDepth 100000 in
theorem cv_X10_would : CFv mX10_would := ⟨⟨List.mem_of_getElem? (i := 1153) rfl, rfl⟩, ⟨List.mem_of_getElem? (i := 1154) rfl, rfl⟩⟩
abbrev mX10_can : Mt := (yX10_can, cX10_can, 3, (some .boolean))
set_option maxRecDepth 100000 in
theorem cf_X10_can : CF mX10_can 2 := ⟨⟨List.mem_of_getElem? (i := 1163) rfl, rfl⟩, ⟨List.mem_of_getElem? (i := 147) rfl, rfl⟩, ⟨by decide, by decide⟩, by decide, by decide⟩
set_option maxRecDepth 100000 in
theorem cv_X10_can : CFv mX10_can := ⟨⟨List.mem_of_getElem? (i := 1161) rfl, rfl⟩, ⟨List.mem_of_getElem? (i := 1162) rfl, rfl⟩⟩
abbrev mX10_when : Mt := (yX10_when, cX10_when, 4, (some .int))
set_option maxRecDepth 100000 in
theorem cf_X10_when : CF mX10_when 2 := ⟨⟨List.mem_of_getElem? (i := 1171) rfl, rfl⟩, ⟨List.mem_of_getElem? (i := 147) rfl, rfl⟩, ⟨by decide, by decide⟩, by decide, by decide⟩
set_option maxRecDepth 100000 in
theorem cv_X10_when : CFv mX10_when := ⟨⟨List.mem_of_getElem? (i := 1169) rfl, rfl⟩, ⟨List.mem_of_getElem? (i := 1170) rfl, rfl⟩⟩
abbrev mX10_ahead : Mt := (yX10_ahead, cX10_ahead, 4, (some .int))
set_option maxRecDepth 100000 in
theorem cf_X10_ahead : CF mX10_ahead 3 := ⟨⟨List.mem_of_getElem? (i := 1178) rfl, rfl⟩, ⟨List.mem_of_getElem? (i := 147) rfl, rfl⟩, ⟨by decide, by decide⟩, by decide, by decide⟩
set_option maxRecDepth 100000 in
theorem cv_X10_ahead : CFv mX10_ahead := ⟨⟨List.mem_of_getElem? (i := 1176) rfl, rfl⟩, ⟨List.mem_of_getElem? (i := 1177) rfl, rfl⟩⟩
abbrev mX0_powerIfLapsed : Mt := (yX0_powerIfLapsed, cX0_powerIfLapsed, 3, (some .int))
set_option maxRecDepth 100000 in
theorem cf_X0_powerIfLapsed : CF mX0_powerIfLapsed 2 := ⟨⟨List.mem_of_getElem? (i := 1183) rfl, rfl⟩, ⟨List.mem_of_getElem? (i := 149) rfl, rfl⟩, ⟨by decide, by decide⟩, by decide, by decide⟩
set_option maxRecDepth 100000 in
theorem cv_X0_powerIfLapsed : CFv mX0_powerIfLapsed := ⟨⟨List.mem_of_getElem? (i := 1182) rfl, rfl⟩, ⟨List.mem_of_getElem? (i := 72) rfl, rfl⟩⟩
abbrev mX10_matched : Mt := (yX10_matched, cX10_matched, 2, (some .int))
set_option maxRecDepth 100000 in
theorem cf_X10_matched : CF mX10_matched 1 := ⟨⟨List.mem_of_getElem? (i := 1190) rfl, rfl⟩, ⟨List.mem_of_getElem? (i := 147) rfl, rfl⟩, ⟨by decide, by decide⟩, by decide, by decide⟩
set_option maxRecDepth 100000 in
theorem cv_X10_matched : CFv mX10_matched := ⟨⟨List.mem_of_getElem? (i := 1188) rfl, rfl⟩, ⟨List.mem_of_getElem? (i := 1189) rfl, rfl⟩⟩
abbrev mX10_lapsed : Mt := (yX10_lapsed, cX10_lapsed, 2, (some .int))
set_option maxRecDepth 100000 in
theorem cf_X10_lapsed : CF mX10_lapsed 1 := ⟨⟨List.mem_of_getElem? (i := 1197) rfl, rfl⟩, ⟨List.mem_of_getElem? (i := 147) rfl, rfl⟩, ⟨by decide, by decide⟩, by decide, by decide⟩
set_option maxRecDepth 100000 in
theorem cv_X10_lapsed : CFv mX10_lapsed := ⟨⟨List.mem_of_getElem? (i := 1195) rfl, rfl⟩, ⟨List.mem_of_getElem? (i := 1196) rfl, rfl⟩⟩
abbrev mX7_weigh : Mt := (yX7_weigh, cX7_weigh, 5, none)
set_option maxRecDepth 100000 in
theorem cf_X7_weigh : CF mX7_weigh 2 := ⟨⟨List.mem_of_getElem? (i := 1201) rfl, rfl⟩, ⟨List.mem_of_getElem? (i := 153) rfl, rfl⟩, ⟨by decide, by decide⟩, by decide, by decide⟩
set_option maxRecDepth 100000 in
theorem cv_X7_weigh : CFv mX7_weigh := ⟨⟨List.mem_of_getElem? (i := 1200) rfl, rfl⟩, ⟨List.mem_of_getElem? (i := 73) rfl, rfl⟩⟩
abbrev mX7_sets : Mt := (yX7_sets, cX7_sets, 5, (some .int))
set_option maxRecDepth 100000 in
theorem cf_X7_sets : CF mX7_sets 2 := ⟨⟨List.mem_of_getElem? (i := 1208) rfl, rfl⟩, ⟨List.mem_of_getElem? (i := 153) rfl, rfl⟩, ⟨by decide, by decide⟩, by decide, by decide⟩
set_option maxRecDepth 100000 in
theorem cv_X7_sets : CFv mX7_sets := ⟨⟨List.mem_of_getElem? (i := 1207) rfl, rfl⟩, ⟨List.mem_of_getElem? (i := 74) rfl, rfl⟩⟩
abbrev mX7_isPossible : Mt := (yX7_isPossible, cX7_isPossible, 2, (some .boolean))
set_option maxRecDepth 100000 in
theorem cf_X7_isPossible : CF mX7_isPossible 1 := ⟨⟨List.mem_of_getElem? (i := 1212) rfl, rfl⟩, ⟨List.mem_of_getElem? (i := 153) rfl, rfl⟩, ⟨by decide, by decide⟩, by decide, by decide⟩
set_option maxRecDepth 100000 in
theorem cv_X7_isPossible : CFv mX7_isPossible := ⟨⟨List.mem_of_getElem? (i := 1211) rfl, rfl⟩, ⟨List.mem_of_getElem? (i := 75) rfl, rfl⟩⟩
abbrev mX7_firstSet : Mt := (yX7_firstSet, cX7_firstSet, 2, (some .int))
set_option maxRecDepth 100000 in
theorem cf_X7_firstSet : CF mX7_firstSet 0 := ⟨⟨List.mem_of_getElem? (i := 1216) rfl, rfl⟩, ⟨List.mem_of_getElem? (i := 153) rfl, rfl⟩, ⟨by decide, by decide⟩, by decide, by decide⟩
set_option maxRecDepth 100000 in
theorem cv_X7_firstSet : CFv mX7_firstSet := ⟨⟨List.mem_of_getElem? (i := 1215) rfl, rfl⟩, ⟨List.mem_of_getElem? (i := 76) rfl, rfl⟩⟩
abbrev mX7_sureOnes : Mt := (yX7_sureOnes, cX7_sureOnes, 2, (some .int))
set_option maxRecDepth 100000 in
theorem cf_X7_sureOnes : CF mX7_sureOnes 0 := ⟨⟨List.mem_of_getElem? (i := 1220) rfl, rfl⟩, ⟨List.mem_of_getElem? (i := 153) rfl, rfl⟩, ⟨by decide, by decide⟩, by decide, by decide⟩
set_option maxRecDepth 100000 in
theorem cv_X7_sureOnes : CFv mX7_sureOnes := ⟨⟨List.mem_of_getElem? (i := 1219) rfl, rfl⟩, ⟨List.mem_of_getElem? (i := 77) rfl, rfl⟩⟩
abbrev mX10_ask : Mt := (yX10_ask, cX10_ask, 6, (some .int))
set_option maxRecDepth 100000 in
theorem cf_X10_ask : CF mX10_ask 1 := ⟨⟨List.mem_of_getElem? (i := 1228) rfl, rfl⟩, ⟨List.mem_of_getElem? (i := 147) rfl, rfl⟩, ⟨by decide, by decide⟩, by decide, by decide⟩
set_option maxRecDepth 100000 in
theorem cv_X10_ask : CFv mX10_ask := ⟨⟨List.mem_of_getElem? (i := 1226) rfl, rfl⟩, ⟨List.mem_of_getElem? (i := 1227) rfl, rfl⟩⟩
abbrev mX7_leftAtWorst : Mt := (yX7_leftAtWorst, cX7_leftAtWorst, 4, (some .int))
set_option maxRecDepth 100000 in
theorem cf_X7_leftAtWorst : CF mX7_leftAtWorst 2 := ⟨⟨List.mem_of_getElem? (i := 1232) rfl, rfl⟩, ⟨List.mem_of_getElem? (i := 153) rfl, rfl⟩, ⟨by decide, by decide⟩, by decide, by decide⟩
set_option maxRecDepth 100000 in
theorem cv_X7_leftAtWorst : CFv mX7_leftAtWorst := ⟨⟨List.mem_of_getElem? (i := 1231) rfl, rfl⟩, ⟨List.mem_of_getElem? (i := 78) rfl, rfl⟩⟩
abbrev mX10_best : Mt := (yX10_best, cX10_best, 7, (some .long))
set_option maxRecDepth 100000 in
theorem cf_X10_best : CF mX10_best 3 := ⟨⟨List.mem_of_getElem? (i := 1241) rfl, rfl⟩, ⟨List.mem_of_getElem? (i := 147) rfl, rfl⟩, ⟨by decide, by decide⟩, by decide, by decide⟩
set_option maxRecDepth 100000 in
theorem cv_X10_best : CFv mX10_best := ⟨⟨List.mem_of_getElem? (i := 1239) rfl, rfl⟩, ⟨List.mem_of_getElem? (i := 1240) rfl, rfl⟩⟩
abbrev mX10_bestMean : Mt := (yX10_bestMean, cX10_bestMean, 11, (some .long))
set_option maxRecDepth 100000 in
theorem cf_X10_bestMean : CF mX10_bestMean 5 := ⟨⟨List.mem_of_getElem? (i := 1245) rfl, rfl⟩, ⟨List.mem_of_getElem? (i := 147) rfl, rfl⟩, ⟨by decide, by decide⟩, by decide, by decide⟩
set_option maxRecDepth 100000 in
theorem cv_X10_bestMean : CFv mX10_bestMean := ⟨⟨List.mem_of_getElem? (i := 1244) rfl, rfl⟩, ⟨List.mem_of_getElem? (i := 79) rfl, rfl⟩⟩
abbrev mJ9_max_f86c9 : Mt := (yJ9_max_f86c9, cJ9_max_f86c9, 4, (some .long))
set_option maxRecDepth 100000 in
theorem cf_J9_max_f86c9 : CF mJ9_max_f86c9 2 := ⟨⟨List.mem_of_getElem? (i := 1249) rfl, rfl⟩, ⟨List.mem_of_getElem? (i := 159) rfl, rfl⟩, ⟨by decide, by decide⟩, by decide, by decide⟩
set_option maxRecDepth 100000 in
theorem cs_J9_max_f86c9 : InT (.static yJ9_max_f86c9) := ⟨List.mem_of_getElem? (i := 1248) rfl, rfl⟩
abbrev mX10_leastTerms : Mt := (yX10_leastTerms, cX10_leastTerms, 7, (some .long))
set_option maxRecDepth 100000 in
theorem cf_X10_leastTerms : CF mX10_leastTerms 3 := ⟨⟨List.mem_of_getElem? (i := 1252) rfl, rfl⟩, ⟨List.mem_of_getElem? (i := 147) rfl, rfl⟩, ⟨by decide, by decide⟩, by decide, by decide⟩
set_option maxRecDepth 100000 in
theorem cs_X10_leastTerms : InT (.static yX10_leastTerms) := ⟨List.mem_of_getElem? (i := 1251) rfl, rfl⟩
abbrev mX10_without : Mt := (yX10_without, cX10_without, 7, (some .long))
set_option maxRecDepth 100000 in
theorem cf_X10_without : CF mX10_without 3 := ⟨⟨List.mem_of_getElem? (i := 1260) rfl, rfl⟩, ⟨List.mem_of_getElem? (i := 147) rfl, rfl⟩, ⟨by decide, by decide⟩, by decide, by decide⟩
set_option maxRecDepth 100000 in
theorem cv_X10_without : CFv mX10_without := ⟨⟨List.mem_of_getElem? (i := 1258) rfl, rfl⟩, ⟨List.mem_of_getElem? (i := 1259) rfl, rfl⟩⟩
abbrev mX10_ring : Mt := (yX10_ring, cX10_ring, 2, (some .int))
set_option maxRecDepth 100000 in
theorem cf_X10_ring : CF mX10_ring 1 := ⟨⟨List.mem_of_getElem? (i := 1267) rfl, rfl⟩, ⟨List.mem_of_getElem? (i := 147) rfl, rfl⟩, ⟨by decide, by decide⟩, by decide, by decide⟩
set_option maxRecDepth 100000 in
theorem cv_X10_ring : CFv mX10_ring := ⟨⟨List.mem_of_getElem? (i := 1265) rfl, rfl⟩, ⟨List.mem_of_getElem? (i := 1266) rfl, rfl⟩⟩
abbrev mX1_ringOf : Mt := (yX1_ringOf, cX1_ringOf, 4, (some .int))
set_option maxRecDepth 100000 in
theorem cf_X1_ringOf : CF mX1_ringOf 1 := ⟨⟨List.mem_of_getElem? (i := 1271) rfl, rfl⟩, ⟨List.mem_of_getElem? (i := 150) rfl, rfl⟩, ⟨by decide, by decide⟩, by decide, by decide⟩
set_option maxRecDepth 100000 in
theorem cv_X1_ringOf : CFv mX1_ringOf := ⟨⟨List.mem_of_getElem? (i := 1270) rfl, rfl⟩, ⟨List.mem_of_getElem? (i := 80) rfl, rfl⟩⟩
abbrev mX10_follows : Mt := (yX10_follows, cX10_follows, 5, (some .int))
set_option maxRecDepth 100000 in
theorem cf_X10_follows : CF mX10_follows 2 := ⟨⟨List.mem_of_getElem? (i := 1278) rfl, rfl⟩, ⟨List.mem_of_getElem? (i := 147) rfl, rfl⟩, ⟨by decide, by decide⟩, by decide, by decide⟩
set_option maxRecDepth 100000 in
theorem cv_X10_follows : CFv mX10_follows := ⟨⟨List.mem_of_getElem? (i := 1276) rfl, rfl⟩, ⟨List.mem_of_getElem? (i := 1277) rfl, rfl⟩⟩
abbrev mX1_walk : Mt := (yX1_walk, cX1_walk, 5, (some .int))
set_option maxRecDepth 100000 in
theorem cf_X1_walk : CF mX1_walk 2 := ⟨⟨List.mem_of_getElem? (i := 1283) rfl, rfl⟩, ⟨List.mem_of_getElem? (i := 150) rfl, rfl⟩, ⟨by decide, by decide⟩, by decide, by decide⟩
set_option maxRecDepth 100000 in
theorem cv_X1_walk : CFv mX1_walk := ⟨⟨List.mem_of_getElem? (i := 1282) rfl, rfl⟩, ⟨List.mem_of_getElem? (i := 81) rfl, rfl⟩⟩
abbrev mX10_tempted : Mt := (yX10_tempted, cX10_tempted, 9, (some .int))
set_option maxRecDepth 100000 in
theorem cf_X10_tempted : CF mX10_tempted 3 := ⟨⟨List.mem_of_getElem? (i := 1290) rfl, rfl⟩, ⟨List.mem_of_getElem? (i := 147) rfl, rfl⟩, ⟨by decide, by decide⟩, by decide, by decide⟩
set_option maxRecDepth 100000 in
theorem cv_X10_tempted : CFv mX10_tempted := ⟨⟨List.mem_of_getElem? (i := 1288) rfl, rfl⟩, ⟨List.mem_of_getElem? (i := 1289) rfl, rfl⟩⟩
abbrev mX10_isRest : Mt := (yX10_isRest, cX10_isRest, 4, (some .boolean))
set_option maxRecDepth 100000 in
theorem cf_X10_isRest : CF mX10_isRest 4 := ⟨⟨List.mem_of_getElem? (i := 1293) rfl, rfl⟩, ⟨List.mem_of_getElem? (i := 147) rfl, rfl⟩, ⟨by decide, by decide⟩, by decide, by decide⟩
set_option maxRecDepth 100000 in
theorem cs_X10_isRest : InT (.static yX10_isRest) := ⟨List.mem_of_getElem? (i := 1292) rfl, rfl⟩
abbrev mX10_has : Mt := (yX10_has, cX10_has, 4, (some .int))
set_option maxRecDepth 100000 in
theorem cf_X10_has : CF mX10_has 4 := ⟨⟨List.mem_of_getElem? (i := 1296) rfl, rfl⟩, ⟨List.mem_of_getElem? (i := 147) rfl, rfl⟩, ⟨by decide, by decide⟩, by decide, by decide⟩
set_option maxRecDepth 100000 in
theorem cs_X10_has : InT (.static yX10_has) := ⟨List.mem_of_getElem? (i := 1295) rfl, rfl⟩
abbrev mX10_alms : Mt := (yX10_alms, cX10_alms, 5, (some .int))
set_option maxRecDepth 100000 in
theorem cf_X10_alms : CF mX10_alms 3 := ⟨⟨List.mem_of_getElem? (i := 1303) rfl, rfl⟩, ⟨List.mem_of_getElem? (i := 147) rfl, rfl⟩, ⟨by decide, by decide⟩, by decide, by decide⟩
set_option maxRecDepth 100000 in
theorem cv_X10_alms : CFv mX10_alms := ⟨⟨List.mem_of_getElem? (i := 1301) rfl, rfl⟩, ⟨List.mem_of_getElem? (i := 1302) rfl, rfl⟩⟩
abbrev mX10_almsUpTo : Mt := (yX10_almsUpTo, cX10_almsUpTo, 5, (some .int))
set_option maxRecDepth 100000 in
theorem cf_X10_almsUpTo : CF mX10_almsUpTo 2 := ⟨⟨List.mem_of_getElem? (i := 1307) rfl, rfl⟩, ⟨List.mem_of_getElem? (i := 147) rfl, rfl⟩, ⟨by decide, by decide⟩, by decide, by decide⟩
set_option maxRecDepth 100000 in
theorem cv_X10_almsUpTo : CFv mX10_almsUpTo := ⟨⟨List.mem_of_getElem? (i := 1306) rfl, rfl⟩, ⟨List.mem_of_getElem? (i := 82) rfl, rfl⟩⟩
abbrev mX10_strongest : Mt := (yX10_strongest, cX10_strongest, 6, (some .int))
set_option maxRecDepth 100000 in
theorem cf_X10_strongest : CF mX10_strongest 1 := ⟨⟨List.mem_of_getElem? (i := 1314) rfl, rfl⟩, ⟨List.mem_of_getElem? (i := 147) rfl, rfl⟩, ⟨by decide, by decide⟩, by decide, by decide⟩
set_option maxRecDepth 100000 in
theorem cv_X10_strongest : CFv mX10_strongest := ⟨⟨List.mem_of_getElem? (i := 1312) rfl, rfl⟩, ⟨List.mem_of_getElem? (i := 1313) rfl, rfl⟩⟩
abbrev mX10_hopeless : Mt := (yX10_hopeless, cX10_hopeless, 4, (some .int))
set_option maxRecDepth 100000 in
theorem cf_X10_hopeless : CF mX10_hopeless 1 := ⟨⟨List.mem_of_getElem? (i := 1321) rfl, rfl⟩, ⟨List.mem_of_getElem? (i := 147) rfl, rfl⟩, ⟨by decide, by decide⟩, by decide, by decide⟩
set_option maxRecDepth 100000 in
theorem cv_X10_hopeless : CFv mX10_hopeless := ⟨⟨List.mem_of_getElem? (i := 1319) rfl, rfl⟩, ⟨List.mem_of_getElem? (i := 1320) rfl, rfl⟩⟩
abbrev mX10_eldest : Mt := (yX10_eldest, cX10_eldest, 5, (some .int))
set_option maxRecDepth 100000 in
theorem cf_X10_eldest : CF mX10_eldest 1 := ⟨⟨List.mem_of_getElem? (i := 1328) rfl, rfl⟩, ⟨List.mem_of_getElem? (i := 147) rfl, rfl⟩, ⟨by decide, by decide⟩, by decide, by decide⟩
set_option maxRecDepth 100000 in
theorem cv_X10_eldest : CFv mX10_eldest := ⟨⟨List.mem_of_getElem? (i := 1326) rfl, rfl⟩, ⟨List.mem_of_getElem? (i := 1327) rfl, rfl⟩⟩
abbrev mX10_needs : Mt := (yX10_needs, cX10_needs, 4, (some .int))
set_option maxRecDepth 100000 in
theorem cf_X10_needs : CF mX10_needs 1 := ⟨⟨List.mem_of_getElem? (i := 1335) rfl, rfl⟩, ⟨List.mem_of_getElem? (i := 147) rfl, rfl⟩, ⟨by decide, by decide⟩, by decide, by decide⟩
set_option maxRecDepth 100000 in
theorem cv_X10_needs : CFv mX10_needs := ⟨⟨List.mem_of_getElem? (i := 1333) rfl, rfl⟩, ⟨List.mem_of_getElem? (i := 1334) rfl, rfl⟩⟩
abbrev mX10_strength : Mt := (yX10_strength, cX10_strength, 4, (some .int))
set_option maxRecDepth 100000 in
theorem cf_X10_strength : CF mX10_strength 1 := ⟨⟨List.mem_of_getElem? (i := 1342) rfl, rfl⟩, ⟨List.mem_of_getElem? (i := 147) rfl, rfl⟩, ⟨by decide, by decide⟩, by decide, by decide⟩
set_option maxRecDepth 100000 in
theorem cv_X10_strength : CFv mX10_strength := ⟨⟨List.mem_of_getElem? (i := 1340) rfl, rfl⟩, ⟨List.mem_of_getElem? (i := 1341) rfl, rfl⟩⟩
abbrev mX10_weakest : Mt := (yX10_weakest, cX10_weakest, 5, (some .int))
set_option maxRecDepth 100000 in
theorem cf_X10_weakest : CF mX10_weakest 1 := ⟨⟨List.mem_of_getElem? (i := 1349) rfl, rfl⟩, ⟨List.mem_of_getElem? (i := 147) rfl, rfl⟩, ⟨by decide, by decide⟩, by decide, by decide⟩
set_option maxRecDepth 100000 in
theorem cv_X10_weakest : CFv mX10_weakest := ⟨⟨List.mem_of_getElem? (i := 1347) rfl, rfl⟩, ⟨List.mem_of_getElem? (i := 1348) rfl, rfl⟩⟩
abbrev mX10_year : Mt := (yX10_year, cX10_year, 4, (some .int))
set_option maxRecDepth 100000 in
theorem cf_X10_year : CF mX10_year 3 := ⟨⟨List.mem_of_getElem? (i := 1356) rfl, rfl⟩, ⟨List.mem_of_getElem? (i := 147) rfl, rfl⟩, ⟨by decide, by decide⟩, by decide, by decide⟩
set_option maxRecDepth 100000 in
theorem cv_X10_year : CFv mX10_year := ⟨⟨List.mem_of_getElem? (i := 1354) rfl, rfl⟩, ⟨List.mem_of_getElem? (i := 1355) rfl, rfl⟩⟩
abbrev mX9_pass : Mt := (yX9_pass, cX9_pass, 5, none)
set_option maxRecDepth 100000 in
theorem cf_X9_pass : CF mX9_pass 3 := ⟨⟨List.mem_of_getElem? (i := 1360) rfl, rfl⟩, ⟨List.mem_of_getElem? (i := 155) rfl, rfl⟩, ⟨by decide, by decide⟩, by decide, by decide⟩
set_option maxRecDepth 100000 in
theorem cv_X9_pass : CFv mX9_pass := ⟨⟨List.mem_of_getElem? (i := 1359) rfl, rfl⟩, ⟨List.mem_of_getElem? (i := 83) rfl, rfl⟩⟩
abbrev mX0_copyOf : Mt := (yX0_copyOf, cX0_copyOf, 2, none)
set_option maxRecDepth 100000 in
theorem cf_X0_copyOf : CF mX0_copyOf 1 := ⟨⟨List.mem_of_getElem? (i := 1364) rfl, rfl⟩, ⟨List.mem_of_getElem? (i := 149) rfl, rfl⟩, ⟨by decide, by decide⟩, by decide, by decide⟩
set_option maxRecDepth 100000 in
theorem cv_X0_copyOf : CFv mX0_copyOf := ⟨⟨List.mem_of_getElem? (i := 1363) rfl, rfl⟩, ⟨List.mem_of_getElem? (i := 84) rfl, rfl⟩⟩
abbrev mX9_drawLapses : Mt := (yX9_drawLapses, cX9_drawLapses, 2, none)
set_option maxRecDepth 100000 in
theorem cf_X9_drawLapses : CF mX9_drawLapses 0 := ⟨⟨List.mem_of_getElem? (i := 1369) rfl, rfl⟩, ⟨List.mem_of_getElem? (i := 155) rfl, rfl⟩, ⟨by decide, by decide⟩, by decide, by decide⟩
set_option maxRecDepth 100000 in
theorem cv_X9_drawLapses : CFv mX9_drawLapses := ⟨⟨List.mem_of_getElem? (i := 1368) rfl, rfl⟩, ⟨List.mem_of_getElem? (i := 85) rfl, rfl⟩⟩
abbrev mX9_draw : Mt := (yX9_draw, cX9_draw, 2, (some .int))
set_option maxRecDepth 100000 in
theorem cf_X9_draw : CF mX9_draw 1 := ⟨⟨List.mem_of_getElem? (i := 1375) rfl, rfl⟩, ⟨List.mem_of_getElem? (i := 155) rfl, rfl⟩, ⟨by decide, by decide⟩, by decide, by decide⟩
set_option maxRecDepth 100000 in
theorem cv_X9_draw : CFv mX9_draw := ⟨⟨List.mem_of_getElem? (i := 1374) rfl, rfl⟩, ⟨List.mem_of_getElem? (i := 86) rfl, rfl⟩⟩
abbrev mX9_drawCure : Mt := (yX9_drawCure, cX9_drawCure, 3, none)
set_option maxRecDepth 100000 in
theorem cf_X9_drawCure : CF mX9_drawCure 0 := ⟨⟨List.mem_of_getElem? (i := 1381) rfl, rfl⟩, ⟨List.mem_of_getElem? (i := 155) rfl, rfl⟩, ⟨by decide, by decide⟩, by decide, by decide⟩
set_option maxRecDepth 100000 in
theorem cv_X9_drawCure : CFv mX9_drawCure := ⟨⟨List.mem_of_getElem? (i := 1380) rfl, rfl⟩, ⟨List.mem_of_getElem? (i := 87) rfl, rfl⟩⟩
abbrev mX10_span : Mt := (yX10_span, cX10_span, 10, (some .int))
set_option maxRecDepth 100000 in
theorem cf_X10_span : CF mX10_span 5 := ⟨⟨List.mem_of_getElem? (i := 1390) rfl, rfl⟩, ⟨List.mem_of_getElem? (i := 147) rfl, rfl⟩, ⟨by decide, by decide⟩, by decide, by decide⟩
set_option maxRecDepth 100000 in
theorem cv_X10_span : CFv mX10_span := ⟨⟨List.mem_of_getElem? (i := 1388) rfl, rfl⟩, ⟨List.mem_of_getElem? (i := 1389) rfl, rfl⟩⟩
abbrev mX11_init : Mt := (yX11_init, cX11_init, 1, none)
set_option maxRecDepth 100000 in
theorem cf_X11_init : CF mX11_init 0 := ⟨⟨List.mem_of_getElem? (i := 1396) rfl, rfl⟩, ⟨List.mem_of_getElem? (i := 158) rfl, rfl⟩, ⟨by decide, by decide⟩, by decide, by decide⟩
set_option maxRecDepth 100000 in
theorem cv_X11_init : InT (.instanceMethod yX11_init) ∧ MethodName.name yX11_init = "<init>" ∧ mX11_init.2.2.2 = none := ⟨⟨List.mem_of_getElem? (i := 1395) rfl, rfl⟩, rfl, rfl⟩
abbrev mX11_tellsNothing : Mt := (yX11_tellsNothing, cX11_tellsNothing, 2, none)
set_option maxRecDepth 100000 in
theorem cf_X11_tellsNothing : CF mX11_tellsNothing 0 := ⟨⟨List.mem_of_getElem? (i := 1403) rfl, rfl⟩, ⟨List.mem_of_getElem? (i := 158) rfl, rfl⟩, ⟨by decide, by decide⟩, by decide, by decide⟩
set_option maxRecDepth 100000 in
theorem cv_X11_tellsNothing : CFv mX11_tellsNothing := ⟨⟨List.mem_of_getElem? (i := 1402) rfl, rfl⟩, ⟨List.mem_of_getElem? (i := 88) rfl, rfl⟩⟩
abbrev mX11_beginsAnew : Mt := (yX11_beginsAnew, cX11_beginsAnew, 2, none)
set_option maxRecDepth 100000 in
theorem cf_X11_beginsAnew : CF mX11_beginsAnew 0 := ⟨⟨List.mem_of_getElem? (i := 1407) rfl, rfl⟩, ⟨List.mem_of_getElem? (i := 158) rfl, rfl⟩, ⟨by decide, by decide⟩, by decide, by decide⟩
set_option maxRecDepth 100000 in
theorem cv_X11_beginsAnew : CFv mX11_beginsAnew := ⟨⟨List.mem_of_getElem? (i := 1406) rfl, rfl⟩, ⟨List.mem_of_getElem? (i := 89) rfl, rfl⟩⟩
abbrev mX11_lays : Mt := (yX11_lays, cX11_lays, 5, none)
set_option maxRecDepth 100000 in
theorem cf_X11_lays : CF mX11_lays 3 := ⟨⟨List.mem_of_getElem? (i := 1410) rfl, rfl⟩, ⟨List.mem_of_getElem? (i := 158) rfl, rfl⟩, ⟨by decide, by decide⟩, by decide, by decide⟩
set_option maxRecDepth 100000 in
theorem cs_X11_lays : InT (.static yX11_lays) := ⟨List.mem_of_getElem? (i := 1409) rfl, rfl⟩
abbrev mX11_thrown : Mt := (yX11_thrown, cX11_thrown, 1, (some .int))
set_option maxRecDepth 100000 in
theorem cf_X11_thrown : CF mX11_thrown 0 := ⟨⟨List.mem_of_getElem? (i := 1562) rfl, rfl⟩, ⟨List.mem_of_getElem? (i := 158) rfl, rfl⟩, ⟨by decide, by decide⟩, by decide, by decide⟩
set_option maxRecDepth 100000 in
theorem cv_X11_thrown : CFv mX11_thrown := ⟨⟨List.mem_of_getElem? (i := 1560) rfl, rfl⟩, ⟨List.mem_of_getElem? (i := 1561) rfl, rfl⟩⟩
abbrev mX11_feed : Mt := (yX11_feed, cX11_feed, 8, (some .int))
set_option maxRecDepth 100000 in
theorem cf_X11_feed : CF mX11_feed 5 := ⟨⟨List.mem_of_getElem? (i := 1566) rfl, rfl⟩, ⟨List.mem_of_getElem? (i := 158) rfl, rfl⟩, ⟨by decide, by decide⟩, by decide, by decide⟩
set_option maxRecDepth 100000 in
theorem cv_X11_feed : CFv mX11_feed := ⟨⟨List.mem_of_getElem? (i := 1564) rfl, rfl⟩, ⟨List.mem_of_getElem? (i := 1565) rfl, rfl⟩⟩
abbrev mX11_house : Mt := (yX11_house, cX11_house, 2, (some .int))
set_option maxRecDepth 100000 in
theorem cf_X11_house : CF mX11_house 1 := ⟨⟨List.mem_of_getElem? (i := 1570) rfl, rfl⟩, ⟨List.mem_of_getElem? (i := 158) rfl, rfl⟩, ⟨by decide, by decide⟩, by decide, by decide⟩
set_option maxRecDepth 100000 in
theorem cv_X11_house : CFv mX11_house := ⟨⟨List.mem_of_getElem? (i := 1568) rfl, rfl⟩, ⟨List.mem_of_getElem? (i := 1569) rfl, rfl⟩⟩
abbrev mX11_in : Mt := (yX11_in, cX11_in, 3, (some .boolean))
set_option maxRecDepth 100000 in
theorem cf_X11_in : CF mX11_in 3 := ⟨⟨List.mem_of_getElem? (i := 1573) rfl, rfl⟩, ⟨List.mem_of_getElem? (i := 158) rfl, rfl⟩, ⟨by decide, by decide⟩, by decide, by decide⟩
set_option maxRecDepth 100000 in
theorem cs_X11_in : InT (.static yX11_in) := ⟨List.mem_of_getElem? (i := 1572) rfl, rfl⟩
abbrev mX11_bad : Mt := (yX11_bad, cX11_bad, 4, (some .boolean))
set_option maxRecDepth 100000 in
theorem cf_X11_bad : CF mX11_bad 3 := ⟨⟨List.mem_of_getElem? (i := 1577) rfl, rfl⟩, ⟨List.mem_of_getElem? (i := 158) rfl, rfl⟩, ⟨by decide, by decide⟩, by decide, by decide⟩
set_option maxRecDepth 100000 in
theorem cv_X11_bad : CFv mX11_bad := ⟨⟨List.mem_of_getElem? (i := 1576) rfl, rfl⟩, ⟨List.mem_of_getElem? (i := 90) rfl, rfl⟩⟩
abbrev mX11_starts : Mt := (yX11_starts, cX11_starts, 2, none)
set_option maxRecDepth 100000 in
theorem cf_X11_starts : CF mX11_starts 1 := ⟨⟨List.mem_of_getElem? (i := 1581) rfl, rfl⟩, ⟨List.mem_of_getElem? (i := 158) rfl, rfl⟩, ⟨by decide, by decide⟩, by decide, by decide⟩
set_option maxRecDepth 100000 in
theorem cv_X11_starts : CFv mX11_starts := ⟨⟨List.mem_of_getElem? (i := 1580) rfl, rfl⟩, ⟨List.mem_of_getElem? (i := 91) rfl, rfl⟩⟩
abbrev mX11_blanks : Mt := (yX11_blanks, cX11_blanks, 1, none)
set_option maxRecDepth 100000 in
theorem cf_X11_blanks : CF mX11_blanks 0 := ⟨⟨List.mem_of_getElem? (i := 1585) rfl, rfl⟩, ⟨List.mem_of_getElem? (i := 158) rfl, rfl⟩, ⟨by decide, by decide⟩, by decide, by decide⟩
set_option maxRecDepth 100000 in
theorem cv_X11_blanks : CFv mX11_blanks := ⟨⟨List.mem_of_getElem? (i := 1584) rfl, rfl⟩, ⟨List.mem_of_getElem? (i := 92) rfl, rfl⟩⟩
abbrev mX11_byteAt : Mt := (yX11_byteAt, cX11_byteAt, 2, (some .int))
set_option maxRecDepth 100000 in
theorem cf_X11_byteAt : CF mX11_byteAt 1 := ⟨⟨List.mem_of_getElem? (i := 1589) rfl, rfl⟩, ⟨List.mem_of_getElem? (i := 158) rfl, rfl⟩, ⟨by decide, by decide⟩, by decide, by decide⟩
set_option maxRecDepth 100000 in
theorem cv_X11_byteAt : CFv mX11_byteAt := ⟨⟨List.mem_of_getElem? (i := 1588) rfl, rfl⟩, ⟨List.mem_of_getElem? (i := 93) rfl, rfl⟩⟩
abbrev mX11_clause : Mt := (yX11_clause, cX11_clause, 5, none)
set_option maxRecDepth 100000 in
theorem cf_X11_clause : CF mX11_clause 0 := ⟨⟨List.mem_of_getElem? (i := 1593) rfl, rfl⟩, ⟨List.mem_of_getElem? (i := 158) rfl, rfl⟩, ⟨by decide, by decide⟩, by decide, by decide⟩
set_option maxRecDepth 100000 in
theorem cv_X11_clause : CFv mX11_clause := ⟨⟨List.mem_of_getElem? (i := 1592) rfl, rfl⟩, ⟨List.mem_of_getElem? (i := 94) rfl, rfl⟩⟩
abbrev mX11_kindHere : Mt := (yX11_kindHere, cX11_kindHere, 1, (some .int))
set_option maxRecDepth 100000 in
theorem cf_X11_kindHere : CF mX11_kindHere 0 := ⟨⟨List.mem_of_getElem? (i := 1597) rfl, rfl⟩, ⟨List.mem_of_getElem? (i := 158) rfl, rfl⟩, ⟨by decide, by decide⟩, by decide, by decide⟩
set_option maxRecDepth 100000 in
theorem cv_X11_kindHere : CFv mX11_kindHere := ⟨⟨List.mem_of_getElem? (i := 1596) rfl, rfl⟩, ⟨List.mem_of_getElem? (i := 95) rfl, rfl⟩⟩
abbrev mX11_isWord : Mt := (yX11_isWord, cX11_isWord, 7, (some .boolean))
set_option maxRecDepth 100000 in
theorem cf_X11_isWord : CF mX11_isWord 6 := ⟨⟨List.mem_of_getElem? (i := 1601) rfl, rfl⟩, ⟨List.mem_of_getElem? (i := 158) rfl, rfl⟩, ⟨by decide, by decide⟩, by decide, by decide⟩
set_option maxRecDepth 100000 in
theorem cv_X11_isWord : CFv mX11_isWord := ⟨⟨List.mem_of_getElem? (i := 1600) rfl, rfl⟩, ⟨List.mem_of_getElem? (i := 96) rfl, rfl⟩⟩
abbrev mX11_wordHere : Mt := (yX11_wordHere, cX11_wordHere, 3, (some .int))
set_option maxRecDepth 100000 in
theorem cf_X11_wordHere : CF mX11_wordHere 0 := ⟨⟨List.mem_of_getElem? (i := 1605) rfl, rfl⟩, ⟨List.mem_of_getElem? (i := 158) rfl, rfl⟩, ⟨by decide, by decide⟩, by decide, by decide⟩
set_option maxRecDepth 100000 in
theorem cv_X11_wordHere : CFv mX11_wordHere := ⟨⟨List.mem_of_getElem? (i := 1604) rfl, rfl⟩, ⟨List.mem_of_getElem? (i := 97) rfl, rfl⟩⟩
abbrev mX11_isSmall : Mt := (yX11_isSmall, cX11_isSmall, 1, (some .boolean))
set_option maxRecDepth 100000 in
theorem cf_X11_isSmall : CF mX11_isSmall 1 := ⟨⟨List.mem_of_getElem? (i := 1608) rfl, rfl⟩, ⟨List.mem_of_getElem? (i := 158) rfl, rfl⟩, ⟨by decide, by decide⟩, by decide, by decide⟩
set_option maxRecDepth 100000 in
theorem cs_X11_isSmall : InT (.static yX11_isSmall) := ⟨List.mem_of_getElem? (i := 1607) rfl, rfl⟩
abbrev mX11_six : Mt := (yX11_six, cX11_six, 7, (some .int))
set_option maxRecDepth 100000 in
theorem cf_X11_six : CF mX11_six 6 := ⟨⟨List.mem_of_getElem? (i := 1611) rfl, rfl⟩, ⟨List.mem_of_getElem? (i := 158) rfl, rfl⟩, ⟨by decide, by decide⟩, by decide, by decide⟩
set_option maxRecDepth 100000 in
theorem cs_X11_six : InT (.static yX11_six) := ⟨List.mem_of_getElem? (i := 1610) rfl, rfl⟩
abbrev mX11_isPilgrim : Mt := (yX11_isPilgrim, cX11_isPilgrim, 3, (some .boolean))
set_option maxRecDepth 100000 in
theorem cf_X11_isPilgrim : CF mX11_isPilgrim 0 := ⟨⟨List.mem_of_getElem? (i := 1615) rfl, rfl⟩, ⟨List.mem_of_getElem? (i := 158) rfl, rfl⟩, ⟨by decide, by decide⟩, by decide, by decide⟩
set_option maxRecDepth 100000 in
theorem cv_X11_isPilgrim : CFv mX11_isPilgrim := ⟨⟨List.mem_of_getElem? (i := 1614) rfl, rfl⟩, ⟨List.mem_of_getElem? (i := 98) rfl, rfl⟩⟩
abbrev mX11_wrong : Mt := (yX11_wrong, cX11_wrong, 3, none)
set_option maxRecDepth 100000 in
theorem cf_X11_wrong : CF mX11_wrong 2 := ⟨⟨List.mem_of_getElem? (i := 1619) rfl, rfl⟩, ⟨List.mem_of_getElem? (i := 158) rfl, rfl⟩, ⟨by decide, by decide⟩, by decide, by decide⟩
set_option maxRecDepth 100000 in
theorem cv_X11_wrong : CFv mX11_wrong := ⟨⟨List.mem_of_getElem? (i := 1618) rfl, rfl⟩, ⟨List.mem_of_getElem? (i := 99) rfl, rfl⟩⟩
abbrev mX11_mostOf : Mt := (yX11_mostOf, cX11_mostOf, 1, (some .int))
set_option maxRecDepth 100000 in
theorem cf_X11_mostOf : CF mX11_mostOf 1 := ⟨⟨List.mem_of_getElem? (i := 1622) rfl, rfl⟩, ⟨List.mem_of_getElem? (i := 158) rfl, rfl⟩, ⟨by decide, by decide⟩, by decide, by decide⟩
set_option maxRecDepth 100000 in
theorem cs_X11_mostOf : InT (.static yX11_mostOf) := ⟨List.mem_of_getElem? (i := 1621) rfl, rfl⟩
abbrev mX11_skipWord : Mt := (yX11_skipWord, cX11_skipWord, 1, none)
set_option maxRecDepth 100000 in
theorem cf_X11_skipWord : CF mX11_skipWord 0 := ⟨⟨List.mem_of_getElem? (i := 1626) rfl, rfl⟩, ⟨List.mem_of_getElem? (i := 158) rfl, rfl⟩, ⟨by decide, by decide⟩, by decide, by decide⟩
set_option maxRecDepth 100000 in
theorem cv_X11_skipWord : CFv mX11_skipWord := ⟨⟨List.mem_of_getElem? (i := 1625) rfl, rfl⟩, ⟨List.mem_of_getElem? (i := 100) rfl, rfl⟩⟩
abbrev mX11_number : Mt := (yX11_number, cX11_number, 5, (some .int))
set_option maxRecDepth 100000 in
theorem cf_X11_number : CF mX11_number 2 := ⟨⟨List.mem_of_getElem? (i := 1630) rfl, rfl⟩, ⟨List.mem_of_getElem? (i := 158) rfl, rfl⟩, ⟨by decide, by decide⟩, by decide, by decide⟩
set_option maxRecDepth 100000 in
theorem cv_X11_number : CFv mX11_number := ⟨⟨List.mem_of_getElem? (i := 1629) rfl, rfl⟩, ⟨List.mem_of_getElem? (i := 101) rfl, rfl⟩⟩
abbrev mX11_isDigit : Mt := (yX11_isDigit, cX11_isDigit, 1, (some .boolean))
set_option maxRecDepth 100000 in
theorem cf_X11_isDigit : CF mX11_isDigit 1 := ⟨⟨List.mem_of_getElem? (i := 1633) rfl, rfl⟩, ⟨List.mem_of_getElem? (i := 158) rfl, rfl⟩, ⟨by decide, by decide⟩, by decide, by decide⟩
set_option maxRecDepth 100000 in
theorem cs_X11_isDigit : InT (.static yX11_isDigit) := ⟨List.mem_of_getElem? (i := 1632) rfl, rfl⟩
abbrev mX11_sign : Mt := (yX11_sign, cX11_sign, 2, none)
set_option maxRecDepth 100000 in
theorem cf_X11_sign : CF mX11_sign 1 := ⟨⟨List.mem_of_getElem? (i := 1638) rfl, rfl⟩, ⟨List.mem_of_getElem? (i := 158) rfl, rfl⟩, ⟨by decide, by decide⟩, by decide, by decide⟩
set_option maxRecDepth 100000 in
theorem cv_X11_sign : CFv mX11_sign := ⟨⟨List.mem_of_getElem? (i := 1637) rfl, rfl⟩, ⟨List.mem_of_getElem? (i := 102) rfl, rfl⟩⟩
abbrev mX11_ends : Mt := (yX11_ends, cX11_ends, 1, (some .int))
set_option maxRecDepth 100000 in
theorem cf_X11_ends : CF mX11_ends 0 := ⟨⟨List.mem_of_getElem? (i := 1642) rfl, rfl⟩, ⟨List.mem_of_getElem? (i := 158) rfl, rfl⟩, ⟨by decide, by decide⟩, by decide, by decide⟩
set_option maxRecDepth 100000 in
theorem cv_X11_ends : CFv mX11_ends := ⟨⟨List.mem_of_getElem? (i := 1641) rfl, rfl⟩, ⟨List.mem_of_getElem? (i := 103) rfl, rfl⟩⟩
abbrev mX11_law : Mt := (yX11_law, cX11_law, 2, (some .int))
set_option maxRecDepth 100000 in
theorem cf_X11_law : CF mX11_law 1 := ⟨⟨List.mem_of_getElem? (i := 1646) rfl, rfl⟩, ⟨List.mem_of_getElem? (i := 158) rfl, rfl⟩, ⟨by decide, by decide⟩, by decide, by decide⟩
set_option maxRecDepth 100000 in
theorem cv_X11_law : CFv mX11_law := ⟨⟨List.mem_of_getElem? (i := 1644) rfl, rfl⟩, ⟨List.mem_of_getElem? (i := 1645) rfl, rfl⟩⟩
abbrev mX11_sum : Mt := (yX11_sum, cX11_sum, 2, none)
set_option maxRecDepth 100000 in
theorem cf_X11_sum : CF mX11_sum 0 := ⟨⟨List.mem_of_getElem? (i := 1650) rfl, rfl⟩, ⟨List.mem_of_getElem? (i := 158) rfl, rfl⟩, ⟨by decide, by decide⟩, by decide, by decide⟩
set_option maxRecDepth 100000 in
theorem cv_X11_sum : CFv mX11_sum := ⟨⟨List.mem_of_getElem? (i := 1649) rfl, rfl⟩, ⟨List.mem_of_getElem? (i := 104) rfl, rfl⟩⟩
abbrev mX11_product : Mt := (yX11_product, cX11_product, 2, none)
set_option maxRecDepth 100000 in
theorem cf_X11_product : CF mX11_product 0 := ⟨⟨List.mem_of_getElem? (i := 1654) rfl, rfl⟩, ⟨List.mem_of_getElem? (i := 158) rfl, rfl⟩, ⟨by decide, by decide⟩, by decide, by decide⟩
set_option maxRecDepth 100000 in
theorem cv_X11_product : CFv mX11_product := ⟨⟨List.mem_of_getElem? (i := 1653) rfl, rfl⟩, ⟨List.mem_of_getElem? (i := 105) rfl, rfl⟩⟩
abbrev mX11_one : Mt := (yX11_one, cX11_one, 3, none)
set_option maxRecDepth 100000 in
theorem cf_X11_one : CF mX11_one 0 := ⟨⟨List.mem_of_getElem? (i := 1658) rfl, rfl⟩, ⟨List.mem_of_getElem? (i := 158) rfl, rfl⟩, ⟨by decide, by decide⟩, by decide, by decide⟩
set_option maxRecDepth 100000 in
theorem cv_X11_one : CFv mX11_one := ⟨⟨List.mem_of_getElem? (i := 1657) rfl, rfl⟩, ⟨List.mem_of_getElem? (i := 106) rfl, rfl⟩⟩
abbrev mX11_opensOne : Mt := (yX11_opensOne, cX11_opensOne, 1, (some .boolean))
set_option maxRecDepth 100000 in
theorem cf_X11_opensOne : CF mX11_opensOne 0 := ⟨⟨List.mem_of_getElem? (i := 1662) rfl, rfl⟩, ⟨List.mem_of_getElem? (i := 158) rfl, rfl⟩, ⟨by decide, by decide⟩, by decide, by decide⟩
set_option maxRecDepth 100000 in
theorem cv_X11_opensOne : CFv mX11_opensOne := ⟨⟨List.mem_of_getElem? (i := 1661) rfl, rfl⟩, ⟨List.mem_of_getElem? (i := 107) rfl, rfl⟩⟩
abbrev mX11_notes : Mt := (yX11_notes, cX11_notes, 3, none)
set_option maxRecDepth 100000 in
theorem cf_X11_notes : CF mX11_notes 2 := ⟨⟨List.mem_of_getElem? (i := 1666) rfl, rfl⟩, ⟨List.mem_of_getElem? (i := 158) rfl, rfl⟩, ⟨by decide, by decide⟩, by decide, by decide⟩
set_option maxRecDepth 100000 in
theorem cv_X11_notes : CFv mX11_notes := ⟨⟨List.mem_of_getElem? (i := 1665) rfl, rfl⟩, ⟨List.mem_of_getElem? (i := 108) rfl, rfl⟩⟩
abbrev mX11_knownHere : Mt := (yX11_knownHere, cX11_knownHere, 1, (some .int))
set_option maxRecDepth 100000 in
theorem cf_X11_knownHere : CF mX11_knownHere 0 := ⟨⟨List.mem_of_getElem? (i := 1670) rfl, rfl⟩, ⟨List.mem_of_getElem? (i := 158) rfl, rfl⟩, ⟨by decide, by decide⟩, by decide, by decide⟩
set_option maxRecDepth 100000 in
theorem cv_X11_knownHere : CFv mX11_knownHere := ⟨⟨List.mem_of_getElem? (i := 1669) rfl, rfl⟩, ⟨List.mem_of_getElem? (i := 109) rfl, rfl⟩⟩
abbrev mX11_takes : Mt := (yX11_takes, cX11_takes, 8, (some .boolean))
set_option maxRecDepth 100000 in
theorem cf_X11_takes : CF mX11_takes 6 := ⟨⟨List.mem_of_getElem? (i := 1674) rfl, rfl⟩, ⟨List.mem_of_getElem? (i := 158) rfl, rfl⟩, ⟨by decide, by decide⟩, by decide, by decide⟩
set_option maxRecDepth 100000 in
theorem cv_X11_takes : CFv mX11_takes := ⟨⟨List.mem_of_getElem? (i := 1673) rfl, rfl⟩, ⟨List.mem_of_getElem? (i := 110) rfl, rfl⟩⟩
abbrev mX11_isTempted : Mt := (yX11_isTempted, cX11_isTempted, 4, (some .boolean))
set_option maxRecDepth 100000 in
theorem cf_X11_isTempted : CF mX11_isTempted 0 := ⟨⟨List.mem_of_getElem? (i := 1678) rfl, rfl⟩, ⟨List.mem_of_getElem? (i := 158) rfl, rfl⟩, ⟨by decide, by decide⟩, by decide, by decide⟩
set_option maxRecDepth 100000 in
theorem cv_X11_isTempted : CFv mX11_isTempted := ⟨⟨List.mem_of_getElem? (i := 1677) rfl, rfl⟩, ⟨List.mem_of_getElem? (i := 111) rfl, rfl⟩⟩
abbrev mX11_takesSign : Mt := (yX11_takesSign, cX11_takesSign, 3, (some .boolean))
set_option maxRecDepth 100000 in
theorem cf_X11_takesSign : CF mX11_takesSign 1 := ⟨⟨List.mem_of_getElem? (i := 1682) rfl, rfl⟩, ⟨List.mem_of_getElem? (i := 158) rfl, rfl⟩, ⟨by decide, by decide⟩, by decide, by decide⟩
set_option maxRecDepth 100000 in
theorem cv_X11_takesSign : CFv mX11_takesSign := ⟨⟨List.mem_of_getElem? (i := 1681) rfl, rfl⟩, ⟨List.mem_of_getElem? (i := 112) rfl, rfl⟩⟩
abbrev mX11_seen : Mt := (yX11_seen, cX11_seen, 7, (some .int))
set_option maxRecDepth 100000 in
theorem cf_X11_seen : CF mX11_seen 1 := ⟨⟨List.mem_of_getElem? (i := 1686) rfl, rfl⟩, ⟨List.mem_of_getElem? (i := 158) rfl, rfl⟩, ⟨by decide, by decide⟩, by decide, by decide⟩
set_option maxRecDepth 100000 in
theorem cv_X11_seen : CFv mX11_seen := ⟨⟨List.mem_of_getElem? (i := 1684) rfl, rfl⟩, ⟨List.mem_of_getElem? (i := 1685) rfl, rfl⟩⟩
abbrev mX11_has : Mt := (yX11_has, cX11_has, 2, (some .boolean))
set_option maxRecDepth 100000 in
theorem cf_X11_has : CF mX11_has 2 := ⟨⟨List.mem_of_getElem? (i := 1689) rfl, rfl⟩, ⟨List.mem_of_getElem? (i := 158) rfl, rfl⟩, ⟨by decide, by decide⟩, by decide, by decide⟩
set_option maxRecDepth 100000 in
theorem cs_X11_has : InT (.static yX11_has) := ⟨List.mem_of_getElem? (i := 1688) rfl, rfl⟩
abbrev mX11_fault : Mt := (yX11_fault, cX11_fault, 1, (some .int))
set_option maxRecDepth 100000 in
theorem cf_X11_fault : CF mX11_fault 0 := ⟨⟨List.mem_of_getElem? (i := 1693) rfl, rfl⟩, ⟨List.mem_of_getElem? (i := 158) rfl, rfl⟩, ⟨by decide, by decide⟩, by decide, by decide⟩
set_option maxRecDepth 100000 in
theorem cv_X11_fault : CFv mX11_fault := ⟨⟨List.mem_of_getElem? (i := 1691) rfl, rfl⟩, ⟨List.mem_of_getElem? (i := 1692) rfl, rfl⟩⟩
abbrev mX11_work : Mt := (yX11_work, cX11_work, 2, (some .int))
set_option maxRecDepth 100000 in
theorem cf_X11_work : CF mX11_work 1 := ⟨⟨List.mem_of_getElem? (i := 1697) rfl, rfl⟩, ⟨List.mem_of_getElem? (i := 158) rfl, rfl⟩, ⟨by decide, by decide⟩, by decide, by decide⟩
set_option maxRecDepth 100000 in
theorem cv_X11_work : CFv mX11_work := ⟨⟨List.mem_of_getElem? (i := 1695) rfl, rfl⟩, ⟨List.mem_of_getElem? (i := 1696) rfl, rfl⟩⟩
abbrev mX11_readsStep : Mt := (yX11_readsStep, cX11_readsStep, 3, none)
set_option maxRecDepth 100000 in
theorem cf_X11_readsStep : CF mX11_readsStep 0 := ⟨⟨List.mem_of_getElem? (i := 1701) rfl, rfl⟩, ⟨List.mem_of_getElem? (i := 158) rfl, rfl⟩, ⟨by decide, by decide⟩, by decide, by decide⟩
set_option maxRecDepth 100000 in
theorem cv_X11_readsStep : CFv mX11_readsStep := ⟨⟨List.mem_of_getElem? (i := 1700) rfl, rfl⟩, ⟨List.mem_of_getElem? (i := 113) rfl, rfl⟩⟩
abbrev mX11_stepHere : Mt := (yX11_stepHere, cX11_stepHere, 1, (some .int))
set_option maxRecDepth 100000 in
theorem cf_X11_stepHere : CF mX11_stepHere 0 := ⟨⟨List.mem_of_getElem? (i := 1705) rfl, rfl⟩, ⟨List.mem_of_getElem? (i := 158) rfl, rfl⟩, ⟨by decide, by decide⟩, by decide, by decide⟩
set_option maxRecDepth 100000 in
theorem cv_X11_stepHere : CFv mX11_stepHere := ⟨⟨List.mem_of_getElem? (i := 1704) rfl, rfl⟩, ⟨List.mem_of_getElem? (i := 114) rfl, rfl⟩⟩
abbrev mX11_copies : Mt := (yX11_copies, cX11_copies, 3, none)
set_option maxRecDepth 100000 in
theorem cf_X11_copies : CF mX11_copies 2 := ⟨⟨List.mem_of_getElem? (i := 1708) rfl, rfl⟩, ⟨List.mem_of_getElem? (i := 158) rfl, rfl⟩, ⟨by decide, by decide⟩, by decide, by decide⟩
set_option maxRecDepth 100000 in
theorem cs_X11_copies : InT (.static yX11_copies) := ⟨List.mem_of_getElem? (i := 1707) rfl, rfl⟩
abbrev mX11_goes : Mt := (yX11_goes, cX11_goes, 5, none)
set_option maxRecDepth 100000 in
theorem cf_X11_goes : CF mX11_goes 2 := ⟨⟨List.mem_of_getElem? (i := 1712) rfl, rfl⟩, ⟨List.mem_of_getElem? (i := 158) rfl, rfl⟩, ⟨by decide, by decide⟩, by decide, by decide⟩
set_option maxRecDepth 100000 in
theorem cv_X11_goes : CFv mX11_goes := ⟨⟨List.mem_of_getElem? (i := 1711) rfl, rfl⟩, ⟨List.mem_of_getElem? (i := 115) rfl, rfl⟩⟩
abbrev mX11_does : Mt := (yX11_does, cX11_does, 5, (some .boolean))
set_option maxRecDepth 100000 in
theorem cf_X11_does : CF mX11_does 2 := ⟨⟨List.mem_of_getElem? (i := 1716) rfl, rfl⟩, ⟨List.mem_of_getElem? (i := 158) rfl, rfl⟩, ⟨by decide, by decide⟩, by decide, by decide⟩
set_option maxRecDepth 100000 in
theorem cv_X11_does : CFv mX11_does := ⟨⟨List.mem_of_getElem? (i := 1715) rfl, rfl⟩, ⟨List.mem_of_getElem? (i := 116) rfl, rfl⟩⟩
abbrev mX11_isKept : Mt := (yX11_isKept, cX11_isKept, 2, (some .boolean))
set_option maxRecDepth 100000 in
theorem cf_X11_isKept : CF mX11_isKept 2 := ⟨⟨List.mem_of_getElem? (i := 1719) rfl, rfl⟩, ⟨List.mem_of_getElem? (i := 158) rfl, rfl⟩, ⟨by decide, by decide⟩, by decide, by decide⟩
set_option maxRecDepth 100000 in
theorem cs_X11_isKept : InT (.static yX11_isKept) := ⟨List.mem_of_getElem? (i := 1718) rfl, rfl⟩
abbrev mX11_lapses : Mt := (yX11_lapses, cX11_lapses, 4, (some .boolean))
set_option maxRecDepth 100000 in
theorem cf_X11_lapses : CF mX11_lapses 2 := ⟨⟨List.mem_of_getElem? (i := 1723) rfl, rfl⟩, ⟨List.mem_of_getElem? (i := 158) rfl, rfl⟩, ⟨by decide, by decide⟩, by decide, by decide⟩
set_option maxRecDepth 100000 in
theorem cv_X11_lapses : CFv mX11_lapses := ⟨⟨List.mem_of_getElem? (i := 1722) rfl, rfl⟩, ⟨List.mem_of_getElem? (i := 117) rfl, rfl⟩⟩
abbrev mX11_canLapse : Mt := (yX11_canLapse, cX11_canLapse, 3, (some .boolean))
set_option maxRecDepth 100000 in
theorem cf_X11_canLapse : CF mX11_canLapse 2 := ⟨⟨List.mem_of_getElem? (i := 1727) rfl, rfl⟩, ⟨List.mem_of_getElem? (i := 158) rfl, rfl⟩, ⟨by decide, by decide⟩, by decide, by decide⟩
set_option maxRecDepth 100000 in
theorem cv_X11_canLapse : CFv mX11_canLapse := ⟨⟨List.mem_of_getElem? (i := 1726) rfl, rfl⟩, ⟨List.mem_of_getElem? (i := 118) rfl, rfl⟩⟩
abbrev mX11_keptOf : Mt := (yX11_keptOf, cX11_keptOf, 5, (some .int))
set_option maxRecDepth 100000 in
theorem cf_X11_keptOf : CF mX11_keptOf 2 := ⟨⟨List.mem_of_getElem? (i := 1731) rfl, rfl⟩, ⟨List.mem_of_getElem? (i := 158) rfl, rfl⟩, ⟨by decide, by decide⟩, by decide, by decide⟩
set_option maxRecDepth 100000 in
theorem cv_X11_keptOf : CFv mX11_keptOf := ⟨⟨List.mem_of_getElem? (i := 1730) rfl, rfl⟩, ⟨List.mem_of_getElem? (i := 119) rfl, rfl⟩⟩
abbrev mX11_cures : Mt := (yX11_cures, cX11_cures, 4, (some .boolean))
set_option maxRecDepth 100000 in
theorem cf_X11_cures : CF mX11_cures 3 := ⟨⟨List.mem_of_getElem? (i := 1735) rfl, rfl⟩, ⟨List.mem_of_getElem? (i := 158) rfl, rfl⟩, ⟨by decide, by decide⟩, by decide, by decide⟩
set_option maxRecDepth 100000 in
theorem cv_X11_cures : CFv mX11_cures := ⟨⟨List.mem_of_getElem? (i := 1734) rfl, rfl⟩, ⟨List.mem_of_getElem? (i := 120) rfl, rfl⟩⟩
abbrev mX11_canCure : Mt := (yX11_canCure, cX11_canCure, 4, (some .boolean))
set_option maxRecDepth 100000 in
theorem cf_X11_canCure : CF mX11_canCure 3 := ⟨⟨List.mem_of_getElem? (i := 1739) rfl, rfl⟩, ⟨List.mem_of_getElem? (i := 158) rfl, rfl⟩, ⟨by decide, by decide⟩, by decide, by decide⟩
set_option maxRecDepth 100000 in
theorem cv_X11_canCure : CFv mX11_canCure := ⟨⟨List.mem_of_getElem? (i := 1738) rfl, rfl⟩, ⟨List.mem_of_getElem? (i := 121) rfl, rfl⟩⟩
abbrev mX11_isAble : Mt := (yX11_isAble, cX11_isAble, 4, (some .boolean))
set_option maxRecDepth 100000 in
theorem cf_X11_isAble : CF mX11_isAble 3 := ⟨⟨List.mem_of_getElem? (i := 1743) rfl, rfl⟩, ⟨List.mem_of_getElem? (i := 158) rfl, rfl⟩, ⟨by decide, by decide⟩, by decide, by decide⟩
set_option maxRecDepth 100000 in
theorem cv_X11_isAble : CFv mX11_isAble := ⟨⟨List.mem_of_getElem? (i := 1742) rfl, rfl⟩, ⟨List.mem_of_getElem? (i := 122) rfl, rfl⟩⟩
abbrev mX11_power : Mt := (yX11_power, cX11_power, 3, (some .int))
set_option maxRecDepth 100000 in
theorem cf_X11_power : CF mX11_power 2 := ⟨⟨List.mem_of_getElem? (i := 1747) rfl, rfl⟩, ⟨List.mem_of_getElem? (i := 158) rfl, rfl⟩, ⟨by decide, by decide⟩, by decide, by decide⟩
set_option maxRecDepth 100000 in
theorem cv_X11_power : CFv mX11_power := ⟨⟨List.mem_of_getElem? (i := 1746) rfl, rfl⟩, ⟨List.mem_of_getElem? (i := 123) rfl, rfl⟩⟩
abbrev mX11_powerOf : Mt := (yX11_powerOf, cX11_powerOf, 7, (some .int))
set_option maxRecDepth 100000 in
theorem cf_X11_powerOf : CF mX11_powerOf 5 := ⟨⟨List.mem_of_getElem? (i := 1751) rfl, rfl⟩, ⟨List.mem_of_getElem? (i := 158) rfl, rfl⟩, ⟨by decide, by decide⟩, by decide, by decide⟩
set_option maxRecDepth 100000 in
theorem cv_X11_powerOf : CFv mX11_powerOf := ⟨⟨List.mem_of_getElem? (i := 1750) rfl, rfl⟩, ⟨List.mem_of_getElem? (i := 124) rfl, rfl⟩⟩
abbrev mX11_ones : Mt := (yX11_ones, cX11_ones, 3, (some .int))
set_option maxRecDepth 100000 in
theorem cf_X11_ones : CF mX11_ones 1 := ⟨⟨List.mem_of_getElem? (i := 1754) rfl, rfl⟩, ⟨List.mem_of_getElem? (i := 158) rfl, rfl⟩, ⟨by decide, by decide⟩, by decide, by decide⟩
set_option maxRecDepth 100000 in
theorem cs_X11_ones : InT (.static yX11_ones) := ⟨List.mem_of_getElem? (i := 1753) rfl, rfl⟩
abbrev mX11_powerBy : Mt := (yX11_powerBy, cX11_powerBy, 9, (some .int))
set_option maxRecDepth 100000 in
theorem cf_X11_powerBy : CF mX11_powerBy 8 := ⟨⟨List.mem_of_getElem? (i := 1758) rfl, rfl⟩, ⟨List.mem_of_getElem? (i := 158) rfl, rfl⟩, ⟨by decide, by decide⟩, by decide, by decide⟩
set_option maxRecDepth 100000 in
theorem cv_X11_powerBy : CFv mX11_powerBy := ⟨⟨List.mem_of_getElem? (i := 1757) rfl, rfl⟩, ⟨List.mem_of_getElem? (i := 125) rfl, rfl⟩⟩
abbrev mX11_byLaw : Mt := (yX11_byLaw, cX11_byLaw, 3, (some .int))
set_option maxRecDepth 100000 in
theorem cf_X11_byLaw : CF mX11_byLaw 0 := ⟨⟨List.mem_of_getElem? (i := 1762) rfl, rfl⟩, ⟨List.mem_of_getElem? (i := 158) rfl, rfl⟩, ⟨by decide, by decide⟩, by decide, by decide⟩
set_option maxRecDepth 100000 in
theorem cv_X11_byLaw : CFv mX11_byLaw := ⟨⟨List.mem_of_getElem? (i := 1761) rfl, rfl⟩, ⟨List.mem_of_getElem? (i := 126) rfl, rfl⟩⟩
abbrev mX11_by : Mt := (yX11_by, cX11_by, 3, (some .int))
set_option maxRecDepth 100000 in
theorem cf_X11_by : CF mX11_by 3 := ⟨⟨List.mem_of_getElem? (i := 1765) rfl, rfl⟩, ⟨List.mem_of_getElem? (i := 158) rfl, rfl⟩, ⟨by decide, by decide⟩, by decide, by decide⟩
set_option maxRecDepth 100000 in
theorem cs_X11_by : InT (.static yX11_by) := ⟨List.mem_of_getElem? (i := 1764) rfl, rfl⟩
abbrev mX11_less : Mt := (yX11_less, cX11_less, 2, (some .int))
set_option maxRecDepth 100000 in
theorem cf_X11_less : CF mX11_less 2 := ⟨⟨List.mem_of_getElem? (i := 1768) rfl, rfl⟩, ⟨List.mem_of_getElem? (i := 158) rfl, rfl⟩, ⟨by decide, by decide⟩, by decide, by decide⟩
set_option maxRecDepth 100000 in
theorem cs_X11_less : InT (.static yX11_less) := ⟨List.mem_of_getElem? (i := 1767) rfl, rfl⟩
abbrev mX11_more : Mt := (yX11_more, cX11_more, 2, (some .int))
set_option maxRecDepth 100000 in
theorem cf_X11_more : CF mX11_more 2 := ⟨⟨List.mem_of_getElem? (i := 1771) rfl, rfl⟩, ⟨List.mem_of_getElem? (i := 158) rfl, rfl⟩, ⟨by decide, by decide⟩, by decide, by decide⟩
set_option maxRecDepth 100000 in
theorem cs_X11_more : InT (.static yX11_more) := ⟨List.mem_of_getElem? (i := 1770) rfl, rfl⟩
abbrev mX11_dayEnds : Mt := (yX11_dayEnds, cX11_dayEnds, 3, none)
set_option maxRecDepth 100000 in
theorem cf_X11_dayEnds : CF mX11_dayEnds 1 := ⟨⟨List.mem_of_getElem? (i := 1775) rfl, rfl⟩, ⟨List.mem_of_getElem? (i := 158) rfl, rfl⟩, ⟨by decide, by decide⟩, by decide, by decide⟩
set_option maxRecDepth 100000 in
theorem cv_X11_dayEnds : CFv mX11_dayEnds := ⟨⟨List.mem_of_getElem? (i := 1774) rfl, rfl⟩, ⟨List.mem_of_getElem? (i := 127) rfl, rfl⟩⟩
abbrev mX11_undo : Mt := (yX11_undo, cX11_undo, 1, (some .int))
set_option maxRecDepth 100000 in
theorem cf_X11_undo : CF mX11_undo 0 := ⟨⟨List.mem_of_getElem? (i := 1779) rfl, rfl⟩, ⟨List.mem_of_getElem? (i := 158) rfl, rfl⟩, ⟨by decide, by decide⟩, by decide, by decide⟩
set_option maxRecDepth 100000 in
theorem cv_X11_undo : CFv mX11_undo := ⟨⟨List.mem_of_getElem? (i := 1777) rfl, rfl⟩, ⟨List.mem_of_getElem? (i := 1778) rfl, rfl⟩⟩
abbrev mX11_told : Mt := (yX11_told, cX11_told, 6, (some .int))
set_option maxRecDepth 100000 in
theorem cf_X11_told : CF mX11_told 1 := ⟨⟨List.mem_of_getElem? (i := 1783) rfl, rfl⟩, ⟨List.mem_of_getElem? (i := 158) rfl, rfl⟩, ⟨by decide, by decide⟩, by decide, by decide⟩
set_option maxRecDepth 100000 in
theorem cv_X11_told : CFv mX11_told := ⟨⟨List.mem_of_getElem? (i := 1781) rfl, rfl⟩, ⟨List.mem_of_getElem? (i := 1782) rfl, rfl⟩⟩
abbrev mX11_curedIn : Mt := (yX11_curedIn, cX11_curedIn, 4, (some .int))
set_option maxRecDepth 100000 in
theorem cf_X11_curedIn : CF mX11_curedIn 1 := ⟨⟨List.mem_of_getElem? (i := 1787) rfl, rfl⟩, ⟨List.mem_of_getElem? (i := 158) rfl, rfl⟩, ⟨by decide, by decide⟩, by decide, by decide⟩
set_option maxRecDepth 100000 in
theorem cv_X11_curedIn : CFv mX11_curedIn := ⟨⟨List.mem_of_getElem? (i := 1786) rfl, rfl⟩, ⟨List.mem_of_getElem? (i := 128) rfl, rfl⟩⟩
abbrev mX11_powersIn : Mt := (yX11_powersIn, cX11_powersIn, 4, (some .int))
set_option maxRecDepth 100000 in
theorem cf_X11_powersIn : CF mX11_powersIn 1 := ⟨⟨List.mem_of_getElem? (i := 1791) rfl, rfl⟩, ⟨List.mem_of_getElem? (i := 158) rfl, rfl⟩, ⟨by decide, by decide⟩, by decide, by decide⟩
set_option maxRecDepth 100000 in
theorem cv_X11_powersIn : CFv mX11_powersIn := ⟨⟨List.mem_of_getElem? (i := 1790) rfl, rfl⟩, ⟨List.mem_of_getElem? (i := 129) rfl, rfl⟩⟩
abbrev mX11_sister : Mt := (yX11_sister, cX11_sister, 5, (some .int))
set_option maxRecDepth 100000 in
theorem cf_X11_sister : CF mX11_sister 2 := ⟨⟨List.mem_of_getElem? (i := 1795) rfl, rfl⟩, ⟨List.mem_of_getElem? (i := 158) rfl, rfl⟩, ⟨by decide, by decide⟩, by decide, by decide⟩
set_option maxRecDepth 100000 in
theorem cv_X11_sister : CFv mX11_sister := ⟨⟨List.mem_of_getElem? (i := 1793) rfl, rfl⟩, ⟨List.mem_of_getElem? (i := 1794) rfl, rfl⟩⟩
abbrev mX11_isSister : Mt := (yX11_isSister, cX11_isSister, 2, (some .boolean))
set_option maxRecDepth 100000 in
theorem cf_X11_isSister : CF mX11_isSister 1 := ⟨⟨List.mem_of_getElem? (i := 1799) rfl, rfl⟩, ⟨List.mem_of_getElem? (i := 158) rfl, rfl⟩, ⟨by decide, by decide⟩, by decide, by decide⟩
set_option maxRecDepth 100000 in
theorem cv_X11_isSister : CFv mX11_isSister := ⟨⟨List.mem_of_getElem? (i := 1798) rfl, rfl⟩, ⟨List.mem_of_getElem? (i := 130) rfl, rfl⟩⟩
abbrev mX11_relic : Mt := (yX11_relic, cX11_relic, 5, (some .int))
set_option maxRecDepth 100000 in
theorem cf_X11_relic : CF mX11_relic 2 := ⟨⟨List.mem_of_getElem? (i := 1803) rfl, rfl⟩, ⟨List.mem_of_getElem? (i := 158) rfl, rfl⟩, ⟨by decide, by decide⟩, by decide, by decide⟩
set_option maxRecDepth 100000 in
theorem cv_X11_relic : CFv mX11_relic := ⟨⟨List.mem_of_getElem? (i := 1801) rfl, rfl⟩, ⟨List.mem_of_getElem? (i := 1802) rfl, rfl⟩⟩
abbrev mX11_isRelic : Mt := (yX11_isRelic, cX11_isRelic, 2, (some .boolean))
set_option maxRecDepth 100000 in
theorem cf_X11_isRelic : CF mX11_isRelic 1 := ⟨⟨List.mem_of_getElem? (i := 1807) rfl, rfl⟩, ⟨List.mem_of_getElem? (i := 158) rfl, rfl⟩, ⟨by decide, by decide⟩, by decide, by decide⟩
set_option maxRecDepth 100000 in
theorem cv_X11_isRelic : CFv mX11_isRelic := ⟨⟨List.mem_of_getElem? (i := 1806) rfl, rfl⟩, ⟨List.mem_of_getElem? (i := 131) rfl, rfl⟩⟩
abbrev mX11_pilgrim : Mt := (yX11_pilgrim, cX11_pilgrim, 5, (some .int))
set_option maxRecDepth 100000 in
theorem cf_X11_pilgrim : CF mX11_pilgrim 2 := ⟨⟨List.mem_of_getElem? (i := 1811) rfl, rfl⟩, ⟨List.mem_of_getElem? (i := 158) rfl, rfl⟩, ⟨by decide, by decide⟩, by decide, by decide⟩
set_option maxRecDepth 100000 in
theorem cv_X11_pilgrim : CFv mX11_pilgrim := ⟨⟨List.mem_of_getElem? (i := 1809) rfl, rfl⟩, ⟨List.mem_of_getElem? (i := 1810) rfl, rfl⟩⟩
abbrev mX11_isPerson : Mt := (yX11_isPerson, cX11_isPerson, 2, (some .boolean))
set_option maxRecDepth 100000 in
theorem cf_X11_isPerson : CF mX11_isPerson 1 := ⟨⟨List.mem_of_getElem? (i := 1815) rfl, rfl⟩, ⟨List.mem_of_getElem? (i := 158) rfl, rfl⟩, ⟨by decide, by decide⟩, by decide, by decide⟩
set_option maxRecDepth 100000 in
theorem cv_X11_isPerson : CFv mX11_isPerson := ⟨⟨List.mem_of_getElem? (i := 1814) rfl, rfl⟩, ⟨List.mem_of_getElem? (i := 132) rfl, rfl⟩⟩
abbrev mX11_would : Mt := (yX11_would, cX11_would, 9, (some .int))
set_option maxRecDepth 100000 in
theorem cf_X11_would : CF mX11_would 8 := ⟨⟨List.mem_of_getElem? (i := 1819) rfl, rfl⟩, ⟨List.mem_of_getElem? (i := 158) rfl, rfl⟩, ⟨by decide, by decide⟩, by decide, by decide⟩
set_option maxRecDepth 100000 in
theorem cv_X11_would : CFv mX11_would := ⟨⟨List.mem_of_getElem? (i := 1817) rfl, rfl⟩, ⟨List.mem_of_getElem? (i := 1818) rfl, rfl⟩⟩
abbrev mX11_can : Mt := (yX11_can, cX11_can, 3, (some .boolean))
set_option maxRecDepth 100000 in
theorem cf_X11_can : CF mX11_can 2 := ⟨⟨List.mem_of_getElem? (i := 1823) rfl, rfl⟩, ⟨List.mem_of_getElem? (i := 158) rfl, rfl⟩, ⟨by decide, by decide⟩, by decide, by decide⟩
set_option maxRecDepth 100000 in
theorem cv_X11_can : CFv mX11_can := ⟨⟨List.mem_of_getElem? (i := 1821) rfl, rfl⟩, ⟨List.mem_of_getElem? (i := 1822) rfl, rfl⟩⟩
abbrev mX11_when : Mt := (yX11_when, cX11_when, 4, (some .int))
set_option maxRecDepth 100000 in
theorem cf_X11_when : CF mX11_when 2 := ⟨⟨List.mem_of_getElem? (i := 1827) rfl, rfl⟩, ⟨List.mem_of_getElem? (i := 158) rfl, rfl⟩, ⟨by decide, by decide⟩, by decide, by decide⟩
set_option maxRecDepth 100000 in
theorem cv_X11_when : CFv mX11_when := ⟨⟨List.mem_of_getElem? (i := 1825) rfl, rfl⟩, ⟨List.mem_of_getElem? (i := 1826) rfl, rfl⟩⟩
abbrev mX11_ahead : Mt := (yX11_ahead, cX11_ahead, 5, (some .int))
set_option maxRecDepth 100000 in
theorem cf_X11_ahead : CF mX11_ahead 3 := ⟨⟨List.mem_of_getElem? (i := 1831) rfl, rfl⟩, ⟨List.mem_of_getElem? (i := 158) rfl, rfl⟩, ⟨by decide, by decide⟩, by decide, by decide⟩
set_option maxRecDepth 100000 in
theorem cv_X11_ahead : CFv mX11_ahead := ⟨⟨List.mem_of_getElem? (i := 1829) rfl, rfl⟩, ⟨List.mem_of_getElem? (i := 1830) rfl, rfl⟩⟩
abbrev mX11_hopeless : Mt := (yX11_hopeless, cX11_hopeless, 5, (some .int))
set_option maxRecDepth 100000 in
theorem cf_X11_hopeless : CF mX11_hopeless 1 := ⟨⟨List.mem_of_getElem? (i := 1835) rfl, rfl⟩, ⟨List.mem_of_getElem? (i := 158) rfl, rfl⟩, ⟨by decide, by decide⟩, by decide, by decide⟩
set_option maxRecDepth 100000 in
theorem cv_X11_hopeless : CFv mX11_hopeless := ⟨⟨List.mem_of_getElem? (i := 1833) rfl, rfl⟩, ⟨List.mem_of_getElem? (i := 1834) rfl, rfl⟩⟩
abbrev mX11_match : Mt := (yX11_match, cX11_match, 1, (some .int))
set_option maxRecDepth 100000 in
theorem cf_X11_match : CF mX11_match 0 := ⟨⟨List.mem_of_getElem? (i := 1839) rfl, rfl⟩, ⟨List.mem_of_getElem? (i := 158) rfl, rfl⟩, ⟨by decide, by decide⟩, by decide, by decide⟩
set_option maxRecDepth 100000 in
theorem cv_X11_match : CFv mX11_match := ⟨⟨List.mem_of_getElem? (i := 1837) rfl, rfl⟩, ⟨List.mem_of_getElem? (i := 1838) rfl, rfl⟩⟩
abbrev mX11_matches : Mt := (yX11_matches, cX11_matches, 3, none)
set_option maxRecDepth 100000 in
theorem cf_X11_matches : CF mX11_matches 0 := ⟨⟨List.mem_of_getElem? (i := 1843) rfl, rfl⟩, ⟨List.mem_of_getElem? (i := 158) rfl, rfl⟩, ⟨by decide, by decide⟩, by decide, by decide⟩
set_option maxRecDepth 100000 in
theorem cv_X11_matches : CFv mX11_matches := ⟨⟨List.mem_of_getElem? (i := 1842) rfl, rfl⟩, ⟨List.mem_of_getElem? (i := 133) rfl, rfl⟩⟩
abbrev mX11_matchesFrom : Mt := (yX11_matchesFrom, cX11_matchesFrom, 5, none)
set_option maxRecDepth 100000 in
theorem cf_X11_matchesFrom : CF mX11_matchesFrom 3 := ⟨⟨List.mem_of_getElem? (i := 1847) rfl, rfl⟩, ⟨List.mem_of_getElem? (i := 158) rfl, rfl⟩, ⟨by decide, by decide⟩, by decide, by decide⟩
set_option maxRecDepth 100000 in
theorem cv_X11_matchesFrom : CFv mX11_matchesFrom := ⟨⟨List.mem_of_getElem? (i := 1846) rfl, rfl⟩, ⟨List.mem_of_getElem? (i := 134) rfl, rfl⟩⟩
abbrev mX11_matched : Mt := (yX11_matched, cX11_matched, 2, (some .int))
set_option maxRecDepth 100000 in
theorem cf_X11_matched : CF mX11_matched 1 := ⟨⟨List.mem_of_getElem? (i := 1851) rfl, rfl⟩, ⟨List.mem_of_getElem? (i := 158) rfl, rfl⟩, ⟨by decide, by decide⟩, by decide, by decide⟩
set_option maxRecDepth 100000 in
theorem cv_X11_matched : CFv mX11_matched := ⟨⟨List.mem_of_getElem? (i := 1849) rfl, rfl⟩, ⟨List.mem_of_getElem? (i := 1850) rfl, rfl⟩⟩
abbrev mX11_lapsed : Mt := (yX11_lapsed, cX11_lapsed, 6, (some .int))
set_option maxRecDepth 100000 in
theorem cf_X11_lapsed : CF mX11_lapsed 1 := ⟨⟨List.mem_of_getElem? (i := 1855) rfl, rfl⟩, ⟨List.mem_of_getElem? (i := 158) rfl, rfl⟩, ⟨by decide, by decide⟩, by decide, by decide⟩
set_option maxRecDepth 100000 in
theorem cv_X11_lapsed : CFv mX11_lapsed := ⟨⟨List.mem_of_getElem? (i := 1853) rfl, rfl⟩, ⟨List.mem_of_getElem? (i := 1854) rfl, rfl⟩⟩
abbrev mX11_isLapsed : Mt := (yX11_isLapsed, cX11_isLapsed, 3, (some .boolean))
set_option maxRecDepth 100000 in
theorem cf_X11_isLapsed : CF mX11_isLapsed 1 := ⟨⟨List.mem_of_getElem? (i := 1859) rfl, rfl⟩, ⟨List.mem_of_getElem? (i := 158) rfl, rfl⟩, ⟨by decide, by decide⟩, by decide, by decide⟩
set_option maxRecDepth 100000 in
theorem cv_X11_isLapsed : CFv mX11_isLapsed := ⟨⟨List.mem_of_getElem? (i := 1858) rfl, rfl⟩, ⟨List.mem_of_getElem? (i := 135) rfl, rfl⟩⟩
abbrev mX11_powerIf : Mt := (yX11_powerIf, cX11_powerIf, 4, (some .int))
set_option maxRecDepth 100000 in
theorem cf_X11_powerIf : CF mX11_powerIf 2 := ⟨⟨List.mem_of_getElem? (i := 1863) rfl, rfl⟩, ⟨List.mem_of_getElem? (i := 158) rfl, rfl⟩, ⟨by decide, by decide⟩, by decide, by decide⟩
set_option maxRecDepth 100000 in
theorem cv_X11_powerIf : CFv mX11_powerIf := ⟨⟨List.mem_of_getElem? (i := 1862) rfl, rfl⟩, ⟨List.mem_of_getElem? (i := 136) rfl, rfl⟩⟩
abbrev mX11_ask : Mt := (yX11_ask, cX11_ask, 8, (some .int))
set_option maxRecDepth 100000 in
theorem cf_X11_ask : CF mX11_ask 1 := ⟨⟨List.mem_of_getElem? (i := 1867) rfl, rfl⟩, ⟨List.mem_of_getElem? (i := 158) rfl, rfl⟩, ⟨by decide, by decide⟩, by decide, by decide⟩
set_option maxRecDepth 100000 in
theorem cv_X11_ask : CFv mX11_ask := ⟨⟨List.mem_of_getElem? (i := 1865) rfl, rfl⟩, ⟨List.mem_of_getElem? (i := 1866) rfl, rfl⟩⟩
abbrev mX11_isTold : Mt := (yX11_isTold, cX11_isTold, 3, (some .boolean))
set_option maxRecDepth 100000 in
theorem cf_X11_isTold : CF mX11_isTold 1 := ⟨⟨List.mem_of_getElem? (i := 1871) rfl, rfl⟩, ⟨List.mem_of_getElem? (i := 158) rfl, rfl⟩, ⟨by decide, by decide⟩, by decide, by decide⟩
set_option maxRecDepth 100000 in
theorem cv_X11_isTold : CFv mX11_isTold := ⟨⟨List.mem_of_getElem? (i := 1870) rfl, rfl⟩, ⟨List.mem_of_getElem? (i := 137) rfl, rfl⟩⟩
abbrev mX11_best : Mt := (yX11_best, cX11_best, 4, (some .long))
set_option maxRecDepth 100000 in
theorem cf_X11_best : CF mX11_best 3 := ⟨⟨List.mem_of_getElem? (i := 1875) rfl, rfl⟩, ⟨List.mem_of_getElem? (i := 158) rfl, rfl⟩, ⟨by decide, by decide⟩, by decide, by decide⟩
set_option maxRecDepth 100000 in
theorem cv_X11_best : CFv mX11_best := ⟨⟨List.mem_of_getElem? (i := 1873) rfl, rfl⟩, ⟨List.mem_of_getElem? (i := 1874) rfl, rfl⟩⟩
abbrev mX11_goesBest : Mt := (yX11_goesBest, cX11_goesBest, 11, (some .long))
set_option maxRecDepth 100000 in
theorem cf_X11_goesBest : CF mX11_goesBest 5 := ⟨⟨List.mem_of_getElem? (i := 1879) rfl, rfl⟩, ⟨List.mem_of_getElem? (i := 158) rfl, rfl⟩, ⟨by decide, by decide⟩, by decide, by decide⟩
set_option maxRecDepth 100000 in
theorem cv_X11_goesBest : CFv mX11_goesBest := ⟨⟨List.mem_of_getElem? (i := 1878) rfl, rfl⟩, ⟨List.mem_of_getElem? (i := 138) rfl, rfl⟩⟩
abbrev mX11_partOf : Mt := (yX11_partOf, cX11_partOf, 11, (some .long))
set_option maxRecDepth 100000 in
theorem cf_X11_partOf : CF mX11_partOf 3 := ⟨⟨List.mem_of_getElem? (i := 1882) rfl, rfl⟩, ⟨List.mem_of_getElem? (i := 158) rfl, rfl⟩, ⟨by decide, by decide⟩, by decide, by decide⟩
set_option maxRecDepth 100000 in
theorem cs_X11_partOf : InT (.static yX11_partOf) := ⟨List.mem_of_getElem? (i := 1881) rfl, rfl⟩
abbrev mX11_without : Mt := (yX11_without, cX11_without, 7, (some .long))
set_option maxRecDepth 100000 in
theorem cf_X11_without : CF mX11_without 3 := ⟨⟨List.mem_of_getElem? (i := 1886) rfl, rfl⟩, ⟨List.mem_of_getElem? (i := 158) rfl, rfl⟩, ⟨by decide, by decide⟩, by decide, by decide⟩
set_option maxRecDepth 100000 in
theorem cv_X11_without : CFv mX11_without := ⟨⟨List.mem_of_getElem? (i := 1884) rfl, rfl⟩, ⟨List.mem_of_getElem? (i := 1885) rfl, rfl⟩⟩
abbrev mX11_ring : Mt := (yX11_ring, cX11_ring, 2, (some .int))
set_option maxRecDepth 100000 in
theorem cf_X11_ring : CF mX11_ring 1 := ⟨⟨List.mem_of_getElem? (i := 1890) rfl, rfl⟩, ⟨List.mem_of_getElem? (i := 158) rfl, rfl⟩, ⟨by decide, by decide⟩, by decide, by decide⟩
set_option maxRecDepth 100000 in
theorem cv_X11_ring : CFv mX11_ring := ⟨⟨List.mem_of_getElem? (i := 1888) rfl, rfl⟩, ⟨List.mem_of_getElem? (i := 1889) rfl, rfl⟩⟩
abbrev mX11_ringOf : Mt := (yX11_ringOf, cX11_ringOf, 4, (some .int))
set_option maxRecDepth 100000 in
theorem cf_X11_ringOf : CF mX11_ringOf 1 := ⟨⟨List.mem_of_getElem? (i := 1894) rfl, rfl⟩, ⟨List.mem_of_getElem? (i := 158) rfl, rfl⟩, ⟨by decide, by decide⟩, by decide, by decide⟩
set_option maxRecDepth 100000 in
theorem cv_X11_ringOf : CFv mX11_ringOf := ⟨⟨List.mem_of_getElem? (i := 1893) rfl, rfl⟩, ⟨List.mem_of_getElem? (i := 139) rfl, rfl⟩⟩
abbrev mX11_follows : Mt := (yX11_follows, cX11_follows, 6, (some .int))
set_option maxRecDepth 100000 in
theorem cf_X11_follows : CF mX11_follows 2 := ⟨⟨List.mem_of_getElem? (i := 1898) rfl, rfl⟩, ⟨List.mem_of_getElem? (i := 158) rfl, rfl⟩, ⟨by decide, by decide⟩, by decide, by decide⟩
set_option maxRecDepth 100000 in
theorem cv_X11_follows : CFv mX11_follows := ⟨⟨List.mem_of_getElem? (i := 1896) rfl, rfl⟩, ⟨List.mem_of_getElem? (i := 1897) rfl, rfl⟩⟩
abbrev mX11_tempted : Mt := (yX11_tempted, cX11_tempted, 9, (some .int))
set_option maxRecDepth 100000 in
theorem cf_X11_tempted : CF mX11_tempted 3 := ⟨⟨List.mem_of_getElem? (i := 1903) rfl, rfl⟩, ⟨List.mem_of_getElem? (i := 158) rfl, rfl⟩, ⟨by decide, by decide⟩, by decide, by decide⟩
set_option maxRecDepth 100000 in
theorem cv_X11_tempted : CFv mX11_tempted := ⟨⟨List.mem_of_getElem? (i := 1901) rfl, rfl⟩, ⟨List.mem_of_getElem? (i := 1902) rfl, rfl⟩⟩
abbrev mX11_isBest : Mt := (yX11_isBest, cX11_isBest, 4, (some .boolean))
set_option maxRecDepth 100000 in
theorem cf_X11_isBest : CF mX11_isBest 4 := ⟨⟨List.mem_of_getElem? (i := 1906) rfl, rfl⟩, ⟨List.mem_of_getElem? (i := 158) rfl, rfl⟩, ⟨by decide, by decide⟩, by decide, by decide⟩
set_option maxRecDepth 100000 in
theorem cs_X11_isBest : InT (.static yX11_isBest) := ⟨List.mem_of_getElem? (i := 1905) rfl, rfl⟩
abbrev mX11_hasBy : Mt := (yX11_hasBy, cX11_hasBy, 4, (some .int))
set_option maxRecDepth 100000 in
theorem cf_X11_hasBy : CF mX11_hasBy 4 := ⟨⟨List.mem_of_getElem? (i := 1909) rfl, rfl⟩, ⟨List.mem_of_getElem? (i := 158) rfl, rfl⟩, ⟨by decide, by decide⟩, by decide, by decide⟩
set_option maxRecDepth 100000 in
theorem cs_X11_hasBy : InT (.static yX11_hasBy) := ⟨List.mem_of_getElem? (i := 1908) rfl, rfl⟩
abbrev mX11_alms : Mt := (yX11_alms, cX11_alms, 5, (some .int))
set_option maxRecDepth 100000 in
theorem cf_X11_alms : CF mX11_alms 3 := ⟨⟨List.mem_of_getElem? (i := 1913) rfl, rfl⟩, ⟨List.mem_of_getElem? (i := 158) rfl, rfl⟩, ⟨by decide, by decide⟩, by decide, by decide⟩
set_option maxRecDepth 100000 in
theorem cv_X11_alms : CFv mX11_alms := ⟨⟨List.mem_of_getElem? (i := 1911) rfl, rfl⟩, ⟨List.mem_of_getElem? (i := 1912) rfl, rfl⟩⟩
abbrev mX11_givenBy : Mt := (yX11_givenBy, cX11_givenBy, 5, (some .int))
set_option maxRecDepth 100000 in
theorem cf_X11_givenBy : CF mX11_givenBy 2 := ⟨⟨List.mem_of_getElem? (i := 1917) rfl, rfl⟩, ⟨List.mem_of_getElem? (i := 158) rfl, rfl⟩, ⟨by decide, by decide⟩, by decide, by decide⟩
set_option maxRecDepth 100000 in
theorem cv_X11_givenBy : CFv mX11_givenBy := ⟨⟨List.mem_of_getElem? (i := 1916) rfl, rfl⟩, ⟨List.mem_of_getElem? (i := 140) rfl, rfl⟩⟩
abbrev mX11_strongest : Mt := (yX11_strongest, cX11_strongest, 5, (some .int))
set_option maxRecDepth 100000 in
theorem cf_X11_strongest : CF mX11_strongest 1 := ⟨⟨List.mem_of_getElem? (i := 1921) rfl, rfl⟩, ⟨List.mem_of_getElem? (i := 158) rfl, rfl⟩, ⟨by decide, by decide⟩, by decide, by decide⟩
set_option maxRecDepth 100000 in
theorem cv_X11_strongest : CFv mX11_strongest := ⟨⟨List.mem_of_getElem? (i := 1919) rfl, rfl⟩, ⟨List.mem_of_getElem? (i := 1920) rfl, rfl⟩⟩
abbrev mX11_eldest : Mt := (yX11_eldest, cX11_eldest, 5, (some .int))
set_option maxRecDepth 100000 in
theorem cf_X11_eldest : CF mX11_eldest 1 := ⟨⟨List.mem_of_getElem? (i := 1925) rfl, rfl⟩, ⟨List.mem_of_getElem? (i := 158) rfl, rfl⟩, ⟨by decide, by decide⟩, by decide, by decide⟩
set_option maxRecDepth 100000 in
theorem cv_X11_eldest : CFv mX11_eldest := ⟨⟨List.mem_of_getElem? (i := 1923) rfl, rfl⟩, ⟨List.mem_of_getElem? (i := 1924) rfl, rfl⟩⟩
abbrev mX11_idle : Mt := (yX11_idle, cX11_idle, 3, (some .int))
set_option maxRecDepth 100000 in
theorem cf_X11_idle : CF mX11_idle 0 := ⟨⟨List.mem_of_getElem? (i := 1929) rfl, rfl⟩, ⟨List.mem_of_getElem? (i := 158) rfl, rfl⟩, ⟨by decide, by decide⟩, by decide, by decide⟩
set_option maxRecDepth 100000 in
theorem cv_X11_idle : CFv mX11_idle := ⟨⟨List.mem_of_getElem? (i := 1927) rfl, rfl⟩, ⟨List.mem_of_getElem? (i := 1928) rfl, rfl⟩⟩
abbrev mX11_needs : Mt := (yX11_needs, cX11_needs, 4, (some .int))
set_option maxRecDepth 100000 in
theorem cf_X11_needs : CF mX11_needs 1 := ⟨⟨List.mem_of_getElem? (i := 1933) rfl, rfl⟩, ⟨List.mem_of_getElem? (i := 158) rfl, rfl⟩, ⟨by decide, by decide⟩, by decide, by decide⟩
set_option maxRecDepth 100000 in
theorem cv_X11_needs : CFv mX11_needs := ⟨⟨List.mem_of_getElem? (i := 1931) rfl, rfl⟩, ⟨List.mem_of_getElem? (i := 1932) rfl, rfl⟩⟩
abbrev mX11_strength : Mt := (yX11_strength, cX11_strength, 4, (some .int))
set_option maxRecDepth 100000 in
theorem cf_X11_strength : CF mX11_strength 1 := ⟨⟨List.mem_of_getElem? (i := 1937) rfl, rfl⟩, ⟨List.mem_of_getElem? (i := 158) rfl, rfl⟩, ⟨by decide, by decide⟩, by decide, by decide⟩
set_option maxRecDepth 100000 in
theorem cv_X11_strength : CFv mX11_strength := ⟨⟨List.mem_of_getElem? (i := 1935) rfl, rfl⟩, ⟨List.mem_of_getElem? (i := 1936) rfl, rfl⟩⟩
abbrev mX11_weakest : Mt := (yX11_weakest, cX11_weakest, 5, (some .int))
set_option maxRecDepth 100000 in
theorem cf_X11_weakest : CF mX11_weakest 1 := ⟨⟨List.mem_of_getElem? (i := 1941) rfl, rfl⟩, ⟨List.mem_of_getElem? (i := 158) rfl, rfl⟩, ⟨by decide, by decide⟩, by decide, by decide⟩
set_option maxRecDepth 100000 in
theorem cv_X11_weakest : CFv mX11_weakest := ⟨⟨List.mem_of_getElem? (i := 1939) rfl, rfl⟩, ⟨List.mem_of_getElem? (i := 1940) rfl, rfl⟩⟩
abbrev mX11_bare : Mt := (yX11_bare, cX11_bare, 3, (some .int))
set_option maxRecDepth 100000 in
theorem cf_X11_bare : CF mX11_bare 0 := ⟨⟨List.mem_of_getElem? (i := 1945) rfl, rfl⟩, ⟨List.mem_of_getElem? (i := 158) rfl, rfl⟩, ⟨by decide, by decide⟩, by decide, by decide⟩
set_option maxRecDepth 100000 in
theorem cv_X11_bare : CFv mX11_bare := ⟨⟨List.mem_of_getElem? (i := 1943) rfl, rfl⟩, ⟨List.mem_of_getElem? (i := 1944) rfl, rfl⟩⟩
abbrev mX11_year : Mt := (yX11_year, cX11_year, 4, (some .int))
set_option maxRecDepth 100000 in
theorem cf_X11_year : CF mX11_year 3 := ⟨⟨List.mem_of_getElem? (i := 1949) rfl, rfl⟩, ⟨List.mem_of_getElem? (i := 158) rfl, rfl⟩, ⟨by decide, by decide⟩, by decide, by decide⟩
set_option maxRecDepth 100000 in
theorem cv_X11_year : CFv mX11_year := ⟨⟨List.mem_of_getElem? (i := 1947) rfl, rfl⟩, ⟨List.mem_of_getElem? (i := 1948) rfl, rfl⟩⟩
abbrev mX11_yearBy : Mt := (yX11_yearBy, cX11_yearBy, 5, none)
set_option maxRecDepth 100000 in
theorem cf_X11_yearBy : CF mX11_yearBy 2 := ⟨⟨List.mem_of_getElem? (i := 1953) rfl, rfl⟩, ⟨List.mem_of_getElem? (i := 158) rfl, rfl⟩, ⟨by decide, by decide⟩, by decide, by decide⟩
set_option maxRecDepth 100000 in
theorem cv_X11_yearBy : CFv mX11_yearBy := ⟨⟨List.mem_of_getElem? (i := 1952) rfl, rfl⟩, ⟨List.mem_of_getElem? (i := 141) rfl, rfl⟩⟩
abbrev mX11_draw : Mt := (yX11_draw, cX11_draw, 2, (some .int))
set_option maxRecDepth 100000 in
theorem cf_X11_draw : CF mX11_draw 1 := ⟨⟨List.mem_of_getElem? (i := 1957) rfl, rfl⟩, ⟨List.mem_of_getElem? (i := 158) rfl, rfl⟩, ⟨by decide, by decide⟩, by decide, by decide⟩
set_option maxRecDepth 100000 in
theorem cv_X11_draw : CFv mX11_draw := ⟨⟨List.mem_of_getElem? (i := 1956) rfl, rfl⟩, ⟨List.mem_of_getElem? (i := 142) rfl, rfl⟩⟩
abbrev mX11_curedMore : Mt := (yX11_curedMore, cX11_curedMore, 1, (some .int))
set_option maxRecDepth 100000 in
theorem cf_X11_curedMore : CF mX11_curedMore 0 := ⟨⟨List.mem_of_getElem? (i := 1962) rfl, rfl⟩, ⟨List.mem_of_getElem? (i := 158) rfl, rfl⟩, ⟨by decide, by decide⟩, by decide, by decide⟩
set_option maxRecDepth 100000 in
theorem cv_X11_curedMore : CFv mX11_curedMore := ⟨⟨List.mem_of_getElem? (i := 1961) rfl, rfl⟩, ⟨List.mem_of_getElem? (i := 143) rfl, rfl⟩⟩
abbrev mX11_span : Mt := (yX11_span, cX11_span, 11, (some .int))
set_option maxRecDepth 100000 in
theorem cf_X11_span : CF mX11_span 5 := ⟨⟨List.mem_of_getElem? (i := 1966) rfl, rfl⟩, ⟨List.mem_of_getElem? (i := 158) rfl, rfl⟩, ⟨by decide, by decide⟩, by decide, by decide⟩
set_option maxRecDepth 100000 in
theorem cv_X11_span : CFv mX11_span := ⟨⟨List.mem_of_getElem? (i := 1964) rfl, rfl⟩, ⟨List.mem_of_getElem? (i := 1965) rfl, rfl⟩⟩
abbrev mX11_image : Mt := (yX11_image, cX11_image, 1, (some .int))
set_option maxRecDepth 100000 in
theorem cf_X11_image : CF mX11_image 0 := ⟨⟨List.mem_of_getElem? (i := 1970) rfl, rfl⟩, ⟨List.mem_of_getElem? (i := 158) rfl, rfl⟩, ⟨by decide, by decide⟩, by decide, by decide⟩
set_option maxRecDepth 100000 in
theorem cv_X11_image : CFv mX11_image := ⟨⟨List.mem_of_getElem? (i := 1968) rfl, rfl⟩, ⟨List.mem_of_getElem? (i := 1969) rfl, rfl⟩⟩
abbrev mX11_putsAll : Mt := (yX11_putsAll, cX11_putsAll, 5, none)
set_option maxRecDepth 100000 in
theorem cf_X11_putsAll : CF mX11_putsAll 2 := ⟨⟨List.mem_of_getElem? (i := 1974) rfl, rfl⟩, ⟨List.mem_of_getElem? (i := 158) rfl, rfl⟩, ⟨by decide, by decide⟩, by decide, by decide⟩
set_option maxRecDepth 100000 in
theorem cv_X11_putsAll : CFv mX11_putsAll := ⟨⟨List.mem_of_getElem? (i := 1973) rfl, rfl⟩, ⟨List.mem_of_getElem? (i := 144) rfl, rfl⟩⟩
abbrev mX11_puts : Mt := (yX11_puts, cX11_puts, 4, (some .int))
set_option maxRecDepth 100000 in
theorem cf_X11_puts : CF mX11_puts 3 := ⟨⟨List.mem_of_getElem? (i := 1978) rfl, rfl⟩, ⟨List.mem_of_getElem? (i := 158) rfl, rfl⟩, ⟨by decide, by decide⟩, by decide, by decide⟩
set_option maxRecDepth 100000 in
theorem cv_X11_puts : CFv mX11_puts := ⟨⟨List.mem_of_getElem? (i := 1977) rfl, rfl⟩, ⟨List.mem_of_getElem? (i := 145) rfl, rfl⟩⟩
abbrev mX11_restore : Mt := (yX11_restore, cX11_restore, 1, (some .int))
set_option maxRecDepth 100000 in
theorem cf_X11_restore : CF mX11_restore 0 := ⟨⟨List.mem_of_getElem? (i := 1982) rfl, rfl⟩, ⟨List.mem_of_getElem? (i := 158) rfl, rfl⟩, ⟨by decide, by decide⟩, by decide, by decide⟩
set_option maxRecDepth 100000 in
theorem cv_X11_restore : CFv mX11_restore := ⟨⟨List.mem_of_getElem? (i := 1980) rfl, rfl⟩, ⟨List.mem_of_getElem? (i := 1981) rfl, rfl⟩⟩
abbrev mX11_status : Mt := (yX11_status, cX11_status, 2, (some .int))
set_option maxRecDepth 100000 in
theorem cf_X11_status : CF mX11_status 1 := ⟨⟨List.mem_of_getElem? (i := 1986) rfl, rfl⟩, ⟨List.mem_of_getElem? (i := 158) rfl, rfl⟩, ⟨by decide, by decide⟩, by decide, by decide⟩
set_option maxRecDepth 100000 in
theorem cv_X11_status : CFv mX11_status := ⟨⟨List.mem_of_getElem? (i := 1984) rfl, rfl⟩, ⟨List.mem_of_getElem? (i := 1985) rfl, rfl⟩⟩
abbrev mX11_count : Mt := (yX11_count, cX11_count, 2, (some .int))
set_option maxRecDepth 100000 in
theorem cf_X11_count : CF mX11_count 1 := ⟨⟨List.mem_of_getElem? (i := 1990) rfl, rfl⟩, ⟨List.mem_of_getElem? (i := 158) rfl, rfl⟩, ⟨by decide, by decide⟩, by decide, by decide⟩
set_option maxRecDepth 100000 in
theorem cv_X11_count : CFv mX11_count := ⟨⟨List.mem_of_getElem? (i := 1988) rfl, rfl⟩, ⟨List.mem_of_getElem? (i := 1989) rfl, rfl⟩⟩
