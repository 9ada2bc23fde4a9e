set_option maxRecDepth 100000 in
theorem ml_L_107 : InT (.methodLink RL 107 yX10_init) := ⟨List.mem_of_getElem? (i := 174) rfl, rfl⟩
set_option maxRecDepth 100000 in
theorem ml_X10_1 : InT (.methodLink RX10 1 yObj) := ⟨List.mem_of_getElem? (i := 177) rfl, rfl⟩
set_option maxRecDepth 100000 in
theorem ml_X10_9 : InN (.methodLinkNest RX10 9 yX8_init "RelicHouse") := ⟨List.mem_of_getElem? (i := 182) rfl, rfl⟩
set_option maxRecDepth 100000 in
theorem ml_X8_3 : InT (.methodLink RX8 3 yObj) := ⟨List.mem_of_getElem? (i := 185) rfl, rfl⟩
set_option maxRecDepth 100000 in
theorem ml_X10_20 : InN (.methodLinkNest RX10 20 yX1_init "RelicHouse") := ⟨List.mem_of_getElem? (i := 221) rfl, rfl⟩
set_option maxRecDepth 100000 in
theorem ml_X1_3 : InT (.methodLink RX1 3 yObj) := ⟨List.mem_of_getElem? (i := 224) rfl, rfl⟩
set_option maxRecDepth 100000 in
theorem ml_X10_23 : InN (.methodLinkNest RX10 23 yX2_init "RelicHouse") := ⟨List.mem_of_getElem? (i := 295) rfl, rfl⟩
set_option maxRecDepth 100000 in
theorem ml_X2_3 : InT (.methodLink RX2 3 yObj) := ⟨List.mem_of_getElem? (i := 298) rfl, rfl⟩
set_option maxRecDepth 100000 in
theorem ml_X10_24 : InN (.methodLinkNest RX10 24 yX0_init "RelicHouse") := ⟨List.mem_of_getElem? (i := 309) rfl, rfl⟩
set_option maxRecDepth 100000 in
theorem ml_X0_5 : InT (.methodLink RX0 5 yObj) := ⟨List.mem_of_getElem? (i := 312) rfl, rfl⟩
set_option maxRecDepth 100000 in
theorem ml_X0_28 : InT (.methodLink RX0 28 yX0_begin) := ⟨List.mem_of_getElem? (i := 313) rfl, rfl⟩
set_option maxRecDepth 100000 in
theorem ml_X0_37 : InN (.methodLinkNest RX0 37 yX2_setPlain "RelicHouse") := ⟨List.mem_of_getElem? (i := 317) rfl, rfl⟩
set_option maxRecDepth 100000 in
theorem ml_X2_22 : InT (.methodLink RX2 22 yX2_add) := ⟨List.mem_of_getElem? (i := 321) rfl, rfl⟩
set_option maxRecDepth 100000 in
theorem ml_X10_33 : InN (.methodLinkNest RX10 33 yX4_init "RelicHouse") := ⟨List.mem_of_getElem? (i := 349) rfl, rfl⟩
set_option maxRecDepth 100000 in
theorem ml_X4_3 : InT (.methodLink RX4 3 yObj) := ⟨List.mem_of_getElem? (i := 352) rfl, rfl⟩
set_option maxRecDepth 100000 in
theorem ml_X10_40 : InN (.methodLinkNest RX10 40 yX7_init "RelicHouse") := ⟨List.mem_of_getElem? (i := 383) rfl, rfl⟩
set_option maxRecDepth 100000 in
theorem ml_X7_3 : InT (.methodLink RX7 3 yObj) := ⟨List.mem_of_getElem? (i := 386) rfl, rfl⟩
set_option maxRecDepth 100000 in
theorem ml_X10_47 : InN (.methodLinkNest RX10 47 yX3_init "RelicHouse") := ⟨List.mem_of_getElem? (i := 399) rfl, rfl⟩
set_option maxRecDepth 100000 in
theorem ml_X3_3 : InT (.methodLink RX3 3 yObj) := ⟨List.mem_of_getElem? (i := 402) rfl, rfl⟩
set_option maxRecDepth 100000 in
theorem ml_X10_62 : InN (.methodLinkNest RX10 62 yX9_init "RelicHouse") := ⟨List.mem_of_getElem? (i := 419) rfl, rfl⟩
set_option maxRecDepth 100000 in
theorem ml_X9_3 : InT (.methodLink RX9 3 yObj) := ⟨List.mem_of_getElem? (i := 422) rfl, rfl⟩
set_option maxRecDepth 100000 in
theorem ml_X9_11 : InN (.methodLinkNest RX9 11 yX0_init "RelicHouse") := ⟨List.mem_of_getElem? (i := 424) rfl, rfl⟩
set_option maxRecDepth 100000 in
theorem ml_X10_69 : InN (.methodLinkNest RX10 69 yX5_init "RelicHouse") := ⟨List.mem_of_getElem? (i := 443) rfl, rfl⟩
set_option maxRecDepth 100000 in
theorem ml_X5_1 : InT (.methodLink RX5 1 yObj) := ⟨List.mem_of_getElem? (i := 446) rfl, rfl⟩
set_option maxRecDepth 100000 in
theorem ml_X10_85 : InN (.methodLinkNest RX10 85 yX6_init "RelicHouse") := ⟨List.mem_of_getElem? (i := 464) rfl, rfl⟩
set_option maxRecDepth 100000 in
theorem ml_X6_3 : InT (.methodLink RX6 3 yObj) := ⟨List.mem_of_getElem? (i := 467) rfl, rfl⟩
set_option maxRecDepth 100000 in
theorem ml_X6_15 : InT (.methodLink RX6 15 yX6_clear) := ⟨List.mem_of_getElem? (i := 468) rfl, rfl⟩
set_option maxRecDepth 100000 in
theorem ml_L_111 : InT (.methodLink RL 111 yX10_feed) := ⟨List.mem_of_getElem? (i := 531) rfl, rfl⟩
set_option maxRecDepth 100000 in
theorem ml_X10_99 : InN (.methodLinkNest RX10 99 yX8_hasRoom "RelicHouse") := ⟨List.mem_of_getElem? (i := 535) rfl, rfl⟩
set_option maxRecDepth 100000 in
theorem ml_X10_103 : InN (.methodLinkNest RX10 103 yX8_put "RelicHouse") := ⟨List.mem_of_getElem? (i := 539) rfl, rfl⟩
set_option maxRecDepth 100000 in
theorem ml_L_134 : InT (.methodLink RL 134 yX10_fault) := ⟨List.mem_of_getElem? (i := 543) rfl, rfl⟩
set_option maxRecDepth 100000 in
theorem ml_L_138 : InT (.methodLink RL 138 yX10_undo) := ⟨List.mem_of_getElem? (i := 547) rfl, rfl⟩
set_option maxRecDepth 100000 in
theorem ml_X10_174 : InN (.methodLinkNest RX10 174 yX5_pop "RelicHouse") := ⟨List.mem_of_getElem? (i := 551) rfl, rfl⟩
set_option maxRecDepth 100000 in
theorem ml_L_169 : InT (.methodLink RL 169 yX10_match) := ⟨List.mem_of_getElem? (i := 558) rfl, rfl⟩
set_option maxRecDepth 100000 in
theorem ml_X10_271 : InN (.methodLinkNest RX10 271 yX3_pair "RelicHouse") := ⟨List.mem_of_getElem? (i := 562) rfl, rfl⟩
set_option maxRecDepth 100000 in
theorem ml_X3_36 : InN (.methodLinkNest RX3 36 yX0_isCured "RelicHouse") := ⟨List.mem_of_getElem? (i := 566) rfl, rfl⟩
set_option maxRecDepth 100000 in
theorem ml_X3_40 : InN (.methodLinkNest RX3 40 yX0_relicsThatCan "RelicHouse") := ⟨List.mem_of_getElem? (i := 570) rfl, rfl⟩
set_option maxRecDepth 100000 in
theorem ml_X0_101 : InT (.methodLink RX0 101 yX0_canIn) := ⟨List.mem_of_getElem? (i := 574) rfl, rfl⟩
set_option maxRecDepth 100000 in
theorem ml_X0_81 : InT (.methodLink RX0 81 yX0_powerIf) := ⟨List.mem_of_getElem? (i := 578) rfl, rfl⟩
set_option maxRecDepth 100000 in
theorem ml_X0_57 : InT (.methodLink RX0 57 yX0_isKept) := ⟨List.mem_of_getElem? (i := 582) rfl, rfl⟩
set_option maxRecDepth 100000 in
theorem ml_X0_53 : InT (.methodLink RX0 53 yX0_keptOf) := ⟨List.mem_of_getElem? (i := 586) rfl, rfl⟩
set_option maxRecDepth 100000 in
theorem ml_X0_72 : InT (.methodLink RX0 72 yJ6_bitCount_0f7a4) := ⟨List.mem_of_getElem? (i := 590) rfl, rfl⟩
set_option maxRecDepth 100000 in
theorem ml_X0_77 : InN (.methodLinkNest RX0 77 yX2_power "RelicHouse") := ⟨List.mem_of_getElem? (i := 596) rfl, rfl⟩
set_option maxRecDepth 100000 in
theorem ml_X2_90 : InT (.methodLink RX2 90 yX2_combine) := ⟨List.mem_of_getElem? (i := 600) rfl, rfl⟩
set_option maxRecDepth 100000 in
theorem ml_X2_94 : InT (.methodLink RX2 94 yJ9_min_7cf53) := ⟨List.mem_of_getElem? (i := 603) rfl, rfl⟩
set_option maxRecDepth 100000 in
theorem ml_X2_99 : InT (.methodLink RX2 99 yJ9_max_7cf53) := ⟨List.mem_of_getElem? (i := 606) rfl, rfl⟩
set_option maxRecDepth 100000 in
theorem ml_X3_47 : InT (.methodLink RX3 47 yX3_mostPairs) := ⟨List.mem_of_getElem? (i := 609) rfl, rfl⟩
set_option maxRecDepth 100000 in
theorem ml_X3_54 : InT (.methodLink RX3 54 yX3_findsRelic) := ⟨List.mem_of_getElem? (i := 613) rfl, rfl⟩
set_option maxRecDepth 100000 in
theorem ml_L_203 : InT (.methodLink RL 203 yX10_bare) := ⟨List.mem_of_getElem? (i := 617) rfl, rfl⟩
set_option maxRecDepth 100000 in
theorem ml_X10_227 : InN (.methodLinkNest RX10 227 yX0_isKept "RelicHouse") := ⟨List.mem_of_getElem? (i := 621) rfl, rfl⟩
set_option maxRecDepth 100000 in
theorem ml_L_213 : InT (.methodLink RL 213 yX10_idle) := ⟨List.mem_of_getElem? (i := 622) rfl, rfl⟩
set_option maxRecDepth 100000 in
theorem ml_X10_328 : InN (.methodLinkNest RX10 328 yX0_keepers "RelicHouse") := ⟨List.mem_of_getElem? (i := 626) rfl, rfl⟩
set_option maxRecDepth 100000 in
theorem ml_X0_49 : InT (.methodLink RX0 49 yX0_isLiving) := ⟨List.mem_of_getElem? (i := 630) rfl, rfl⟩
set_option maxRecDepth 100000 in
theorem ml_L_233 : InT (.methodLink RL 233 yX10_image) := ⟨List.mem_of_getElem? (i := 634) rfl, rfl⟩
set_option maxRecDepth 100000 in
theorem ml_X10_140 : InN (.methodLinkNest RX10 140 yX5_isFull "RelicHouse") := ⟨List.mem_of_getElem? (i := 638) rfl, rfl⟩
set_option maxRecDepth 100000 in
theorem ml_X10_347 : InN (.methodLinkNest RX10 347 yX5_copyOf "RelicHouse") := ⟨List.mem_of_getElem? (i := 642) rfl, rfl⟩
set_option maxRecDepth 100000 in
theorem ml_X10_150 : InN (.methodLinkNest RX10 150 yX5_push "RelicHouse") := ⟨List.mem_of_getElem? (i := 646) rfl, rfl⟩
set_option maxRecDepth 100000 in
theorem ml_L_237 : InT (.methodLink RL 237 yX10_restore) := ⟨List.mem_of_getElem? (i := 650) rfl, rfl⟩
set_option maxRecDepth 100000 in
theorem ml_L_241 : InT (.methodLink RL 241 yX10_status) := ⟨List.mem_of_getElem? (i := 654) rfl, rfl⟩
set_option maxRecDepth 100000 in
theorem ml_L_245 : InT (.methodLink RL 245 yX10_count) := ⟨List.mem_of_getElem? (i := 658) rfl, rfl⟩
set_option maxRecDepth 100000 in
theorem ml_L_115 : InT (.methodLink RL 115 yL_house) := ⟨List.mem_of_getElem? (i := 662) rfl, rfl⟩
set_option maxRecDepth 100000 in
theorem ml_L_7 : InT (.methodLink RL 7 yX10_house) := ⟨List.mem_of_getElem? (i := 666) rfl, rfl⟩
set_option maxRecDepth 100000 in
theorem ml_X10_111 : InT (.methodLink RX10 111 yX10_openText) := ⟨List.mem_of_getElem? (i := 670) rfl, rfl⟩
set_option maxRecDepth 100000 in
theorem ml_X10_323 : InT (.methodLink RX10 323 yJ9_min_7cf53) := ⟨List.mem_of_getElem? (i := 674) rfl, rfl⟩
set_option maxRecDepth 100000 in
theorem ml_X10_177 : InT (.methodLink RX10 177 yX10_isWithin) := ⟨List.mem_of_getElem? (i := 675) rfl, rfl⟩
set_option maxRecDepth 100000 in
theorem ml_X10_181 : InT (.methodLink RX10 181 yX10_needArgument) := ⟨List.mem_of_getElem? (i := 678) rfl, rfl⟩
set_option maxRecDepth 100000 in
theorem ml_X10_369 : InN (.methodLinkNest RX10 369 yX8_open "RelicHouse") := ⟨List.mem_of_getElem? (i := 748) rfl, rfl⟩
set_option maxRecDepth 100000 in
theorem ml_X10_114 : InN (.methodLinkNest RX10 114 yX1_read "RelicHouse") := ⟨List.mem_of_getElem? (i := 752) rfl, rfl⟩
set_option maxRecDepth 100000 in
theorem ml_X1_46 : InN (.methodLinkNest RX1 46 yX8_isSound "RelicHouse") := ⟨List.mem_of_getElem? (i := 756) rfl, rfl⟩
set_option maxRecDepth 100000 in
theorem ml_X1_52 : InN (.methodLinkNest RX1 52 yX8_next "RelicHouse") := ⟨List.mem_of_getElem? (i := 760) rfl, rfl⟩
set_option maxRecDepth 100000 in
theorem ml_X1_56 : InT (.methodLink RX1 56 yX1_readClause) := ⟨List.mem_of_getElem? (i := 764) rfl, rfl⟩
set_option maxRecDepth 100000 in
theorem ml_X1_62 : InN (.methodLinkNest RX1 62 yX8_word "RelicHouse") := ⟨List.mem_of_getElem? (i := 769) rfl, rfl⟩
set_option maxRecDepth 100000 in
theorem ml_X8_34 : InT (.methodLink RX8 34 yX8_next) := ⟨List.mem_of_getElem? (i := 773) rfl, rfl⟩
set_option maxRecDepth 100000 in
theorem ml_X8_52 : InT (.methodLink RX8 52 yX8_byteAt) := ⟨List.mem_of_getElem? (i := 774) rfl, rfl⟩
set_option maxRecDepth 100000 in
theorem ml_X8_62 : InT (.methodLink RX8 62 yX8_isLetter) := ⟨List.mem_of_getElem? (i := 778) rfl, rfl⟩
set_option maxRecDepth 100000 in
theorem ml_X8_65 : InT (.methodLink RX8 65 yJ0_length_8abf5) := ⟨List.mem_of_getElem? (i := 782) rfl, rfl⟩
set_option maxRecDepth 100000 in
theorem ml_J0_335 : InT (.methodLink RJ0 335 yJ0_coder_7d493) := ⟨List.mem_of_getElem? (i := 786) rfl, rfl⟩
set_option maxRecDepth 100000 in
theorem ml_X8_68 : InT (.methodLink RX8 68 yJ0_charAt_5068e) := ⟨List.mem_of_getElem? (i := 792) rfl, rfl⟩
set_option maxRecDepth 100000 in
theorem ml_J0_492 : InT (.methodLink RJ0 492 yJ0_isLatin1_aae02) := ⟨List.mem_of_getElem? (i := 796) rfl, rfl⟩
set_option maxRecDepth 100000 in
theorem ml_J0_495 : InT (.methodLink RJ0 495 yJ1_charAt_3b067) := ⟨List.mem_of_getElem? (i := 800) rfl, rfl⟩
set_option maxRecDepth 100000 in
theorem ml_J1_9 : InT (.methodLink RJ1 9 yJ0_checkIndex_df160) := ⟨List.mem_of_getElem? (i := 803) rfl, rfl⟩
set_option maxRecDepth 100000 in
theorem ml_J0_1059 : InT (.methodLink RJ0 1059 yJ3_checkIndex_8e157) := ⟨List.mem_of_getElem? (i := 808) rfl, rfl⟩
set_option maxRecDepth 100000 in
theorem ml_J0_498 : InT (.methodLink RJ0 498 yJ2_charAt_3b067) := ⟨List.mem_of_getElem? (i := 811) rfl, rfl⟩
set_option maxRecDepth 100000 in
theorem ml_J2_67 : InT (.methodLink RJ2 67 yJ2_checkIndex_2214a) := ⟨List.mem_of_getElem? (i := 814) rfl, rfl⟩
set_option maxRecDepth 100000 in
theorem ml_J2_48 : InT (.methodLink RJ2 48 yJ2_length_9d52b) := ⟨List.mem_of_getElem? (i := 817) rfl, rfl⟩
set_option maxRecDepth 100000 in
theorem ml_J2_414 : InT (.methodLink RJ2 414 yJ0_checkIndex_df160) := ⟨List.mem_of_getElem? (i := 820) rfl, rfl⟩
set_option maxRecDepth 100000 in
theorem ml_J2_71 : InT (.methodLink RJ2 71 yJ2_getChar_3b067) := ⟨List.mem_of_getElem? (i := 821) rfl, rfl⟩
set_option maxRecDepth 100000 in
theorem ml_X8_72 : InT (.methodLink RX8 72 yX8_isToken) := ⟨List.mem_of_getElem? (i := 830) rfl, rfl⟩
set_option maxRecDepth 100000 in
theorem ml_X8_44 : InT (.methodLink RX8 44 yX8_mark) := ⟨List.mem_of_getElem? (i := 834) rfl, rfl⟩
set_option maxRecDepth 100000 in
theorem ml_X1_66 : InT (.methodLink RX1 66 yX1_isFull) := ⟨List.mem_of_getElem? (i := 838) rfl, rfl⟩
set_option maxRecDepth 100000 in
theorem ml_X1_73 : InN (.methodLinkNest RX1 73 yX8_mark "RelicHouse") := ⟨List.mem_of_getElem? (i := 842) rfl, rfl⟩
set_option maxRecDepth 100000 in
theorem ml_X1_77 : InT (.methodLink RX1 77 yX1_readSister) := ⟨List.mem_of_getElem? (i := 843) rfl, rfl⟩
set_option maxRecDepth 100000 in
theorem ml_X1_94 : InN (.methodLinkNest RX1 94 yX8_number "RelicHouse") := ⟨List.mem_of_getElem? (i := 847) rfl, rfl⟩
set_option maxRecDepth 100000 in
theorem ml_X8_48 : InT (.methodLink RX8 48 yX8_isDigit) := ⟨List.mem_of_getElem? (i := 851) rfl, rfl⟩
set_option maxRecDepth 100000 in
theorem ml_X8_56 : InT (.methodLink RX8 56 yJ9_min_7cf53) := ⟨List.mem_of_getElem? (i := 856) rfl, rfl⟩
set_option maxRecDepth 100000 in
theorem ml_X1_81 : InT (.methodLink RX1 81 yX1_readRelic) := ⟨List.mem_of_getElem? (i := 857) rfl, rfl⟩
set_option maxRecDepth 100000 in
theorem ml_X1_98 : InT (.methodLink RX1 98 yX1_hasSister) := ⟨List.mem_of_getElem? (i := 861) rfl, rfl⟩
set_option maxRecDepth 100000 in
theorem ml_X1_84 : InT (.methodLink RX1 84 yX1_readPilgrim) := ⟨List.mem_of_getElem? (i := 865) rfl, rfl⟩
set_option maxRecDepth 100000 in
theorem ml_X1_87 : InT (.methodLink RX1 87 yX1_readVow) := ⟨List.mem_of_getElem? (i := 869) rfl, rfl⟩
set_option maxRecDepth 100000 in
theorem ml_X1_90 : InN (.methodLinkNest RX1 90 yX8_demand "RelicHouse") := ⟨List.mem_of_getElem? (i := 873) rfl, rfl⟩
set_option maxRecDepth 100000 in
theorem ml_X10_118 : InN (.methodLinkNest RX10 118 yX8_isSound "RelicHouse") := ⟨List.mem_of_getElem? (i := 877) rfl, rfl⟩
set_option maxRecDepth 100000 in
theorem ml_X10_124 : InN (.methodLinkNest RX10 124 yX0_begin "RelicHouse") := ⟨List.mem_of_getElem? (i := 878) rfl, rfl⟩
set_option maxRecDepth 100000 in
theorem ml_X10_127 : InN (.methodLinkNest RX10 127 yX6_clear "RelicHouse") := ⟨List.mem_of_getElem? (i := 879) rfl, rfl⟩
set_option maxRecDepth 100000 in
theorem ml_L_125 : InT (.methodLink RL 125 yL_law) := ⟨List.mem_of_getElem? (i := 880) rfl, rfl⟩
set_option maxRecDepth 100000 in
theorem ml_L_15 : InT (.methodLink RL 15 yX10_law) := ⟨List.mem_of_getElem? (i := 883) rfl, rfl⟩
set_option maxRecDepth 100000 in
theorem ml_X10_139 : InN (.methodLinkNest RX10 139 yX2_read "RelicHouse") := ⟨List.mem_of_getElem? (i := 887) rfl, rfl⟩
set_option maxRecDepth 100000 in
theorem ml_X2_26 : InT (.methodLink RX2 26 yX2_readSum) := ⟨List.mem_of_getElem? (i := 891) rfl, rfl⟩
set_option maxRecDepth 100000 in
theorem ml_X2_47 : InT (.methodLink RX2 47 yX2_readProduct) := ⟨List.mem_of_getElem? (i := 895) rfl, rfl⟩
set_option maxRecDepth 100000 in
theorem ml_X2_56 : InT (.methodLink RX2 56 yX2_readUnit) := ⟨List.mem_of_getElem? (i := 899) rfl, rfl⟩
set_option maxRecDepth 100000 in
theorem ml_X2_36 : InN (.methodLinkNest RX2 36 yX8_next "RelicHouse") := ⟨List.mem_of_getElem? (i := 903) rfl, rfl⟩
set_option maxRecDepth 100000 in
theorem ml_X2_61 : InN (.methodLinkNest RX2 61 yX8_isDigit "RelicHouse") := ⟨List.mem_of_getElem? (i := 904) rfl, rfl⟩
set_option maxRecDepth 100000 in
theorem ml_X2_65 : InN (.methodLinkNest RX2 65 yX8_number "RelicHouse") := ⟨List.mem_of_getElem? (i := 905) rfl, rfl⟩
set_option maxRecDepth 100000 in
theorem ml_X2_52 : InN (.methodLinkNest RX2 52 yX8_takeOne "RelicHouse") := ⟨List.mem_of_getElem? (i := 907) rfl, rfl⟩
set_option maxRecDepth 100000 in
theorem ml_X8_38 : InT (.methodLink RX8 38 yJ0_indexOf_0f7a4) := ⟨List.mem_of_getElem? (i := 911) rfl, rfl⟩
set_option maxRecDepth 100000 in
theorem ml_J0_633 : InT (.methodLink RJ0 633 yJ0_indexOf_7cf53) := ⟨List.mem_of_getElem? (i := 915) rfl, rfl⟩
set_option maxRecDepth 100000 in
theorem ml_J0_505 : InT (.methodLink RJ0 505 yJ0_length_8abf5) := ⟨List.mem_of_getElem? (i := 919) rfl, rfl⟩
set_option maxRecDepth 100000 in
theorem ml_J0_637 : InT (.methodLink RJ0 637 yJ1_indexOf_4cfef) := ⟨List.mem_of_getElem? (i := 920) rfl, rfl⟩
set_option maxRecDepth 100000 in
theorem ml_J1_88 : InT (.methodLink RJ1 88 yJ1_canEncode_9a6ad) := ⟨List.mem_of_getElem? (i := 923) rfl, rfl⟩
set_option maxRecDepth 100000 in
theorem ml_J1_92 : InT (.methodLink RJ1 92 yJ9_max_7cf53) := ⟨List.mem_of_getElem? (i := 926) rfl, rfl⟩
set_option maxRecDepth 100000 in
theorem ml_J1_38 : InT (.methodLink RJ1 38 yJ9_min_7cf53) := ⟨List.mem_of_getElem? (i := 927) rfl, rfl⟩
set_option maxRecDepth 100000 in
theorem ml_J1_95 : InT (.methodLink RJ1 95 yJ1_indexOfChar_4cfef) := ⟨List.mem_of_getElem? (i := 928) rfl, rfl⟩
set_option maxRecDepth 100000 in
theorem ml_J0_640 : InT (.methodLink RJ0 640 yJ2_indexOf_4cfef) := ⟨List.mem_of_getElem? (i := 931) rfl, rfl⟩
set_option maxRecDepth 100000 in
theorem ml_J2_224 : InT (.methodLink RJ2 224 yJ9_max_7cf53) := ⟨List.mem_of_getElem? (i := 934) rfl, rfl⟩
set_option maxRecDepth 100000 in
theorem ml_J2_183 : InT (.methodLink RJ2 183 yJ9_min_7cf53) := ⟨List.mem_of_getElem? (i := 935) rfl, rfl⟩
set_option maxRecDepth 100000 in
theorem ml_J2_228 : InT (.methodLink RJ2 228 yJ2_indexOfChar_4cfef) := ⟨List.mem_of_getElem? (i := 937) rfl, rfl⟩
set_option maxRecDepth 100000 in
theorem ml_J2_96 : InT (.methodLink RJ2 96 yJ2_checkBoundsBeginEnd_d044e) := ⟨List.mem_of_getElem? (i := 940) rfl, rfl⟩
set_option maxRecDepth 100000 in
theorem ml_J2_241 : InT (.methodLink RJ2 241 yJ0_checkBoundsBeginEnd_23922) := ⟨List.mem_of_getElem? (i := 943) rfl, rfl⟩
set_option maxRecDepth 100000 in
theorem ml_J0_1062 : InT (.methodLink RJ0 1062 yJ3_checkFromToIndex_8c36e) := ⟨List.mem_of_getElem? (i := 946) rfl, rfl⟩
set_option maxRecDepth 100000 in
theorem ml_J2_244 : InT (.methodLink RJ2 244 yJ2_indexOfCharUnsafe_4cfef) := ⟨List.mem_of_getElem? (i := 949) rfl, rfl⟩
set_option maxRecDepth 100000 in
theorem ml_J2_232 : InT (.methodLink RJ2 232 yJ2_indexOfSupplementary_4cfef) := ⟨List.mem_of_getElem? (i := 952) rfl, rfl⟩
set_option maxRecDepth 100000 in
theorem ml_J2_164 : InT (.methodLink RJ2 164 yJ11_isValidCodePoint_9a6ad) := ⟨List.mem_of_getElem? (i := 955) rfl, rfl⟩
set_option maxRecDepth 100000 in
theorem ml_J2_157 : InT (.methodLink RJ2 157 yJ11_highSurrogate_5068e) := ⟨List.mem_of_getElem? (i := 958) rfl, rfl⟩
set_option maxRecDepth 100000 in
theorem ml_J2_161 : InT (.methodLink RJ2 161 yJ11_lowSurrogate_5068e) := ⟨List.mem_of_getElem? (i := 962) rfl, rfl⟩
set_option maxRecDepth 100000 in
theorem ml_X2_71 : InT (.methodLink RX2 71 yX2_mayOpen) := ⟨List.mem_of_getElem? (i := 966) rfl, rfl⟩
set_option maxRecDepth 100000 in
theorem ml_X2_43 : InN (.methodLinkNest RX2 43 yX8_mark "RelicHouse") := ⟨List.mem_of_getElem? (i := 970) rfl, rfl⟩
set_option maxRecDepth 100000 in
theorem ml_X2_75 : InN (.methodLinkNest RX2 75 yX8_demand "RelicHouse") := ⟨List.mem_of_getElem? (i := 971) rfl, rfl⟩
set_option maxRecDepth 100000 in
theorem ml_X2_81 : InN (.methodLinkNest RX2 81 yX8_word "RelicHouse") := ⟨List.mem_of_getElem? (i := 973) rfl, rfl⟩
set_option maxRecDepth 100000 in
theorem ml_X2_84 : InT (.methodLink RX2 84 yX2_readPair) := ⟨List.mem_of_getElem? (i := 974) rfl, rfl⟩
set_option maxRecDepth 100000 in
theorem ml_X2_30 : InN (.methodLinkNest RX2 30 yX8_isSound "RelicHouse") := ⟨List.mem_of_getElem? (i := 978) rfl, rfl⟩
set_option maxRecDepth 100000 in
theorem ml_L_128 : InT (.methodLink RL 128 yL_work) := ⟨List.mem_of_getElem? (i := 981) rfl, rfl⟩
set_option maxRecDepth 100000 in
theorem ml_L_18 : InT (.methodLink RL 18 yX10_work) := ⟨List.mem_of_getElem? (i := 984) rfl, rfl⟩
set_option maxRecDepth 100000 in
theorem ml_X10_143 : InN (.methodLinkNest RX10 143 yX4_read "RelicHouse") := ⟨List.mem_of_getElem? (i := 988) rfl, rfl⟩
set_option maxRecDepth 100000 in
theorem ml_X4_37 : InT (.methodLink RX4 37 yX4_readSteps) := ⟨List.mem_of_getElem? (i := 992) rfl, rfl⟩
set_option maxRecDepth 100000 in
theorem ml_X4_41 : InN (.methodLinkNest RX4 41 yX8_isSound "RelicHouse") := ⟨List.mem_of_getElem? (i := 996) rfl, rfl⟩
set_option maxRecDepth 100000 in
theorem ml_X4_47 : InN (.methodLinkNest RX4 47 yX8_next "RelicHouse") := ⟨List.mem_of_getElem? (i := 997) rfl, rfl⟩
set_option maxRecDepth 100000 in
theorem ml_X4_51 : InT (.methodLink RX4 51 yX4_readStep) := ⟨List.mem_of_getElem? (i := 998) rfl, rfl⟩
set_option maxRecDepth 100000 in
theorem ml_X4_56 : InN (.methodLinkNest RX4 56 yX8_word "RelicHouse") := ⟨List.mem_of_getElem? (i := 1003) rfl, rfl⟩
set_option maxRecDepth 100000 in
theorem ml_X4_60 : InT (.methodLink RX4 60 yX4_readAgain) := ⟨List.mem_of_getElem? (i := 1004) rfl, rfl⟩
set_option maxRecDepth 100000 in
theorem ml_X4_86 : InN (.methodLinkNest RX4 86 yX8_mark "RelicHouse") := ⟨List.mem_of_getElem? (i := 1008) rfl, rfl⟩
set_option maxRecDepth 100000 in
theorem ml_X4_69 : InN (.methodLinkNest RX4 69 yX8_number "RelicHouse") := ⟨List.mem_of_getElem? (i := 1009) rfl, rfl⟩
set_option maxRecDepth 100000 in
theorem ml_X4_79 : InN (.methodLinkNest RX4 79 yX8_demand "RelicHouse") := ⟨List.mem_of_getElem? (i := 1010) rfl, rfl⟩
set_option maxRecDepth 100000 in
theorem ml_X10_157 : InN (.methodLinkNest RX10 157 yX4_carryOut "RelicHouse") := ⟨List.mem_of_getElem? (i := 1011) rfl, rfl⟩
set_option maxRecDepth 100000 in
theorem ml_X4_90 : InT (.methodLink RX4 90 yX4_isDone) := ⟨List.mem_of_getElem? (i := 1015) rfl, rfl⟩
set_option maxRecDepth 100000 in
theorem ml_X4_103 : InN (.methodLinkNest RX4 103 yX0_give "RelicHouse") := ⟨List.mem_of_getElem? (i := 1018) rfl, rfl⟩
set_option maxRecDepth 100000 in
theorem ml_X4_109 : InN (.methodLinkNest RX4 109 yX0_giveBack "RelicHouse") := ⟨List.mem_of_getElem? (i := 1022) rfl, rfl⟩
set_option maxRecDepth 100000 in
theorem ml_X4_112 : InN (.methodLinkNest RX4 112 yX0_lapse "RelicHouse") := ⟨List.mem_of_getElem? (i := 1026) rfl, rfl⟩
set_option maxRecDepth 100000 in
theorem ml_X4_115 : InN (.methodLinkNest RX4 115 yX0_cure "RelicHouse") := ⟨List.mem_of_getElem? (i := 1030) rfl, rfl⟩
set_option maxRecDepth 100000 in
theorem ml_X0_105 : InT (.methodLink RX0 105 yX0_isCured) := ⟨List.mem_of_getElem? (i := 1034) rfl, rfl⟩
set_option maxRecDepth 100000 in
theorem ml_X0_108 : InT (.methodLink RX0 108 yX0_isUsed) := ⟨List.mem_of_getElem? (i := 1035) rfl, rfl⟩
set_option maxRecDepth 100000 in
theorem ml_X4_119 : InN (.methodLinkNest RX4 119 yX0_die "RelicHouse") := ⟨List.mem_of_getElem? (i := 1039) rfl, rfl⟩
set_option maxRecDepth 100000 in
theorem ml_X4_125 : InN (.methodLinkNest RX4 125 yX0_passDay "RelicHouse") := ⟨List.mem_of_getElem? (i := 1043) rfl, rfl⟩
set_option maxRecDepth 100000 in
theorem ml_X4_94 : InT (.methodLink RX4 94 yX4_carryOut) := ⟨List.mem_of_getElem? (i := 1047) rfl, rfl⟩
set_option maxRecDepth 100000 in
theorem ml_X4_98 : InT (.methodLink RX4 98 yJ9_max_7cf53) := ⟨List.mem_of_getElem? (i := 1048) rfl, rfl⟩
set_option maxRecDepth 100000 in
theorem ml_L_131 : InT (.methodLink RL 131 yL_seen) := ⟨List.mem_of_getElem? (i := 1049) rfl, rfl⟩
set_option maxRecDepth 100000 in
theorem ml_L_21 : InT (.methodLink RL 21 yX10_seen) := ⟨List.mem_of_getElem? (i := 1052) rfl, rfl⟩
set_option maxRecDepth 100000 in
theorem ml_X10_167 : InN (.methodLinkNest RX10 167 yX6_read "RelicHouse") := ⟨List.mem_of_getElem? (i := 1056) rfl, rfl⟩
set_option maxRecDepth 100000 in
theorem ml_X6_22 : InN (.methodLinkNest RX6 22 yX8_isSound "RelicHouse") := ⟨List.mem_of_getElem? (i := 1060) rfl, rfl⟩
set_option maxRecDepth 100000 in
theorem ml_X6_28 : InN (.methodLinkNest RX6 28 yX8_next "RelicHouse") := ⟨List.mem_of_getElem? (i := 1061) rfl, rfl⟩
set_option maxRecDepth 100000 in
theorem ml_X6_32 : InT (.methodLink RX6 32 yX6_readLine) := ⟨List.mem_of_getElem? (i := 1062) rfl, rfl⟩
set_option maxRecDepth 100000 in
theorem ml_X6_41 : InN (.methodLinkNest RX6 41 yX8_number "RelicHouse") := ⟨List.mem_of_getElem? (i := 1066) rfl, rfl⟩
set_option maxRecDepth 100000 in
theorem ml_X6_45 : InN (.methodLinkNest RX6 45 yX1_hasRelic "RelicHouse") := ⟨List.mem_of_getElem? (i := 1067) rfl, rfl⟩
set_option maxRecDepth 100000 in
theorem ml_X6_52 : InN (.methodLinkNest RX6 52 yX8_mark "RelicHouse") := ⟨List.mem_of_getElem? (i := 1071) rfl, rfl⟩
set_option maxRecDepth 100000 in
theorem ml_X6_56 : InN (.methodLinkNest RX6 56 yX8_demand "RelicHouse") := ⟨List.mem_of_getElem? (i := 1072) rfl, rfl⟩
set_option maxRecDepth 100000 in
theorem ml_L_142 : InT (.methodLink RL 142 yL_told) := ⟨List.mem_of_getElem? (i := 1073) rfl, rfl⟩
set_option maxRecDepth 100000 in
theorem ml_L_24 : InT (.methodLink RL 24 yX10_told) := ⟨List.mem_of_getElem? (i := 1076) rfl, rfl⟩
set_option maxRecDepth 100000 in
theorem ml_X10_191 : InN (.methodLinkNest RX10 191 yX0_powerOfAll "RelicHouse") := ⟨List.mem_of_getElem? (i := 1080) rfl, rfl⟩
set_option maxRecDepth 100000 in
theorem ml_X0_92 : InT (.methodLink RX0 92 yX0_powerOf) := ⟨List.mem_of_getElem? (i := 1084) rfl, rfl⟩
set_option maxRecDepth 100000 in
theorem ml_X0_85 : InT (.methodLink RX0 85 yX0_powerIn) := ⟨List.mem_of_getElem? (i := 1088) rfl, rfl⟩
set_option maxRecDepth 100000 in
theorem ml_L_145 : InT (.methodLink RL 145 yL_sister) := ⟨List.mem_of_getElem? (i := 1092) rfl, rfl⟩
set_option maxRecDepth 100000 in
theorem ml_L_27 : InT (.methodLink RL 27 yX10_sister) := ⟨List.mem_of_getElem? (i := 1096) rfl, rfl⟩
set_option maxRecDepth 100000 in
theorem ml_X10_195 : InN (.methodLinkNest RX10 195 yX1_hasSister "RelicHouse") := ⟨List.mem_of_getElem? (i := 1100) rfl, rfl⟩
set_option maxRecDepth 100000 in
theorem ml_X10_199 : InT (.methodLink RX10 199 yX10_needElement) := ⟨List.mem_of_getElem? (i := 1101) rfl, rfl⟩
set_option maxRecDepth 100000 in
theorem ml_X10_208 : InN (.methodLinkNest RX10 208 yX0_keptOf "RelicHouse") := ⟨List.mem_of_getElem? (i := 1121) rfl, rfl⟩
set_option maxRecDepth 100000 in
theorem ml_L_149 : InT (.methodLink RL 149 yL_relic) := ⟨List.mem_of_getElem? (i := 1122) rfl, rfl⟩
set_option maxRecDepth 100000 in
theorem ml_L_33 : InT (.methodLink RL 33 yX10_relic) := ⟨List.mem_of_getElem? (i := 1125) rfl, rfl⟩
set_option maxRecDepth 100000 in
theorem ml_X10_215 : InN (.methodLinkNest RX10 215 yX1_hasRelic "RelicHouse") := ⟨List.mem_of_getElem? (i := 1129) rfl, rfl⟩
set_option maxRecDepth 100000 in
theorem ml_X10_230 : InN (.methodLinkNest RX10 230 yX0_powerOf "RelicHouse") := ⟨List.mem_of_getElem? (i := 1130) rfl, rfl⟩
set_option maxRecDepth 100000 in
theorem ml_X10_233 : InT (.methodLink RX10 233 yX10_openPilgrimsOf) := ⟨List.mem_of_getElem? (i := 1131) rfl, rfl⟩
set_option maxRecDepth 100000 in
theorem ml_X10_256 : InN (.methodLinkNest RX10 256 yX0_isCured "RelicHouse") := ⟨List.mem_of_getElem? (i := 1135) rfl, rfl⟩
set_option maxRecDepth 100000 in
theorem ml_X10_262 : InN (.methodLinkNest RX10 262 yX0_canIn "RelicHouse") := ⟨List.mem_of_getElem? (i := 1136) rfl, rfl⟩
set_option maxRecDepth 100000 in
theorem ml_L_152 : InT (.methodLink RL 152 yL_pilgrim) := ⟨List.mem_of_getElem? (i := 1137) rfl, rfl⟩
set_option maxRecDepth 100000 in
theorem ml_L_36 : InT (.methodLink RL 36 yX10_pilgrim) := ⟨List.mem_of_getElem? (i := 1140) rfl, rfl⟩
set_option maxRecDepth 100000 in
theorem ml_X10_236 : InN (.methodLinkNest RX10 236 yX1_hasPilgrim "RelicHouse") := ⟨List.mem_of_getElem? (i := 1144) rfl, rfl⟩
set_option maxRecDepth 100000 in
theorem ml_X10_245 : InN (.methodLinkNest RX10 245 yX0_relicsThatCan "RelicHouse") := ⟨List.mem_of_getElem? (i := 1148) rfl, rfl⟩
set_option maxRecDepth 100000 in
theorem ml_L_155 : InT (.methodLink RL 155 yL_would) := ⟨List.mem_of_getElem? (i := 1149) rfl, rfl⟩
set_option maxRecDepth 100000 in
theorem ml_L_39 : InT (.methodLink RL 39 yX10_would) := ⟨List.mem_of_getElem? (i := 1152) rfl, rfl⟩
set_option maxRecDepth 100000 in
theorem ml_X10_252 : InN (.methodLinkNest RX10 252 yX2_power "RelicHouse") := ⟨List.mem_of_getElem? (i := 1156) rfl, rfl⟩
set_option maxRecDepth 100000 in
theorem ml_L_159 : InT (.methodLink RL 159 yL_can) := ⟨List.mem_of_getElem? (i := 1157) rfl, rfl⟩
set_option maxRecDepth 100000 in
theorem ml_L_43 : InT (.methodLink RL 43 yX10_can) := ⟨List.mem_of_getElem? (i := 1160) rfl, rfl⟩
set_option maxRecDepth 100000 in
theorem ml_X10_259 : InN (.methodLinkNest RX10 259 yX0_isUsed "RelicHouse") := ⟨List.mem_of_getElem? (i := 1164) rfl, rfl⟩
set_option maxRecDepth 100000 in
theorem ml_L_162 : InT (.methodLink RL 162 yL_when) := ⟨List.mem_of_getElem? (i := 1165) rfl, rfl⟩
set_option maxRecDepth 100000 in
theorem ml_L_47 : InT (.methodLink RL 47 yX10_when) := ⟨List.mem_of_getElem? (i := 1168) rfl, rfl⟩
set_option maxRecDepth 100000 in
theorem ml_L_165 : InT (.methodLink RL 165 yL_ahead) := ⟨List.mem_of_getElem? (i := 1172) rfl, rfl⟩
set_option maxRecDepth 100000 in
theorem ml_L_50 : InT (.methodLink RL 50 yX10_ahead) := ⟨List.mem_of_getElem? (i := 1175) rfl, rfl⟩
set_option maxRecDepth 100000 in
theorem ml_X10_265 : InN (.methodLinkNest RX10 265 yX0_powerIn "RelicHouse") := ⟨List.mem_of_getElem? (i := 1179) rfl, rfl⟩
set_option maxRecDepth 100000 in
theorem ml_X10_268 : InN (.methodLinkNest RX10 268 yX0_powerIfLapsed "RelicHouse") := ⟨List.mem_of_getElem? (i := 1180) rfl, rfl⟩
set_option maxRecDepth 100000 in
theorem ml_L_173 : InT (.methodLink RL 173 yL_matched) := ⟨List.mem_of_getElem? (i := 1184) rfl, rfl⟩
set_option maxRecDepth 100000 in
theorem ml_L_54 : InT (.methodLink RL 54 yX10_matched) := ⟨List.mem_of_getElem? (i := 1187) rfl, rfl⟩
set_option maxRecDepth 100000 in
theorem ml_L_176 : InT (.methodLink RL 176 yL_lapsed) := ⟨List.mem_of_getElem? (i := 1191) rfl, rfl⟩
set_option maxRecDepth 100000 in
theorem ml_L_57 : InT (.methodLink RL 57 yX10_lapsed) := ⟨List.mem_of_getElem? (i := 1194) rfl, rfl⟩
set_option maxRecDepth 100000 in
theorem ml_X10_278 : InN (.methodLinkNest RX10 278 yX7_weigh "RelicHouse") := ⟨List.mem_of_getElem? (i := 1198) rfl, rfl⟩
set_option maxRecDepth 100000 in
theorem ml_X7_26 : InN (.methodLinkNest RX7 26 yX0_keepers "RelicHouse") := ⟨List.mem_of_getElem? (i := 1202) rfl, rfl⟩
set_option maxRecDepth 100000 in
theorem ml_X7_48 : InN (.methodLinkNest RX7 48 yX0_powerOf "RelicHouse") := ⟨List.mem_of_getElem? (i := 1203) rfl, rfl⟩
set_option maxRecDepth 100000 in
theorem ml_X7_52 : InN (.methodLinkNest RX7 52 yX0_powerIfLapsed "RelicHouse") := ⟨List.mem_of_getElem? (i := 1204) rfl, rfl⟩
set_option maxRecDepth 100000 in
theorem ml_X10_282 : InN (.methodLinkNest RX10 282 yX7_sets "RelicHouse") := ⟨List.mem_of_getElem? (i := 1205) rfl, rfl⟩
set_option maxRecDepth 100000 in
theorem ml_X7_56 : InT (.methodLink RX7 56 yX7_isPossible) := ⟨List.mem_of_getElem? (i := 1209) rfl, rfl⟩
set_option maxRecDepth 100000 in
theorem ml_X10_285 : InN (.methodLinkNest RX10 285 yX7_firstSet "RelicHouse") := ⟨List.mem_of_getElem? (i := 1213) rfl, rfl⟩
set_option maxRecDepth 100000 in
theorem ml_X10_288 : InN (.methodLinkNest RX10 288 yX7_sureOnes "RelicHouse") := ⟨List.mem_of_getElem? (i := 1217) rfl, rfl⟩
set_option maxRecDepth 100000 in
theorem ml_X7_60 : InT (.methodLink RX7 60 yX7_firstSet) := ⟨List.mem_of_getElem? (i := 1221) rfl, rfl⟩
set_option maxRecDepth 100000 in
theorem ml_L_179 : InT (.methodLink RL 179 yL_ask) := ⟨List.mem_of_getElem? (i := 1222) rfl, rfl⟩
set_option maxRecDepth 100000 in
theorem ml_L_60 : InT (.methodLink RL 60 yX10_ask) := ⟨List.mem_of_getElem? (i := 1225) rfl, rfl⟩
set_option maxRecDepth 100000 in
theorem ml_X10_293 : InN (.methodLinkNest RX10 293 yX7_leftAtWorst "RelicHouse") := ⟨List.mem_of_getElem? (i := 1229) rfl, rfl⟩
set_option maxRecDepth 100000 in
theorem ml_X7_63 : InT (.methodLink RX7 63 yX7_sets) := ⟨List.mem_of_getElem? (i := 1233) rfl, rfl⟩
set_option maxRecDepth 100000 in
theorem ml_X7_66 : InT (.methodLink RX7 66 yJ9_max_7cf53) := ⟨List.mem_of_getElem? (i := 1234) rfl, rfl⟩
set_option maxRecDepth 100000 in
theorem ml_L_182 : InT (.methodLink RL 182 yL_best) := ⟨List.mem_of_getElem? (i := 1235) rfl, rfl⟩
set_option maxRecDepth 100000 in
theorem ml_L_63 : InT (.methodLink RL 63 yX10_best) := ⟨List.mem_of_getElem? (i := 1238) rfl, rfl⟩
set_option maxRecDepth 100000 in
theorem ml_X10_297 : InT (.methodLink RX10 297 yX10_bestMean) := ⟨List.mem_of_getElem? (i := 1242) rfl, rfl⟩
set_option maxRecDepth 100000 in
theorem ml_X10_372 : InN (.methodLinkNest RX10 372 yX0_powerIf "RelicHouse") := ⟨List.mem_of_getElem? (i := 1246) rfl, rfl⟩
set_option maxRecDepth 100000 in
theorem ml_X10_375 : InT (.methodLink RX10 375 yJ9_max_f86c9) := ⟨List.mem_of_getElem? (i := 1247) rfl, rfl⟩
set_option maxRecDepth 100000 in
theorem ml_X10_301 : InT (.methodLink RX10 301 yX10_leastTerms) := ⟨List.mem_of_getElem? (i := 1250) rfl, rfl⟩
set_option maxRecDepth 100000 in
theorem ml_L_185 : InT (.methodLink RL 185 yL_without) := ⟨List.mem_of_getElem? (i := 1254) rfl, rfl⟩
set_option maxRecDepth 100000 in
theorem ml_L_67 : InT (.methodLink RL 67 yX10_without) := ⟨List.mem_of_getElem? (i := 1257) rfl, rfl⟩
set_option maxRecDepth 100000 in
theorem ml_L_188 : InT (.methodLink RL 188 yL_ring) := ⟨List.mem_of_getElem? (i := 1261) rfl, rfl⟩
set_option maxRecDepth 100000 in
theorem ml_L_70 : InT (.methodLink RL 70 yX10_ring) := ⟨List.mem_of_getElem? (i := 1264) rfl, rfl⟩
set_option maxRecDepth 100000 in
theorem ml_X10_305 : InN (.methodLinkNest RX10 305 yX1_ringOf "RelicHouse") := ⟨List.mem_of_getElem? (i := 1268) rfl, rfl⟩
set_option maxRecDepth 100000 in
theorem ml_L_191 : InT (.methodLink RL 191 yL_follows) := ⟨List.mem_of_getElem? (i := 1272) rfl, rfl⟩
set_option maxRecDepth 100000 in
theorem ml_L_73 : InT (.methodLink RL 73 yX10_follows) := ⟨List.mem_of_getElem? (i := 1275) rfl, rfl⟩
set_option maxRecDepth 100000 in
theorem ml_X10_309 : InN (.methodLinkNest RX10 309 yX1_walk "RelicHouse") := ⟨List.mem_of_getElem? (i := 1280) rfl, rfl⟩
set_option maxRecDepth 100000 in
theorem ml_L_194 : InT (.methodLink RL 194 yL_tempted) := ⟨List.mem_of_getElem? (i := 1284) rfl, rfl⟩
set_option maxRecDepth 100000 in
theorem ml_L_76 : InT (.methodLink RL 76 yX10_tempted) := ⟨List.mem_of_getElem? (i := 1287) rfl, rfl⟩
set_option maxRecDepth 100000 in
theorem ml_X10_312 : InT (.methodLink RX10 312 yX10_isRest) := ⟨List.mem_of_getElem? (i := 1291) rfl, rfl⟩
set_option maxRecDepth 100000 in
theorem ml_X10_316 : InT (.methodLink RX10 316 yX10_has) := ⟨List.mem_of_getElem? (i := 1294) rfl, rfl⟩
set_option maxRecDepth 100000 in
theorem ml_L_197 : InT (.methodLink RL 197 yL_alms) := ⟨List.mem_of_getElem? (i := 1297) rfl, rfl⟩
set_option maxRecDepth 100000 in
theorem ml_L_79 : InT (.methodLink RL 79 yX10_alms) := ⟨List.mem_of_getElem? (i := 1300) rfl, rfl⟩
set_option maxRecDepth 100000 in
theorem ml_X10_320 : InT (.methodLink RX10 320 yX10_almsUpTo) := ⟨List.mem_of_getElem? (i := 1304) rfl, rfl⟩
set_option maxRecDepth 100000 in
theorem ml_L_200 : InT (.methodLink RL 200 yL_strongest) := ⟨List.mem_of_getElem? (i := 1308) rfl, rfl⟩
set_option maxRecDepth 100000 in
theorem ml_L_82 : InT (.methodLink RL 82 yX10_strongest) := ⟨List.mem_of_getElem? (i := 1311) rfl, rfl⟩
set_option maxRecDepth 100000 in
theorem ml_L_207 : InT (.methodLink RL 207 yL_hopeless) := ⟨List.mem_of_getElem? (i := 1315) rfl, rfl⟩
set_option maxRecDepth 100000 in
theorem ml_L_85 : InT (.methodLink RL 85 yX10_hopeless) := ⟨List.mem_of_getElem? (i := 1318) rfl, rfl⟩
set_option maxRecDepth 100000 in
theorem ml_L_210 : InT (.methodLink RL 210 yL_eldest) := ⟨List.mem_of_getElem? (i := 1322) rfl, rfl⟩
set_option maxRecDepth 100000 in
theorem ml_L_88 : InT (.methodLink RL 88 yX10_eldest) := ⟨List.mem_of_getElem? (i := 1325) rfl, rfl⟩
set_option maxRecDepth 100000 in
theorem ml_L_217 : InT (.methodLink RL 217 yL_needs) := ⟨List.mem_of_getElem? (i := 1329) rfl, rfl⟩
set_option maxRecDepth 100000 in
theorem ml_L_91 : InT (.methodLink RL 91 yX10_needs) := ⟨List.mem_of_getElem? (i := 1332) rfl, rfl⟩
set_option maxRecDepth 100000 in
theorem ml_L_220 : InT (.methodLink RL 220 yL_strength) := ⟨List.mem_of_getElem? (i := 1336) rfl, rfl⟩
set_option maxRecDepth 100000 in
theorem ml_L_94 : InT (.methodLink RL 94 yX10_strength) := ⟨List.mem_of_getElem? (i := 1339) rfl, rfl⟩
set_option maxRecDepth 100000 in
theorem ml_L_223 : InT (.methodLink RL 223 yL_weakest) := ⟨List.mem_of_getElem? (i := 1343) rfl, rfl⟩
set_option maxRecDepth 100000 in
theorem ml_L_97 : InT (.methodLink RL 97 yX10_weakest) := ⟨List.mem_of_getElem? (i := 1346) rfl, rfl⟩
set_option maxRecDepth 100000 in
theorem ml_L_226 : InT (.methodLink RL 226 yL_year) := ⟨List.mem_of_getElem? (i := 1350) rfl, rfl⟩
set_option maxRecDepth 100000 in
theorem ml_L_100 : InT (.methodLink RL 100 yX10_year) := ⟨List.mem_of_getElem? (i := 1353) rfl, rfl⟩
set_option maxRecDepth 100000 in
theorem ml_X10_331 : InN (.methodLinkNest RX10 331 yX9_pass "RelicHouse") := ⟨List.mem_of_getElem? (i := 1357) rfl, rfl⟩
set_option maxRecDepth 100000 in
theorem ml_X9_20 : InN (.methodLinkNest RX9 20 yX0_copyOf "RelicHouse") := ⟨List.mem_of_getElem? (i := 1361) rfl, rfl⟩
set_option maxRecDepth 100000 in
theorem ml_X9_34 : InT (.methodLink RX9 34 yX9_drawLapses) := ⟨List.mem_of_getElem? (i := 1366) rfl, rfl⟩
set_option maxRecDepth 100000 in
theorem ml_X9_53 : InN (.methodLinkNest RX9 53 yX0_isLiving "RelicHouse") := ⟨List.mem_of_getElem? (i := 1370) rfl, rfl⟩
set_option maxRecDepth 100000 in
theorem ml_X9_57 : InN (.methodLinkNest RX9 57 yX0_keptOf "RelicHouse") := ⟨List.mem_of_getElem? (i := 1371) rfl, rfl⟩
set_option maxRecDepth 100000 in
theorem ml_X9_61 : InT (.methodLink RX9 61 yX9_draw) := ⟨List.mem_of_getElem? (i := 1372) rfl, rfl⟩
set_option maxRecDepth 100000 in
theorem ml_X9_68 : InN (.methodLinkNest RX9 68 yX0_lapse "RelicHouse") := ⟨List.mem_of_getElem? (i := 1377) rfl, rfl⟩
set_option maxRecDepth 100000 in
theorem ml_X9_37 : InT (.methodLink RX9 37 yX9_drawCure) := ⟨List.mem_of_getElem? (i := 1378) rfl, rfl⟩
set_option maxRecDepth 100000 in
theorem ml_X9_77 : InN (.methodLinkNest RX9 77 yX0_cure "RelicHouse") := ⟨List.mem_of_getElem? (i := 1382) rfl, rfl⟩
set_option maxRecDepth 100000 in
theorem ml_X9_40 : InN (.methodLinkNest RX9 40 yX0_passDay "RelicHouse") := ⟨List.mem_of_getElem? (i := 1383) rfl, rfl⟩
set_option maxRecDepth 100000 in
theorem ml_L_229 : InT (.methodLink RL 229 yL_span) := ⟨List.mem_of_getElem? (i := 1384) rfl, rfl⟩
set_option maxRecDepth 100000 in
theorem ml_L_103 : InT (.methodLink RL 103 yX10_span) := ⟨List.mem_of_getElem? (i := 1387) rfl, rfl⟩
set_option maxRecDepth 100000 in
theorem ml_X10_344 : InT (.methodLink RX10 344 yJ9_max_7cf53) := ⟨List.mem_of_getElem? (i := 1391) rfl, rfl⟩
set_option maxRecDepth 100000 in
theorem ml_L_110 : InT (.methodLink RL 110 yX11_init) := ⟨List.mem_of_getElem? (i := 1394) rfl, rfl⟩
set_option maxRecDepth 100000 in
theorem ml_X11_1 : InT (.methodLink RX11 1 yObj) := ⟨List.mem_of_getElem? (i := 1397) rfl, rfl⟩
set_option maxRecDepth 100000 in
theorem ml_X11_97 : InT (.methodLink RX11 97 yX11_tellsNothing) := ⟨List.mem_of_getElem? (i := 1400) rfl, rfl⟩
set_option maxRecDepth 100000 in
theorem ml_X11_100 : InT (.methodLink RX11 100 yX11_beginsAnew) := ⟨List.mem_of_getElem? (i := 1404) rfl, rfl⟩
set_option maxRecDepth 100000 in
theorem ml_X11_196 : InT (.methodLink RX11 196 yX11_lays) := ⟨List.mem_of_getElem? (i := 1408) rfl, rfl⟩
set_option maxRecDepth 100000 in
theorem ml_L_121 : InT (.methodLink RL 121 yX11_thrown) := ⟨List.mem_of_getElem? (i := 1559) rfl, rfl⟩
set_option maxRecDepth 100000 in
theorem ml_L_114 : InT (.methodLink RL 114 yX11_feed) := ⟨List.mem_of_getElem? (i := 1563) rfl, rfl⟩
set_option maxRecDepth 100000 in
theorem ml_L_120 : InT (.methodLink RL 120 yX11_house) := ⟨List.mem_of_getElem? (i := 1567) rfl, rfl⟩
set_option maxRecDepth 100000 in
theorem ml_X11_137 : InT (.methodLink RX11 137 yX11_in) := ⟨List.mem_of_getElem? (i := 1571) rfl, rfl⟩
set_option maxRecDepth 100000 in
theorem ml_X11_183 : InT (.methodLink RX11 183 yX11_bad) := ⟨List.mem_of_getElem? (i := 1574) rfl, rfl⟩
set_option maxRecDepth 100000 in
theorem ml_X11_187 : InT (.methodLink RX11 187 yX11_starts) := ⟨List.mem_of_getElem? (i := 1578) rfl, rfl⟩
set_option maxRecDepth 100000 in
theorem ml_X11_125 : InT (.methodLink RX11 125 yX11_blanks) := ⟨List.mem_of_getElem? (i := 1582) rfl, rfl⟩
set_option maxRecDepth 100000 in
theorem ml_X11_115 : InT (.methodLink RX11 115 yX11_byteAt) := ⟨List.mem_of_getElem? (i := 1586) rfl, rfl⟩
set_option maxRecDepth 100000 in
theorem ml_X11_190 : InT (.methodLink RX11 190 yX11_clause) := ⟨List.mem_of_getElem? (i := 1590) rfl, rfl⟩
set_option maxRecDepth 100000 in
theorem ml_X11_169 : InT (.methodLink RX11 169 yX11_kindHere) := ⟨List.mem_of_getElem? (i := 1594) rfl, rfl⟩
set_option maxRecDepth 100000 in
theorem ml_X11_152 : InT (.methodLink RX11 152 yX11_isWord) := ⟨List.mem_of_getElem? (i := 1598) rfl, rfl⟩
set_option maxRecDepth 100000 in
theorem ml_X11_144 : InT (.methodLink RX11 144 yX11_wordHere) := ⟨List.mem_of_getElem? (i := 1602) rfl, rfl⟩
set_option maxRecDepth 100000 in
theorem ml_X11_141 : InT (.methodLink RX11 141 yX11_isSmall) := ⟨List.mem_of_getElem? (i := 1606) rfl, rfl⟩
set_option maxRecDepth 100000 in
theorem ml_X11_148 : InT (.methodLink RX11 148 yX11_six) := ⟨List.mem_of_getElem? (i := 1609) rfl, rfl⟩
set_option maxRecDepth 100000 in
theorem ml_X11_165 : InT (.methodLink RX11 165 yX11_isPilgrim) := ⟨List.mem_of_getElem? (i := 1612) rfl, rfl⟩
set_option maxRecDepth 100000 in
theorem ml_X11_132 : InT (.methodLink RX11 132 yX11_wrong) := ⟨List.mem_of_getElem? (i := 1616) rfl, rfl⟩
set_option maxRecDepth 100000 in
theorem ml_X11_172 : InT (.methodLink RX11 172 yX11_mostOf) := ⟨List.mem_of_getElem? (i := 1620) rfl, rfl⟩
set_option maxRecDepth 100000 in
theorem ml_X11_156 : InT (.methodLink RX11 156 yX11_skipWord) := ⟨List.mem_of_getElem? (i := 1623) rfl, rfl⟩
set_option maxRecDepth 100000 in
theorem ml_X11_175 : InT (.methodLink RX11 175 yX11_number) := ⟨List.mem_of_getElem? (i := 1627) rfl, rfl⟩
set_option maxRecDepth 100000 in
theorem ml_X11_128 : InT (.methodLink RX11 128 yX11_isDigit) := ⟨List.mem_of_getElem? (i := 1631) rfl, rfl⟩
set_option maxRecDepth 100000 in
theorem ml_X11_179 : InT (.methodLink RX11 179 yX11_sign) := ⟨List.mem_of_getElem? (i := 1635) rfl, rfl⟩
set_option maxRecDepth 100000 in
theorem ml_X11_193 : InT (.methodLink RX11 193 yX11_ends) := ⟨List.mem_of_getElem? (i := 1639) rfl, rfl⟩
set_option maxRecDepth 100000 in
theorem ml_L_127 : InT (.methodLink RL 127 yX11_law) := ⟨List.mem_of_getElem? (i := 1643) rfl, rfl⟩
set_option maxRecDepth 100000 in
theorem ml_X11_239 : InT (.methodLink RX11 239 yX11_sum) := ⟨List.mem_of_getElem? (i := 1647) rfl, rfl⟩
set_option maxRecDepth 100000 in
theorem ml_X11_218 : InT (.methodLink RX11 218 yX11_product) := ⟨List.mem_of_getElem? (i := 1651) rfl, rfl⟩
set_option maxRecDepth 100000 in
theorem ml_X11_227 : InT (.methodLink RX11 227 yX11_one) := ⟨List.mem_of_getElem? (i := 1655) rfl, rfl⟩
set_option maxRecDepth 100000 in
theorem ml_X11_236 : InT (.methodLink RX11 236 yX11_opensOne) := ⟨List.mem_of_getElem? (i := 1659) rfl, rfl⟩
set_option maxRecDepth 100000 in
theorem ml_X11_224 : InT (.methodLink RX11 224 yX11_notes) := ⟨List.mem_of_getElem? (i := 1663) rfl, rfl⟩
set_option maxRecDepth 100000 in
theorem ml_X11_242 : InT (.methodLink RX11 242 yX11_knownHere) := ⟨List.mem_of_getElem? (i := 1667) rfl, rfl⟩
set_option maxRecDepth 100000 in
theorem ml_X11_230 : InT (.methodLink RX11 230 yX11_takes) := ⟨List.mem_of_getElem? (i := 1671) rfl, rfl⟩
set_option maxRecDepth 100000 in
theorem ml_X11_233 : InT (.methodLink RX11 233 yX11_isTempted) := ⟨List.mem_of_getElem? (i := 1675) rfl, rfl⟩
set_option maxRecDepth 100000 in
theorem ml_X11_221 : InT (.methodLink RX11 221 yX11_takesSign) := ⟨List.mem_of_getElem? (i := 1679) rfl, rfl⟩
set_option maxRecDepth 100000 in
theorem ml_L_133 : InT (.methodLink RL 133 yX11_seen) := ⟨List.mem_of_getElem? (i := 1683) rfl, rfl⟩
set_option maxRecDepth 100000 in
theorem ml_X11_263 : InT (.methodLink RX11 263 yX11_has) := ⟨List.mem_of_getElem? (i := 1687) rfl, rfl⟩
set_option maxRecDepth 100000 in
theorem ml_L_137 : InT (.methodLink RL 137 yX11_fault) := ⟨List.mem_of_getElem? (i := 1690) rfl, rfl⟩
set_option maxRecDepth 100000 in
theorem ml_L_130 : InT (.methodLink RL 130 yX11_work) := ⟨List.mem_of_getElem? (i := 1694) rfl, rfl⟩
set_option maxRecDepth 100000 in
theorem ml_X11_260 : InT (.methodLink RX11 260 yX11_readsStep) := ⟨List.mem_of_getElem? (i := 1698) rfl, rfl⟩
set_option maxRecDepth 100000 in
theorem ml_X11_254 : InT (.methodLink RX11 254 yX11_stepHere) := ⟨List.mem_of_getElem? (i := 1702) rfl, rfl⟩
set_option maxRecDepth 100000 in
theorem ml_X11_325 : InT (.methodLink RX11 325 yX11_copies) := ⟨List.mem_of_getElem? (i := 1706) rfl, rfl⟩
set_option maxRecDepth 100000 in
theorem ml_X11_315 : InT (.methodLink RX11 315 yX11_goes) := ⟨List.mem_of_getElem? (i := 1709) rfl, rfl⟩
set_option maxRecDepth 100000 in
theorem ml_X11_318 : InT (.methodLink RX11 318 yX11_does) := ⟨List.mem_of_getElem? (i := 1713) rfl, rfl⟩
set_option maxRecDepth 100000 in
theorem ml_X11_267 : InT (.methodLink RX11 267 yX11_isKept) := ⟨List.mem_of_getElem? (i := 1717) rfl, rfl⟩
set_option maxRecDepth 100000 in
theorem ml_X11_302 : InT (.methodLink RX11 302 yX11_lapses) := ⟨List.mem_of_getElem? (i := 1720) rfl, rfl⟩
set_option maxRecDepth 100000 in
theorem ml_X11_296 : InT (.methodLink RX11 296 yX11_canLapse) := ⟨List.mem_of_getElem? (i := 1724) rfl, rfl⟩
set_option maxRecDepth 100000 in
theorem ml_X11_274 : InT (.methodLink RX11 274 yX11_keptOf) := ⟨List.mem_of_getElem? (i := 1728) rfl, rfl⟩
set_option maxRecDepth 100000 in
theorem ml_X11_305 : InT (.methodLink RX11 305 yX11_cures) := ⟨List.mem_of_getElem? (i := 1732) rfl, rfl⟩
set_option maxRecDepth 100000 in
theorem ml_X11_299 : InT (.methodLink RX11 299 yX11_canCure) := ⟨List.mem_of_getElem? (i := 1736) rfl, rfl⟩
set_option maxRecDepth 100000 in
theorem ml_X11_292 : InT (.methodLink RX11 292 yX11_isAble) := ⟨List.mem_of_getElem? (i := 1740) rfl, rfl⟩
set_option maxRecDepth 100000 in
theorem ml_X11_289 : InT (.methodLink RX11 289 yX11_power) := ⟨List.mem_of_getElem? (i := 1744) rfl, rfl⟩
set_option maxRecDepth 100000 in
theorem ml_X11_285 : InT (.methodLink RX11 285 yX11_powerOf) := ⟨List.mem_of_getElem? (i := 1748) rfl, rfl⟩
set_option maxRecDepth 100000 in
theorem ml_X11_278 : InT (.methodLink RX11 278 yX11_ones) := ⟨List.mem_of_getElem? (i := 1752) rfl, rfl⟩
set_option maxRecDepth 100000 in
theorem ml_X11_281 : InT (.methodLink RX11 281 yX11_powerBy) := ⟨List.mem_of_getElem? (i := 1755) rfl, rfl⟩
set_option maxRecDepth 100000 in
theorem ml_X11_271 : InT (.methodLink RX11 271 yX11_byLaw) := ⟨List.mem_of_getElem? (i := 1759) rfl, rfl⟩
set_option maxRecDepth 100000 in
theorem ml_X11_251 : InT (.methodLink RX11 251 yX11_by) := ⟨List.mem_of_getElem? (i := 1763) rfl, rfl⟩
set_option maxRecDepth 100000 in
theorem ml_X11_245 : InT (.methodLink RX11 245 yX11_less) := ⟨List.mem_of_getElem? (i := 1766) rfl, rfl⟩
set_option maxRecDepth 100000 in
theorem ml_X11_248 : InT (.methodLink RX11 248 yX11_more) := ⟨List.mem_of_getElem? (i := 1769) rfl, rfl⟩
set_option maxRecDepth 100000 in
theorem ml_X11_308 : InT (.methodLink RX11 308 yX11_dayEnds) := ⟨List.mem_of_getElem? (i := 1772) rfl, rfl⟩
set_option maxRecDepth 100000 in
theorem ml_L_141 : InT (.methodLink RL 141 yX11_undo) := ⟨List.mem_of_getElem? (i := 1776) rfl, rfl⟩
set_option maxRecDepth 100000 in
theorem ml_L_144 : InT (.methodLink RL 144 yX11_told) := ⟨List.mem_of_getElem? (i := 1780) rfl, rfl⟩
set_option maxRecDepth 100000 in
theorem ml_X11_329 : InT (.methodLink RX11 329 yX11_curedIn) := ⟨List.mem_of_getElem? (i := 1784) rfl, rfl⟩
set_option maxRecDepth 100000 in
theorem ml_X11_333 : InT (.methodLink RX11 333 yX11_powersIn) := ⟨List.mem_of_getElem? (i := 1788) rfl, rfl⟩
set_option maxRecDepth 100000 in
theorem ml_L_148 : InT (.methodLink RL 148 yX11_sister) := ⟨List.mem_of_getElem? (i := 1792) rfl, rfl⟩
set_option maxRecDepth 100000 in
theorem ml_X11_336 : InT (.methodLink RX11 336 yX11_isSister) := ⟨List.mem_of_getElem? (i := 1796) rfl, rfl⟩
set_option maxRecDepth 100000 in
theorem ml_L_151 : InT (.methodLink RL 151 yX11_relic) := ⟨List.mem_of_getElem? (i := 1800) rfl, rfl⟩
set_option maxRecDepth 100000 in
theorem ml_X11_339 : InT (.methodLink RX11 339 yX11_isRelic) := ⟨List.mem_of_getElem? (i := 1804) rfl, rfl⟩
set_option maxRecDepth 100000 in
theorem ml_L_154 : InT (.methodLink RL 154 yX11_pilgrim) := ⟨List.mem_of_getElem? (i := 1808) rfl, rfl⟩
set_option maxRecDepth 100000 in
theorem ml_X11_342 : InT (.methodLink RX11 342 yX11_isPerson) := ⟨List.mem_of_getElem? (i := 1812) rfl, rfl⟩
set_option maxRecDepth 100000 in
theorem ml_L_158 : InT (.methodLink RL 158 yX11_would) := ⟨List.mem_of_getElem? (i := 1816) rfl, rfl⟩
set_option maxRecDepth 100000 in
theorem ml_L_161 : InT (.methodLink RL 161 yX11_can) := ⟨List.mem_of_getElem? (i := 1820) rfl, rfl⟩
set_option maxRecDepth 100000 in
theorem ml_L_164 : InT (.methodLink RL 164 yX11_when) := ⟨List.mem_of_getElem? (i := 1824) rfl, rfl⟩
set_option maxRecDepth 100000 in
theorem ml_L_168 : InT (.methodLink RL 168 yX11_ahead) := ⟨List.mem_of_getElem? (i := 1828) rfl, rfl⟩
set_option maxRecDepth 100000 in
theorem ml_L_209 : InT (.methodLink RL 209 yX11_hopeless) := ⟨List.mem_of_getElem? (i := 1832) rfl, rfl⟩
set_option maxRecDepth 100000 in
theorem ml_L_172 : InT (.methodLink RL 172 yX11_match) := ⟨List.mem_of_getElem? (i := 1836) rfl, rfl⟩
set_option maxRecDepth 100000 in
theorem ml_X11_352 : InT (.methodLink RX11 352 yX11_matches) := ⟨List.mem_of_getElem? (i := 1840) rfl, rfl⟩
set_option maxRecDepth 100000 in
theorem ml_X11_348 : InT (.methodLink RX11 348 yX11_matchesFrom) := ⟨List.mem_of_getElem? (i := 1844) rfl, rfl⟩
set_option maxRecDepth 100000 in
theorem ml_L_175 : InT (.methodLink RL 175 yX11_matched) := ⟨List.mem_of_getElem? (i := 1848) rfl, rfl⟩
set_option maxRecDepth 100000 in
theorem ml_L_178 : InT (.methodLink RL 178 yX11_lapsed) := ⟨List.mem_of_getElem? (i := 1852) rfl, rfl⟩
set_option maxRecDepth 100000 in
theorem ml_X11_359 : InT (.methodLink RX11 359 yX11_isLapsed) := ⟨List.mem_of_getElem? (i := 1856) rfl, rfl⟩
set_option maxRecDepth 100000 in
theorem ml_X11_355 : InT (.methodLink RX11 355 yX11_powerIf) := ⟨List.mem_of_getElem? (i := 1860) rfl, rfl⟩
set_option maxRecDepth 100000 in
theorem ml_L_181 : InT (.methodLink RL 181 yX11_ask) := ⟨List.mem_of_getElem? (i := 1864) rfl, rfl⟩
set_option maxRecDepth 100000 in
theorem ml_X11_362 : InT (.methodLink RX11 362 yX11_isTold) := ⟨List.mem_of_getElem? (i := 1868) rfl, rfl⟩
set_option maxRecDepth 100000 in
theorem ml_L_184 : InT (.methodLink RL 184 yX11_best) := ⟨List.mem_of_getElem? (i := 1872) rfl, rfl⟩
set_option maxRecDepth 100000 in
theorem ml_X11_365 : InT (.methodLink RX11 365 yX11_goesBest) := ⟨List.mem_of_getElem? (i := 1876) rfl, rfl⟩
set_option maxRecDepth 100000 in
theorem ml_X11_369 : InT (.methodLink RX11 369 yX11_partOf) := ⟨List.mem_of_getElem? (i := 1880) rfl, rfl⟩
set_option maxRecDepth 100000 in
theorem ml_L_187 : InT (.methodLink RL 187 yX11_without) := ⟨List.mem_of_getElem? (i := 1883) rfl, rfl⟩
set_option maxRecDepth 100000 in
theorem ml_L_190 : InT (.methodLink RL 190 yX11_ring) := ⟨List.mem_of_getElem? (i := 1887) rfl, rfl⟩
set_option maxRecDepth 100000 in
theorem ml_X11_373 : InT (.methodLink RX11 373 yX11_ringOf) := ⟨List.mem_of_getElem? (i := 1891) rfl, rfl⟩
set_option maxRecDepth 100000 in
theorem ml_L_193 : InT (.methodLink RL 193 yX11_follows) := ⟨List.mem_of_getElem? (i := 1895) rfl, rfl⟩
set_option maxRecDepth 100000 in
theorem ml_L_196 : InT (.methodLink RL 196 yX11_tempted) := ⟨List.mem_of_getElem? (i := 1900) rfl, rfl⟩
set_option maxRecDepth 100000 in
theorem ml_X11_381 : InT (.methodLink RX11 381 yX11_isBest) := ⟨List.mem_of_getElem? (i := 1904) rfl, rfl⟩
set_option maxRecDepth 100000 in
theorem ml_X11_377 : InT (.methodLink RX11 377 yX11_hasBy) := ⟨List.mem_of_getElem? (i := 1907) rfl, rfl⟩
set_option maxRecDepth 100000 in
theorem ml_L_199 : InT (.methodLink RL 199 yX11_alms) := ⟨List.mem_of_getElem? (i := 1910) rfl, rfl⟩
set_option maxRecDepth 100000 in
theorem ml_X11_385 : InT (.methodLink RX11 385 yX11_givenBy) := ⟨List.mem_of_getElem? (i := 1914) rfl, rfl⟩
set_option maxRecDepth 100000 in
theorem ml_L_202 : InT (.methodLink RL 202 yX11_strongest) := ⟨List.mem_of_getElem? (i := 1918) rfl, rfl⟩
set_option maxRecDepth 100000 in
theorem ml_L_212 : InT (.methodLink RL 212 yX11_eldest) := ⟨List.mem_of_getElem? (i := 1922) rfl, rfl⟩
set_option maxRecDepth 100000 in
theorem ml_L_216 : InT (.methodLink RL 216 yX11_idle) := ⟨List.mem_of_getElem? (i := 1926) rfl, rfl⟩
set_option maxRecDepth 100000 in
theorem ml_L_219 : InT (.methodLink RL 219 yX11_needs) := ⟨List.mem_of_getElem? (i := 1930) rfl, rfl⟩
set_option maxRecDepth 100000 in
theorem ml_L_222 : InT (.methodLink RL 222 yX11_strength) := ⟨List.mem_of_getElem? (i := 1934) rfl, rfl⟩
set_option maxRecDepth 100000 in
theorem ml_L_225 : InT (.methodLink RL 225 yX11_weakest) := ⟨List.mem_of_getElem? (i := 1938) rfl, rfl⟩
set_option maxRecDepth 100000 in
theorem ml_L_206 : InT (.methodLink RL 206 yX11_bare) := ⟨List.mem_of_getElem? (i := 1942) rfl, rfl⟩
set_option maxRecDepth 100000 in
theorem ml_L_228 : InT (.methodLink RL 228 yX11_year) := ⟨List.mem_of_getElem? (i := 1946) rfl, rfl⟩
set_option maxRecDepth 100000 in
theorem ml_X11_398 : InT (.methodLink RX11 398 yX11_yearBy) := ⟨List.mem_of_getElem? (i := 1950) rfl, rfl⟩
set_option maxRecDepth 100000 in
theorem ml_X11_395 : InT (.methodLink RX11 395 yX11_draw) := ⟨List.mem_of_getElem? (i := 1954) rfl, rfl⟩
set_option maxRecDepth 100000 in
theorem ml_X11_401 : InT (.methodLink RX11 401 yX11_curedMore) := ⟨List.mem_of_getElem? (i := 1959) rfl, rfl⟩
set_option maxRecDepth 100000 in
theorem ml_L_232 : InT (.methodLink RL 232 yX11_span) := ⟨List.mem_of_getElem? (i := 1963) rfl, rfl⟩
set_option maxRecDepth 100000 in
theorem ml_L_236 : InT (.methodLink RL 236 yX11_image) := ⟨List.mem_of_getElem? (i := 1967) rfl, rfl⟩
set_option maxRecDepth 100000 in
theorem ml_X11_411 : InT (.methodLink RX11 411 yX11_putsAll) := ⟨List.mem_of_getElem? (i := 1971) rfl, rfl⟩
set_option maxRecDepth 100000 in
theorem ml_X11_407 : InT (.methodLink RX11 407 yX11_puts) := ⟨List.mem_of_getElem? (i := 1975) rfl, rfl⟩
set_option maxRecDepth 100000 in
theorem ml_L_240 : InT (.methodLink RL 240 yX11_restore) := ⟨List.mem_of_getElem? (i := 1979) rfl, rfl⟩
set_option maxRecDepth 100000 in
theorem ml_L_244 : InT (.methodLink RL 244 yX11_status) := ⟨List.mem_of_getElem? (i := 1983) rfl, rfl⟩
set_option maxRecDepth 100000 in
theorem ml_L_248 : InT (.methodLink RL 248 yX11_count) := ⟨List.mem_of_getElem? (i := 1987) rfl, rfl⟩
