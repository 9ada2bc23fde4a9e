theorem dX11_matches_121 : decode cX11_matches 121 = .ok (.iconst 0, 1) := by decide +kernel
theorem dX11_matches_122 : decode cX11_matches 122 = .ok (.iconst 0, 1) := by decide +kernel
theorem dX11_matches_123 : decode cX11_matches 123 = .ok (.invokevirtual 348, 3) := by decide +kernel
theorem dX11_matches_126 : decode cX11_matches 126 = .ok (.return_, 1) := by decide +kernel
theorem dX11_match_0 : decode cX11_match 0 = .ok (.aload_n 0, 1) := by decide +kernel
theorem dX11_match_1 : decode cX11_match 1 = .ok (.iconst 0, 1) := by decide +kernel
theorem dX11_match_2 : decode cX11_match 2 = .ok (.putfield 103, 3) := by decide +kernel
theorem dX11_match_5 : decode cX11_match 5 = .ok (.aload_n 0, 1) := by decide +kernel
theorem dX11_match_6 : decode cX11_match 6 = .ok (.invokevirtual 352, 3) := by decide +kernel
theorem dX11_match_9 : decode cX11_match 9 = .ok (.aload_n 0, 1) := by decide +kernel
theorem dX11_match_10 : decode cX11_match 10 = .ok (.getfield 345, 3) := by decide +kernel
theorem dX11_match_13 : decode cX11_match 13 = .ok (.ireturn, 1) := by decide +kernel
theorem dX11_matched_0 : decode cX11_matched 0 = .ok (.aload_n 0, 1) := by decide +kernel
theorem dX11_matched_1 : decode cX11_matched 1 = .ok (.iconst 0, 1) := by decide +kernel
theorem dX11_matched_2 : decode cX11_matched 2 = .ok (.putfield 103, 3) := by decide +kernel
theorem dX11_matched_5 : decode cX11_matched 5 = .ok (.aload_n 0, 1) := by decide +kernel
theorem dX11_matched_6 : decode cX11_matched 6 = .ok (.aload_n 0, 1) := by decide +kernel
theorem dX11_matched_7 : decode cX11_matched 7 = .ok (.iload_n 1, 1) := by decide +kernel
theorem dX11_matched_8 : decode cX11_matched 8 = .ok (.invokevirtual 342, 3) := by decide +kernel
theorem dX11_matched_11 : decode cX11_matched 11 = .ok (.ifCond .ne 7, 3) := by decide +kernel
theorem dX11_matched_14 : decode cX11_matched 14 = .ok (.iconst 1, 1) := by decide +kernel
theorem dX11_matched_15 : decode cX11_matched 15 = .ok (.goto 4, 3) := by decide +kernel
theorem dX11_matched_18 : decode cX11_matched 18 = .ok (.iconst 0, 1) := by decide +kernel
theorem dX11_matched_19 : decode cX11_matched 19 = .ok (.iconst 1, 1) := by decide +kernel
theorem dX11_matched_20 : decode cX11_matched 20 = .ok (.iconst 0, 1) := by decide +kernel
theorem dX11_matched_21 : decode cX11_matched 21 = .ok (.invokevirtual 183, 3) := by decide +kernel
theorem dX11_matched_24 : decode cX11_matched 24 = .ok (.ifCond .eq 5, 3) := by decide +kernel
theorem dX11_matched_27 : decode cX11_matched 27 = .ok (.iconst 0, 1) := by decide +kernel
theorem dX11_matched_28 : decode cX11_matched 28 = .ok (.ireturn, 1) := by decide +kernel
theorem dX11_matched_29 : decode cX11_matched 29 = .ok (.aload_n 0, 1) := by decide +kernel
theorem dX11_matched_30 : decode cX11_matched 30 = .ok (.invokevirtual 352, 3) := by decide +kernel
theorem dX11_matched_33 : decode cX11_matched 33 = .ok (.aload_n 0, 1) := by decide +kernel
theorem dX11_matched_34 : decode cX11_matched 34 = .ok (.getfield 88, 3) := by decide +kernel
theorem dX11_matched_37 : decode cX11_matched 37 = .ok (.iload_n 1, 1) := by decide +kernel
theorem dX11_matched_38 : decode cX11_matched 38 = .ok (.iaload, 1) := by decide +kernel
theorem dX11_matched_39 : decode cX11_matched 39 = .ok (.ireturn, 1) := by decide +kernel
theorem dX11_powerIf_0 : decode cX11_powerIf 0 = .ok (.iload_n 2, 1) := by decide +kernel
theorem dX11_powerIf_1 : decode cX11_powerIf 1 = .ok (.ifCond .eq 7, 3) := by decide +kernel
theorem dX11_powerIf_4 : decode cX11_powerIf 4 = .ok (.iconst 1, 1) := by decide +kernel
theorem dX11_powerIf_5 : decode cX11_powerIf 5 = .ok (.goto 4, 3) := by decide +kernel
theorem dX11_powerIf_8 : decode cX11_powerIf 8 = .ok (.iconst 0, 1) := by decide +kernel
theorem dX11_powerIf_9 : decode cX11_powerIf 9 = .ok (.istore_n 3, 1) := by decide +kernel
theorem dX11_powerIf_10 : decode cX11_powerIf 10 = .ok (.aload_n 0, 1) := by decide +kernel
theorem dX11_powerIf_11 : decode cX11_powerIf 11 = .ok (.getfield 73, 3) := by decide +kernel
theorem dX11_powerIf_14 : decode cX11_powerIf 14 = .ok (.iload_n 1, 1) := by decide +kernel
theorem dX11_powerIf_15 : decode cX11_powerIf 15 = .ok (.invokestatic 267, 3) := by decide +kernel
theorem dX11_powerIf_18 : decode cX11_powerIf 18 = .ok (.ifCond .eq 53, 3) := by decide +kernel
theorem dX11_powerIf_21 : decode cX11_powerIf 21 = .ok (.aload_n 0, 1) := by decide +kernel
theorem dX11_powerIf_22 : decode cX11_powerIf 22 = .ok (.aload_n 0, 1) := by decide +kernel
theorem dX11_powerIf_23 : decode cX11_powerIf 23 = .ok (.getfield 73, 3) := by decide +kernel
theorem dX11_powerIf_26 : decode cX11_powerIf 26 = .ok (.iload_n 1, 1) := by decide +kernel
theorem dX11_powerIf_27 : decode cX11_powerIf 27 = .ok (.aload_n 0, 1) := by decide +kernel
theorem dX11_powerIf_28 : decode cX11_powerIf 28 = .ok (.getfield 73, 3) := by decide +kernel
theorem dX11_powerIf_31 : decode cX11_powerIf 31 = .ok (.bipush 16, 2) := by decide +kernel
theorem dX11_powerIf_33 : decode cX11_powerIf 33 = .ok (.iload_n 1, 1) := by decide +kernel
theorem dX11_powerIf_34 : decode cX11_powerIf 34 = .ok (.iadd, 1) := by decide +kernel
theorem dX11_powerIf_35 : decode cX11_powerIf 35 = .ok (.iaload, 1) := by decide +kernel
theorem dX11_powerIf_36 : decode cX11_powerIf 36 = .ok (.iconst 1, 1) := by decide +kernel
theorem dX11_powerIf_37 : decode cX11_powerIf 37 = .ok (.iload_n 3, 1) := by decide +kernel
theorem dX11_powerIf_38 : decode cX11_powerIf 38 = .ok (.iadd, 1) := by decide +kernel
theorem dX11_powerIf_39 : decode cX11_powerIf 39 = .ok (.idiv, 1) := by decide +kernel
theorem dX11_powerIf_40 : decode cX11_powerIf 40 = .ok (.aload_n 0, 1) := by decide +kernel
theorem dX11_powerIf_41 : decode cX11_powerIf 41 = .ok (.getfield 73, 3) := by decide +kernel
theorem dX11_powerIf_44 : decode cX11_powerIf 44 = .ok (.bipush 8, 2) := by decide +kernel
theorem dX11_powerIf_46 : decode cX11_powerIf 46 = .ok (.aload_n 0, 1) := by decide +kernel
theorem dX11_powerIf_47 : decode cX11_powerIf 47 = .ok (.getfield 43, 3) := by decide +kernel
theorem dX11_powerIf_50 : decode cX11_powerIf 50 = .ok (.iload_n 1, 1) := by decide +kernel
theorem dX11_powerIf_51 : decode cX11_powerIf 51 = .ok (.aaload, 1) := by decide +kernel
theorem dX11_powerIf_52 : decode cX11_powerIf 52 = .ok (.iconst 0, 1) := by decide +kernel
theorem dX11_powerIf_53 : decode cX11_powerIf 53 = .ok (.iaload, 1) := by decide +kernel
theorem dX11_powerIf_54 : decode cX11_powerIf 54 = .ok (.iadd, 1) := by decide +kernel
theorem dX11_powerIf_55 : decode cX11_powerIf 55 = .ok (.iaload, 1) := by decide +kernel
theorem dX11_powerIf_56 : decode cX11_powerIf 56 = .ok (.iload_n 3, 1) := by decide +kernel
theorem dX11_powerIf_57 : decode cX11_powerIf 57 = .ok (.iadd, 1) := by decide +kernel
theorem dX11_powerIf_58 : decode cX11_powerIf 58 = .ok (.aload_n 0, 1) := by decide +kernel
theorem dX11_powerIf_59 : decode cX11_powerIf 59 = .ok (.getfield 73, 3) := by decide +kernel
theorem dX11_powerIf_62 : decode cX11_powerIf 62 = .ok (.bipush 44, 2) := by decide +kernel
theorem dX11_powerIf_64 : decode cX11_powerIf 64 = .ok (.iaload, 1) := by decide +kernel
theorem dX11_powerIf_65 : decode cX11_powerIf 65 = .ok (.invokevirtual 285, 3) := by decide +kernel
theorem dX11_powerIf_68 : decode cX11_powerIf 68 = .ok (.goto 4, 3) := by decide +kernel
theorem dX11_powerIf_71 : decode cX11_powerIf 71 = .ok (.iconst 0, 1) := by decide +kernel
theorem dX11_powerIf_72 : decode cX11_powerIf 72 = .ok (.ireturn, 1) := by decide +kernel
theorem dX11_isLapsed_0 : decode cX11_isLapsed 0 = .ok (.iconst 0, 1) := by decide +kernel
theorem dX11_isLapsed_1 : decode cX11_isLapsed 1 = .ok (.istore_n 2, 1) := by decide +kernel
theorem dX11_isLapsed_2 : decode cX11_isLapsed 2 = .ok (.iload_n 2, 1) := by decide +kernel
theorem dX11_isLapsed_3 : decode cX11_isLapsed 3 = .ok (.aload_n 0, 1) := by decide +kernel
theorem dX11_isLapsed_4 : decode cX11_isLapsed 4 = .ok (.getfield 23, 3) := by decide +kernel
theorem dX11_isLapsed_7 : decode cX11_isLapsed 7 = .ok (.iconst 0, 1) := by decide +kernel
theorem dX11_isLapsed_8 : decode cX11_isLapsed 8 = .ok (.iaload, 1) := by decide +kernel
theorem dX11_isLapsed_9 : decode cX11_isLapsed 9 = .ok (.if_icmp .ge 31, 3) := by decide +kernel
theorem dX11_isLapsed_12 : decode cX11_isLapsed 12 = .ok (.iload_n 1, 1) := by decide +kernel
theorem dX11_isLapsed_13 : decode cX11_isLapsed 13 = .ok (.iload_n 2, 1) := by decide +kernel
theorem dX11_isLapsed_14 : decode cX11_isLapsed 14 = .ok (.invokestatic 263, 3) := by decide +kernel
theorem dX11_isLapsed_17 : decode cX11_isLapsed 17 = .ok (.ifCond .eq 17, 3) := by decide +kernel
theorem dX11_isLapsed_20 : decode cX11_isLapsed 20 = .ok (.aload_n 0, 1) := by decide +kernel
theorem dX11_isLapsed_21 : decode cX11_isLapsed 21 = .ok (.aload_n 0, 1) := by decide +kernel
theorem dX11_isLapsed_22 : decode cX11_isLapsed 22 = .ok (.getfield 73, 3) := by decide +kernel
theorem dX11_isLapsed_25 : decode cX11_isLapsed 25 = .ok (.iload_n 2, 1) := by decide +kernel
theorem dX11_isLapsed_26 : decode cX11_isLapsed 26 = .ok (.invokevirtual 296, 3) := by decide +kernel
theorem dX11_isLapsed_29 : decode cX11_isLapsed 29 = .ok (.ifCond .ne 5, 3) := by decide +kernel
theorem dX11_isLapsed_32 : decode cX11_isLapsed 32 = .ok (.iconst 0, 1) := by decide +kernel
theorem dX11_isLapsed_33 : decode cX11_isLapsed 33 = .ok (.ireturn, 1) := by decide +kernel
theorem dX11_isLapsed_34 : decode cX11_isLapsed 34 = .ok (.iinc 2 1, 3) := by decide +kernel
theorem dX11_isLapsed_37 : decode cX11_isLapsed 37 = .ok (.goto (-35), 3) := by decide +kernel
theorem dX11_isLapsed_40 : decode cX11_isLapsed 40 = .ok (.iconst 0, 1) := by decide +kernel
theorem dX11_isLapsed_41 : decode cX11_isLapsed 41 = .ok (.istore_n 2, 1) := by decide +kernel
theorem dX11_isLapsed_42 : decode cX11_isLapsed 42 = .ok (.iload_n 2, 1) := by decide +kernel
theorem dX11_isLapsed_43 : decode cX11_isLapsed 43 = .ok (.aload_n 0, 1) := by decide +kernel
theorem dX11_isLapsed_44 : decode cX11_isLapsed 44 = .ok (.getfield 203, 3) := by decide +kernel
theorem dX11_isLapsed_47 : decode cX11_isLapsed 47 = .ok (.if_icmp .ge 53, 3) := by decide +kernel
theorem dX11_isLapsed_50 : decode cX11_isLapsed 50 = .ok (.aload_n 0, 1) := by decide +kernel
theorem dX11_isLapsed_51 : decode cX11_isLapsed 51 = .ok (.aload_n 0, 1) := by decide +kernel
theorem dX11_isLapsed_52 : decode cX11_isLapsed 52 = .ok (.getfield 58, 3) := by decide +kernel
theorem dX11_isLapsed_55 : decode cX11_isLapsed 55 = .ok (.iload_n 2, 1) := by decide +kernel
theorem dX11_isLapsed_56 : decode cX11_isLapsed 56 = .ok (.aaload, 1) := by decide +kernel
theorem dX11_isLapsed_57 : decode cX11_isLapsed 57 = .ok (.iconst 0, 1) := by decide +kernel
theorem dX11_isLapsed_58 : decode cX11_isLapsed 58 = .ok (.iaload, 1) := by decide +kernel
theorem dX11_isLapsed_59 : decode cX11_isLapsed 59 = .ok (.iload_n 1, 1) := by decide +kernel
theorem dX11_isLapsed_60 : decode cX11_isLapsed 60 = .ok (.aload_n 0, 1) := by decide +kernel
theorem dX11_isLapsed_61 : decode cX11_isLapsed 61 = .ok (.getfield 43, 3) := by decide +kernel
theorem dX11_isLapsed_64 : decode cX11_isLapsed 64 = .ok (.aload_n 0, 1) := by decide +kernel
theorem dX11_isLapsed_65 : decode cX11_isLapsed 65 = .ok (.getfield 58, 3) := by decide +kernel
theorem dX11_isLapsed_68 : decode cX11_isLapsed 68 = .ok (.iload_n 2, 1) := by decide +kernel
theorem dX11_isLapsed_69 : decode cX11_isLapsed 69 = .ok (.aaload, 1) := by decide +kernel
theorem dX11_isLapsed_70 : decode cX11_isLapsed 70 = .ok (.iconst 0, 1) := by decide +kernel
theorem dX11_isLapsed_71 : decode cX11_isLapsed 71 = .ok (.iaload, 1) := by decide +kernel
theorem dX11_isLapsed_72 : decode cX11_isLapsed 72 = .ok (.aaload, 1) := by decide +kernel
theorem dX11_isLapsed_73 : decode cX11_isLapsed 73 = .ok (.iconst 0, 1) := by decide +kernel
theorem dX11_isLapsed_74 : decode cX11_isLapsed 74 = .ok (.iaload, 1) := by decide +kernel
theorem dX11_isLapsed_75 : decode cX11_isLapsed 75 = .ok (.invokestatic 263, 3) := by decide +kernel
theorem dX11_isLapsed_78 : decode cX11_isLapsed 78 = .ok (.invokevirtual 355, 3) := by decide +kernel
theorem dX11_isLapsed_81 : decode cX11_isLapsed 81 = .ok (.aload_n 0, 1) := by decide +kernel
theorem dX11_isLapsed_82 : decode cX11_isLapsed 82 = .ok (.getfield 58, 3) := by decide +kernel
theorem dX11_isLapsed_85 : decode cX11_isLapsed 85 = .ok (.iload_n 2, 1) := by decide +kernel
theorem dX11_isLapsed_86 : decode cX11_isLapsed 86 = .ok (.aaload, 1) := by decide +kernel
theorem dX11_isLapsed_87 : decode cX11_isLapsed 87 = .ok (.iconst 1, 1) := by decide +kernel
theorem dX11_isLapsed_88 : decode cX11_isLapsed 88 = .ok (.iaload, 1) := by decide +kernel
theorem dX11_isLapsed_89 : decode cX11_isLapsed 89 = .ok (.if_icmp .eq 5, 3) := by decide +kernel
theorem dX11_isLapsed_92 : decode cX11_isLapsed 92 = .ok (.iconst 0, 1) := by decide +kernel
theorem dX11_isLapsed_93 : decode cX11_isLapsed 93 = .ok (.ireturn, 1) := by decide +kernel
theorem dX11_isLapsed_94 : decode cX11_isLapsed 94 = .ok (.iinc 2 1, 3) := by decide +kernel
theorem dX11_isLapsed_97 : decode cX11_isLapsed 97 = .ok (.goto (-55), 3) := by decide +kernel
theorem dX11_isLapsed_100 : decode cX11_isLapsed 100 = .ok (.iconst 1, 1) := by decide +kernel
theorem dX11_isLapsed_101 : decode cX11_isLapsed 101 = .ok (.ireturn, 1) := by decide +kernel
theorem dX11_lapsed_0 : decode cX11_lapsed 0 = .ok (.aload_n 0, 1) := by decide +kernel
theorem dX11_lapsed_1 : decode cX11_lapsed 1 = .ok (.iconst 0, 1) := by decide +kernel
theorem dX11_lapsed_2 : decode cX11_lapsed 2 = .ok (.putfield 103, 3) := by decide +kernel
theorem dX11_lapsed_5 : decode cX11_lapsed 5 = .ok (.aload_n 0, 1) := by decide +kernel
theorem dX11_lapsed_6 : decode cX11_lapsed 6 = .ok (.iload_n 1, 1) := by decide +kernel
theorem dX11_lapsed_7 : decode cX11_lapsed 7 = .ok (.iconst 0, 1) := by decide +kernel
theorem dX11_lapsed_8 : decode cX11_lapsed 8 = .ok (.iconst 2, 1) := by decide +kernel
theorem dX11_lapsed_9 : decode cX11_lapsed 9 = .ok (.invokestatic 137, 3) := by decide +kernel
theorem dX11_lapsed_12 : decode cX11_lapsed 12 = .ok (.ifCond .ne 7, 3) := by decide +kernel
theorem dX11_lapsed_15 : decode cX11_lapsed 15 = .ok (.iconst 1, 1) := by decide +kernel
theorem dX11_lapsed_16 : decode cX11_lapsed 16 = .ok (.goto 4, 3) := by decide +kernel
theorem dX11_lapsed_19 : decode cX11_lapsed 19 = .ok (.iconst 0, 1) := by decide +kernel
theorem dX11_lapsed_20 : decode cX11_lapsed 20 = .ok (.iconst 1, 1) := by decide +kernel
theorem dX11_lapsed_21 : decode cX11_lapsed 21 = .ok (.iconst 1, 1) := by decide +kernel
theorem dX11_lapsed_22 : decode cX11_lapsed 22 = .ok (.invokevirtual 183, 3) := by decide +kernel
theorem dX11_lapsed_25 : decode cX11_lapsed 25 = .ok (.ifCond .eq 5, 3) := by decide +kernel
theorem dX11_lapsed_28 : decode cX11_lapsed 28 = .ok (.iconst 0, 1) := by decide +kernel
theorem dX11_lapsed_29 : decode cX11_lapsed 29 = .ok (.ireturn, 1) := by decide +kernel
theorem dX11_lapsed_30 : decode cX11_lapsed 30 = .ok (.iconst 0, 1) := by decide +kernel
theorem dX11_lapsed_31 : decode cX11_lapsed 31 = .ok (.istore_n 2, 1) := by decide +kernel
theorem dX11_lapsed_32 : decode cX11_lapsed 32 = .ok (.iconst (-1), 1) := by decide +kernel
theorem dX11_lapsed_33 : decode cX11_lapsed 33 = .ok (.istore_n 3, 1) := by decide +kernel
theorem dX11_lapsed_34 : decode cX11_lapsed 34 = .ok (.iconst 1, 1) := by decide +kernel
theorem dX11_lapsed_35 : decode cX11_lapsed 35 = .ok (.aload_n 0, 1) := by decide +kernel
theorem dX11_lapsed_36 : decode cX11_lapsed 36 = .ok (.getfield 23, 3) := by decide +kernel
theorem dX11_lapsed_39 : decode cX11_lapsed 39 = .ok (.iconst 0, 1) := by decide +kernel
theorem dX11_lapsed_40 : decode cX11_lapsed 40 = .ok (.iaload, 1) := by decide +kernel
theorem dX11_lapsed_41 : decode cX11_lapsed 41 = .ok (.ishl, 1) := by decide +kernel
theorem dX11_lapsed_42 : decode cX11_lapsed 42 = .ok (.iconst 1, 1) := by decide +kernel
theorem dX11_lapsed_43 : decode cX11_lapsed 43 = .ok (.isub, 1) := by decide +kernel
theorem dX11_lapsed_44 : decode cX11_lapsed 44 = .ok (.istore 4, 2) := by decide +kernel
theorem dX11_lapsed_46 : decode cX11_lapsed 46 = .ok (.iconst 0, 1) := by decide +kernel
theorem dX11_lapsed_47 : decode cX11_lapsed 47 = .ok (.istore 5, 2) := by decide +kernel
theorem dX11_lapsed_49 : decode cX11_lapsed 49 = .ok (.iload 5, 2) := by decide +kernel
theorem dX11_lapsed_51 : decode cX11_lapsed 51 = .ok (.iconst 1, 1) := by decide +kernel
theorem dX11_lapsed_52 : decode cX11_lapsed 52 = .ok (.aload_n 0, 1) := by decide +kernel
theorem dX11_lapsed_53 : decode cX11_lapsed 53 = .ok (.getfield 23, 3) := by decide +kernel
theorem dX11_lapsed_56 : decode cX11_lapsed 56 = .ok (.iconst 0, 1) := by decide +kernel
theorem dX11_lapsed_57 : decode cX11_lapsed 57 = .ok (.iaload, 1) := by decide +kernel
theorem dX11_lapsed_58 : decode cX11_lapsed 58 = .ok (.ishl, 1) := by decide +kernel
theorem dX11_lapsed_59 : decode cX11_lapsed 59 = .ok (.if_icmp .ge 42, 3) := by decide +kernel
theorem dX11_lapsed_62 : decode cX11_lapsed 62 = .ok (.aload_n 0, 1) := by decide +kernel
theorem dX11_lapsed_63 : decode cX11_lapsed 63 = .ok (.iload 5, 2) := by decide +kernel
theorem dX11_lapsed_65 : decode cX11_lapsed 65 = .ok (.invokevirtual 359, 3) := by decide +kernel
theorem dX11_lapsed_68 : decode cX11_lapsed 68 = .ok (.ifCond .ne 6, 3) := by decide +kernel
theorem dX11_lapsed_71 : decode cX11_lapsed 71 = .ok (.goto 24, 3) := by decide +kernel
theorem dX11_lapsed_74 : decode cX11_lapsed 74 = .ok (.iload_n 2, 1) := by decide +kernel
theorem dX11_lapsed_75 : decode cX11_lapsed 75 = .ok (.ifCond .ne 8, 3) := by decide +kernel
theorem dX11_lapsed_78 : decode cX11_lapsed 78 = .ok (.iload 5, 2) := by decide +kernel
theorem dX11_lapsed_80 : decode cX11_lapsed 80 = .ok (.goto 4, 3) := by decide +kernel
theorem dX11_lapsed_83 : decode cX11_lapsed 83 = .ok (.iload_n 3, 1) := by decide +kernel
theorem dX11_lapsed_84 : decode cX11_lapsed 84 = .ok (.istore_n 3, 1) := by decide +kernel
theorem dX11_lapsed_85 : decode cX11_lapsed 85 = .ok (.iload 4, 2) := by decide +kernel
theorem dX11_lapsed_87 : decode cX11_lapsed 87 = .ok (.iload 5, 2) := by decide +kernel
theorem dX11_lapsed_89 : decode cX11_lapsed 89 = .ok (.iand, 1) := by decide +kernel
theorem dX11_lapsed_90 : decode cX11_lapsed 90 = .ok (.istore 4, 2) := by decide +kernel
theorem dX11_lapsed_92 : decode cX11_lapsed 92 = .ok (.iinc 2 1, 3) := by decide +kernel
theorem dX11_lapsed_95 : decode cX11_lapsed 95 = .ok (.iinc 5 1, 3) := by decide +kernel
theorem dX11_lapsed_98 : decode cX11_lapsed 98 = .ok (.goto (-49), 3) := by decide +kernel
theorem dX11_lapsed_101 : decode cX11_lapsed 101 = .ok (.iload_n 1, 1) := by decide +kernel
theorem dX11_lapsed_102 : decode cX11_lapsed 102 = .ok (.ifCond .ne 7, 3) := by decide +kernel
theorem dX11_lapsed_105 : decode cX11_lapsed 105 = .ok (.iload_n 2, 1) := by decide +kernel
theorem dX11_lapsed_106 : decode cX11_lapsed 106 = .ok (.goto 22, 3) := by decide +kernel
theorem dX11_lapsed_109 : decode cX11_lapsed 109 = .ok (.iload_n 1, 1) := by decide +kernel
theorem dX11_lapsed_110 : decode cX11_lapsed 110 = .ok (.iconst 1, 1) := by decide +kernel
theorem dX11_lapsed_111 : decode cX11_lapsed 111 = .ok (.if_icmp .ne 7, 3) := by decide +kernel
theorem dX11_lapsed_114 : decode cX11_lapsed 114 = .ok (.iload_n 3, 1) := by decide +kernel
theorem dX11_lapsed_115 : decode cX11_lapsed 115 = .ok (.goto 13, 3) := by decide +kernel
theorem dX11_lapsed_118 : decode cX11_lapsed 118 = .ok (.iload_n 2, 1) := by decide +kernel
theorem dX11_lapsed_119 : decode cX11_lapsed 119 = .ok (.ifCond .ne 7, 3) := by decide +kernel
theorem dX11_lapsed_122 : decode cX11_lapsed 122 = .ok (.iconst 0, 1) := by decide +kernel
theorem dX11_lapsed_123 : decode cX11_lapsed 123 = .ok (.goto 5, 3) := by decide +kernel
theorem dX11_lapsed_126 : decode cX11_lapsed 126 = .ok (.iload 4, 2) := by decide +kernel
theorem dX11_lapsed_128 : decode cX11_lapsed 128 = .ok (.ireturn, 1) := by decide +kernel
theorem dX11_isTold_0 : decode cX11_isTold 0 = .ok (.iconst 0, 1) := by decide +kernel
theorem dX11_isTold_1 : decode cX11_isTold 1 = .ok (.istore_n 2, 1) := by decide +kernel
theorem dX11_isTold_2 : decode cX11_isTold 2 = .ok (.iload_n 2, 1) := by decide +kernel
theorem dX11_isTold_3 : decode cX11_isTold 3 = .ok (.aload_n 0, 1) := by decide +kernel
theorem dX11_isTold_4 : decode cX11_isTold 4 = .ok (.getfield 203, 3) := by decide +kernel
theorem dX11_isTold_7 : decode cX11_isTold 7 = .ok (.if_icmp .ge 23, 3) := by decide +kernel
theorem dX11_isTold_10 : decode cX11_isTold 10 = .ok (.aload_n 0, 1) := by decide +kernel
theorem dX11_isTold_11 : decode cX11_isTold 11 = .ok (.getfield 58, 3) := by decide +kernel
theorem dX11_isTold_14 : decode cX11_isTold 14 = .ok (.iload_n 2, 1) := by decide +kernel
theorem dX11_isTold_15 : decode cX11_isTold 15 = .ok (.aaload, 1) := by decide +kernel
theorem dX11_isTold_16 : decode cX11_isTold 16 = .ok (.iconst 0, 1) := by decide +kernel
theorem dX11_isTold_17 : decode cX11_isTold 17 = .ok (.iaload, 1) := by decide +kernel
theorem dX11_isTold_18 : decode cX11_isTold 18 = .ok (.iload_n 1, 1) := by decide +kernel
theorem dX11_isTold_19 : decode cX11_isTold 19 = .ok (.if_icmp .ne 5, 3) := by decide +kernel
theorem dX11_isTold_22 : decode cX11_isTold 22 = .ok (.iconst 1, 1) := by decide +kernel
theorem dX11_isTold_23 : decode cX11_isTold 23 = .ok (.ireturn, 1) := by decide +kernel
theorem dX11_isTold_24 : decode cX11_isTold 24 = .ok (.iinc 2 1, 3) := by decide +kernel
theorem dX11_isTold_27 : decode cX11_isTold 27 = .ok (.goto (-25), 3) := by decide +kernel
theorem dX11_isTold_30 : decode cX11_isTold 30 = .ok (.iconst 0, 1) := by decide +kernel
theorem dX11_isTold_31 : decode cX11_isTold 31 = .ok (.ireturn, 1) := by decide +kernel
theorem dX11_ask_0 : decode cX11_ask 0 = .ok (.aload_n 0, 1) := by decide +kernel
theorem dX11_ask_1 : decode cX11_ask 1 = .ok (.iconst 0, 1) := by decide +kernel
theorem dX11_ask_2 : decode cX11_ask 2 = .ok (.putfield 103, 3) := by decide +kernel
theorem dX11_ask_5 : decode cX11_ask 5 = .ok (.aload_n 0, 1) := by decide +kernel
theorem dX11_ask_6 : decode cX11_ask 6 = .ok (.iload_n 1, 1) := by decide +kernel
theorem dX11_ask_7 : decode cX11_ask 7 = .ok (.iconst 0, 1) := by decide +kernel
theorem dX11_ask_8 : decode cX11_ask 8 = .ok (.iconst 1, 1) := by decide +kernel
theorem dX11_ask_9 : decode cX11_ask 9 = .ok (.invokestatic 137, 3) := by decide +kernel
theorem dX11_ask_12 : decode cX11_ask 12 = .ok (.ifCond .ne 7, 3) := by decide +kernel
theorem dX11_ask_15 : decode cX11_ask 15 = .ok (.iconst 1, 1) := by decide +kernel
theorem dX11_ask_16 : decode cX11_ask 16 = .ok (.goto 4, 3) := by decide +kernel
theorem dX11_ask_19 : decode cX11_ask 19 = .ok (.iconst 0, 1) := by decide +kernel
theorem dX11_ask_20 : decode cX11_ask 20 = .ok (.iconst 1, 1) := by decide +kernel
theorem dX11_ask_21 : decode cX11_ask 21 = .ok (.iconst 1, 1) := by decide +kernel
theorem dX11_ask_22 : decode cX11_ask 22 = .ok (.invokevirtual 183, 3) := by decide +kernel
theorem dX11_ask_25 : decode cX11_ask 25 = .ok (.ifCond .eq 5, 3) := by decide +kernel
theorem dX11_ask_28 : decode cX11_ask 28 = .ok (.iconst 0, 1) := by decide +kernel
theorem dX11_ask_29 : decode cX11_ask 29 = .ok (.ireturn, 1) := by decide +kernel
theorem dX11_ask_30 : decode cX11_ask 30 = .ok (.iconst (-1), 1) := by decide +kernel
theorem dX11_ask_31 : decode cX11_ask 31 = .ok (.istore_n 2, 1) := by decide +kernel
theorem dX11_ask_32 : decode cX11_ask 32 = .ok (.iconst (-1), 1) := by decide +kernel
theorem dX11_ask_33 : decode cX11_ask 33 = .ok (.istore_n 3, 1) := by decide +kernel
theorem dX11_ask_34 : decode cX11_ask 34 = .ok (.iconst 0, 1) := by decide +kernel
theorem dX11_ask_35 : decode cX11_ask 35 = .ok (.istore 4, 2) := by decide +kernel
theorem dX11_ask_37 : decode cX11_ask 37 = .ok (.iload 4, 2) := by decide +kernel
theorem dX11_ask_39 : decode cX11_ask 39 = .ok (.aload_n 0, 1) := by decide +kernel
theorem dX11_ask_40 : decode cX11_ask 40 = .ok (.getfield 23, 3) := by decide +kernel
theorem dX11_ask_43 : decode cX11_ask 43 = .ok (.iconst 1, 1) := by decide +kernel
theorem dX11_ask_44 : decode cX11_ask 44 = .ok (.iaload, 1) := by decide +kernel
theorem dX11_ask_45 : decode cX11_ask 45 = .ok (.if_icmp .ge 141, 3) := by decide +kernel
theorem dX11_ask_48 : decode cX11_ask 48 = .ok (.aload_n 0, 1) := by decide +kernel
theorem dX11_ask_49 : decode cX11_ask 49 = .ok (.iload 4, 2) := by decide +kernel
theorem dX11_ask_51 : decode cX11_ask 51 = .ok (.invokevirtual 362, 3) := by decide +kernel
theorem dX11_ask_54 : decode cX11_ask 54 = .ok (.ifCond .eq 6, 3) := by decide +kernel
theorem dX11_ask_57 : decode cX11_ask 57 = .ok (.goto 123, 3) := by decide +kernel
theorem dX11_ask_60 : decode cX11_ask 60 = .ok (.iconst 0, 1) := by decide +kernel
theorem dX11_ask_61 : decode cX11_ask 61 = .ok (.istore 5, 2) := by decide +kernel
theorem dX11_ask_63 : decode cX11_ask 63 = .ok (.iconst 0, 1) := by decide +kernel
theorem dX11_ask_64 : decode cX11_ask 64 = .ok (.istore 6, 2) := by decide +kernel
theorem dX11_ask_66 : decode cX11_ask 66 = .ok (.iconst 0, 1) := by decide +kernel
theorem dX11_ask_67 : decode cX11_ask 67 = .ok (.istore 7, 2) := by decide +kernel
theorem dX11_ask_69 : decode cX11_ask 69 = .ok (.iload 7, 2) := by decide +kernel
theorem dX11_ask_71 : decode cX11_ask 71 = .ok (.iconst 1, 1) := by decide +kernel
theorem dX11_ask_72 : decode cX11_ask 72 = .ok (.aload_n 0, 1) := by decide +kernel
theorem dX11_ask_73 : decode cX11_ask 73 = .ok (.getfield 23, 3) := by decide +kernel
theorem dX11_ask_76 : decode cX11_ask 76 = .ok (.iconst 0, 1) := by decide +kernel
theorem dX11_ask_77 : decode cX11_ask 77 = .ok (.iaload, 1) := by decide +kernel
theorem dX11_ask_78 : decode cX11_ask 78 = .ok (.ishl, 1) := by decide +kernel
theorem dX11_ask_79 : decode cX11_ask 79 = .ok (.if_icmp .ge 47, 3) := by decide +kernel
theorem dX11_ask_82 : decode cX11_ask 82 = .ok (.aload_n 0, 1) := by decide +kernel
theorem dX11_ask_83 : decode cX11_ask 83 = .ok (.iload 7, 2) := by decide +kernel
theorem dX11_ask_85 : decode cX11_ask 85 = .ok (.invokevirtual 359, 3) := by decide +kernel
theorem dX11_ask_88 : decode cX11_ask 88 = .ok (.ifCond .ne 6, 3) := by decide +kernel
theorem dX11_ask_91 : decode cX11_ask 91 = .ok (.goto 29, 3) := by decide +kernel
theorem dX11_ask_94 : decode cX11_ask 94 = .ok (.iload 7, 2) := by decide +kernel
theorem dX11_ask_96 : decode cX11_ask 96 = .ok (.aload_n 0, 1) := by decide +kernel
theorem dX11_ask_97 : decode cX11_ask 97 = .ok (.getfield 43, 3) := by decide +kernel
theorem dX11_ask_100 : decode cX11_ask 100 = .ok (.iload 4, 2) := by decide +kernel
theorem dX11_ask_102 : decode cX11_ask 102 = .ok (.aaload, 1) := by decide +kernel
theorem dX11_ask_103 : decode cX11_ask 103 = .ok (.iconst 0, 1) := by decide +kernel
theorem dX11_ask_104 : decode cX11_ask 104 = .ok (.iaload, 1) := by decide +kernel
theorem dX11_ask_105 : decode cX11_ask 105 = .ok (.invokestatic 263, 3) := by decide +kernel
theorem dX11_ask_108 : decode cX11_ask 108 = .ok (.ifCond .eq 9, 3) := by decide +kernel
theorem dX11_ask_111 : decode cX11_ask 111 = .ok (.iinc 5 1, 3) := by decide +kernel
theorem dX11_ask_114 : decode cX11_ask 114 = .ok (.goto 6, 3) := by decide +kernel
theorem dX11_ask_117 : decode cX11_ask 117 = .ok (.iinc 6 1, 3) := by decide +kernel
theorem dX11_ask_120 : decode cX11_ask 120 = .ok (.iinc 7 1, 3) := by decide +kernel
theorem dX11_ask_123 : decode cX11_ask 123 = .ok (.goto (-54), 3) := by decide +kernel
theorem dX11_ask_126 : decode cX11_ask 126 = .ok (.aload_n 0, 1) := by decide +kernel
theorem dX11_ask_127 : decode cX11_ask 127 = .ok (.iload 4, 2) := by decide +kernel
theorem dX11_ask_129 : decode cX11_ask 129 = .ok (.iconst 1, 1) := by decide +kernel
theorem dX11_ask_130 : decode cX11_ask 130 = .ok (.invokevirtual 355, 3) := by decide +kernel
theorem dX11_ask_133 : decode cX11_ask 133 = .ok (.aload_n 0, 1) := by decide +kernel
theorem dX11_ask_134 : decode cX11_ask 134 = .ok (.iload 4, 2) := by decide +kernel
theorem dX11_ask_136 : decode cX11_ask 136 = .ok (.iconst 0, 1) := by decide +kernel
theorem dX11_ask_137 : decode cX11_ask 137 = .ok (.invokevirtual 355, 3) := by decide +kernel
theorem dX11_ask_140 : decode cX11_ask 140 = .ok (.if_icmp .ne 11, 3) := by decide +kernel
theorem dX11_ask_143 : decode cX11_ask 143 = .ok (.iload 5, 2) := by decide +kernel
theorem dX11_ask_145 : decode cX11_ask 145 = .ok (.iload 6, 2) := by decide +kernel
theorem dX11_ask_147 : decode cX11_ask 147 = .ok (.iadd, 1) := by decide +kernel
theorem dX11_ask_148 : decode cX11_ask 148 = .ok (.goto 10, 3) := by decide +kernel
theorem dX11_ask_151 : decode cX11_ask 151 = .ok (.iload 5, 2) := by decide +kernel
theorem dX11_ask_153 : decode cX11_ask 153 = .ok (.iload 6, 2) := by decide +kernel
theorem dX11_ask_155 : decode cX11_ask 155 = .ok (.invokestatic 248, 3) := by decide +kernel
theorem dX11_ask_158 : decode cX11_ask 158 = .ok (.istore 7, 2) := by decide +kernel
theorem dX11_ask_160 : decode cX11_ask 160 = .ok (.iload_n 2, 1) := by decide +kernel
theorem dX11_ask_161 : decode cX11_ask 161 = .ok (.iconst (-1), 1) := by decide +kernel
theorem dX11_ask_162 : decode cX11_ask 162 = .ok (.if_icmp .eq 12, 3) := by decide +kernel
theorem dX11_ask_165 : decode cX11_ask 165 = .ok (.iload 7, 2) := by decide +kernel
theorem dX11_ask_167 : decode cX11_ask 167 = .ok (.iload_n 3, 1) := by decide +kernel
theorem dX11_ask_168 : decode cX11_ask 168 = .ok (.if_icmp .lt 6, 3) := by decide +kernel
theorem dX11_ask_171 : decode cX11_ask 171 = .ok (.goto 9, 3) := by decide +kernel
theorem dX11_ask_174 : decode cX11_ask 174 = .ok (.iload 4, 2) := by decide +kernel
theorem dX11_ask_176 : decode cX11_ask 176 = .ok (.istore_n 2, 1) := by decide +kernel
theorem dX11_ask_177 : decode cX11_ask 177 = .ok (.iload 7, 2) := by decide +kernel
theorem dX11_ask_179 : decode cX11_ask 179 = .ok (.istore_n 3, 1) := by decide +kernel
theorem dX11_ask_180 : decode cX11_ask 180 = .ok (.iinc 4 1, 3) := by decide +kernel
theorem dX11_ask_183 : decode cX11_ask 183 = .ok (.goto (-146), 3) := by decide +kernel
theorem dX11_ask_186 : decode cX11_ask 186 = .ok (.iload_n 1, 1) := by decide +kernel
theorem dX11_ask_187 : decode cX11_ask 187 = .ok (.ifCond .ne 7, 3) := by decide +kernel
theorem dX11_ask_190 : decode cX11_ask 190 = .ok (.iload_n 2, 1) := by decide +kernel
theorem dX11_ask_191 : decode cX11_ask 191 = .ok (.goto 4, 3) := by decide +kernel
theorem dX11_ask_194 : decode cX11_ask 194 = .ok (.iload_n 3, 1) := by decide +kernel
theorem dX11_ask_195 : decode cX11_ask 195 = .ok (.ireturn, 1) := by decide +kernel
theorem dX11_goesBest_0 : decode cX11_goesBest 0 = .ok (.aload_n 0, 1) := by decide +kernel
theorem dX11_goesBest_1 : decode cX11_goesBest 1 = .ok (.aload_n 0, 1) := by decide +kernel
theorem dX11_goesBest_2 : decode cX11_goesBest 2 = .ok (.getfield 73, 3) := by decide +kernel
theorem dX11_goesBest_5 : decode cX11_goesBest 5 = .ok (.iload_n 1, 1) := by decide +kernel
theorem dX11_goesBest_6 : decode cX11_goesBest 6 = .ok (.iload_n 3, 1) := by decide +kernel
theorem dX11_goesBest_7 : decode cX11_goesBest 7 = .ok (.iload 4, 2) := by decide +kernel
theorem dX11_goesBest_9 : decode cX11_goesBest 9 = .ok (.iload 5, 2) := by decide +kernel
theorem dX11_goesBest_11 : decode cX11_goesBest 11 = .ok (.invokevirtual 285, 3) := by decide +kernel
theorem dX11_goesBest_14 : decode cX11_goesBest 14 = .ok (.i2l, 1) := by decide +kernel
theorem dX11_goesBest_15 : decode cX11_goesBest 15 = .ok (.iconst 4, 1) := by decide +kernel
theorem dX11_goesBest_16 : decode cX11_goesBest 16 = .ok (.iload_n 2, 1) := by decide +kernel
theorem dX11_goesBest_17 : decode cX11_goesBest 17 = .ok (.imul, 1) := by decide +kernel
theorem dX11_goesBest_18 : decode cX11_goesBest 18 = .ok (.lshl, 1) := by decide +kernel
theorem dX11_goesBest_19 : decode cX11_goesBest 19 = .ok (.lstore 6, 2) := by decide +kernel
theorem dX11_goesBest_21 : decode cX11_goesBest 21 = .ok (.iload_n 2, 1) := by decide +kernel
theorem dX11_goesBest_22 : decode cX11_goesBest 22 = .ok (.ifCond .ne 6, 3) := by decide +kernel
theorem dX11_goesBest_25 : decode cX11_goesBest 25 = .ok (.lload 6, 2) := by decide +kernel
theorem dX11_goesBest_27 : decode cX11_goesBest 27 = .ok (.lreturn, 1) := by decide +kernel
theorem dX11_goesBest_28 : decode cX11_goesBest 28 = .ok (.aload_n 0, 1) := by decide +kernel
theorem dX11_goesBest_29 : decode cX11_goesBest 29 = .ok (.getfield 29, 3) := by decide +kernel
theorem dX11_goesBest_32 : decode cX11_goesBest 32 = .ok (.aload_n 0, 1) := by decide +kernel
theorem dX11_goesBest_33 : decode cX11_goesBest 33 = .ok (.getfield 43, 3) := by decide +kernel
theorem dX11_goesBest_36 : decode cX11_goesBest 36 = .ok (.iload_n 1, 1) := by decide +kernel
theorem dX11_goesBest_37 : decode cX11_goesBest 37 = .ok (.aaload, 1) := by decide +kernel
theorem dX11_goesBest_38 : decode cX11_goesBest 38 = .ok (.iconst 0, 1) := by decide +kernel
theorem dX11_goesBest_39 : decode cX11_goesBest 39 = .ok (.iaload, 1) := by decide +kernel
theorem dX11_goesBest_40 : decode cX11_goesBest 40 = .ok (.iaload, 1) := by decide +kernel
theorem dX11_goesBest_41 : decode cX11_goesBest 41 = .ok (.istore 8, 2) := by decide +kernel
theorem dX11_goesBest_43 : decode cX11_goesBest 43 = .ok (.iload 8, 2) := by decide +kernel
theorem dX11_goesBest_45 : decode cX11_goesBest 45 = .ok (.i2l, 1) := by decide +kernel
theorem dX11_goesBest_46 : decode cX11_goesBest 46 = .ok (.aload_n 0, 1) := by decide +kernel
theorem dX11_goesBest_47 : decode cX11_goesBest 47 = .ok (.iload_n 1, 1) := by decide +kernel
theorem dX11_goesBest_48 : decode cX11_goesBest 48 = .ok (.iload_n 2, 1) := by decide +kernel
theorem dX11_goesBest_49 : decode cX11_goesBest 49 = .ok (.iconst 1, 1) := by decide +kernel
theorem dX11_goesBest_50 : decode cX11_goesBest 50 = .ok (.isub, 1) := by decide +kernel
theorem dX11_goesBest_51 : decode cX11_goesBest 51 = .ok (.iload_n 3, 1) := by decide +kernel
theorem dX11_goesBest_52 : decode cX11_goesBest 52 = .ok (.iconst 2, 1) := by decide +kernel
theorem dX11_goesBest_53 : decode cX11_goesBest 53 = .ok (.idiv, 1) := by decide +kernel
theorem dX11_goesBest_54 : decode cX11_goesBest 54 = .ok (.iconst 1, 1) := by decide +kernel
theorem dX11_goesBest_55 : decode cX11_goesBest 55 = .ok (.iadd, 1) := by decide +kernel
theorem dX11_goesBest_56 : decode cX11_goesBest 56 = .ok (.iload 4, 2) := by decide +kernel
theorem dX11_goesBest_58 : decode cX11_goesBest 58 = .ok (.iconst 1, 1) := by decide +kernel
theorem dX11_goesBest_59 : decode cX11_goesBest 59 = .ok (.iadd, 1) := by decide +kernel
theorem dX11_goesBest_60 : decode cX11_goesBest 60 = .ok (.iload 5, 2) := by decide +kernel
theorem dX11_goesBest_62 : decode cX11_goesBest 62 = .ok (.iconst 1, 1) := by decide +kernel
theorem dX11_goesBest_63 : decode cX11_goesBest 63 = .ok (.iadd, 1) := by decide +kernel
theorem dX11_goesBest_64 : decode cX11_goesBest 64 = .ok (.invokevirtual 365, 3) := by decide +kernel
theorem dX11_goesBest_67 : decode cX11_goesBest 67 = .ok (.lmul, 1) := by decide +kernel
theorem dX11_goesBest_68 : decode cX11_goesBest 68 = .ok (.bipush 16, 2) := by decide +kernel
theorem dX11_goesBest_70 : decode cX11_goesBest 70 = .ok (.iload 8, 2) := by decide +kernel
theorem dX11_goesBest_72 : decode cX11_goesBest 72 = .ok (.isub, 1) := by decide +kernel
theorem dX11_goesBest_73 : decode cX11_goesBest 73 = .ok (.i2l, 1) := by decide +kernel
theorem dX11_goesBest_74 : decode cX11_goesBest 74 = .ok (.aload_n 0, 1) := by decide +kernel
theorem dX11_goesBest_75 : decode cX11_goesBest 75 = .ok (.iload_n 1, 1) := by decide +kernel
theorem dX11_goesBest_76 : decode cX11_goesBest 76 = .ok (.iload_n 2, 1) := by decide +kernel
theorem dX11_goesBest_77 : decode cX11_goesBest 77 = .ok (.iconst 1, 1) := by decide +kernel
theorem dX11_goesBest_78 : decode cX11_goesBest 78 = .ok (.isub, 1) := by decide +kernel
theorem dX11_goesBest_79 : decode cX11_goesBest 79 = .ok (.iload_n 3, 1) := by decide +kernel
theorem dX11_goesBest_80 : decode cX11_goesBest 80 = .ok (.iconst 1, 1) := by decide +kernel
theorem dX11_goesBest_81 : decode cX11_goesBest 81 = .ok (.iadd, 1) := by decide +kernel
theorem dX11_goesBest_82 : decode cX11_goesBest 82 = .ok (.iload 4, 2) := by decide +kernel
theorem dX11_goesBest_84 : decode cX11_goesBest 84 = .ok (.iload 5, 2) := by decide +kernel
theorem dX11_goesBest_86 : decode cX11_goesBest 86 = .ok (.iconst 1, 1) := by decide +kernel
theorem dX11_goesBest_87 : decode cX11_goesBest 87 = .ok (.iadd, 1) := by decide +kernel
theorem dX11_goesBest_88 : decode cX11_goesBest 88 = .ok (.invokevirtual 365, 3) := by decide +kernel
theorem dX11_goesBest_91 : decode cX11_goesBest 91 = .ok (.lmul, 1) := by decide +kernel
theorem dX11_goesBest_92 : decode cX11_goesBest 92 = .ok (.ladd, 1) := by decide +kernel
theorem dX11_goesBest_93 : decode cX11_goesBest 93 = .ok (.lstore 9, 2) := by decide +kernel
theorem dX11_goesBest_95 : decode cX11_goesBest 95 = .ok (.lload 6, 2) := by decide +kernel
theorem dX11_goesBest_97 : decode cX11_goesBest 97 = .ok (.lload 9, 2) := by decide +kernel
theorem dX11_goesBest_99 : decode cX11_goesBest 99 = .ok (.lcmp, 1) := by decide +kernel
theorem dX11_goesBest_100 : decode cX11_goesBest 100 = .ok (.ifCond .le 8, 3) := by decide +kernel
theorem dX11_goesBest_103 : decode cX11_goesBest 103 = .ok (.lload 6, 2) := by decide +kernel
theorem dX11_goesBest_105 : decode cX11_goesBest 105 = .ok (.goto 5, 3) := by decide +kernel
theorem dX11_goesBest_108 : decode cX11_goesBest 108 = .ok (.lload 9, 2) := by decide +kernel
theorem dX11_goesBest_110 : decode cX11_goesBest 110 = .ok (.lreturn, 1) := by decide +kernel
theorem dX11_partOf_0 : decode cX11_partOf 0 = .ok (.lload_n 2, 1) := by decide +kernel
theorem dX11_partOf_1 : decode cX11_partOf 1 = .ok (.lstore 5, 2) := by decide +kernel
theorem dX11_partOf_3 : decode cX11_partOf 3 = .ok (.lload_n 0, 1) := by decide +kernel
theorem dX11_partOf_4 : decode cX11_partOf 4 = .ok (.lstore 7, 2) := by decide +kernel
theorem dX11_partOf_6 : decode cX11_partOf 6 = .ok (.lload 7, 2) := by decide +kernel
theorem dX11_partOf_8 : decode cX11_partOf 8 = .ok (.lconst 0, 1) := by decide +kernel
theorem dX11_partOf_9 : decode cX11_partOf 9 = .ok (.lcmp, 1) := by decide +kernel
theorem dX11_partOf_10 : decode cX11_partOf 10 = .ok (.ifCond .eq 21, 3) := by decide +kernel
theorem dX11_partOf_13 : decode cX11_partOf 13 = .ok (.lload 5, 2) := by decide +kernel
theorem dX11_partOf_15 : decode cX11_partOf 15 = .ok (.lload 7, 2) := by decide +kernel
theorem dX11_partOf_17 : decode cX11_partOf 17 = .ok (.lrem, 1) := by decide +kernel
theorem dX11_partOf_18 : decode cX11_partOf 18 = .ok (.lstore 9, 2) := by decide +kernel
theorem dX11_partOf_20 : decode cX11_partOf 20 = .ok (.lload 7, 2) := by decide +kernel
theorem dX11_partOf_22 : decode cX11_partOf 22 = .ok (.lstore 5, 2) := by decide +kernel
theorem dX11_partOf_24 : decode cX11_partOf 24 = .ok (.lload 9, 2) := by decide +kernel
theorem dX11_partOf_26 : decode cX11_partOf 26 = .ok (.lstore 7, 2) := by decide +kernel
theorem dX11_partOf_28 : decode cX11_partOf 28 = .ok (.goto (-22), 3) := by decide +kernel
theorem dX11_partOf_31 : decode cX11_partOf 31 = .ok (.iload 4, 2) := by decide +kernel
theorem dX11_partOf_33 : decode cX11_partOf 33 = .ok (.ifCond .ne 10, 3) := by decide +kernel
theorem dX11_partOf_36 : decode cX11_partOf 36 = .ok (.lload_n 0, 1) := by decide +kernel
theorem dX11_partOf_37 : decode cX11_partOf 37 = .ok (.lload 5, 2) := by decide +kernel
theorem dX11_partOf_39 : decode cX11_partOf 39 = .ok (.ldiv, 1) := by decide +kernel
theorem dX11_partOf_40 : decode cX11_partOf 40 = .ok (.goto 7, 3) := by decide +kernel
theorem dX11_partOf_43 : decode cX11_partOf 43 = .ok (.lload_n 2, 1) := by decide +kernel
theorem dX11_partOf_44 : decode cX11_partOf 44 = .ok (.lload 5, 2) := by decide +kernel
theorem dX11_partOf_46 : decode cX11_partOf 46 = .ok (.ldiv, 1) := by decide +kernel
theorem dX11_partOf_47 : decode cX11_partOf 47 = .ok (.lreturn, 1) := by decide +kernel
theorem dX11_best_0 : decode cX11_best 0 = .ok (.aload_n 0, 1) := by decide +kernel
theorem dX11_best_1 : decode cX11_best 1 = .ok (.iconst 0, 1) := by decide +kernel
theorem dX11_best_2 : decode cX11_best 2 = .ok (.putfield 103, 3) := by decide +kernel
theorem dX11_best_5 : decode cX11_best 5 = .ok (.aload_n 0, 1) := by decide +kernel
theorem dX11_best_6 : decode cX11_best 6 = .ok (.aload_n 0, 1) := by decide +kernel
theorem dX11_best_7 : decode cX11_best 7 = .ok (.iload_n 1, 1) := by decide +kernel
theorem dX11_best_8 : decode cX11_best 8 = .ok (.invokevirtual 339, 3) := by decide +kernel
theorem dX11_best_11 : decode cX11_best 11 = .ok (.ifCond .ne 7, 3) := by decide +kernel
theorem dX11_best_14 : decode cX11_best 14 = .ok (.iconst 1, 1) := by decide +kernel
theorem dX11_best_15 : decode cX11_best 15 = .ok (.goto 4, 3) := by decide +kernel
theorem dX11_best_18 : decode cX11_best 18 = .ok (.iconst 0, 1) := by decide +kernel
theorem dX11_best_19 : decode cX11_best 19 = .ok (.iconst 1, 1) := by decide +kernel
theorem dX11_best_20 : decode cX11_best 20 = .ok (.iconst 0, 1) := by decide +kernel
theorem dX11_best_21 : decode cX11_best 21 = .ok (.invokevirtual 183, 3) := by decide +kernel
theorem dX11_best_24 : decode cX11_best 24 = .ok (.ifCond .ne 36, 3) := by decide +kernel
theorem dX11_best_27 : decode cX11_best 27 = .ok (.aload_n 0, 1) := by decide +kernel
theorem dX11_best_28 : decode cX11_best 28 = .ok (.iload_n 2, 1) := by decide +kernel
theorem dX11_best_29 : decode cX11_best 29 = .ok (.iconst 0, 1) := by decide +kernel
theorem dX11_best_30 : decode cX11_best 30 = .ok (.bipush 6, 2) := by decide +kernel
theorem dX11_best_32 : decode cX11_best 32 = .ok (.invokestatic 137, 3) := by decide +kernel
theorem dX11_best_35 : decode cX11_best 35 = .ok (.ifCond .eq 12, 3) := by decide +kernel
theorem dX11_best_38 : decode cX11_best 38 = .ok (.iload_n 3, 1) := by decide +kernel
theorem dX11_best_39 : decode cX11_best 39 = .ok (.iconst 0, 1) := by decide +kernel
theorem dX11_best_40 : decode cX11_best 40 = .ok (.iconst 1, 1) := by decide +kernel
theorem dX11_best_41 : decode cX11_best 41 = .ok (.invokestatic 137, 3) := by decide +kernel
theorem dX11_best_44 : decode cX11_best 44 = .ok (.ifCond .ne 7, 3) := by decide +kernel
theorem dX11_best_47 : decode cX11_best 47 = .ok (.iconst 1, 1) := by decide +kernel
theorem dX11_best_48 : decode cX11_best 48 = .ok (.goto 4, 3) := by decide +kernel
theorem dX11_best_51 : decode cX11_best 51 = .ok (.iconst 0, 1) := by decide +kernel
theorem dX11_best_52 : decode cX11_best 52 = .ok (.iconst 2, 1) := by decide +kernel
theorem dX11_best_53 : decode cX11_best 53 = .ok (.iconst 1, 1) := by decide +kernel
theorem dX11_best_54 : decode cX11_best 54 = .ok (.invokevirtual 183, 3) := by decide +kernel
theorem dX11_best_57 : decode cX11_best 57 = .ok (.ifCond .eq 5, 3) := by decide +kernel
theorem dX11_best_60 : decode cX11_best 60 = .ok (.lconst 0, 1) := by decide +kernel
theorem dX11_best_61 : decode cX11_best 61 = .ok (.lreturn, 1) := by decide +kernel
theorem dX11_best_62 : decode cX11_best 62 = .ok (.aload_n 0, 1) := by decide +kernel
theorem dX11_best_63 : decode cX11_best 63 = .ok (.getfield 73, 3) := by decide +kernel
theorem dX11_best_66 : decode cX11_best 66 = .ok (.iload_n 1, 1) := by decide +kernel
theorem dX11_best_67 : decode cX11_best 67 = .ok (.invokestatic 267, 3) := by decide +kernel
theorem dX11_best_70 : decode cX11_best 70 = .ok (.ifCond .ne 6, 3) := by decide +kernel
theorem dX11_best_73 : decode cX11_best 73 = .ok (.iload_n 3, 1) := by decide +kernel
theorem dX11_best_74 : decode cX11_best 74 = .ok (.i2l, 1) := by decide +kernel
theorem dX11_best_75 : decode cX11_best 75 = .ok (.lreturn, 1) := by decide +kernel
theorem dX11_best_76 : decode cX11_best 76 = .ok (.aload_n 0, 1) := by decide +kernel
theorem dX11_best_77 : decode cX11_best 77 = .ok (.iload_n 1, 1) := by decide +kernel
theorem dX11_best_78 : decode cX11_best 78 = .ok (.iload_n 2, 1) := by decide +kernel
theorem dX11_best_79 : decode cX11_best 79 = .ok (.aload_n 0, 1) := by decide +kernel
theorem dX11_best_80 : decode cX11_best 80 = .ok (.getfield 73, 3) := by decide +kernel
theorem dX11_best_83 : decode cX11_best 83 = .ok (.bipush 16, 2) := by decide +kernel
theorem dX11_best_85 : decode cX11_best 85 = .ok (.iload_n 1, 1) := by decide +kernel
theorem dX11_best_86 : decode cX11_best 86 = .ok (.iadd, 1) := by decide +kernel
theorem dX11_best_87 : decode cX11_best 87 = .ok (.iaload, 1) := by decide +kernel
theorem dX11_best_88 : decode cX11_best 88 = .ok (.aload_n 0, 1) := by decide +kernel
theorem dX11_best_89 : decode cX11_best 89 = .ok (.getfield 73, 3) := by decide +kernel
theorem dX11_best_92 : decode cX11_best 92 = .ok (.bipush 8, 2) := by decide +kernel
theorem dX11_best_94 : decode cX11_best 94 = .ok (.aload_n 0, 1) := by decide +kernel
theorem dX11_best_95 : decode cX11_best 95 = .ok (.getfield 43, 3) := by decide +kernel
theorem dX11_best_98 : decode cX11_best 98 = .ok (.iload_n 1, 1) := by decide +kernel
theorem dX11_best_99 : decode cX11_best 99 = .ok (.aaload, 1) := by decide +kernel
theorem dX11_best_100 : decode cX11_best 100 = .ok (.iconst 0, 1) := by decide +kernel
theorem dX11_best_101 : decode cX11_best 101 = .ok (.iaload, 1) := by decide +kernel
theorem dX11_best_102 : decode cX11_best 102 = .ok (.iadd, 1) := by decide +kernel
theorem dX11_best_103 : decode cX11_best 103 = .ok (.iaload, 1) := by decide +kernel
theorem dX11_best_104 : decode cX11_best 104 = .ok (.aload_n 0, 1) := by decide +kernel
theorem dX11_best_105 : decode cX11_best 105 = .ok (.getfield 73, 3) := by decide +kernel
theorem dX11_best_108 : decode cX11_best 108 = .ok (.bipush 44, 2) := by decide +kernel
theorem dX11_best_110 : decode cX11_best 110 = .ok (.iaload, 1) := by decide +kernel
theorem dX11_best_111 : decode cX11_best 111 = .ok (.invokevirtual 365, 3) := by decide +kernel
theorem dX11_best_114 : decode cX11_best 114 = .ok (.lconst 1, 1) := by decide +kernel
theorem dX11_best_115 : decode cX11_best 115 = .ok (.iconst 4, 1) := by decide +kernel
theorem dX11_best_116 : decode cX11_best 116 = .ok (.iload_n 2, 1) := by decide +kernel
theorem dX11_best_117 : decode cX11_best 117 = .ok (.imul, 1) := by decide +kernel
theorem dX11_best_118 : decode cX11_best 118 = .ok (.lshl, 1) := by decide +kernel
theorem dX11_best_119 : decode cX11_best 119 = .ok (.iload_n 3, 1) := by decide +kernel
theorem dX11_best_120 : decode cX11_best 120 = .ok (.invokestatic 369, 3) := by decide +kernel
theorem dX11_best_123 : decode cX11_best 123 = .ok (.lreturn, 1) := by decide +kernel
theorem dX11_without_0 : decode cX11_without 0 = .ok (.aload_n 0, 1) := by decide +kernel
theorem dX11_without_1 : decode cX11_without 1 = .ok (.iconst 0, 1) := by decide +kernel
theorem dX11_without_2 : decode cX11_without 2 = .ok (.putfield 103, 3) := by decide +kernel
theorem dX11_without_5 : decode cX11_without 5 = .ok (.aload_n 0, 1) := by decide +kernel
theorem dX11_without_6 : decode cX11_without 6 = .ok (.aload_n 0, 1) := by decide +kernel
theorem dX11_without_7 : decode cX11_without 7 = .ok (.iload_n 1, 1) := by decide +kernel
theorem dX11_without_8 : decode cX11_without 8 = .ok (.invokevirtual 336, 3) := by decide +kernel
theorem dX11_without_11 : decode cX11_without 11 = .ok (.ifCond .ne 7, 3) := by decide +kernel
theorem dX11_without_14 : decode cX11_without 14 = .ok (.iconst 1, 1) := by decide +kernel
theorem dX11_without_15 : decode cX11_without 15 = .ok (.goto 4, 3) := by decide +kernel
theorem dX11_without_18 : decode cX11_without 18 = .ok (.iconst 0, 1) := by decide +kernel
theorem dX11_without_19 : decode cX11_without 19 = .ok (.iconst 1, 1) := by decide +kernel
theorem dX11_without_20 : decode cX11_without 20 = .ok (.iconst 0, 1) := by decide +kernel
theorem dX11_without_21 : decode cX11_without 21 = .ok (.invokevirtual 183, 3) := by decide +kernel
theorem dX11_without_24 : decode cX11_without 24 = .ok (.ifCond .ne 36, 3) := by decide +kernel
theorem dX11_without_27 : decode cX11_without 27 = .ok (.aload_n 0, 1) := by decide +kernel
theorem dX11_without_28 : decode cX11_without 28 = .ok (.iload_n 2, 1) := by decide +kernel
theorem dX11_without_29 : decode cX11_without 29 = .ok (.iconst 0, 1) := by decide +kernel
theorem dX11_without_30 : decode cX11_without 30 = .ok (.bipush 12, 2) := by decide +kernel
theorem dX11_without_32 : decode cX11_without 32 = .ok (.invokestatic 137, 3) := by decide +kernel
theorem dX11_without_35 : decode cX11_without 35 = .ok (.ifCond .eq 12, 3) := by decide +kernel
theorem dX11_without_38 : decode cX11_without 38 = .ok (.iload_n 3, 1) := by decide +kernel
theorem dX11_without_39 : decode cX11_without 39 = .ok (.iconst 0, 1) := by decide +kernel
theorem dX11_without_40 : decode cX11_without 40 = .ok (.iconst 1, 1) := by decide +kernel
theorem dX11_without_41 : decode cX11_without 41 = .ok (.invokestatic 137, 3) := by decide +kernel
theorem dX11_without_44 : decode cX11_without 44 = .ok (.ifCond .ne 7, 3) := by decide +kernel
theorem dX11_without_47 : decode cX11_without 47 = .ok (.iconst 1, 1) := by decide +kernel
theorem dX11_without_48 : decode cX11_without 48 = .ok (.goto 4, 3) := by decide +kernel
theorem dX11_without_51 : decode cX11_without 51 = .ok (.iconst 0, 1) := by decide +kernel
theorem dX11_without_52 : decode cX11_without 52 = .ok (.iconst 2, 1) := by decide +kernel
theorem dX11_without_53 : decode cX11_without 53 = .ok (.iconst 1, 1) := by decide +kernel
theorem dX11_without_54 : decode cX11_without 54 = .ok (.invokevirtual 183, 3) := by decide +kernel
theorem dX11_without_57 : decode cX11_without 57 = .ok (.ifCond .eq 5, 3) := by decide +kernel
theorem dX11_without_60 : decode cX11_without 60 = .ok (.lconst 0, 1) := by decide +kernel
theorem dX11_without_61 : decode cX11_without 61 = .ok (.lreturn, 1) := by decide +kernel
theorem dX11_without_62 : decode cX11_without 62 = .ok (.lconst 1, 1) := by decide +kernel
theorem dX11_without_63 : decode cX11_without 63 = .ok (.lstore 4, 2) := by decide +kernel
theorem dX11_without_65 : decode cX11_without 65 = .ok (.iconst 0, 1) := by decide +kernel
theorem dX11_without_66 : decode cX11_without 66 = .ok (.istore 6, 2) := by decide +kernel
theorem dX11_without_68 : decode cX11_without 68 = .ok (.iload 6, 2) := by decide +kernel
theorem dX11_without_70 : decode cX11_without 70 = .ok (.iload_n 2, 1) := by decide +kernel
theorem dX11_without_71 : decode cX11_without 71 = .ok (.if_icmp .ge 24, 3) := by decide +kernel
theorem dX11_without_74 : decode cX11_without 74 = .ok (.lload 4, 2) := by decide +kernel
theorem dX11_without_76 : decode cX11_without 76 = .ok (.bipush 16, 2) := by decide +kernel
theorem dX11_without_78 : decode cX11_without 78 = .ok (.aload_n 0, 1) := by decide +kernel
theorem dX11_without_79 : decode cX11_without 79 = .ok (.getfield 29, 3) := by decide +kernel
theorem dX11_without_82 : decode cX11_without 82 = .ok (.iload_n 1, 1) := by decide +kernel
theorem dX11_without_83 : decode cX11_without 83 = .ok (.iaload, 1) := by decide +kernel
theorem dX11_without_84 : decode cX11_without 84 = .ok (.isub, 1) := by decide +kernel
theorem dX11_without_85 : decode cX11_without 85 = .ok (.i2l, 1) := by decide +kernel
theorem dX11_without_86 : decode cX11_without 86 = .ok (.lmul, 1) := by decide +kernel
theorem dX11_without_87 : decode cX11_without 87 = .ok (.lstore 4, 2) := by decide +kernel
theorem dX11_without_89 : decode cX11_without 89 = .ok (.iinc 6 1, 3) := by decide +kernel
theorem dX11_without_92 : decode cX11_without 92 = .ok (.goto (-24), 3) := by decide +kernel
theorem dX11_without_95 : decode cX11_without 95 = .ok (.lload 4, 2) := by decide +kernel
theorem dX11_without_97 : decode cX11_without 97 = .ok (.lconst 1, 1) := by decide +kernel
theorem dX11_without_98 : decode cX11_without 98 = .ok (.iconst 4, 1) := by decide +kernel
theorem dX11_without_99 : decode cX11_without 99 = .ok (.iload_n 2, 1) := by decide +kernel
theorem dX11_without_100 : decode cX11_without 100 = .ok (.imul, 1) := by decide +kernel
theorem dX11_without_101 : decode cX11_without 101 = .ok (.lshl, 1) := by decide +kernel
theorem dX11_without_102 : decode cX11_without 102 = .ok (.iload_n 3, 1) := by decide +kernel
theorem dX11_without_103 : decode cX11_without 103 = .ok (.invokestatic 369, 3) := by decide +kernel
theorem dX11_without_106 : decode cX11_without 106 = .ok (.lreturn, 1) := by decide +kernel
theorem dX11_ringOf_0 : decode cX11_ringOf 0 = .ok (.iload_n 1, 1) := by decide +kernel
theorem dX11_ringOf_1 : decode cX11_ringOf 1 = .ok (.istore_n 2, 1) := by decide +kernel
theorem dX11_ringOf_2 : decode cX11_ringOf 2 = .ok (.iconst 1, 1) := by decide +kernel
theorem dX11_ringOf_3 : decode cX11_ringOf 3 = .ok (.istore_n 3, 1) := by decide +kernel
theorem dX11_ringOf_4 : decode cX11_ringOf 4 = .ok (.iload_n 3, 1) := by decide +kernel
theorem dX11_ringOf_5 : decode cX11_ringOf 5 = .ok (.bipush 8, 2) := by decide +kernel
theorem dX11_ringOf_7 : decode cX11_ringOf 7 = .ok (.if_icmp .gt 30, 3) := by decide +kernel
theorem dX11_ringOf_10 : decode cX11_ringOf 10 = .ok (.aload_n 0, 1) := by decide +kernel
theorem dX11_ringOf_11 : decode cX11_ringOf 11 = .ok (.getfield 35, 3) := by decide +kernel
theorem dX11_ringOf_14 : decode cX11_ringOf 14 = .ok (.iload_n 2, 1) := by decide +kernel
theorem dX11_ringOf_15 : decode cX11_ringOf 15 = .ok (.iaload, 1) := by decide +kernel
theorem dX11_ringOf_16 : decode cX11_ringOf 16 = .ok (.istore_n 2, 1) := by decide +kernel
theorem dX11_ringOf_17 : decode cX11_ringOf 17 = .ok (.iload_n 2, 1) := by decide +kernel
theorem dX11_ringOf_18 : decode cX11_ringOf 18 = .ok (.iconst (-1), 1) := by decide +kernel
theorem dX11_ringOf_19 : decode cX11_ringOf 19 = .ok (.if_icmp .ne 5, 3) := by decide +kernel
theorem dX11_ringOf_22 : decode cX11_ringOf 22 = .ok (.iconst (-1), 1) := by decide +kernel
theorem dX11_ringOf_23 : decode cX11_ringOf 23 = .ok (.ireturn, 1) := by decide +kernel
theorem dX11_ringOf_24 : decode cX11_ringOf 24 = .ok (.iload_n 2, 1) := by decide +kernel
theorem dX11_ringOf_25 : decode cX11_ringOf 25 = .ok (.iload_n 1, 1) := by decide +kernel
theorem dX11_ringOf_26 : decode cX11_ringOf 26 = .ok (.if_icmp .ne 5, 3) := by decide +kernel
theorem dX11_ringOf_29 : decode cX11_ringOf 29 = .ok (.iload_n 3, 1) := by decide +kernel
theorem dX11_ringOf_30 : decode cX11_ringOf 30 = .ok (.ireturn, 1) := by decide +kernel
theorem dX11_ringOf_31 : decode cX11_ringOf 31 = .ok (.iinc 3 1, 3) := by decide +kernel
theorem dX11_ringOf_34 : decode cX11_ringOf 34 = .ok (.goto (-30), 3) := by decide +kernel
theorem dX11_ringOf_37 : decode cX11_ringOf 37 = .ok (.iconst (-1), 1) := by decide +kernel
theorem dX11_ringOf_38 : decode cX11_ringOf 38 = .ok (.ireturn, 1) := by decide +kernel
theorem dX11_ring_0 : decode cX11_ring 0 = .ok (.aload_n 0, 1) := by decide +kernel
theorem dX11_ring_1 : decode cX11_ring 1 = .ok (.iconst 0, 1) := by decide +kernel
theorem dX11_ring_2 : decode cX11_ring 2 = .ok (.putfield 103, 3) := by decide +kernel
theorem dX11_ring_5 : decode cX11_ring 5 = .ok (.aload_n 0, 1) := by decide +kernel
theorem dX11_ring_6 : decode cX11_ring 6 = .ok (.aload_n 0, 1) := by decide +kernel
theorem dX11_ring_7 : decode cX11_ring 7 = .ok (.iload_n 1, 1) := by decide +kernel
theorem dX11_ring_8 : decode cX11_ring 8 = .ok (.invokevirtual 336, 3) := by decide +kernel
theorem dX11_ring_11 : decode cX11_ring 11 = .ok (.ifCond .ne 7, 3) := by decide +kernel
theorem dX11_ring_14 : decode cX11_ring 14 = .ok (.iconst 1, 1) := by decide +kernel
theorem dX11_ring_15 : decode cX11_ring 15 = .ok (.goto 4, 3) := by decide +kernel
theorem dX11_ring_18 : decode cX11_ring 18 = .ok (.iconst 0, 1) := by decide +kernel
theorem dX11_ring_19 : decode cX11_ring 19 = .ok (.iconst 1, 1) := by decide +kernel
theorem dX11_ring_20 : decode cX11_ring 20 = .ok (.iconst 0, 1) := by decide +kernel
theorem dX11_ring_21 : decode cX11_ring 21 = .ok (.invokevirtual 183, 3) := by decide +kernel
theorem dX11_ring_24 : decode cX11_ring 24 = .ok (.ifCond .eq 5, 3) := by decide +kernel
theorem dX11_ring_27 : decode cX11_ring 27 = .ok (.iconst 0, 1) := by decide +kernel
theorem dX11_ring_28 : decode cX11_ring 28 = .ok (.ireturn, 1) := by decide +kernel
theorem dX11_ring_29 : decode cX11_ring 29 = .ok (.aload_n 0, 1) := by decide +kernel
theorem dX11_ring_30 : decode cX11_ring 30 = .ok (.iload_n 1, 1) := by decide +kernel
theorem dX11_ring_31 : decode cX11_ring 31 = .ok (.invokevirtual 373, 3) := by decide +kernel
theorem dX11_ring_34 : decode cX11_ring 34 = .ok (.ireturn, 1) := by decide +kernel
theorem dX11_follows_0 : decode cX11_follows 0 = .ok (.aload_n 0, 1) := by decide +kernel
theorem dX11_follows_1 : decode cX11_follows 1 = .ok (.iconst 0, 1) := by decide +kernel
theorem dX11_follows_2 : decode cX11_follows 2 = .ok (.putfield 103, 3) := by decide +kernel
theorem dX11_follows_5 : decode cX11_follows 5 = .ok (.aload_n 0, 1) := by decide +kernel
theorem dX11_follows_6 : decode cX11_follows 6 = .ok (.aload_n 0, 1) := by decide +kernel
theorem dX11_follows_7 : decode cX11_follows 7 = .ok (.iload_n 1, 1) := by decide +kernel
theorem dX11_follows_8 : decode cX11_follows 8 = .ok (.invokevirtual 336, 3) := by decide +kernel
theorem dX11_follows_11 : decode cX11_follows 11 = .ok (.ifCond .ne 7, 3) := by decide +kernel
theorem dX11_follows_14 : decode cX11_follows 14 = .ok (.iconst 1, 1) := by decide +kernel
theorem dX11_follows_15 : decode cX11_follows 15 = .ok (.goto 4, 3) := by decide +kernel
theorem dX11_follows_18 : decode cX11_follows 18 = .ok (.iconst 0, 1) := by decide +kernel
theorem dX11_follows_19 : decode cX11_follows 19 = .ok (.iconst 1, 1) := by decide +kernel
theorem dX11_follows_20 : decode cX11_follows 20 = .ok (.iconst 0, 1) := by decide +kernel
theorem dX11_follows_21 : decode cX11_follows 21 = .ok (.invokevirtual 183, 3) := by decide +kernel
theorem dX11_follows_24 : decode cX11_follows 24 = .ok (.ifCond .ne 28, 3) := by decide +kernel
theorem dX11_follows_27 : decode cX11_follows 27 = .ok (.aload_n 0, 1) := by decide +kernel
theorem dX11_follows_28 : decode cX11_follows 28 = .ok (.iload_n 2, 1) := by decide +kernel
theorem dX11_follows_29 : decode cX11_follows 29 = .ok (.iconst 0, 1) := by decide +kernel
theorem dX11_follows_30 : decode cX11_follows 30 = .ok (.ldc_w 376, 3) := by decide +kernel
theorem dX11_follows_33 : decode cX11_follows 33 = .ok (.invokestatic 137, 3) := by decide +kernel
theorem dX11_follows_36 : decode cX11_follows 36 = .ok (.ifCond .ne 7, 3) := by decide +kernel
theorem dX11_follows_39 : decode cX11_follows 39 = .ok (.iconst 1, 1) := by decide +kernel
theorem dX11_follows_40 : decode cX11_follows 40 = .ok (.goto 4, 3) := by decide +kernel
theorem dX11_follows_43 : decode cX11_follows 43 = .ok (.iconst 0, 1) := by decide +kernel
theorem dX11_follows_44 : decode cX11_follows 44 = .ok (.iconst 2, 1) := by decide +kernel
theorem dX11_follows_45 : decode cX11_follows 45 = .ok (.iconst 1, 1) := by decide +kernel
theorem dX11_follows_46 : decode cX11_follows 46 = .ok (.invokevirtual 183, 3) := by decide +kernel
theorem dX11_follows_49 : decode cX11_follows 49 = .ok (.ifCond .eq 5, 3) := by decide +kernel
theorem dX11_follows_52 : decode cX11_follows 52 = .ok (.iconst 0, 1) := by decide +kernel
theorem dX11_follows_53 : decode cX11_follows 53 = .ok (.ireturn, 1) := by decide +kernel
theorem dX11_follows_54 : decode cX11_follows 54 = .ok (.iload_n 1, 1) := by decide +kernel
theorem dX11_follows_55 : decode cX11_follows 55 = .ok (.istore_n 3, 1) := by decide +kernel
theorem dX11_follows_56 : decode cX11_follows 56 = .ok (.iload_n 2, 1) := by decide +kernel
theorem dX11_follows_57 : decode cX11_follows 57 = .ok (.istore 4, 2) := by decide +kernel
theorem dX11_follows_59 : decode cX11_follows 59 = .ok (.iload 4, 2) := by decide +kernel
theorem dX11_follows_61 : decode cX11_follows 61 = .ok (.ifCond .le 53, 3) := by decide +kernel
theorem dX11_follows_64 : decode cX11_follows 64 = .ok (.iload_n 3, 1) := by decide +kernel
theorem dX11_follows_65 : decode cX11_follows 65 = .ok (.iconst (-1), 1) := by decide +kernel
theorem dX11_follows_66 : decode cX11_follows 66 = .ok (.if_icmp .eq 48, 3) := by decide +kernel
theorem dX11_follows_69 : decode cX11_follows 69 = .ok (.aload_n 0, 1) := by decide +kernel
theorem dX11_follows_70 : decode cX11_follows 70 = .ok (.iload_n 3, 1) := by decide +kernel
theorem dX11_follows_71 : decode cX11_follows 71 = .ok (.invokevirtual 373, 3) := by decide +kernel
theorem dX11_follows_74 : decode cX11_follows 74 = .ok (.istore 5, 2) := by decide +kernel
theorem dX11_follows_76 : decode cX11_follows 76 = .ok (.iload 5, 2) := by decide +kernel
theorem dX11_follows_78 : decode cX11_follows 78 = .ok (.iconst (-1), 1) := by decide +kernel
theorem dX11_follows_79 : decode cX11_follows 79 = .ok (.if_icmp .ne 8, 3) := by decide +kernel
theorem dX11_follows_82 : decode cX11_follows 82 = .ok (.iload 4, 2) := by decide +kernel
theorem dX11_follows_84 : decode cX11_follows 84 = .ok (.goto 8, 3) := by decide +kernel
theorem dX11_follows_87 : decode cX11_follows 87 = .ok (.iload 4, 2) := by decide +kernel
theorem dX11_follows_89 : decode cX11_follows 89 = .ok (.iload 5, 2) := by decide +kernel
theorem dX11_follows_91 : decode cX11_follows 91 = .ok (.irem, 1) := by decide +kernel
theorem dX11_follows_92 : decode cX11_follows 92 = .ok (.istore 4, 2) := by decide +kernel
theorem dX11_follows_94 : decode cX11_follows 94 = .ok (.iload 4, 2) := by decide +kernel
theorem dX11_follows_96 : decode cX11_follows 96 = .ok (.ifCond .ne 5, 3) := by decide +kernel
theorem dX11_follows_99 : decode cX11_follows 99 = .ok (.iload_n 3, 1) := by decide +kernel
theorem dX11_follows_100 : decode cX11_follows 100 = .ok (.ireturn, 1) := by decide +kernel
theorem dX11_follows_101 : decode cX11_follows 101 = .ok (.aload_n 0, 1) := by decide +kernel
theorem dX11_follows_102 : decode cX11_follows 102 = .ok (.getfield 35, 3) := by decide +kernel
theorem dX11_follows_105 : decode cX11_follows 105 = .ok (.iload_n 3, 1) := by decide +kernel
theorem dX11_follows_106 : decode cX11_follows 106 = .ok (.iaload, 1) := by decide +kernel
theorem dX11_follows_107 : decode cX11_follows 107 = .ok (.istore_n 3, 1) := by decide +kernel
theorem dX11_follows_108 : decode cX11_follows 108 = .ok (.iinc 4 (-1), 3) := by decide +kernel
theorem dX11_follows_111 : decode cX11_follows 111 = .ok (.goto (-52), 3) := by decide +kernel
theorem dX11_follows_114 : decode cX11_follows 114 = .ok (.iload_n 3, 1) := by decide +kernel
theorem dX11_follows_115 : decode cX11_follows 115 = .ok (.ireturn, 1) := by decide +kernel
theorem dX11_hasBy_0 : decode cX11_hasBy 0 = .ok (.iload_n 0, 1) := by decide +kernel
theorem dX11_hasBy_1 : decode cX11_hasBy 1 = .ok (.ifCond .ne 15, 3) := by decide +kernel
theorem dX11_hasBy_4 : decode cX11_hasBy 4 = .ok (.iload_n 1, 1) := by decide +kernel
theorem dX11_hasBy_5 : decode cX11_hasBy 5 = .ok (.ifCond .ne 7, 3) := by decide +kernel
theorem dX11_hasBy_8 : decode cX11_hasBy 8 = .ok (.iload_n 2, 1) := by decide +kernel
theorem dX11_hasBy_9 : decode cX11_hasBy 9 = .ok (.goto 16, 3) := by decide +kernel
theorem dX11_hasBy_12 : decode cX11_hasBy 12 = .ok (.iconst (-1), 1) := by decide +kernel
theorem dX11_hasBy_13 : decode cX11_hasBy 13 = .ok (.goto 12, 3) := by decide +kernel
theorem dX11_hasBy_16 : decode cX11_hasBy 16 = .ok (.iload_n 1, 1) := by decide +kernel
theorem dX11_hasBy_17 : decode cX11_hasBy 17 = .ok (.ifCond .ne 7, 3) := by decide +kernel
theorem dX11_hasBy_20 : decode cX11_hasBy 20 = .ok (.iload_n 3, 1) := by decide +kernel
theorem dX11_hasBy_21 : decode cX11_hasBy 21 = .ok (.goto 4, 3) := by decide +kernel
theorem dX11_hasBy_24 : decode cX11_hasBy 24 = .ok (.iconst 0, 1) := by decide +kernel
theorem dX11_hasBy_25 : decode cX11_hasBy 25 = .ok (.ireturn, 1) := by decide +kernel
theorem dX11_isBest_0 : decode cX11_isBest 0 = .ok (.iload_n 0, 1) := by decide +kernel
theorem dX11_isBest_1 : decode cX11_isBest 1 = .ok (.iload_n 1, 1) := by decide +kernel
theorem dX11_isBest_2 : decode cX11_isBest 2 = .ok (.iload_n 2, 1) := by decide +kernel
theorem dX11_isBest_3 : decode cX11_isBest 3 = .ok (.iload_n 3, 1) := by decide +kernel
theorem dX11_isBest_4 : decode cX11_isBest 4 = .ok (.invokestatic 377, 3) := by decide +kernel
theorem dX11_isBest_7 : decode cX11_isBest 7 = .ok (.iconst 1, 1) := by decide +kernel
theorem dX11_isBest_8 : decode cX11_isBest 8 = .ok (.iload_n 0, 1) := by decide +kernel
theorem dX11_isBest_9 : decode cX11_isBest 9 = .ok (.isub, 1) := by decide +kernel
theorem dX11_isBest_10 : decode cX11_isBest 10 = .ok (.iload_n 1, 1) := by decide +kernel
theorem dX11_isBest_11 : decode cX11_isBest 11 = .ok (.iload_n 2, 1) := by decide +kernel
theorem dX11_isBest_12 : decode cX11_isBest 12 = .ok (.iload_n 3, 1) := by decide +kernel
theorem dX11_isBest_13 : decode cX11_isBest 13 = .ok (.invokestatic 377, 3) := by decide +kernel
theorem dX11_isBest_16 : decode cX11_isBest 16 = .ok (.if_icmp .lt 7, 3) := by decide +kernel
theorem dX11_isBest_19 : decode cX11_isBest 19 = .ok (.iconst 1, 1) := by decide +kernel
theorem dX11_isBest_20 : decode cX11_isBest 20 = .ok (.goto 4, 3) := by decide +kernel
theorem dX11_isBest_23 : decode cX11_isBest 23 = .ok (.iconst 0, 1) := by decide +kernel
theorem dX11_isBest_24 : decode cX11_isBest 24 = .ok (.ireturn, 1) := by decide +kernel
theorem dX11_tempted_0 : decode cX11_tempted 0 = .ok (.aload_n 0, 1) := by decide +kernel
theorem dX11_tempted_1 : decode cX11_tempted 1 = .ok (.iconst 0, 1) := by decide +kernel
theorem dX11_tempted_2 : decode cX11_tempted 2 = .ok (.putfield 103, 3) := by decide +kernel
theorem dX11_tempted_5 : decode cX11_tempted 5 = .ok (.aload_n 0, 1) := by decide +kernel
theorem dX11_tempted_6 : decode cX11_tempted 6 = .ok (.iload_n 1, 1) := by decide +kernel
theorem dX11_tempted_7 : decode cX11_tempted 7 = .ok (.iconst 0, 1) := by decide +kernel
theorem dX11_tempted_8 : decode cX11_tempted 8 = .ok (.bipush 99, 2) := by decide +kernel
theorem dX11_tempted_10 : decode cX11_tempted 10 = .ok (.invokestatic 137, 3) := by decide +kernel
theorem dX11_tempted_13 : decode cX11_tempted 13 = .ok (.ifCond .eq 22, 3) := by decide +kernel
theorem dX11_tempted_16 : decode cX11_tempted 16 = .ok (.iload_n 2, 1) := by decide +kernel
theorem dX11_tempted_17 : decode cX11_tempted 17 = .ok (.iconst 0, 1) := by decide +kernel
theorem dX11_tempted_18 : decode cX11_tempted 18 = .ok (.bipush 99, 2) := by decide +kernel
theorem dX11_tempted_20 : decode cX11_tempted 20 = .ok (.invokestatic 137, 3) := by decide +kernel
theorem dX11_tempted_23 : decode cX11_tempted 23 = .ok (.ifCond .eq 12, 3) := by decide +kernel
theorem dX11_tempted_26 : decode cX11_tempted 26 = .ok (.iload_n 3, 1) := by decide +kernel
theorem dX11_tempted_27 : decode cX11_tempted 27 = .ok (.iconst 0, 1) := by decide +kernel
theorem dX11_tempted_28 : decode cX11_tempted 28 = .ok (.iconst 2, 1) := by decide +kernel
theorem dX11_tempted_29 : decode cX11_tempted 29 = .ok (.invokestatic 137, 3) := by decide +kernel
theorem dX11_tempted_32 : decode cX11_tempted 32 = .ok (.ifCond .ne 7, 3) := by decide +kernel
theorem dX11_tempted_35 : decode cX11_tempted 35 = .ok (.iconst 1, 1) := by decide +kernel
theorem dX11_tempted_36 : decode cX11_tempted 36 = .ok (.goto 4, 3) := by decide +kernel
theorem dX11_tempted_39 : decode cX11_tempted 39 = .ok (.iconst 0, 1) := by decide +kernel
theorem dX11_tempted_40 : decode cX11_tempted 40 = .ok (.iconst 1, 1) := by decide +kernel
theorem dX11_tempted_41 : decode cX11_tempted 41 = .ok (.iconst 1, 1) := by decide +kernel
theorem dX11_tempted_42 : decode cX11_tempted 42 = .ok (.invokevirtual 183, 3) := by decide +kernel
theorem dX11_tempted_45 : decode cX11_tempted 45 = .ok (.ifCond .eq 5, 3) := by decide +kernel
theorem dX11_tempted_48 : decode cX11_tempted 48 = .ok (.iconst 0, 1) := by decide +kernel
theorem dX11_tempted_49 : decode cX11_tempted 49 = .ok (.ireturn, 1) := by decide +kernel
theorem dX11_tempted_50 : decode cX11_tempted 50 = .ok (.iconst 0, 1) := by decide +kernel
theorem dX11_tempted_51 : decode cX11_tempted 51 = .ok (.istore 4, 2) := by decide +kernel
theorem dX11_tempted_53 : decode cX11_tempted 53 = .ok (.iconst (-1), 1) := by decide +kernel
theorem dX11_tempted_54 : decode cX11_tempted 54 = .ok (.istore 5, 2) := by decide +kernel
theorem dX11_tempted_56 : decode cX11_tempted 56 = .ok (.iconst 0, 1) := by decide +kernel
theorem dX11_tempted_57 : decode cX11_tempted 57 = .ok (.istore 6, 2) := by decide +kernel
theorem dX11_tempted_59 : decode cX11_tempted 59 = .ok (.iconst 0, 1) := by decide +kernel
theorem dX11_tempted_60 : decode cX11_tempted 60 = .ok (.istore 7, 2) := by decide +kernel
theorem dX11_tempted_62 : decode cX11_tempted 62 = .ok (.iload 7, 2) := by decide +kernel
theorem dX11_tempted_64 : decode cX11_tempted 64 = .ok (.iconst 2, 1) := by decide +kernel
theorem dX11_tempted_65 : decode cX11_tempted 65 = .ok (.if_icmp .ge 105, 3) := by decide +kernel
theorem dX11_tempted_68 : decode cX11_tempted 68 = .ok (.iconst 0, 1) := by decide +kernel
theorem dX11_tempted_69 : decode cX11_tempted 69 = .ok (.istore 8, 2) := by decide +kernel
theorem dX11_tempted_71 : decode cX11_tempted 71 = .ok (.iload 8, 2) := by decide +kernel
theorem dX11_tempted_73 : decode cX11_tempted 73 = .ok (.iconst 2, 1) := by decide +kernel
theorem dX11_tempted_74 : decode cX11_tempted 74 = .ok (.if_icmp .ge 90, 3) := by decide +kernel
theorem dX11_tempted_77 : decode cX11_tempted 77 = .ok (.iload 7, 2) := by decide +kernel
theorem dX11_tempted_79 : decode cX11_tempted 79 = .ok (.iload 8, 2) := by decide +kernel
theorem dX11_tempted_81 : decode cX11_tempted 81 = .ok (.iload_n 1, 1) := by decide +kernel
theorem dX11_tempted_82 : decode cX11_tempted 82 = .ok (.iload_n 2, 1) := by decide +kernel
theorem dX11_tempted_83 : decode cX11_tempted 83 = .ok (.invokestatic 381, 3) := by decide +kernel
theorem dX11_tempted_86 : decode cX11_tempted 86 = .ok (.ifCond .eq 72, 3) := by decide +kernel
theorem dX11_tempted_89 : decode cX11_tempted 89 = .ok (.iload 8, 2) := by decide +kernel
theorem dX11_tempted_91 : decode cX11_tempted 91 = .ok (.iload 7, 2) := by decide +kernel
theorem dX11_tempted_93 : decode cX11_tempted 93 = .ok (.iload_n 1, 1) := by decide +kernel
theorem dX11_tempted_94 : decode cX11_tempted 94 = .ok (.iload_n 2, 1) := by decide +kernel
theorem dX11_tempted_95 : decode cX11_tempted 95 = .ok (.invokestatic 381, 3) := by decide +kernel
theorem dX11_tempted_98 : decode cX11_tempted 98 = .ok (.ifCond .ne 6, 3) := by decide +kernel
theorem dX11_tempted_101 : decode cX11_tempted 101 = .ok (.goto 57, 3) := by decide +kernel
theorem dX11_tempted_104 : decode cX11_tempted 104 = .ok (.iload 4, 2) := by decide +kernel
theorem dX11_tempted_106 : decode cX11_tempted 106 = .ok (.ifCond .ne 25, 3) := by decide +kernel
theorem dX11_tempted_109 : decode cX11_tempted 109 = .ok (.iload 7, 2) := by decide +kernel
theorem dX11_tempted_111 : decode cX11_tempted 111 = .ok (.iload 8, 2) := by decide +kernel
theorem dX11_tempted_113 : decode cX11_tempted 113 = .ok (.iload_n 1, 1) := by decide +kernel
theorem dX11_tempted_114 : decode cX11_tempted 114 = .ok (.iload_n 2, 1) := by decide +kernel
theorem dX11_tempted_115 : decode cX11_tempted 115 = .ok (.invokestatic 377, 3) := by decide +kernel
theorem dX11_tempted_118 : decode cX11_tempted 118 = .ok (.iload 8, 2) := by decide +kernel
theorem dX11_tempted_120 : decode cX11_tempted 120 = .ok (.iload 7, 2) := by decide +kernel
theorem dX11_tempted_122 : decode cX11_tempted 122 = .ok (.iload_n 1, 1) := by decide +kernel
theorem dX11_tempted_123 : decode cX11_tempted 123 = .ok (.iload_n 2, 1) := by decide +kernel
theorem dX11_tempted_124 : decode cX11_tempted 124 = .ok (.invokestatic 377, 3) := by decide +kernel
theorem dX11_tempted_127 : decode cX11_tempted 127 = .ok (.iadd, 1) := by decide +kernel
theorem dX11_tempted_128 : decode cX11_tempted 128 = .ok (.goto 5, 3) := by decide +kernel
theorem dX11_tempted_131 : decode cX11_tempted 131 = .ok (.iload 6, 2) := by decide +kernel
theorem dX11_tempted_133 : decode cX11_tempted 133 = .ok (.istore 6, 2) := by decide +kernel
theorem dX11_tempted_135 : decode cX11_tempted 135 = .ok (.iload 4, 2) := by decide +kernel
theorem dX11_tempted_137 : decode cX11_tempted 137 = .ok (.ifCond .ne 14, 3) := by decide +kernel
theorem dX11_tempted_140 : decode cX11_tempted 140 = .ok (.bipush 10, 2) := by decide +kernel
theorem dX11_tempted_142 : decode cX11_tempted 142 = .ok (.iload 7, 2) := by decide +kernel
theorem dX11_tempted_144 : decode cX11_tempted 144 = .ok (.imul, 1) := by decide +kernel
theorem dX11_tempted_145 : decode cX11_tempted 145 = .ok (.iload 8, 2) := by decide +kernel
theorem dX11_tempted_147 : decode cX11_tempted 147 = .ok (.iadd, 1) := by decide +kernel
theorem dX11_tempted_148 : decode cX11_tempted 148 = .ok (.goto 5, 3) := by decide +kernel
theorem dX11_tempted_151 : decode cX11_tempted 151 = .ok (.iload 5, 2) := by decide +kernel
theorem dX11_tempted_153 : decode cX11_tempted 153 = .ok (.istore 5, 2) := by decide +kernel
theorem dX11_tempted_155 : decode cX11_tempted 155 = .ok (.iinc 4 1, 3) := by decide +kernel
theorem dX11_tempted_158 : decode cX11_tempted 158 = .ok (.iinc 8 1, 3) := by decide +kernel
theorem dX11_tempted_161 : decode cX11_tempted 161 = .ok (.goto (-90), 3) := by decide +kernel
theorem dX11_tempted_164 : decode cX11_tempted 164 = .ok (.iinc 7 1, 3) := by decide +kernel
theorem dX11_tempted_167 : decode cX11_tempted 167 = .ok (.goto (-105), 3) := by decide +kernel
theorem dX11_tempted_170 : decode cX11_tempted 170 = .ok (.iload_n 3, 1) := by decide +kernel
theorem dX11_tempted_171 : decode cX11_tempted 171 = .ok (.ifCond .ne 8, 3) := by decide +kernel
theorem dX11_tempted_174 : decode cX11_tempted 174 = .ok (.iload 4, 2) := by decide +kernel
theorem dX11_tempted_176 : decode cX11_tempted 176 = .ok (.goto 15, 3) := by decide +kernel
theorem dX11_tempted_179 : decode cX11_tempted 179 = .ok (.iload_n 3, 1) := by decide +kernel
theorem dX11_tempted_180 : decode cX11_tempted 180 = .ok (.iconst 1, 1) := by decide +kernel
theorem dX11_tempted_181 : decode cX11_tempted 181 = .ok (.if_icmp .ne 8, 3) := by decide +kernel
theorem dX11_tempted_184 : decode cX11_tempted 184 = .ok (.iload 5, 2) := by decide +kernel
theorem dX11_tempted_186 : decode cX11_tempted 186 = .ok (.goto 5, 3) := by decide +kernel
theorem dX11_tempted_189 : decode cX11_tempted 189 = .ok (.iload 6, 2) := by decide +kernel
theorem dX11_tempted_191 : decode cX11_tempted 191 = .ok (.ireturn, 1) := by decide +kernel
theorem dX11_givenBy_0 : decode cX11_givenBy 0 = .ok (.iconst 0, 1) := by decide +kernel
theorem dX11_givenBy_1 : decode cX11_givenBy 1 = .ok (.istore_n 3, 1) := by decide +kernel
theorem dX11_givenBy_2 : decode cX11_givenBy 2 = .ok (.iconst 0, 1) := by decide +kernel
theorem dX11_givenBy_3 : decode cX11_givenBy 3 = .ok (.istore 4, 2) := by decide +kernel
theorem dX11_givenBy_5 : decode cX11_givenBy 5 = .ok (.iload 4, 2) := by decide +kernel
theorem dX11_givenBy_7 : decode cX11_givenBy 7 = .ok (.aload_n 0, 1) := by decide +kernel
theorem dX11_givenBy_8 : decode cX11_givenBy 8 = .ok (.getfield 23, 3) := by decide +kernel
theorem dX11_givenBy_11 : decode cX11_givenBy 11 = .ok (.iconst 2, 1) := by decide +kernel
theorem dX11_givenBy_12 : decode cX11_givenBy 12 = .ok (.iaload, 1) := by decide +kernel
theorem dX11_givenBy_13 : decode cX11_givenBy 13 = .ok (.if_icmp .ge 38, 3) := by decide +kernel
theorem dX11_givenBy_16 : decode cX11_givenBy 16 = .ok (.iload_n 3, 1) := by decide +kernel
theorem dX11_givenBy_17 : decode cX11_givenBy 17 = .ok (.iload_n 1, 1) := by decide +kernel
theorem dX11_givenBy_18 : decode cX11_givenBy 18 = .ok (.iload 4, 2) := by decide +kernel
theorem dX11_givenBy_20 : decode cX11_givenBy 20 = .ok (.invokestatic 263, 3) := by decide +kernel
theorem dX11_givenBy_23 : decode cX11_givenBy 23 = .ok (.ifCond .eq 19, 3) := by decide +kernel
theorem dX11_givenBy_26 : decode cX11_givenBy 26 = .ok (.iload_n 2, 1) := by decide +kernel
theorem dX11_givenBy_27 : decode cX11_givenBy 27 = .ok (.aload_n 0, 1) := by decide +kernel
theorem dX11_givenBy_28 : decode cX11_givenBy 28 = .ok (.getfield 49, 3) := by decide +kernel
theorem dX11_givenBy_31 : decode cX11_givenBy 31 = .ok (.iload 4, 2) := by decide +kernel
theorem dX11_givenBy_33 : decode cX11_givenBy 33 = .ok (.aaload, 1) := by decide +kernel
theorem dX11_givenBy_34 : decode cX11_givenBy 34 = .ok (.iconst 1, 1) := by decide +kernel
theorem dX11_givenBy_35 : decode cX11_givenBy 35 = .ok (.iaload, 1) := by decide +kernel
theorem dX11_givenBy_36 : decode cX11_givenBy 36 = .ok (.invokestatic 245, 3) := by decide +kernel
theorem dX11_givenBy_39 : decode cX11_givenBy 39 = .ok (.goto 4, 3) := by decide +kernel
theorem dX11_givenBy_42 : decode cX11_givenBy 42 = .ok (.iconst 0, 1) := by decide +kernel
theorem dX11_givenBy_43 : decode cX11_givenBy 43 = .ok (.iadd, 1) := by decide +kernel
theorem dX11_givenBy_44 : decode cX11_givenBy 44 = .ok (.istore_n 3, 1) := by decide +kernel
theorem dX11_givenBy_45 : decode cX11_givenBy 45 = .ok (.iinc 4 1, 3) := by decide +kernel
theorem dX11_givenBy_48 : decode cX11_givenBy 48 = .ok (.goto (-43), 3) := by decide +kernel
theorem dX11_givenBy_51 : decode cX11_givenBy 51 = .ok (.iload_n 3, 1) := by decide +kernel
theorem dX11_givenBy_52 : decode cX11_givenBy 52 = .ok (.ireturn, 1) := by decide +kernel
theorem dX11_alms_0 : decode cX11_alms 0 = .ok (.aload_n 0, 1) := by decide +kernel
theorem dX11_alms_1 : decode cX11_alms 1 = .ok (.iconst 0, 1) := by decide +kernel
theorem dX11_alms_2 : decode cX11_alms 2 = .ok (.putfield 103, 3) := by decide +kernel
theorem dX11_alms_5 : decode cX11_alms 5 = .ok (.aload_n 0, 1) := by decide +kernel
theorem dX11_alms_6 : decode cX11_alms 6 = .ok (.aload_n 0, 1) := by decide +kernel
theorem dX11_alms_7 : decode cX11_alms 7 = .ok (.iload_n 1, 1) := by decide +kernel
theorem dX11_alms_8 : decode cX11_alms 8 = .ok (.invokevirtual 342, 3) := by decide +kernel
theorem dX11_alms_11 : decode cX11_alms 11 = .ok (.ifCond .ne 7, 3) := by decide +kernel
theorem dX11_alms_14 : decode cX11_alms 14 = .ok (.iconst 1, 1) := by decide +kernel
theorem dX11_alms_15 : decode cX11_alms 15 = .ok (.goto 4, 3) := by decide +kernel
theorem dX11_alms_18 : decode cX11_alms 18 = .ok (.iconst 0, 1) := by decide +kernel
theorem dX11_alms_19 : decode cX11_alms 19 = .ok (.iconst 1, 1) := by decide +kernel
theorem dX11_alms_20 : decode cX11_alms 20 = .ok (.iconst 0, 1) := by decide +kernel
theorem dX11_alms_21 : decode cX11_alms 21 = .ok (.invokevirtual 183, 3) := by decide +kernel
theorem dX11_alms_24 : decode cX11_alms 24 = .ok (.ifCond .ne 46, 3) := by decide +kernel
theorem dX11_alms_27 : decode cX11_alms 27 = .ok (.aload_n 0, 1) := by decide +kernel
theorem dX11_alms_28 : decode cX11_alms 28 = .ok (.iload_n 2, 1) := by decide +kernel
theorem dX11_alms_29 : decode cX11_alms 29 = .ok (.iconst 0, 1) := by decide +kernel
theorem dX11_alms_30 : decode cX11_alms 30 = .ok (.iconst 1, 1) := by decide +kernel
theorem dX11_alms_31 : decode cX11_alms 31 = .ok (.aload_n 0, 1) := by decide +kernel
theorem dX11_alms_32 : decode cX11_alms 32 = .ok (.getfield 23, 3) := by decide +kernel
theorem dX11_alms_35 : decode cX11_alms 35 = .ok (.iconst 2, 1) := by decide +kernel
theorem dX11_alms_36 : decode cX11_alms 36 = .ok (.iaload, 1) := by decide +kernel
theorem dX11_alms_37 : decode cX11_alms 37 = .ok (.ishl, 1) := by decide +kernel
theorem dX11_alms_38 : decode cX11_alms 38 = .ok (.iconst 1, 1) := by decide +kernel
theorem dX11_alms_39 : decode cX11_alms 39 = .ok (.isub, 1) := by decide +kernel
theorem dX11_alms_40 : decode cX11_alms 40 = .ok (.invokestatic 137, 3) := by decide +kernel
theorem dX11_alms_43 : decode cX11_alms 43 = .ok (.ifCond .eq 14, 3) := by decide +kernel
theorem dX11_alms_46 : decode cX11_alms 46 = .ok (.iload_n 3, 1) := by decide +kernel
theorem dX11_alms_47 : decode cX11_alms 47 = .ok (.iconst 0, 1) := by decide +kernel
theorem dX11_alms_48 : decode cX11_alms 48 = .ok (.sipush 999, 3) := by decide +kernel
theorem dX11_alms_51 : decode cX11_alms 51 = .ok (.invokestatic 137, 3) := by decide +kernel
theorem dX11_alms_54 : decode cX11_alms 54 = .ok (.ifCond .ne 7, 3) := by decide +kernel
theorem dX11_alms_57 : decode cX11_alms 57 = .ok (.iconst 1, 1) := by decide +kernel
theorem dX11_alms_58 : decode cX11_alms 58 = .ok (.goto 4, 3) := by decide +kernel
theorem dX11_alms_61 : decode cX11_alms 61 = .ok (.iconst 0, 1) := by decide +kernel
theorem dX11_alms_62 : decode cX11_alms 62 = .ok (.iconst 2, 1) := by decide +kernel
theorem dX11_alms_63 : decode cX11_alms 63 = .ok (.iconst 1, 1) := by decide +kernel
theorem dX11_alms_64 : decode cX11_alms 64 = .ok (.invokevirtual 183, 3) := by decide +kernel
theorem dX11_alms_67 : decode cX11_alms 67 = .ok (.ifCond .eq 5, 3) := by decide +kernel
theorem dX11_alms_70 : decode cX11_alms 70 = .ok (.iconst 0, 1) := by decide +kernel
theorem dX11_alms_71 : decode cX11_alms 71 = .ok (.ireturn, 1) := by decide +kernel
theorem dX11_alms_72 : decode cX11_alms 72 = .ok (.iconst 0, 1) := by decide +kernel
theorem dX11_alms_73 : decode cX11_alms 73 = .ok (.istore 4, 2) := by decide +kernel
theorem dX11_alms_75 : decode cX11_alms 75 = .ok (.iload 4, 2) := by decide +kernel
theorem dX11_alms_77 : decode cX11_alms 77 = .ok (.bipush 99, 2) := by decide +kernel
theorem dX11_alms_79 : decode cX11_alms 79 = .ok (.if_icmp .ge 22, 3) := by decide +kernel
theorem dX11_alms_82 : decode cX11_alms 82 = .ok (.aload_n 0, 1) := by decide +kernel
theorem dX11_alms_83 : decode cX11_alms 83 = .ok (.iload_n 2, 1) := by decide +kernel
theorem dX11_alms_84 : decode cX11_alms 84 = .ok (.iload 4, 2) := by decide +kernel
theorem dX11_alms_86 : decode cX11_alms 86 = .ok (.iconst 1, 1) := by decide +kernel
theorem dX11_alms_87 : decode cX11_alms 87 = .ok (.iadd, 1) := by decide +kernel
theorem dX11_alms_88 : decode cX11_alms 88 = .ok (.invokevirtual 385, 3) := by decide +kernel
theorem dX11_alms_91 : decode cX11_alms 91 = .ok (.iload_n 3, 1) := by decide +kernel
theorem dX11_alms_92 : decode cX11_alms 92 = .ok (.if_icmp .gt 9, 3) := by decide +kernel
theorem dX11_alms_95 : decode cX11_alms 95 = .ok (.iinc 4 1, 3) := by decide +kernel
theorem dX11_alms_98 : decode cX11_alms 98 = .ok (.goto (-23), 3) := by decide +kernel
theorem dX11_alms_101 : decode cX11_alms 101 = .ok (.iload_n 2, 1) := by decide +kernel
theorem dX11_alms_102 : decode cX11_alms 102 = .ok (.iload_n 1, 1) := by decide +kernel
theorem dX11_alms_103 : decode cX11_alms 103 = .ok (.invokestatic 263, 3) := by decide +kernel
theorem dX11_alms_106 : decode cX11_alms 106 = .ok (.ifCond .eq 19, 3) := by decide +kernel
theorem dX11_alms_109 : decode cX11_alms 109 = .ok (.iload 4, 2) := by decide +kernel
theorem dX11_alms_111 : decode cX11_alms 111 = .ok (.aload_n 0, 1) := by decide +kernel
theorem dX11_alms_112 : decode cX11_alms 112 = .ok (.getfield 49, 3) := by decide +kernel
theorem dX11_alms_115 : decode cX11_alms 115 = .ok (.iload_n 1, 1) := by decide +kernel
theorem dX11_alms_116 : decode cX11_alms 116 = .ok (.aaload, 1) := by decide +kernel
theorem dX11_alms_117 : decode cX11_alms 117 = .ok (.iconst 1, 1) := by decide +kernel
theorem dX11_alms_118 : decode cX11_alms 118 = .ok (.iaload, 1) := by decide +kernel
theorem dX11_alms_119 : decode cX11_alms 119 = .ok (.invokestatic 245, 3) := by decide +kernel
theorem dX11_alms_122 : decode cX11_alms 122 = .ok (.goto 4, 3) := by decide +kernel
theorem dX11_alms_125 : decode cX11_alms 125 = .ok (.iconst 0, 1) := by decide +kernel
theorem dX11_alms_126 : decode cX11_alms 126 = .ok (.ireturn, 1) := by decide +kernel
theorem dX11_strongest_0 : decode cX11_strongest 0 = .ok (.aload_n 0, 1) := by decide +kernel
theorem dX11_strongest_1 : decode cX11_strongest 1 = .ok (.iconst 0, 1) := by decide +kernel
theorem dX11_strongest_2 : decode cX11_strongest 2 = .ok (.putfield 103, 3) := by decide +kernel
theorem dX11_strongest_5 : decode cX11_strongest 5 = .ok (.aload_n 0, 1) := by decide +kernel
theorem dX11_strongest_6 : decode cX11_strongest 6 = .ok (.iload_n 1, 1) := by decide +kernel
theorem dX11_strongest_7 : decode cX11_strongest 7 = .ok (.iconst 0, 1) := by decide +kernel
theorem dX11_strongest_8 : decode cX11_strongest 8 = .ok (.iconst 1, 1) := by decide +kernel
theorem dX11_strongest_9 : decode cX11_strongest 9 = .ok (.invokestatic 137, 3) := by decide +kernel
theorem dX11_strongest_12 : decode cX11_strongest 12 = .ok (.ifCond .ne 7, 3) := by decide +kernel
theorem dX11_strongest_15 : decode cX11_strongest 15 = .ok (.iconst 1, 1) := by decide +kernel
theorem dX11_strongest_16 : decode cX11_strongest 16 = .ok (.goto 4, 3) := by decide +kernel
theorem dX11_strongest_19 : decode cX11_strongest 19 = .ok (.iconst 0, 1) := by decide +kernel
theorem dX11_strongest_20 : decode cX11_strongest 20 = .ok (.iconst 1, 1) := by decide +kernel
theorem dX11_strongest_21 : decode cX11_strongest 21 = .ok (.iconst 1, 1) := by decide +kernel
theorem dX11_strongest_22 : decode cX11_strongest 22 = .ok (.invokevirtual 183, 3) := by decide +kernel
theorem dX11_strongest_25 : decode cX11_strongest 25 = .ok (.ifCond .eq 5, 3) := by decide +kernel
theorem dX11_strongest_28 : decode cX11_strongest 28 = .ok (.iconst 0, 1) := by decide +kernel
theorem dX11_strongest_29 : decode cX11_strongest 29 = .ok (.ireturn, 1) := by decide +kernel
theorem dX11_strongest_30 : decode cX11_strongest 30 = .ok (.iconst (-1), 1) := by decide +kernel
theorem dX11_strongest_31 : decode cX11_strongest 31 = .ok (.istore_n 2, 1) := by decide +kernel
theorem dX11_strongest_32 : decode cX11_strongest 32 = .ok (.iconst (-1), 1) := by decide +kernel
theorem dX11_strongest_33 : decode cX11_strongest 33 = .ok (.istore_n 3, 1) := by decide +kernel
theorem dX11_strongest_34 : decode cX11_strongest 34 = .ok (.iconst 0, 1) := by decide +kernel
theorem dX11_strongest_35 : decode cX11_strongest 35 = .ok (.istore 4, 2) := by decide +kernel
theorem dX11_strongest_37 : decode cX11_strongest 37 = .ok (.iload 4, 2) := by decide +kernel
theorem dX11_strongest_39 : decode cX11_strongest 39 = .ok (.aload_n 0, 1) := by decide +kernel
theorem dX11_strongest_40 : decode cX11_strongest 40 = .ok (.getfield 23, 3) := by decide +kernel
theorem dX11_strongest_43 : decode cX11_strongest 43 = .ok (.iconst 1, 1) := by decide +kernel
theorem dX11_strongest_44 : decode cX11_strongest 44 = .ok (.iaload, 1) := by decide +kernel
theorem dX11_strongest_45 : decode cX11_strongest 45 = .ok (.if_icmp .ge 52, 3) := by decide +kernel
theorem dX11_strongest_48 : decode cX11_strongest 48 = .ok (.aload_n 0, 1) := by decide +kernel
theorem dX11_strongest_49 : decode cX11_strongest 49 = .ok (.getfield 73, 3) := by decide +kernel
theorem dX11_strongest_52 : decode cX11_strongest 52 = .ok (.iload 4, 2) := by decide +kernel
theorem dX11_strongest_54 : decode cX11_strongest 54 = .ok (.invokestatic 267, 3) := by decide +kernel
theorem dX11_strongest_57 : decode cX11_strongest 57 = .ok (.ifCond .eq 34, 3) := by decide +kernel
theorem dX11_strongest_60 : decode cX11_strongest 60 = .ok (.aload_n 0, 1) := by decide +kernel
theorem dX11_strongest_61 : decode cX11_strongest 61 = .ok (.aload_n 0, 1) := by decide +kernel
theorem dX11_strongest_62 : decode cX11_strongest 62 = .ok (.getfield 73, 3) := by decide +kernel
theorem dX11_strongest_65 : decode cX11_strongest 65 = .ok (.iload 4, 2) := by decide +kernel
theorem dX11_strongest_67 : decode cX11_strongest 67 = .ok (.invokevirtual 289, 3) := by decide +kernel
theorem dX11_strongest_70 : decode cX11_strongest 70 = .ok (.iload_n 3, 1) := by decide +kernel
theorem dX11_strongest_71 : decode cX11_strongest 71 = .ok (.if_icmp .gt 6, 3) := by decide +kernel
theorem dX11_strongest_74 : decode cX11_strongest 74 = .ok (.goto 17, 3) := by decide +kernel
theorem dX11_strongest_77 : decode cX11_strongest 77 = .ok (.iload 4, 2) := by decide +kernel
theorem dX11_strongest_79 : decode cX11_strongest 79 = .ok (.istore_n 2, 1) := by decide +kernel
theorem dX11_strongest_80 : decode cX11_strongest 80 = .ok (.aload_n 0, 1) := by decide +kernel
theorem dX11_strongest_81 : decode cX11_strongest 81 = .ok (.aload_n 0, 1) := by decide +kernel
theorem dX11_strongest_82 : decode cX11_strongest 82 = .ok (.getfield 73, 3) := by decide +kernel
theorem dX11_strongest_85 : decode cX11_strongest 85 = .ok (.iload 4, 2) := by decide +kernel
theorem dX11_strongest_87 : decode cX11_strongest 87 = .ok (.invokevirtual 289, 3) := by decide +kernel
theorem dX11_strongest_90 : decode cX11_strongest 90 = .ok (.istore_n 3, 1) := by decide +kernel
theorem dX11_strongest_91 : decode cX11_strongest 91 = .ok (.iinc 4 1, 3) := by decide +kernel
theorem dX11_strongest_94 : decode cX11_strongest 94 = .ok (.goto (-57), 3) := by decide +kernel
theorem dX11_strongest_97 : decode cX11_strongest 97 = .ok (.iload_n 1, 1) := by decide +kernel
theorem dX11_strongest_98 : decode cX11_strongest 98 = .ok (.ifCond .ne 7, 3) := by decide +kernel
theorem dX11_strongest_101 : decode cX11_strongest 101 = .ok (.iload_n 2, 1) := by decide +kernel
theorem dX11_strongest_102 : decode cX11_strongest 102 = .ok (.goto 4, 3) := by decide +kernel
theorem dX11_strongest_105 : decode cX11_strongest 105 = .ok (.iload_n 3, 1) := by decide +kernel
theorem dX11_strongest_106 : decode cX11_strongest 106 = .ok (.ireturn, 1) := by decide +kernel
theorem dX11_eldest_0 : decode cX11_eldest 0 = .ok (.aload_n 0, 1) := by decide +kernel
theorem dX11_eldest_1 : decode cX11_eldest 1 = .ok (.iconst 0, 1) := by decide +kernel
theorem dX11_eldest_2 : decode cX11_eldest 2 = .ok (.putfield 103, 3) := by decide +kernel
theorem dX11_eldest_5 : decode cX11_eldest 5 = .ok (.aload_n 0, 1) := by decide +kernel
theorem dX11_eldest_6 : decode cX11_eldest 6 = .ok (.iload_n 1, 1) := by decide +kernel
theorem dX11_eldest_7 : decode cX11_eldest 7 = .ok (.iconst 0, 1) := by decide +kernel
theorem dX11_eldest_8 : decode cX11_eldest 8 = .ok (.iconst 1, 1) := by decide +kernel
theorem dX11_eldest_9 : decode cX11_eldest 9 = .ok (.invokestatic 137, 3) := by decide +kernel
theorem dX11_eldest_12 : decode cX11_eldest 12 = .ok (.ifCond .ne 7, 3) := by decide +kernel
theorem dX11_eldest_15 : decode cX11_eldest 15 = .ok (.iconst 1, 1) := by decide +kernel
theorem dX11_eldest_16 : decode cX11_eldest 16 = .ok (.goto 4, 3) := by decide +kernel
theorem dX11_eldest_19 : decode cX11_eldest 19 = .ok (.iconst 0, 1) := by decide +kernel
theorem dX11_eldest_20 : decode cX11_eldest 20 = .ok (.iconst 1, 1) := by decide +kernel
theorem dX11_eldest_21 : decode cX11_eldest 21 = .ok (.iconst 1, 1) := by decide +kernel
theorem dX11_eldest_22 : decode cX11_eldest 22 = .ok (.invokevirtual 183, 3) := by decide +kernel
theorem dX11_eldest_25 : decode cX11_eldest 25 = .ok (.ifCond .eq 5, 3) := by decide +kernel
theorem dX11_eldest_28 : decode cX11_eldest 28 = .ok (.iconst 0, 1) := by decide +kernel
theorem dX11_eldest_29 : decode cX11_eldest 29 = .ok (.ireturn, 1) := by decide +kernel
theorem dX11_eldest_30 : decode cX11_eldest 30 = .ok (.iconst (-1), 1) := by decide +kernel
theorem dX11_eldest_31 : decode cX11_eldest 31 = .ok (.istore_n 2, 1) := by decide +kernel
theorem dX11_eldest_32 : decode cX11_eldest 32 = .ok (.iconst (-1), 1) := by decide +kernel
theorem dX11_eldest_33 : decode cX11_eldest 33 = .ok (.istore_n 3, 1) := by decide +kernel
theorem dX11_eldest_34 : decode cX11_eldest 34 = .ok (.iconst 0, 1) := by decide +kernel
theorem dX11_eldest_35 : decode cX11_eldest 35 = .ok (.istore 4, 2) := by decide +kernel
theorem dX11_eldest_37 : decode cX11_eldest 37 = .ok (.iload 4, 2) := by decide +kernel
theorem dX11_eldest_39 : decode cX11_eldest 39 = .ok (.aload_n 0, 1) := by decide +kernel
theorem dX11_eldest_40 : decode cX11_eldest 40 = .ok (.getfield 23, 3) := by decide +kernel
theorem dX11_eldest_43 : decode cX11_eldest 43 = .ok (.iconst 1, 1) := by decide +kernel
theorem dX11_eldest_44 : decode cX11_eldest 44 = .ok (.iaload, 1) := by decide +kernel
theorem dX11_eldest_45 : decode cX11_eldest 45 = .ok (.if_icmp .ge 40, 3) := by decide +kernel
theorem dX11_eldest_48 : decode cX11_eldest 48 = .ok (.aload_n 0, 1) := by decide +kernel
theorem dX11_eldest_49 : decode cX11_eldest 49 = .ok (.getfield 73, 3) := by decide +kernel
theorem dX11_eldest_52 : decode cX11_eldest 52 = .ok (.bipush 16, 2) := by decide +kernel
theorem dX11_eldest_54 : decode cX11_eldest 54 = .ok (.iload 4, 2) := by decide +kernel
theorem dX11_eldest_56 : decode cX11_eldest 56 = .ok (.iadd, 1) := by decide +kernel
theorem dX11_eldest_57 : decode cX11_eldest 57 = .ok (.iaload, 1) := by decide +kernel
theorem dX11_eldest_58 : decode cX11_eldest 58 = .ok (.iload_n 3, 1) := by decide +kernel
theorem dX11_eldest_59 : decode cX11_eldest 59 = .ok (.if_icmp .gt 6, 3) := by decide +kernel
theorem dX11_eldest_62 : decode cX11_eldest 62 = .ok (.goto 17, 3) := by decide +kernel
theorem dX11_eldest_65 : decode cX11_eldest 65 = .ok (.iload 4, 2) := by decide +kernel
theorem dX11_eldest_67 : decode cX11_eldest 67 = .ok (.istore_n 2, 1) := by decide +kernel
theorem dX11_eldest_68 : decode cX11_eldest 68 = .ok (.aload_n 0, 1) := by decide +kernel
theorem dX11_eldest_69 : decode cX11_eldest 69 = .ok (.getfield 73, 3) := by decide +kernel
theorem dX11_eldest_72 : decode cX11_eldest 72 = .ok (.bipush 16, 2) := by decide +kernel
theorem dX11_eldest_74 : decode cX11_eldest 74 = .ok (.iload 4, 2) := by decide +kernel
theorem dX11_eldest_76 : decode cX11_eldest 76 = .ok (.iadd, 1) := by decide +kernel
theorem dX11_eldest_77 : decode cX11_eldest 77 = .ok (.iaload, 1) := by decide +kernel
theorem dX11_eldest_78 : decode cX11_eldest 78 = .ok (.istore_n 3, 1) := by decide +kernel
theorem dX11_eldest_79 : decode cX11_eldest 79 = .ok (.iinc 4 1, 3) := by decide +kernel
theorem dX11_eldest_82 : decode cX11_eldest 82 = .ok (.goto (-45), 3) := by decide +kernel
theorem dX11_eldest_85 : decode cX11_eldest 85 = .ok (.iload_n 1, 1) := by decide +kernel
theorem dX11_eldest_86 : decode cX11_eldest 86 = .ok (.ifCond .ne 7, 3) := by decide +kernel
theorem dX11_eldest_89 : decode cX11_eldest 89 = .ok (.iload_n 2, 1) := by decide +kernel
theorem dX11_eldest_90 : decode cX11_eldest 90 = .ok (.goto 4, 3) := by decide +kernel
theorem dX11_eldest_93 : decode cX11_eldest 93 = .ok (.iload_n 3, 1) := by decide +kernel
theorem dX11_eldest_94 : decode cX11_eldest 94 = .ok (.ireturn, 1) := by decide +kernel
theorem dX11_idle_0 : decode cX11_idle 0 = .ok (.aload_n 0, 1) := by decide +kernel
theorem dX11_idle_1 : decode cX11_idle 1 = .ok (.iconst 0, 1) := by decide +kernel
theorem dX11_idle_2 : decode cX11_idle 2 = .ok (.putfield 103, 3) := by decide +kernel
theorem dX11_idle_5 : decode cX11_idle 5 = .ok (.iconst 0, 1) := by decide +kernel
theorem dX11_idle_6 : decode cX11_idle 6 = .ok (.istore_n 1, 1) := by decide +kernel
theorem dX11_idle_7 : decode cX11_idle 7 = .ok (.iconst 0, 1) := by decide +kernel
theorem dX11_idle_8 : decode cX11_idle 8 = .ok (.istore_n 2, 1) := by decide +kernel
theorem dX11_idle_9 : decode cX11_idle 9 = .ok (.iload_n 2, 1) := by decide +kernel
theorem dX11_idle_10 : decode cX11_idle 10 = .ok (.aload_n 0, 1) := by decide +kernel
theorem dX11_idle_11 : decode cX11_idle 11 = .ok (.getfield 23, 3) := by decide +kernel
theorem dX11_idle_14 : decode cX11_idle 14 = .ok (.iconst 0, 1) := by decide +kernel
theorem dX11_idle_15 : decode cX11_idle 15 = .ok (.iaload, 1) := by decide +kernel
theorem dX11_idle_16 : decode cX11_idle 16 = .ok (.if_icmp .ge 42, 3) := by decide +kernel
theorem dX11_idle_19 : decode cX11_idle 19 = .ok (.iload_n 1, 1) := by decide +kernel
theorem dX11_idle_20 : decode cX11_idle 20 = .ok (.aload_n 0, 1) := by decide +kernel
theorem dX11_idle_21 : decode cX11_idle 21 = .ok (.getfield 73, 3) := by decide +kernel
theorem dX11_idle_24 : decode cX11_idle 24 = .ok (.iconst 0, 1) := by decide +kernel
theorem dX11_idle_25 : decode cX11_idle 25 = .ok (.iload_n 2, 1) := by decide +kernel
theorem dX11_idle_26 : decode cX11_idle 26 = .ok (.iadd, 1) := by decide +kernel
theorem dX11_idle_27 : decode cX11_idle 27 = .ok (.iaload, 1) := by decide +kernel
theorem dX11_idle_28 : decode cX11_idle 28 = .ok (.ifCond .ne 21, 3) := by decide +kernel
theorem dX11_idle_31 : decode cX11_idle 31 = .ok (.aload_n 0, 1) := by decide +kernel
theorem dX11_idle_32 : decode cX11_idle 32 = .ok (.aload_n 0, 1) := by decide +kernel
theorem dX11_idle_33 : decode cX11_idle 33 = .ok (.getfield 73, 3) := by decide +kernel
theorem dX11_idle_36 : decode cX11_idle 36 = .ok (.iload_n 2, 1) := by decide +kernel
theorem dX11_idle_37 : decode cX11_idle 37 = .ok (.invokevirtual 274, 3) := by decide +kernel
theorem dX11_idle_40 : decode cX11_idle 40 = .ok (.ifCond .ne 9, 3) := by decide +kernel
theorem dX11_idle_43 : decode cX11_idle 43 = .ok (.iconst 1, 1) := by decide +kernel
theorem dX11_idle_44 : decode cX11_idle 44 = .ok (.iload_n 2, 1) := by decide +kernel
theorem dX11_idle_45 : decode cX11_idle 45 = .ok (.ishl, 1) := by decide +kernel
theorem dX11_idle_46 : decode cX11_idle 46 = .ok (.goto 4, 3) := by decide +kernel
theorem dX11_idle_49 : decode cX11_idle 49 = .ok (.iconst 0, 1) := by decide +kernel
theorem dX11_idle_50 : decode cX11_idle 50 = .ok (.ior, 1) := by decide +kernel
theorem dX11_idle_51 : decode cX11_idle 51 = .ok (.istore_n 1, 1) := by decide +kernel
theorem dX11_idle_52 : decode cX11_idle 52 = .ok (.iinc 2 1, 3) := by decide +kernel
theorem dX11_idle_55 : decode cX11_idle 55 = .ok (.goto (-46), 3) := by decide +kernel
theorem dX11_idle_58 : decode cX11_idle 58 = .ok (.iload_n 1, 1) := by decide +kernel
theorem dX11_idle_59 : decode cX11_idle 59 = .ok (.ireturn, 1) := by decide +kernel
theorem dX11_needs_0 : decode cX11_needs 0 = .ok (.aload_n 0, 1) := by decide +kernel
theorem dX11_needs_1 : decode cX11_needs 1 = .ok (.iconst 0, 1) := by decide +kernel
theorem dX11_needs_2 : decode cX11_needs 2 = .ok (.putfield 103, 3) := by decide +kernel
theorem dX11_needs_5 : decode cX11_needs 5 = .ok (.aload_n 0, 1) := by decide +kernel
theorem dX11_needs_6 : decode cX11_needs 6 = .ok (.iload_n 1, 1) := by decide +kernel
theorem dX11_needs_7 : decode cX11_needs 7 = .ok (.iconst 0, 1) := by decide +kernel
theorem dX11_needs_8 : decode cX11_needs 8 = .ok (.iconst 5, 1) := by decide +kernel
theorem dX11_needs_9 : decode cX11_needs 9 = .ok (.invokestatic 137, 3) := by decide +kernel
theorem dX11_needs_12 : decode cX11_needs 12 = .ok (.ifCond .ne 7, 3) := by decide +kernel
theorem dX11_needs_15 : decode cX11_needs 15 = .ok (.iconst 1, 1) := by decide +kernel
theorem dX11_needs_16 : decode cX11_needs 16 = .ok (.goto 4, 3) := by decide +kernel
theorem dX11_needs_19 : decode cX11_needs 19 = .ok (.iconst 0, 1) := by decide +kernel
theorem dX11_needs_20 : decode cX11_needs 20 = .ok (.iconst 1, 1) := by decide +kernel
theorem dX11_needs_21 : decode cX11_needs 21 = .ok (.iconst 1, 1) := by decide +kernel
theorem dX11_needs_22 : decode cX11_needs 22 = .ok (.invokevirtual 183, 3) := by decide +kernel
theorem dX11_needs_25 : decode cX11_needs 25 = .ok (.ifCond .eq 5, 3) := by decide +kernel
theorem dX11_needs_28 : decode cX11_needs 28 = .ok (.iconst 0, 1) := by decide +kernel
theorem dX11_needs_29 : decode cX11_needs 29 = .ok (.ireturn, 1) := by decide +kernel
