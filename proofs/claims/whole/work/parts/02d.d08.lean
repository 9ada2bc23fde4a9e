theorem dX3_pair_193 : decode cX3_pair 193 = .ok (.iinc 6 1, 3) := by decide +kernel
theorem dX3_pair_196 : decode cX3_pair 196 = .ok (.goto (-109), 3) := by decide +kernel
theorem dX3_pair_199 : decode cX3_pair 199 = .ok (.return_, 1) := by decide +kernel
theorem dX3_mostPairs_0 : decode cX3_mostPairs 0 = .ok (.iconst 0, 1) := by decide +kernel
theorem dX3_mostPairs_1 : decode cX3_mostPairs 1 = .ok (.istore 4, 2) := by decide +kernel
theorem dX3_mostPairs_3 : decode cX3_mostPairs 3 = .ok (.iload 4, 2) := by decide +kernel
theorem dX3_mostPairs_5 : decode cX3_mostPairs 5 = .ok (.aload_n 0, 1) := by decide +kernel
theorem dX3_mostPairs_6 : decode cX3_mostPairs 6 = .ok (.getfield 18, 3) := by decide +kernel
theorem dX3_mostPairs_9 : decode cX3_mostPairs 9 = .ok (.arraylength, 1) := by decide +kernel
theorem dX3_mostPairs_10 : decode cX3_mostPairs 10 = .ok (.if_icmp .ge 17, 3) := by decide +kernel
theorem dX3_mostPairs_13 : decode cX3_mostPairs 13 = .ok (.aload_n 0, 1) := by decide +kernel
theorem dX3_mostPairs_14 : decode cX3_mostPairs 14 = .ok (.getfield 18, 3) := by decide +kernel
theorem dX3_mostPairs_17 : decode cX3_mostPairs 17 = .ok (.iload 4, 2) := by decide +kernel
theorem dX3_mostPairs_19 : decode cX3_mostPairs 19 = .ok (.iconst (-1), 1) := by decide +kernel
theorem dX3_mostPairs_20 : decode cX3_mostPairs 20 = .ok (.iastore, 1) := by decide +kernel
theorem dX3_mostPairs_21 : decode cX3_mostPairs 21 = .ok (.iinc 4 1, 3) := by decide +kernel
theorem dX3_mostPairs_24 : decode cX3_mostPairs 24 = .ok (.goto (-21), 3) := by decide +kernel
theorem dX3_mostPairs_27 : decode cX3_mostPairs 27 = .ok (.iconst 0, 1) := by decide +kernel
theorem dX3_mostPairs_28 : decode cX3_mostPairs 28 = .ok (.istore 4, 2) := by decide +kernel
theorem dX3_mostPairs_30 : decode cX3_mostPairs 30 = .ok (.iload_n 1, 1) := by decide +kernel
theorem dX3_mostPairs_31 : decode cX3_mostPairs 31 = .ok (.istore 5, 2) := by decide +kernel
theorem dX3_mostPairs_33 : decode cX3_mostPairs 33 = .ok (.iload 5, 2) := by decide +kernel
theorem dX3_mostPairs_35 : decode cX3_mostPairs 35 = .ok (.iload_n 2, 1) := by decide +kernel
theorem dX3_mostPairs_36 : decode cX3_mostPairs 36 = .ok (.if_icmp .ge 28, 3) := by decide +kernel
theorem dX3_mostPairs_39 : decode cX3_mostPairs 39 = .ok (.aload_n 0, 1) := by decide +kernel
theorem dX3_mostPairs_40 : decode cX3_mostPairs 40 = .ok (.iconst 0, 1) := by decide +kernel
theorem dX3_mostPairs_41 : decode cX3_mostPairs 41 = .ok (.putfield 51, 3) := by decide +kernel
theorem dX3_mostPairs_44 : decode cX3_mostPairs 44 = .ok (.aload_n 0, 1) := by decide +kernel
theorem dX3_mostPairs_45 : decode cX3_mostPairs 45 = .ok (.iload 5, 2) := by decide +kernel
theorem dX3_mostPairs_47 : decode cX3_mostPairs 47 = .ok (.iload_n 3, 1) := by decide +kernel
theorem dX3_mostPairs_48 : decode cX3_mostPairs 48 = .ok (.iconst 0, 1) := by decide +kernel
theorem dX3_mostPairs_49 : decode cX3_mostPairs 49 = .ok (.invokevirtual 54, 3) := by decide +kernel
theorem dX3_mostPairs_52 : decode cX3_mostPairs 52 = .ok (.ifCond .eq 6, 3) := by decide +kernel
theorem dX3_mostPairs_55 : decode cX3_mostPairs 55 = .ok (.iinc 4 1, 3) := by decide +kernel
theorem dX3_mostPairs_58 : decode cX3_mostPairs 58 = .ok (.iinc 5 1, 3) := by decide +kernel
theorem dX3_mostPairs_61 : decode cX3_mostPairs 61 = .ok (.goto (-28), 3) := by decide +kernel
theorem dX3_mostPairs_64 : decode cX3_mostPairs 64 = .ok (.iload 4, 2) := by decide +kernel
theorem dX3_mostPairs_66 : decode cX3_mostPairs 66 = .ok (.ireturn, 1) := by decide +kernel
theorem dX3_findsRelic_0 : decode cX3_findsRelic 0 = .ok (.iload_n 1, 1) := by decide +kernel
theorem dX3_findsRelic_1 : decode cX3_findsRelic 1 = .ok (.ifCond .lt 18, 3) := by decide +kernel
theorem dX3_findsRelic_4 : decode cX3_findsRelic 4 = .ok (.iload_n 1, 1) := by decide +kernel
theorem dX3_findsRelic_5 : decode cX3_findsRelic 5 = .ok (.aload_n 0, 1) := by decide +kernel
theorem dX3_findsRelic_6 : decode cX3_findsRelic 6 = .ok (.getfield 9, 3) := by decide +kernel
theorem dX3_findsRelic_9 : decode cX3_findsRelic 9 = .ok (.arraylength, 1) := by decide +kernel
theorem dX3_findsRelic_10 : decode cX3_findsRelic 10 = .ok (.if_icmp .ge 9, 3) := by decide +kernel
theorem dX3_findsRelic_13 : decode cX3_findsRelic 13 = .ok (.iload_n 3, 1) := by decide +kernel
theorem dX3_findsRelic_14 : decode cX3_findsRelic 14 = .ok (.bipush 8, 2) := by decide +kernel
theorem dX3_findsRelic_16 : decode cX3_findsRelic 16 = .ok (.if_icmp .le 5, 3) := by decide +kernel
theorem dX3_findsRelic_19 : decode cX3_findsRelic 19 = .ok (.iconst 0, 1) := by decide +kernel
theorem dX3_findsRelic_20 : decode cX3_findsRelic 20 = .ok (.ireturn, 1) := by decide +kernel
theorem dX3_findsRelic_21 : decode cX3_findsRelic 21 = .ok (.iconst 0, 1) := by decide +kernel
theorem dX3_findsRelic_22 : decode cX3_findsRelic 22 = .ok (.istore 4, 2) := by decide +kernel
theorem dX3_findsRelic_24 : decode cX3_findsRelic 24 = .ok (.iload 4, 2) := by decide +kernel
theorem dX3_findsRelic_26 : decode cX3_findsRelic 26 = .ok (.aload_n 0, 1) := by decide +kernel
theorem dX3_findsRelic_27 : decode cX3_findsRelic 27 = .ok (.getfield 18, 3) := by decide +kernel
theorem dX3_findsRelic_30 : decode cX3_findsRelic 30 = .ok (.arraylength, 1) := by decide +kernel
theorem dX3_findsRelic_31 : decode cX3_findsRelic 31 = .ok (.if_icmp .ge 84, 3) := by decide +kernel
theorem dX3_findsRelic_34 : decode cX3_findsRelic 34 = .ok (.aload_n 0, 1) := by decide +kernel
theorem dX3_findsRelic_35 : decode cX3_findsRelic 35 = .ok (.getfield 9, 3) := by decide +kernel
theorem dX3_findsRelic_38 : decode cX3_findsRelic 38 = .ok (.iload_n 1, 1) := by decide +kernel
theorem dX3_findsRelic_39 : decode cX3_findsRelic 39 = .ok (.iaload, 1) := by decide +kernel
theorem dX3_findsRelic_40 : decode cX3_findsRelic 40 = .ok (.iload_n 2, 1) := by decide +kernel
theorem dX3_findsRelic_41 : decode cX3_findsRelic 41 = .ok (.iand, 1) := by decide +kernel
theorem dX3_findsRelic_42 : decode cX3_findsRelic 42 = .ok (.aload_n 0, 1) := by decide +kernel
theorem dX3_findsRelic_43 : decode cX3_findsRelic 43 = .ok (.getfield 51, 3) := by decide +kernel
theorem dX3_findsRelic_46 : decode cX3_findsRelic 46 = .ok (.iconst (-1), 1) := by decide +kernel
theorem dX3_findsRelic_47 : decode cX3_findsRelic 47 = .ok (.ixor, 1) := by decide +kernel
theorem dX3_findsRelic_48 : decode cX3_findsRelic 48 = .ok (.iand, 1) := by decide +kernel
theorem dX3_findsRelic_49 : decode cX3_findsRelic 49 = .ok (.iconst 1, 1) := by decide +kernel
theorem dX3_findsRelic_50 : decode cX3_findsRelic 50 = .ok (.iload 4, 2) := by decide +kernel
theorem dX3_findsRelic_52 : decode cX3_findsRelic 52 = .ok (.ishl, 1) := by decide +kernel
theorem dX3_findsRelic_53 : decode cX3_findsRelic 53 = .ok (.iand, 1) := by decide +kernel
theorem dX3_findsRelic_54 : decode cX3_findsRelic 54 = .ok (.ifCond .eq 55, 3) := by decide +kernel
theorem dX3_findsRelic_57 : decode cX3_findsRelic 57 = .ok (.aload_n 0, 1) := by decide +kernel
theorem dX3_findsRelic_58 : decode cX3_findsRelic 58 = .ok (.dup, 1) := by decide +kernel
theorem dX3_findsRelic_59 : decode cX3_findsRelic 59 = .ok (.getfield 51, 3) := by decide +kernel
theorem dX3_findsRelic_62 : decode cX3_findsRelic 62 = .ok (.iconst 1, 1) := by decide +kernel
theorem dX3_findsRelic_63 : decode cX3_findsRelic 63 = .ok (.iload 4, 2) := by decide +kernel
theorem dX3_findsRelic_65 : decode cX3_findsRelic 65 = .ok (.ishl, 1) := by decide +kernel
theorem dX3_findsRelic_66 : decode cX3_findsRelic 66 = .ok (.ior, 1) := by decide +kernel
theorem dX3_findsRelic_67 : decode cX3_findsRelic 67 = .ok (.putfield 51, 3) := by decide +kernel
theorem dX3_findsRelic_70 : decode cX3_findsRelic 70 = .ok (.aload_n 0, 1) := by decide +kernel
theorem dX3_findsRelic_71 : decode cX3_findsRelic 71 = .ok (.getfield 18, 3) := by decide +kernel
theorem dX3_findsRelic_74 : decode cX3_findsRelic 74 = .ok (.iload 4, 2) := by decide +kernel
theorem dX3_findsRelic_76 : decode cX3_findsRelic 76 = .ok (.iaload, 1) := by decide +kernel
theorem dX3_findsRelic_77 : decode cX3_findsRelic 77 = .ok (.iconst (-1), 1) := by decide +kernel
theorem dX3_findsRelic_78 : decode cX3_findsRelic 78 = .ok (.if_icmp .eq 21, 3) := by decide +kernel
theorem dX3_findsRelic_81 : decode cX3_findsRelic 81 = .ok (.aload_n 0, 1) := by decide +kernel
theorem dX3_findsRelic_82 : decode cX3_findsRelic 82 = .ok (.aload_n 0, 1) := by decide +kernel
theorem dX3_findsRelic_83 : decode cX3_findsRelic 83 = .ok (.getfield 18, 3) := by decide +kernel
theorem dX3_findsRelic_86 : decode cX3_findsRelic 86 = .ok (.iload 4, 2) := by decide +kernel
theorem dX3_findsRelic_88 : decode cX3_findsRelic 88 = .ok (.iaload, 1) := by decide +kernel
theorem dX3_findsRelic_89 : decode cX3_findsRelic 89 = .ok (.iload_n 2, 1) := by decide +kernel
theorem dX3_findsRelic_90 : decode cX3_findsRelic 90 = .ok (.iload_n 3, 1) := by decide +kernel
theorem dX3_findsRelic_91 : decode cX3_findsRelic 91 = .ok (.iconst 1, 1) := by decide +kernel
theorem dX3_findsRelic_92 : decode cX3_findsRelic 92 = .ok (.iadd, 1) := by decide +kernel
theorem dX3_findsRelic_93 : decode cX3_findsRelic 93 = .ok (.invokevirtual 54, 3) := by decide +kernel
theorem dX3_findsRelic_96 : decode cX3_findsRelic 96 = .ok (.ifCond .eq 13, 3) := by decide +kernel
theorem dX3_findsRelic_99 : decode cX3_findsRelic 99 = .ok (.aload_n 0, 1) := by decide +kernel
theorem dX3_findsRelic_100 : decode cX3_findsRelic 100 = .ok (.getfield 18, 3) := by decide +kernel
theorem dX3_findsRelic_103 : decode cX3_findsRelic 103 = .ok (.iload 4, 2) := by decide +kernel
theorem dX3_findsRelic_105 : decode cX3_findsRelic 105 = .ok (.iload_n 1, 1) := by decide +kernel
theorem dX3_findsRelic_106 : decode cX3_findsRelic 106 = .ok (.iastore, 1) := by decide +kernel
theorem dX3_findsRelic_107 : decode cX3_findsRelic 107 = .ok (.iconst 1, 1) := by decide +kernel
theorem dX3_findsRelic_108 : decode cX3_findsRelic 108 = .ok (.ireturn, 1) := by decide +kernel
theorem dX3_findsRelic_109 : decode cX3_findsRelic 109 = .ok (.iinc 4 1, 3) := by decide +kernel
theorem dX3_findsRelic_112 : decode cX3_findsRelic 112 = .ok (.goto (-88), 3) := by decide +kernel
theorem dX3_findsRelic_115 : decode cX3_findsRelic 115 = .ok (.iconst 0, 1) := by decide +kernel
theorem dX3_findsRelic_116 : decode cX3_findsRelic 116 = .ok (.ireturn, 1) := by decide +kernel
theorem dX4_init_0 : decode cX4_init 0 = .ok (.aload_n 0, 1) := by decide +kernel
theorem dX4_init_1 : decode cX4_init 1 = .ok (.invokespecial 3, 3) := by decide +kernel
theorem dX4_init_4 : decode cX4_init 4 = .ok (.aload_n 0, 1) := by decide +kernel
theorem dX4_init_5 : decode cX4_init 5 = .ok (.bipush 37, 2) := by decide +kernel
theorem dX4_init_7 : decode cX4_init 7 = .ok (.newarray .int, 2) := by decide +kernel
theorem dX4_init_9 : decode cX4_init 9 = .ok (.putfield 11, 3) := by decide +kernel
theorem dX4_init_12 : decode cX4_init 12 = .ok (.aload_n 0, 1) := by decide +kernel
theorem dX4_init_13 : decode cX4_init 13 = .ok (.bipush 37, 2) := by decide +kernel
theorem dX4_init_15 : decode cX4_init 15 = .ok (.newarray .int, 2) := by decide +kernel
theorem dX4_init_17 : decode cX4_init 17 = .ok (.putfield 15, 3) := by decide +kernel
theorem dX4_init_20 : decode cX4_init 20 = .ok (.aload_n 0, 1) := by decide +kernel
theorem dX4_init_21 : decode cX4_init 21 = .ok (.bipush 37, 2) := by decide +kernel
theorem dX4_init_23 : decode cX4_init 23 = .ok (.newarray .int, 2) := by decide +kernel
theorem dX4_init_25 : decode cX4_init 25 = .ok (.putfield 18, 3) := by decide +kernel
theorem dX4_init_28 : decode cX4_init 28 = .ok (.aload_n 0, 1) := by decide +kernel
theorem dX4_init_29 : decode cX4_init 29 = .ok (.bipush 37, 2) := by decide +kernel
theorem dX4_init_31 : decode cX4_init 31 = .ok (.newarray .int, 2) := by decide +kernel
theorem dX4_init_33 : decode cX4_init 33 = .ok (.putfield 21, 3) := by decide +kernel
theorem dX4_init_36 : decode cX4_init 36 = .ok (.return_, 1) := by decide +kernel
theorem dX4_read_0 : decode cX4_read 0 = .ok (.aload_n 0, 1) := by decide +kernel
theorem dX4_read_1 : decode cX4_read 1 = .ok (.iconst 0, 1) := by decide +kernel
theorem dX4_read_2 : decode cX4_read 2 = .ok (.putfield 24, 3) := by decide +kernel
theorem dX4_read_5 : decode cX4_read 5 = .ok (.aload_n 0, 1) := by decide +kernel
theorem dX4_read_6 : decode cX4_read 6 = .ok (.iconst 0, 1) := by decide +kernel
theorem dX4_read_7 : decode cX4_read 7 = .ok (.putfield 28, 3) := by decide +kernel
theorem dX4_read_10 : decode cX4_read 10 = .ok (.aload_n 0, 1) := by decide +kernel
theorem dX4_read_11 : decode cX4_read 11 = .ok (.iconst 0, 1) := by decide +kernel
theorem dX4_read_12 : decode cX4_read 12 = .ok (.putfield 31, 3) := by decide +kernel
theorem dX4_read_15 : decode cX4_read 15 = .ok (.aload_n 0, 1) := by decide +kernel
theorem dX4_read_16 : decode cX4_read 16 = .ok (.iconst 0, 1) := by decide +kernel
theorem dX4_read_17 : decode cX4_read 17 = .ok (.putfield 34, 3) := by decide +kernel
theorem dX4_read_20 : decode cX4_read 20 = .ok (.aload_n 0, 1) := by decide +kernel
theorem dX4_read_21 : decode cX4_read 21 = .ok (.aload_n 1, 1) := by decide +kernel
theorem dX4_read_22 : decode cX4_read 22 = .ok (.aload_n 2, 1) := by decide +kernel
theorem dX4_read_23 : decode cX4_read 23 = .ok (.iconst 0, 1) := by decide +kernel
theorem dX4_read_24 : decode cX4_read 24 = .ok (.invokevirtual 37, 3) := by decide +kernel
theorem dX4_read_27 : decode cX4_read 27 = .ok (.return_, 1) := by decide +kernel
theorem dX4_readSteps_0 : decode cX4_readSteps 0 = .ok (.iconst 0, 1) := by decide +kernel
theorem dX4_readSteps_1 : decode cX4_readSteps 1 = .ok (.istore 4, 2) := by decide +kernel
theorem dX4_readSteps_3 : decode cX4_readSteps 3 = .ok (.iload 4, 2) := by decide +kernel
theorem dX4_readSteps_5 : decode cX4_readSteps 5 = .ok (.sipush 150, 3) := by decide +kernel
theorem dX4_readSteps_8 : decode cX4_readSteps 8 = .ok (.if_icmp .ge 41, 3) := by decide +kernel
theorem dX4_readSteps_11 : decode cX4_readSteps 11 = .ok (.aload_n 1, 1) := by decide +kernel
theorem dX4_readSteps_12 : decode cX4_readSteps 12 = .ok (.invokevirtual 41, 3) := by decide +kernel
theorem dX4_readSteps_15 : decode cX4_readSteps 15 = .ok (.ifCond .eq 34, 3) := by decide +kernel
theorem dX4_readSteps_18 : decode cX4_readSteps 18 = .ok (.aload_n 1, 1) := by decide +kernel
theorem dX4_readSteps_19 : decode cX4_readSteps 19 = .ok (.invokevirtual 47, 3) := by decide +kernel
theorem dX4_readSteps_22 : decode cX4_readSteps 22 = .ok (.iload_n 3, 1) := by decide +kernel
theorem dX4_readSteps_23 : decode cX4_readSteps 23 = .ok (.ifCond .ne 7, 3) := by decide +kernel
theorem dX4_readSteps_26 : decode cX4_readSteps 26 = .ok (.iconst (-1), 1) := by decide +kernel
theorem dX4_readSteps_27 : decode cX4_readSteps 27 = .ok (.goto 5, 3) := by decide +kernel
theorem dX4_readSteps_30 : decode cX4_readSteps 30 = .ok (.bipush 93, 2) := by decide +kernel
theorem dX4_readSteps_32 : decode cX4_readSteps 32 = .ok (.if_icmp .ne 4, 3) := by decide +kernel
theorem dX4_readSteps_35 : decode cX4_readSteps 35 = .ok (.return_, 1) := by decide +kernel
theorem dX4_readSteps_36 : decode cX4_readSteps 36 = .ok (.aload_n 0, 1) := by decide +kernel
theorem dX4_readSteps_37 : decode cX4_readSteps 37 = .ok (.aload_n 1, 1) := by decide +kernel
theorem dX4_readSteps_38 : decode cX4_readSteps 38 = .ok (.aload_n 2, 1) := by decide +kernel
theorem dX4_readSteps_39 : decode cX4_readSteps 39 = .ok (.iload_n 3, 1) := by decide +kernel
theorem dX4_readSteps_40 : decode cX4_readSteps 40 = .ok (.invokevirtual 51, 3) := by decide +kernel
theorem dX4_readSteps_43 : decode cX4_readSteps 43 = .ok (.iinc 4 1, 3) := by decide +kernel
theorem dX4_readSteps_46 : decode cX4_readSteps 46 = .ok (.goto (-43), 3) := by decide +kernel
theorem dX4_readSteps_49 : decode cX4_readSteps 49 = .ok (.return_, 1) := by decide +kernel
theorem dX4_readStep_0 : decode cX4_readStep 0 = .ok (.aload_n 1, 1) := by decide +kernel
theorem dX4_readStep_1 : decode cX4_readStep 1 = .ok (.ldc 54, 2) := by decide +kernel
theorem dX4_readStep_3 : decode cX4_readStep 3 = .ok (.invokevirtual 56, 3) := by decide +kernel
theorem dX4_readStep_6 : decode cX4_readStep 6 = .ok (.istore 4, 2) := by decide +kernel
theorem dX4_readStep_8 : decode cX4_readStep 8 = .ok (.iload 4, 2) := by decide +kernel
theorem dX4_readStep_10 : decode cX4_readStep 10 = .ok (.iconst (-1), 1) := by decide +kernel
theorem dX4_readStep_11 : decode cX4_readStep 11 = .ok (.if_icmp .eq 15, 3) := by decide +kernel
theorem dX4_readStep_14 : decode cX4_readStep 14 = .ok (.aload_n 0, 1) := by decide +kernel
theorem dX4_readStep_15 : decode cX4_readStep 15 = .ok (.getfield 24, 3) := by decide +kernel
theorem dX4_readStep_18 : decode cX4_readStep 18 = .ok (.aload_n 0, 1) := by decide +kernel
theorem dX4_readStep_19 : decode cX4_readStep 19 = .ok (.getfield 11, 3) := by decide +kernel
theorem dX4_readStep_22 : decode cX4_readStep 22 = .ok (.arraylength, 1) := by decide +kernel
theorem dX4_readStep_23 : decode cX4_readStep 23 = .ok (.if_icmp .lt 4, 3) := by decide +kernel
theorem dX4_readStep_26 : decode cX4_readStep 26 = .ok (.return_, 1) := by decide +kernel
theorem dX4_readStep_27 : decode cX4_readStep 27 = .ok (.aload_n 0, 1) := by decide +kernel
theorem dX4_readStep_28 : decode cX4_readStep 28 = .ok (.getfield 24, 3) := by decide +kernel
theorem dX4_readStep_31 : decode cX4_readStep 31 = .ok (.istore 5, 2) := by decide +kernel
theorem dX4_readStep_33 : decode cX4_readStep 33 = .ok (.aload_n 0, 1) := by decide +kernel
theorem dX4_readStep_34 : decode cX4_readStep 34 = .ok (.dup, 1) := by decide +kernel
theorem dX4_readStep_35 : decode cX4_readStep 35 = .ok (.getfield 24, 3) := by decide +kernel
theorem dX4_readStep_38 : decode cX4_readStep 38 = .ok (.iconst 1, 1) := by decide +kernel
theorem dX4_readStep_39 : decode cX4_readStep 39 = .ok (.iadd, 1) := by decide +kernel
theorem dX4_readStep_40 : decode cX4_readStep 40 = .ok (.putfield 24, 3) := by decide +kernel
theorem dX4_readStep_43 : decode cX4_readStep 43 = .ok (.aload_n 0, 1) := by decide +kernel
theorem dX4_readStep_44 : decode cX4_readStep 44 = .ok (.getfield 11, 3) := by decide +kernel
theorem dX4_readStep_47 : decode cX4_readStep 47 = .ok (.iload 5, 2) := by decide +kernel
theorem dX4_readStep_49 : decode cX4_readStep 49 = .ok (.iload 4, 2) := by decide +kernel
theorem dX4_readStep_51 : decode cX4_readStep 51 = .ok (.iastore, 1) := by decide +kernel
theorem dX4_readStep_52 : decode cX4_readStep 52 = .ok (.iload 4, 2) := by decide +kernel
theorem dX4_readStep_54 : decode cX4_readStep 54 = .ok (.bipush 6, 2) := by decide +kernel
theorem dX4_readStep_56 : decode cX4_readStep 56 = .ok (.if_icmp .ne 15, 3) := by decide +kernel
theorem dX4_readStep_59 : decode cX4_readStep 59 = .ok (.aload_n 0, 1) := by decide +kernel
theorem dX4_readStep_60 : decode cX4_readStep 60 = .ok (.aload_n 1, 1) := by decide +kernel
theorem dX4_readStep_61 : decode cX4_readStep 61 = .ok (.aload_n 2, 1) := by decide +kernel
theorem dX4_readStep_62 : decode cX4_readStep 62 = .ok (.iload_n 3, 1) := by decide +kernel
theorem dX4_readStep_63 : decode cX4_readStep 63 = .ok (.iload 5, 2) := by decide +kernel
theorem dX4_readStep_65 : decode cX4_readStep 65 = .ok (.invokevirtual 60, 3) := by decide +kernel
theorem dX4_readStep_68 : decode cX4_readStep 68 = .ok (.goto 60, 3) := by decide +kernel
theorem dX4_readStep_71 : decode cX4_readStep 71 = .ok (.iload 4, 2) := by decide +kernel
theorem dX4_readStep_73 : decode cX4_readStep 73 = .ok (.iconst 2, 1) := by decide +kernel
theorem dX4_readStep_74 : decode cX4_readStep 74 = .ok (.if_icmp .eq 9, 3) := by decide +kernel
theorem dX4_readStep_77 : decode cX4_readStep 77 = .ok (.iload 4, 2) := by decide +kernel
theorem dX4_readStep_79 : decode cX4_readStep 79 = .ok (.iconst 4, 1) := by decide +kernel
theorem dX4_readStep_80 : decode cX4_readStep 80 = .ok (.if_icmp .ne 24, 3) := by decide +kernel
theorem dX4_readStep_83 : decode cX4_readStep 83 = .ok (.aload_n 0, 1) := by decide +kernel
theorem dX4_readStep_84 : decode cX4_readStep 84 = .ok (.getfield 15, 3) := by decide +kernel
theorem dX4_readStep_87 : decode cX4_readStep 87 = .ok (.iload 5, 2) := by decide +kernel
theorem dX4_readStep_89 : decode cX4_readStep 89 = .ok (.aload_n 1, 1) := by decide +kernel
theorem dX4_readStep_90 : decode cX4_readStep 90 = .ok (.iconst 0, 1) := by decide +kernel
theorem dX4_readStep_91 : decode cX4_readStep 91 = .ok (.aload_n 2, 1) := by decide +kernel
theorem dX4_readStep_92 : decode cX4_readStep 92 = .ok (.getfield 64, 3) := by decide +kernel
theorem dX4_readStep_95 : decode cX4_readStep 95 = .ok (.iconst 1, 1) := by decide +kernel
theorem dX4_readStep_96 : decode cX4_readStep 96 = .ok (.isub, 1) := by decide +kernel
theorem dX4_readStep_97 : decode cX4_readStep 97 = .ok (.invokevirtual 69, 3) := by decide +kernel
theorem dX4_readStep_100 : decode cX4_readStep 100 = .ok (.iastore, 1) := by decide +kernel
theorem dX4_readStep_101 : decode cX4_readStep 101 = .ok (.goto 27, 3) := by decide +kernel
theorem dX4_readStep_104 : decode cX4_readStep 104 = .ok (.iload 4, 2) := by decide +kernel
theorem dX4_readStep_106 : decode cX4_readStep 106 = .ok (.iconst 5, 1) := by decide +kernel
theorem dX4_readStep_107 : decode cX4_readStep 107 = .ok (.if_icmp .eq 21, 3) := by decide +kernel
theorem dX4_readStep_110 : decode cX4_readStep 110 = .ok (.aload_n 0, 1) := by decide +kernel
theorem dX4_readStep_111 : decode cX4_readStep 111 = .ok (.getfield 15, 3) := by decide +kernel
theorem dX4_readStep_114 : decode cX4_readStep 114 = .ok (.iload 5, 2) := by decide +kernel
theorem dX4_readStep_116 : decode cX4_readStep 116 = .ok (.aload_n 1, 1) := by decide +kernel
theorem dX4_readStep_117 : decode cX4_readStep 117 = .ok (.iconst 0, 1) := by decide +kernel
theorem dX4_readStep_118 : decode cX4_readStep 118 = .ok (.aload_n 2, 1) := by decide +kernel
theorem dX4_readStep_119 : decode cX4_readStep 119 = .ok (.getfield 73, 3) := by decide +kernel
theorem dX4_readStep_122 : decode cX4_readStep 122 = .ok (.iconst 1, 1) := by decide +kernel
theorem dX4_readStep_123 : decode cX4_readStep 123 = .ok (.isub, 1) := by decide +kernel
theorem dX4_readStep_124 : decode cX4_readStep 124 = .ok (.invokevirtual 69, 3) := by decide +kernel
theorem dX4_readStep_127 : decode cX4_readStep 127 = .ok (.iastore, 1) := by decide +kernel
theorem dX4_readStep_128 : decode cX4_readStep 128 = .ok (.iload 4, 2) := by decide +kernel
theorem dX4_readStep_130 : decode cX4_readStep 130 = .ok (.iconst 3, 1) := by decide +kernel
theorem dX4_readStep_131 : decode cX4_readStep 131 = .ok (.if_icmp .ne 21, 3) := by decide +kernel
theorem dX4_readStep_134 : decode cX4_readStep 134 = .ok (.aload_n 0, 1) := by decide +kernel
theorem dX4_readStep_135 : decode cX4_readStep 135 = .ok (.getfield 18, 3) := by decide +kernel
theorem dX4_readStep_138 : decode cX4_readStep 138 = .ok (.iload 5, 2) := by decide +kernel
theorem dX4_readStep_140 : decode cX4_readStep 140 = .ok (.aload_n 1, 1) := by decide +kernel
theorem dX4_readStep_141 : decode cX4_readStep 141 = .ok (.iconst 0, 1) := by decide +kernel
theorem dX4_readStep_142 : decode cX4_readStep 142 = .ok (.aload_n 2, 1) := by decide +kernel
theorem dX4_readStep_143 : decode cX4_readStep 143 = .ok (.getfield 76, 3) := by decide +kernel
theorem dX4_readStep_146 : decode cX4_readStep 146 = .ok (.iconst 1, 1) := by decide +kernel
theorem dX4_readStep_147 : decode cX4_readStep 147 = .ok (.isub, 1) := by decide +kernel
theorem dX4_readStep_148 : decode cX4_readStep 148 = .ok (.invokevirtual 69, 3) := by decide +kernel
theorem dX4_readStep_151 : decode cX4_readStep 151 = .ok (.iastore, 1) := by decide +kernel
theorem dX4_readStep_152 : decode cX4_readStep 152 = .ok (.aload_n 1, 1) := by decide +kernel
theorem dX4_readStep_153 : decode cX4_readStep 153 = .ok (.bipush 59, 2) := by decide +kernel
theorem dX4_readStep_155 : decode cX4_readStep 155 = .ok (.invokevirtual 79, 3) := by decide +kernel
theorem dX4_readStep_158 : decode cX4_readStep 158 = .ok (.return_, 1) := by decide +kernel
theorem dX4_readAgain_0 : decode cX4_readAgain 0 = .ok (.iload_n 3, 1) := by decide +kernel
theorem dX4_readAgain_1 : decode cX4_readAgain 1 = .ok (.bipush 6, 2) := by decide +kernel
theorem dX4_readAgain_3 : decode cX4_readAgain 3 = .ok (.if_icmp .lt 13, 3) := by decide +kernel
theorem dX4_readAgain_6 : decode cX4_readAgain 6 = .ok (.aload_n 1, 1) := by decide +kernel
theorem dX4_readAgain_7 : decode cX4_readAgain 7 = .ok (.iconst 3, 1) := by decide +kernel
theorem dX4_readAgain_8 : decode cX4_readAgain 8 = .ok (.aload_n 1, 1) := by decide +kernel
theorem dX4_readAgain_9 : decode cX4_readAgain 9 = .ok (.getfield 83, 3) := by decide +kernel
theorem dX4_readAgain_12 : decode cX4_readAgain 12 = .ok (.invokevirtual 86, 3) := by decide +kernel
theorem dX4_readAgain_15 : decode cX4_readAgain 15 = .ok (.return_, 1) := by decide +kernel
theorem dX4_readAgain_16 : decode cX4_readAgain 16 = .ok (.aload_n 0, 1) := by decide +kernel
theorem dX4_readAgain_17 : decode cX4_readAgain 17 = .ok (.getfield 15, 3) := by decide +kernel
theorem dX4_readAgain_20 : decode cX4_readAgain 20 = .ok (.iload 4, 2) := by decide +kernel
theorem dX4_readAgain_22 : decode cX4_readAgain 22 = .ok (.aload_n 1, 1) := by decide +kernel
theorem dX4_readAgain_23 : decode cX4_readAgain 23 = .ok (.iconst 0, 1) := by decide +kernel
theorem dX4_readAgain_24 : decode cX4_readAgain 24 = .ok (.bipush 40, 2) := by decide +kernel
theorem dX4_readAgain_26 : decode cX4_readAgain 26 = .ok (.invokevirtual 69, 3) := by decide +kernel
theorem dX4_readAgain_29 : decode cX4_readAgain 29 = .ok (.iastore, 1) := by decide +kernel
theorem dX4_readAgain_30 : decode cX4_readAgain 30 = .ok (.aload_n 1, 1) := by decide +kernel
theorem dX4_readAgain_31 : decode cX4_readAgain 31 = .ok (.bipush 91, 2) := by decide +kernel
theorem dX4_readAgain_33 : decode cX4_readAgain 33 = .ok (.invokevirtual 79, 3) := by decide +kernel
theorem dX4_readAgain_36 : decode cX4_readAgain 36 = .ok (.aload_n 0, 1) := by decide +kernel
theorem dX4_readAgain_37 : decode cX4_readAgain 37 = .ok (.aload_n 1, 1) := by decide +kernel
theorem dX4_readAgain_38 : decode cX4_readAgain 38 = .ok (.aload_n 2, 1) := by decide +kernel
theorem dX4_readAgain_39 : decode cX4_readAgain 39 = .ok (.iload_n 3, 1) := by decide +kernel
theorem dX4_readAgain_40 : decode cX4_readAgain 40 = .ok (.iconst 1, 1) := by decide +kernel
theorem dX4_readAgain_41 : decode cX4_readAgain 41 = .ok (.iadd, 1) := by decide +kernel
theorem dX4_readAgain_42 : decode cX4_readAgain 42 = .ok (.invokevirtual 37, 3) := by decide +kernel
theorem dX4_readAgain_45 : decode cX4_readAgain 45 = .ok (.aload_n 1, 1) := by decide +kernel
theorem dX4_readAgain_46 : decode cX4_readAgain 46 = .ok (.bipush 93, 2) := by decide +kernel
theorem dX4_readAgain_48 : decode cX4_readAgain 48 = .ok (.invokevirtual 79, 3) := by decide +kernel
theorem dX4_readAgain_51 : decode cX4_readAgain 51 = .ok (.aload_n 0, 1) := by decide +kernel
theorem dX4_readAgain_52 : decode cX4_readAgain 52 = .ok (.getfield 21, 3) := by decide +kernel
theorem dX4_readAgain_55 : decode cX4_readAgain 55 = .ok (.iload 4, 2) := by decide +kernel
theorem dX4_readAgain_57 : decode cX4_readAgain 57 = .ok (.aload_n 0, 1) := by decide +kernel
theorem dX4_readAgain_58 : decode cX4_readAgain 58 = .ok (.getfield 24, 3) := by decide +kernel
theorem dX4_readAgain_61 : decode cX4_readAgain 61 = .ok (.iastore, 1) := by decide +kernel
theorem dX4_readAgain_62 : decode cX4_readAgain 62 = .ok (.return_, 1) := by decide +kernel
theorem dX4_carryOut_0 : decode cX4_carryOut 0 = .ok (.iload_n 2, 1) := by decide +kernel
theorem dX4_carryOut_1 : decode cX4_carryOut 1 = .ok (.istore 5, 2) := by decide +kernel
theorem dX4_carryOut_3 : decode cX4_carryOut 3 = .ok (.iload 5, 2) := by decide +kernel
theorem dX4_carryOut_5 : decode cX4_carryOut 5 = .ok (.iload_n 3, 1) := by decide +kernel
theorem dX4_carryOut_6 : decode cX4_carryOut 6 = .ok (.if_icmp .ge 179, 3) := by decide +kernel
theorem dX4_carryOut_9 : decode cX4_carryOut 9 = .ok (.iload 5, 2) := by decide +kernel
theorem dX4_carryOut_11 : decode cX4_carryOut 11 = .ok (.aload_n 0, 1) := by decide +kernel
theorem dX4_carryOut_12 : decode cX4_carryOut 12 = .ok (.getfield 11, 3) := by decide +kernel
theorem dX4_carryOut_15 : decode cX4_carryOut 15 = .ok (.arraylength, 1) := by decide +kernel
theorem dX4_carryOut_16 : decode cX4_carryOut 16 = .ok (.if_icmp .ge 169, 3) := by decide +kernel
theorem dX4_carryOut_19 : decode cX4_carryOut 19 = .ok (.aload_n 0, 1) := by decide +kernel
theorem dX4_carryOut_20 : decode cX4_carryOut 20 = .ok (.getfield 28, 3) := by decide +kernel
theorem dX4_carryOut_23 : decode cX4_carryOut 23 = .ok (.sipush 200, 3) := by decide +kernel
theorem dX4_carryOut_26 : decode cX4_carryOut 26 = .ok (.if_icmp .ge 159, 3) := by decide +kernel
theorem dX4_carryOut_29 : decode cX4_carryOut 29 = .ok (.aload_n 0, 1) := by decide +kernel
theorem dX4_carryOut_30 : decode cX4_carryOut 30 = .ok (.dup, 1) := by decide +kernel
theorem dX4_carryOut_31 : decode cX4_carryOut 31 = .ok (.getfield 28, 3) := by decide +kernel
theorem dX4_carryOut_34 : decode cX4_carryOut 34 = .ok (.iconst 1, 1) := by decide +kernel
theorem dX4_carryOut_35 : decode cX4_carryOut 35 = .ok (.iadd, 1) := by decide +kernel
theorem dX4_carryOut_36 : decode cX4_carryOut 36 = .ok (.putfield 28, 3) := by decide +kernel
theorem dX4_carryOut_39 : decode cX4_carryOut 39 = .ok (.aload_n 0, 1) := by decide +kernel
theorem dX4_carryOut_40 : decode cX4_carryOut 40 = .ok (.getfield 11, 3) := by decide +kernel
theorem dX4_carryOut_43 : decode cX4_carryOut 43 = .ok (.iload 5, 2) := by decide +kernel
theorem dX4_carryOut_45 : decode cX4_carryOut 45 = .ok (.iaload, 1) := by decide +kernel
theorem dX4_carryOut_46 : decode cX4_carryOut 46 = .ok (.bipush 6, 2) := by decide +kernel
theorem dX4_carryOut_48 : decode cX4_carryOut 48 = .ok (.if_icmp .eq 60, 3) := by decide +kernel
theorem dX4_carryOut_51 : decode cX4_carryOut 51 = .ok (.aload_n 1, 1) := by decide +kernel
theorem dX4_carryOut_52 : decode cX4_carryOut 52 = .ok (.aload_n 0, 1) := by decide +kernel
theorem dX4_carryOut_53 : decode cX4_carryOut 53 = .ok (.getfield 11, 3) := by decide +kernel
theorem dX4_carryOut_56 : decode cX4_carryOut 56 = .ok (.iload 5, 2) := by decide +kernel
theorem dX4_carryOut_58 : decode cX4_carryOut 58 = .ok (.iaload, 1) := by decide +kernel
theorem dX4_carryOut_59 : decode cX4_carryOut 59 = .ok (.aload_n 0, 1) := by decide +kernel
theorem dX4_carryOut_60 : decode cX4_carryOut 60 = .ok (.getfield 15, 3) := by decide +kernel
theorem dX4_carryOut_63 : decode cX4_carryOut 63 = .ok (.iload 5, 2) := by decide +kernel
theorem dX4_carryOut_65 : decode cX4_carryOut 65 = .ok (.iaload, 1) := by decide +kernel
theorem dX4_carryOut_66 : decode cX4_carryOut 66 = .ok (.aload_n 0, 1) := by decide +kernel
theorem dX4_carryOut_67 : decode cX4_carryOut 67 = .ok (.getfield 18, 3) := by decide +kernel
theorem dX4_carryOut_70 : decode cX4_carryOut 70 = .ok (.iload 5, 2) := by decide +kernel
theorem dX4_carryOut_72 : decode cX4_carryOut 72 = .ok (.iaload, 1) := by decide +kernel
theorem dX4_carryOut_73 : decode cX4_carryOut 73 = .ok (.invokestatic 90, 3) := by decide +kernel
theorem dX4_carryOut_76 : decode cX4_carryOut 76 = .ok (.ifCond .eq 16, 3) := by decide +kernel
theorem dX4_carryOut_79 : decode cX4_carryOut 79 = .ok (.aload_n 0, 1) := by decide +kernel
theorem dX4_carryOut_80 : decode cX4_carryOut 80 = .ok (.dup, 1) := by decide +kernel
theorem dX4_carryOut_81 : decode cX4_carryOut 81 = .ok (.getfield 31, 3) := by decide +kernel
theorem dX4_carryOut_84 : decode cX4_carryOut 84 = .ok (.iconst 1, 1) := by decide +kernel
theorem dX4_carryOut_85 : decode cX4_carryOut 85 = .ok (.iadd, 1) := by decide +kernel
theorem dX4_carryOut_86 : decode cX4_carryOut 86 = .ok (.putfield 31, 3) := by decide +kernel
theorem dX4_carryOut_89 : decode cX4_carryOut 89 = .ok (.goto 13, 3) := by decide +kernel
theorem dX4_carryOut_92 : decode cX4_carryOut 92 = .ok (.aload_n 0, 1) := by decide +kernel
theorem dX4_carryOut_93 : decode cX4_carryOut 93 = .ok (.dup, 1) := by decide +kernel
theorem dX4_carryOut_94 : decode cX4_carryOut 94 = .ok (.getfield 34, 3) := by decide +kernel
theorem dX4_carryOut_97 : decode cX4_carryOut 97 = .ok (.iconst 1, 1) := by decide +kernel
theorem dX4_carryOut_98 : decode cX4_carryOut 98 = .ok (.iadd, 1) := by decide +kernel
theorem dX4_carryOut_99 : decode cX4_carryOut 99 = .ok (.putfield 34, 3) := by decide +kernel
theorem dX4_carryOut_102 : decode cX4_carryOut 102 = .ok (.iinc 5 1, 3) := by decide +kernel
theorem dX4_carryOut_105 : decode cX4_carryOut 105 = .ok (.goto (-102), 3) := by decide +kernel
theorem dX4_carryOut_108 : decode cX4_carryOut 108 = .ok (.iconst 0, 1) := by decide +kernel
theorem dX4_carryOut_109 : decode cX4_carryOut 109 = .ok (.istore 6, 2) := by decide +kernel
theorem dX4_carryOut_111 : decode cX4_carryOut 111 = .ok (.iload 6, 2) := by decide +kernel
theorem dX4_carryOut_113 : decode cX4_carryOut 113 = .ok (.aload_n 0, 1) := by decide +kernel
theorem dX4_carryOut_114 : decode cX4_carryOut 114 = .ok (.getfield 15, 3) := by decide +kernel
theorem dX4_carryOut_117 : decode cX4_carryOut 117 = .ok (.iload 5, 2) := by decide +kernel
theorem dX4_carryOut_119 : decode cX4_carryOut 119 = .ok (.iaload, 1) := by decide +kernel
theorem dX4_carryOut_120 : decode cX4_carryOut 120 = .ok (.if_icmp .ge 46, 3) := by decide +kernel
theorem dX4_carryOut_123 : decode cX4_carryOut 123 = .ok (.iload 4, 2) := by decide +kernel
theorem dX4_carryOut_125 : decode cX4_carryOut 125 = .ok (.bipush 6, 2) := by decide +kernel
theorem dX4_carryOut_127 : decode cX4_carryOut 127 = .ok (.if_icmp .ge 39, 3) := by decide +kernel
theorem dX4_carryOut_130 : decode cX4_carryOut 130 = .ok (.aload_n 0, 1) := by decide +kernel
theorem dX4_carryOut_131 : decode cX4_carryOut 131 = .ok (.getfield 28, 3) := by decide +kernel
theorem dX4_carryOut_134 : decode cX4_carryOut 134 = .ok (.sipush 200, 3) := by decide +kernel
theorem dX4_carryOut_137 : decode cX4_carryOut 137 = .ok (.if_icmp .ge 29, 3) := by decide +kernel
theorem dX4_carryOut_140 : decode cX4_carryOut 140 = .ok (.aload_n 0, 1) := by decide +kernel
theorem dX4_carryOut_141 : decode cX4_carryOut 141 = .ok (.aload_n 1, 1) := by decide +kernel
theorem dX4_carryOut_142 : decode cX4_carryOut 142 = .ok (.iload 5, 2) := by decide +kernel
theorem dX4_carryOut_144 : decode cX4_carryOut 144 = .ok (.iconst 1, 1) := by decide +kernel
theorem dX4_carryOut_145 : decode cX4_carryOut 145 = .ok (.iadd, 1) := by decide +kernel
theorem dX4_carryOut_146 : decode cX4_carryOut 146 = .ok (.aload_n 0, 1) := by decide +kernel
theorem dX4_carryOut_147 : decode cX4_carryOut 147 = .ok (.getfield 21, 3) := by decide +kernel
theorem dX4_carryOut_150 : decode cX4_carryOut 150 = .ok (.iload 5, 2) := by decide +kernel
theorem dX4_carryOut_152 : decode cX4_carryOut 152 = .ok (.iaload, 1) := by decide +kernel
theorem dX4_carryOut_153 : decode cX4_carryOut 153 = .ok (.iload 4, 2) := by decide +kernel
theorem dX4_carryOut_155 : decode cX4_carryOut 155 = .ok (.iconst 1, 1) := by decide +kernel
theorem dX4_carryOut_156 : decode cX4_carryOut 156 = .ok (.iadd, 1) := by decide +kernel
theorem dX4_carryOut_157 : decode cX4_carryOut 157 = .ok (.invokevirtual 94, 3) := by decide +kernel
theorem dX4_carryOut_160 : decode cX4_carryOut 160 = .ok (.iinc 6 1, 3) := by decide +kernel
theorem dX4_carryOut_163 : decode cX4_carryOut 163 = .ok (.goto (-52), 3) := by decide +kernel
theorem dX4_carryOut_166 : decode cX4_carryOut 166 = .ok (.iload 5, 2) := by decide +kernel
theorem dX4_carryOut_168 : decode cX4_carryOut 168 = .ok (.iconst 1, 1) := by decide +kernel
theorem dX4_carryOut_169 : decode cX4_carryOut 169 = .ok (.iadd, 1) := by decide +kernel
theorem dX4_carryOut_170 : decode cX4_carryOut 170 = .ok (.aload_n 0, 1) := by decide +kernel
theorem dX4_carryOut_171 : decode cX4_carryOut 171 = .ok (.getfield 21, 3) := by decide +kernel
theorem dX4_carryOut_174 : decode cX4_carryOut 174 = .ok (.iload 5, 2) := by decide +kernel
theorem dX4_carryOut_176 : decode cX4_carryOut 176 = .ok (.iaload, 1) := by decide +kernel
theorem dX4_carryOut_177 : decode cX4_carryOut 177 = .ok (.invokestatic 98, 3) := by decide +kernel
theorem dX4_carryOut_180 : decode cX4_carryOut 180 = .ok (.istore 5, 2) := by decide +kernel
theorem dX4_carryOut_182 : decode cX4_carryOut 182 = .ok (.goto (-179), 3) := by decide +kernel
theorem dX4_carryOut_185 : decode cX4_carryOut 185 = .ok (.return_, 1) := by decide +kernel
theorem dX4_isDone_0 : decode cX4_isDone 0 = .ok (.iload_n 1, 1) := by decide +kernel
theorem dX4_isDone_1 : decode cX4_isDone 1 = .ok (.tableswitch 66 0 4 #[35, 41, 47, 53, 60], 35) := by decide +kernel
theorem dX4_isDone_36 : decode cX4_isDone 36 = .ok (.aload_n 0, 1) := by decide +kernel
theorem dX4_isDone_37 : decode cX4_isDone 37 = .ok (.iload_n 2, 1) := by decide +kernel
theorem dX4_isDone_38 : decode cX4_isDone 38 = .ok (.invokevirtual 103, 3) := by decide +kernel
theorem dX4_isDone_41 : decode cX4_isDone 41 = .ok (.ireturn, 1) := by decide +kernel
theorem dX4_isDone_42 : decode cX4_isDone 42 = .ok (.aload_n 0, 1) := by decide +kernel
theorem dX4_isDone_43 : decode cX4_isDone 43 = .ok (.iload_n 2, 1) := by decide +kernel
theorem dX4_isDone_44 : decode cX4_isDone 44 = .ok (.invokevirtual 109, 3) := by decide +kernel
theorem dX4_isDone_47 : decode cX4_isDone 47 = .ok (.ireturn, 1) := by decide +kernel
theorem dX4_isDone_48 : decode cX4_isDone 48 = .ok (.aload_n 0, 1) := by decide +kernel
theorem dX4_isDone_49 : decode cX4_isDone 49 = .ok (.iload_n 2, 1) := by decide +kernel
theorem dX4_isDone_50 : decode cX4_isDone 50 = .ok (.invokevirtual 112, 3) := by decide +kernel
theorem dX4_isDone_53 : decode cX4_isDone 53 = .ok (.ireturn, 1) := by decide +kernel
theorem dX4_isDone_54 : decode cX4_isDone 54 = .ok (.aload_n 0, 1) := by decide +kernel
theorem dX4_isDone_55 : decode cX4_isDone 55 = .ok (.iload_n 2, 1) := by decide +kernel
theorem dX4_isDone_56 : decode cX4_isDone 56 = .ok (.iload_n 3, 1) := by decide +kernel
theorem dX4_isDone_57 : decode cX4_isDone 57 = .ok (.invokevirtual 115, 3) := by decide +kernel
theorem dX4_isDone_60 : decode cX4_isDone 60 = .ok (.ireturn, 1) := by decide +kernel
theorem dX4_isDone_61 : decode cX4_isDone 61 = .ok (.aload_n 0, 1) := by decide +kernel
theorem dX4_isDone_62 : decode cX4_isDone 62 = .ok (.iload_n 2, 1) := by decide +kernel
theorem dX4_isDone_63 : decode cX4_isDone 63 = .ok (.invokevirtual 119, 3) := by decide +kernel
theorem dX4_isDone_66 : decode cX4_isDone 66 = .ok (.ireturn, 1) := by decide +kernel
theorem dX4_isDone_67 : decode cX4_isDone 67 = .ok (.aload_n 0, 1) := by decide +kernel
theorem dX4_isDone_68 : decode cX4_isDone 68 = .ok (.getfield 122, 3) := by decide +kernel
theorem dX4_isDone_71 : decode cX4_isDone 71 = .ok (.iconst 0, 1) := by decide +kernel
theorem dX4_isDone_72 : decode cX4_isDone 72 = .ok (.iaload, 1) := by decide +kernel
theorem dX4_isDone_73 : decode cX4_isDone 73 = .ok (.sipush 500, 3) := by decide +kernel
theorem dX4_isDone_76 : decode cX4_isDone 76 = .ok (.if_icmp .ge 14, 3) := by decide +kernel
theorem dX4_isDone_79 : decode cX4_isDone 79 = .ok (.aload_n 0, 1) := by decide +kernel
theorem dX4_isDone_80 : decode cX4_isDone 80 = .ok (.invokevirtual 125, 3) := by decide +kernel
theorem dX4_isDone_83 : decode cX4_isDone 83 = .ok (.ifCond .eq 7, 3) := by decide +kernel
theorem dX4_isDone_86 : decode cX4_isDone 86 = .ok (.iconst 1, 1) := by decide +kernel
theorem dX4_isDone_87 : decode cX4_isDone 87 = .ok (.goto 4, 3) := by decide +kernel
theorem dX4_isDone_90 : decode cX4_isDone 90 = .ok (.iconst 0, 1) := by decide +kernel
theorem dX4_isDone_91 : decode cX4_isDone 91 = .ok (.ireturn, 1) := by decide +kernel
theorem dX5_init_0 : decode cX5_init 0 = .ok (.aload_n 0, 1) := by decide +kernel
theorem dX5_init_1 : decode cX5_init 1 = .ok (.invokespecial 1, 3) := by decide +kernel
theorem dX5_init_4 : decode cX5_init 4 = .ok (.aload_n 0, 1) := by decide +kernel
theorem dX5_init_5 : decode cX5_init 5 = .ok (.iload_n 1, 1) := by decide +kernel
theorem dX5_init_6 : decode cX5_init 6 = .ok (.putfield 7, 3) := by decide +kernel
theorem dX5_init_9 : decode cX5_init 9 = .ok (.aload_n 0, 1) := by decide +kernel
theorem dX5_init_10 : decode cX5_init 10 = .ok (.iload_n 2, 1) := by decide +kernel
theorem dX5_init_11 : decode cX5_init 11 = .ok (.putfield 13, 3) := by decide +kernel
theorem dX5_init_14 : decode cX5_init 14 = .ok (.aload_n 0, 1) := by decide +kernel
theorem dX5_init_15 : decode cX5_init 15 = .ok (.iload_n 1, 1) := by decide +kernel
theorem dX5_init_16 : decode cX5_init 16 = .ok (.iload_n 2, 1) := by decide +kernel
theorem dX5_init_17 : decode cX5_init 17 = .ok (.imul, 1) := by decide +kernel
theorem dX5_init_18 : decode cX5_init 18 = .ok (.newarray .int, 2) := by decide +kernel
theorem dX5_init_20 : decode cX5_init 20 = .ok (.putfield 16, 3) := by decide +kernel
theorem dX5_init_23 : decode cX5_init 23 = .ok (.return_, 1) := by decide +kernel
theorem dX5_isFull_0 : decode cX5_isFull 0 = .ok (.aload_n 0, 1) := by decide +kernel
theorem dX5_isFull_1 : decode cX5_isFull 1 = .ok (.getfield 20, 3) := by decide +kernel
theorem dX5_isFull_4 : decode cX5_isFull 4 = .ok (.aload_n 0, 1) := by decide +kernel
theorem dX5_isFull_5 : decode cX5_isFull 5 = .ok (.getfield 7, 3) := by decide +kernel
theorem dX5_isFull_8 : decode cX5_isFull 8 = .ok (.if_icmp .lt 7, 3) := by decide +kernel
theorem dX5_isFull_11 : decode cX5_isFull 11 = .ok (.iconst 1, 1) := by decide +kernel
theorem dX5_isFull_12 : decode cX5_isFull 12 = .ok (.goto 4, 3) := by decide +kernel
theorem dX5_isFull_15 : decode cX5_isFull 15 = .ok (.iconst 0, 1) := by decide +kernel
theorem dX5_isFull_16 : decode cX5_isFull 16 = .ok (.ireturn, 1) := by decide +kernel
theorem dX5_push_0 : decode cX5_push 0 = .ok (.aload_n 0, 1) := by decide +kernel
theorem dX5_push_1 : decode cX5_push 1 = .ok (.getfield 20, 3) := by decide +kernel
theorem dX5_push_4 : decode cX5_push 4 = .ok (.aload_n 0, 1) := by decide +kernel
theorem dX5_push_5 : decode cX5_push 5 = .ok (.getfield 7, 3) := by decide +kernel
theorem dX5_push_8 : decode cX5_push 8 = .ok (.if_icmp .ge 44, 3) := by decide +kernel
theorem dX5_push_11 : decode cX5_push 11 = .ok (.aload_n 1, 1) := by decide +kernel
theorem dX5_push_12 : decode cX5_push 12 = .ok (.arraylength, 1) := by decide +kernel
theorem dX5_push_13 : decode cX5_push 13 = .ok (.aload_n 0, 1) := by decide +kernel
theorem dX5_push_14 : decode cX5_push 14 = .ok (.getfield 13, 3) := by decide +kernel
theorem dX5_push_17 : decode cX5_push 17 = .ok (.if_icmp .ne 35, 3) := by decide +kernel
theorem dX5_push_20 : decode cX5_push 20 = .ok (.aload_n 1, 1) := by decide +kernel
theorem dX5_push_21 : decode cX5_push 21 = .ok (.iconst 0, 1) := by decide +kernel
theorem dX5_push_22 : decode cX5_push 22 = .ok (.aload_n 0, 1) := by decide +kernel
theorem dX5_push_23 : decode cX5_push 23 = .ok (.getfield 16, 3) := by decide +kernel
theorem dX5_push_26 : decode cX5_push 26 = .ok (.aload_n 0, 1) := by decide +kernel
theorem dX5_push_27 : decode cX5_push 27 = .ok (.getfield 20, 3) := by decide +kernel
theorem dX5_push_30 : decode cX5_push 30 = .ok (.aload_n 0, 1) := by decide +kernel
theorem dX5_push_31 : decode cX5_push 31 = .ok (.getfield 13, 3) := by decide +kernel
theorem dX5_push_34 : decode cX5_push 34 = .ok (.imul, 1) := by decide +kernel
theorem dX5_push_35 : decode cX5_push 35 = .ok (.aload_n 0, 1) := by decide +kernel
theorem dX5_push_36 : decode cX5_push 36 = .ok (.getfield 13, 3) := by decide +kernel
theorem dX5_push_39 : decode cX5_push 39 = .ok (.invokestatic 23, 3) := by decide +kernel
theorem dX5_push_42 : decode cX5_push 42 = .ok (.aload_n 0, 1) := by decide +kernel
theorem dX5_push_43 : decode cX5_push 43 = .ok (.dup, 1) := by decide +kernel
theorem dX5_push_44 : decode cX5_push 44 = .ok (.getfield 20, 3) := by decide +kernel
theorem dX5_push_47 : decode cX5_push 47 = .ok (.iconst 1, 1) := by decide +kernel
theorem dX5_push_48 : decode cX5_push 48 = .ok (.iadd, 1) := by decide +kernel
theorem dX5_push_49 : decode cX5_push 49 = .ok (.putfield 20, 3) := by decide +kernel
theorem dX5_push_52 : decode cX5_push 52 = .ok (.return_, 1) := by decide +kernel
theorem dX5_pop_0 : decode cX5_pop 0 = .ok (.aload_n 0, 1) := by decide +kernel
theorem dX5_pop_1 : decode cX5_pop 1 = .ok (.getfield 20, 3) := by decide +kernel
theorem dX5_pop_4 : decode cX5_pop 4 = .ok (.ifCond .le 44, 3) := by decide +kernel
theorem dX5_pop_7 : decode cX5_pop 7 = .ok (.aload_n 1, 1) := by decide +kernel
theorem dX5_pop_8 : decode cX5_pop 8 = .ok (.arraylength, 1) := by decide +kernel
theorem dX5_pop_9 : decode cX5_pop 9 = .ok (.aload_n 0, 1) := by decide +kernel
theorem dX5_pop_10 : decode cX5_pop 10 = .ok (.getfield 13, 3) := by decide +kernel
theorem dX5_pop_13 : decode cX5_pop 13 = .ok (.if_icmp .ne 35, 3) := by decide +kernel
theorem dX5_pop_16 : decode cX5_pop 16 = .ok (.aload_n 0, 1) := by decide +kernel
theorem dX5_pop_17 : decode cX5_pop 17 = .ok (.dup, 1) := by decide +kernel
theorem dX5_pop_18 : decode cX5_pop 18 = .ok (.getfield 20, 3) := by decide +kernel
theorem dX5_pop_21 : decode cX5_pop 21 = .ok (.iconst 1, 1) := by decide +kernel
theorem dX5_pop_22 : decode cX5_pop 22 = .ok (.isub, 1) := by decide +kernel
theorem dX5_pop_23 : decode cX5_pop 23 = .ok (.putfield 20, 3) := by decide +kernel
theorem dX5_pop_26 : decode cX5_pop 26 = .ok (.aload_n 0, 1) := by decide +kernel
theorem dX5_pop_27 : decode cX5_pop 27 = .ok (.getfield 16, 3) := by decide +kernel
theorem dX5_pop_30 : decode cX5_pop 30 = .ok (.aload_n 0, 1) := by decide +kernel
theorem dX5_pop_31 : decode cX5_pop 31 = .ok (.getfield 20, 3) := by decide +kernel
theorem dX5_pop_34 : decode cX5_pop 34 = .ok (.aload_n 0, 1) := by decide +kernel
theorem dX5_pop_35 : decode cX5_pop 35 = .ok (.getfield 13, 3) := by decide +kernel
theorem dX5_pop_38 : decode cX5_pop 38 = .ok (.imul, 1) := by decide +kernel
theorem dX5_pop_39 : decode cX5_pop 39 = .ok (.aload_n 1, 1) := by decide +kernel
theorem dX5_pop_40 : decode cX5_pop 40 = .ok (.iconst 0, 1) := by decide +kernel
theorem dX5_pop_41 : decode cX5_pop 41 = .ok (.aload_n 0, 1) := by decide +kernel
theorem dX5_pop_42 : decode cX5_pop 42 = .ok (.getfield 13, 3) := by decide +kernel
theorem dX5_pop_45 : decode cX5_pop 45 = .ok (.invokestatic 23, 3) := by decide +kernel
theorem dX5_pop_48 : decode cX5_pop 48 = .ok (.return_, 1) := by decide +kernel
theorem dX5_copyOf_0 : decode cX5_copyOf 0 = .ok (.aload_n 1, 1) := by decide +kernel
theorem dX5_copyOf_1 : decode cX5_copyOf 1 = .ok (.getfield 13, 3) := by decide +kernel
theorem dX5_copyOf_4 : decode cX5_copyOf 4 = .ok (.aload_n 0, 1) := by decide +kernel
theorem dX5_copyOf_5 : decode cX5_copyOf 5 = .ok (.getfield 13, 3) := by decide +kernel
theorem dX5_copyOf_8 : decode cX5_copyOf 8 = .ok (.if_icmp .ne 44, 3) := by decide +kernel
theorem dX5_copyOf_11 : decode cX5_copyOf 11 = .ok (.aload_n 1, 1) := by decide +kernel
theorem dX5_copyOf_12 : decode cX5_copyOf 12 = .ok (.getfield 20, 3) := by decide +kernel
theorem dX5_copyOf_15 : decode cX5_copyOf 15 = .ok (.aload_n 0, 1) := by decide +kernel
theorem dX5_copyOf_16 : decode cX5_copyOf 16 = .ok (.getfield 7, 3) := by decide +kernel
theorem dX5_copyOf_19 : decode cX5_copyOf 19 = .ok (.if_icmp .gt 33, 3) := by decide +kernel
theorem dX5_copyOf_22 : decode cX5_copyOf 22 = .ok (.aload_n 1, 1) := by decide +kernel
theorem dX5_copyOf_23 : decode cX5_copyOf 23 = .ok (.getfield 16, 3) := by decide +kernel
theorem dX5_copyOf_26 : decode cX5_copyOf 26 = .ok (.iconst 0, 1) := by decide +kernel
theorem dX5_copyOf_27 : decode cX5_copyOf 27 = .ok (.aload_n 0, 1) := by decide +kernel
theorem dX5_copyOf_28 : decode cX5_copyOf 28 = .ok (.getfield 16, 3) := by decide +kernel
theorem dX5_copyOf_31 : decode cX5_copyOf 31 = .ok (.iconst 0, 1) := by decide +kernel
theorem dX5_copyOf_32 : decode cX5_copyOf 32 = .ok (.aload_n 1, 1) := by decide +kernel
theorem dX5_copyOf_33 : decode cX5_copyOf 33 = .ok (.getfield 20, 3) := by decide +kernel
theorem dX5_copyOf_36 : decode cX5_copyOf 36 = .ok (.aload_n 0, 1) := by decide +kernel
theorem dX5_copyOf_37 : decode cX5_copyOf 37 = .ok (.getfield 13, 3) := by decide +kernel
theorem dX5_copyOf_40 : decode cX5_copyOf 40 = .ok (.imul, 1) := by decide +kernel
theorem dX5_copyOf_41 : decode cX5_copyOf 41 = .ok (.invokestatic 23, 3) := by decide +kernel
theorem dX5_copyOf_44 : decode cX5_copyOf 44 = .ok (.aload_n 0, 1) := by decide +kernel
theorem dX5_copyOf_45 : decode cX5_copyOf 45 = .ok (.aload_n 1, 1) := by decide +kernel
theorem dX5_copyOf_46 : decode cX5_copyOf 46 = .ok (.getfield 20, 3) := by decide +kernel
theorem dX5_copyOf_49 : decode cX5_copyOf 49 = .ok (.putfield 20, 3) := by decide +kernel
theorem dX5_copyOf_52 : decode cX5_copyOf 52 = .ok (.return_, 1) := by decide +kernel
theorem dX6_init_0 : decode cX6_init 0 = .ok (.aload_n 0, 1) := by decide +kernel
theorem dX6_init_1 : decode cX6_init 1 = .ok (.invokespecial 3, 3) := by decide +kernel
theorem dX6_init_4 : decode cX6_init 4 = .ok (.aload_n 0, 1) := by decide +kernel
theorem dX6_init_5 : decode cX6_init 5 = .ok (.bipush 10, 2) := by decide +kernel
theorem dX6_init_7 : decode cX6_init 7 = .ok (.newarray .int, 2) := by decide +kernel
theorem dX6_init_9 : decode cX6_init 9 = .ok (.putfield 9, 3) := by decide +kernel
theorem dX6_init_12 : decode cX6_init 12 = .ok (.aload_n 0, 1) := by decide +kernel
theorem dX6_init_13 : decode cX6_init 13 = .ok (.invokevirtual 15, 3) := by decide +kernel
theorem dX6_init_16 : decode cX6_init 16 = .ok (.return_, 1) := by decide +kernel
theorem dX6_clear_0 : decode cX6_clear 0 = .ok (.aload_n 0, 1) := by decide +kernel
theorem dX6_clear_1 : decode cX6_clear 1 = .ok (.iconst 0, 1) := by decide +kernel
theorem dX6_clear_2 : decode cX6_clear 2 = .ok (.putfield 18, 3) := by decide +kernel
theorem dX6_clear_5 : decode cX6_clear 5 = .ok (.iconst 0, 1) := by decide +kernel
theorem dX6_clear_6 : decode cX6_clear 6 = .ok (.istore_n 1, 1) := by decide +kernel
theorem dX6_clear_7 : decode cX6_clear 7 = .ok (.iload_n 1, 1) := by decide +kernel
theorem dX6_clear_8 : decode cX6_clear 8 = .ok (.aload_n 0, 1) := by decide +kernel
theorem dX6_clear_9 : decode cX6_clear 9 = .ok (.getfield 9, 3) := by decide +kernel
theorem dX6_clear_12 : decode cX6_clear 12 = .ok (.arraylength, 1) := by decide +kernel
theorem dX6_clear_13 : decode cX6_clear 13 = .ok (.if_icmp .ge 16, 3) := by decide +kernel
theorem dX6_clear_16 : decode cX6_clear 16 = .ok (.aload_n 0, 1) := by decide +kernel
theorem dX6_clear_17 : decode cX6_clear 17 = .ok (.getfield 9, 3) := by decide +kernel
theorem dX6_clear_20 : decode cX6_clear 20 = .ok (.iload_n 1, 1) := by decide +kernel
theorem dX6_clear_21 : decode cX6_clear 21 = .ok (.iconst (-1), 1) := by decide +kernel
theorem dX6_clear_22 : decode cX6_clear 22 = .ok (.iastore, 1) := by decide +kernel
theorem dX6_clear_23 : decode cX6_clear 23 = .ok (.iinc 1 1, 3) := by decide +kernel
theorem dX6_clear_26 : decode cX6_clear 26 = .ok (.goto (-19), 3) := by decide +kernel
theorem dX6_clear_29 : decode cX6_clear 29 = .ok (.return_, 1) := by decide +kernel
theorem dX6_read_0 : decode cX6_read 0 = .ok (.aload_n 0, 1) := by decide +kernel
theorem dX6_read_1 : decode cX6_read 1 = .ok (.invokevirtual 15, 3) := by decide +kernel
theorem dX6_read_4 : decode cX6_read 4 = .ok (.iconst 0, 1) := by decide +kernel
theorem dX6_read_5 : decode cX6_read 5 = .ok (.istore_n 3, 1) := by decide +kernel
theorem dX6_read_6 : decode cX6_read 6 = .ok (.iload_n 3, 1) := by decide +kernel
theorem dX6_read_7 : decode cX6_read 7 = .ok (.bipush 60, 2) := by decide +kernel
theorem dX6_read_9 : decode cX6_read 9 = .ok (.if_icmp .ge 30, 3) := by decide +kernel
theorem dX6_read_12 : decode cX6_read 12 = .ok (.aload_n 1, 1) := by decide +kernel
theorem dX6_read_13 : decode cX6_read 13 = .ok (.invokevirtual 22, 3) := by decide +kernel
theorem dX6_read_16 : decode cX6_read 16 = .ok (.ifCond .eq 23, 3) := by decide +kernel
theorem dX6_read_19 : decode cX6_read 19 = .ok (.aload_n 1, 1) := by decide +kernel
theorem dX6_read_20 : decode cX6_read 20 = .ok (.invokevirtual 28, 3) := by decide +kernel
theorem dX6_read_23 : decode cX6_read 23 = .ok (.iconst (-1), 1) := by decide +kernel
theorem dX6_read_24 : decode cX6_read 24 = .ok (.if_icmp .eq 15, 3) := by decide +kernel
theorem dX6_read_27 : decode cX6_read 27 = .ok (.aload_n 0, 1) := by decide +kernel
theorem dX6_read_28 : decode cX6_read 28 = .ok (.aload_n 1, 1) := by decide +kernel
theorem dX6_read_29 : decode cX6_read 29 = .ok (.aload_n 2, 1) := by decide +kernel
theorem dX6_read_30 : decode cX6_read 30 = .ok (.invokevirtual 32, 3) := by decide +kernel
theorem dX6_read_33 : decode cX6_read 33 = .ok (.iinc 3 1, 3) := by decide +kernel
theorem dX6_read_36 : decode cX6_read 36 = .ok (.goto (-30), 3) := by decide +kernel
theorem dX6_read_39 : decode cX6_read 39 = .ok (.return_, 1) := by decide +kernel
theorem dX6_readLine_0 : decode cX6_readLine 0 = .ok (.aload_n 1, 1) := by decide +kernel
theorem dX6_readLine_1 : decode cX6_readLine 1 = .ok (.iconst 0, 1) := by decide +kernel
theorem dX6_readLine_2 : decode cX6_readLine 2 = .ok (.aload_n 2, 1) := by decide +kernel
theorem dX6_readLine_3 : decode cX6_readLine 3 = .ok (.getfield 36, 3) := by decide +kernel
theorem dX6_readLine_6 : decode cX6_readLine 6 = .ok (.iconst 1, 1) := by decide +kernel
theorem dX6_readLine_7 : decode cX6_readLine 7 = .ok (.isub, 1) := by decide +kernel
theorem dX6_readLine_8 : decode cX6_readLine 8 = .ok (.invokevirtual 41, 3) := by decide +kernel
theorem dX6_readLine_11 : decode cX6_readLine 11 = .ok (.istore_n 3, 1) := by decide +kernel
theorem dX6_readLine_12 : decode cX6_readLine 12 = .ok (.aload_n 2, 1) := by decide +kernel
theorem dX6_readLine_13 : decode cX6_readLine 13 = .ok (.iload_n 3, 1) := by decide +kernel
theorem dX6_readLine_14 : decode cX6_readLine 14 = .ok (.invokevirtual 45, 3) := by decide +kernel
theorem dX6_readLine_17 : decode cX6_readLine 17 = .ok (.ifCond .ne 4, 3) := by decide +kernel
theorem dX6_readLine_20 : decode cX6_readLine 20 = .ok (.return_, 1) := by decide +kernel
theorem dX6_readLine_21 : decode cX6_readLine 21 = .ok (.aload_n 0, 1) := by decide +kernel
theorem dX6_readLine_22 : decode cX6_readLine 22 = .ok (.getfield 9, 3) := by decide +kernel
theorem dX6_readLine_25 : decode cX6_readLine 25 = .ok (.iload_n 3, 1) := by decide +kernel
theorem dX6_readLine_26 : decode cX6_readLine 26 = .ok (.iaload, 1) := by decide +kernel
theorem dX6_readLine_27 : decode cX6_readLine 27 = .ok (.iconst (-1), 1) := by decide +kernel
theorem dX6_readLine_28 : decode cX6_readLine 28 = .ok (.if_icmp .eq 12, 3) := by decide +kernel
theorem dX6_readLine_31 : decode cX6_readLine 31 = .ok (.aload_n 1, 1) := by decide +kernel
theorem dX6_readLine_32 : decode cX6_readLine 32 = .ok (.iconst 2, 1) := by decide +kernel
theorem dX6_readLine_33 : decode cX6_readLine 33 = .ok (.aload_n 1, 1) := by decide +kernel
theorem dX6_readLine_34 : decode cX6_readLine 34 = .ok (.getfield 49, 3) := by decide +kernel
theorem dX6_readLine_37 : decode cX6_readLine 37 = .ok (.invokevirtual 52, 3) := by decide +kernel
theorem dX6_readLine_40 : decode cX6_readLine 40 = .ok (.aload_n 0, 1) := by decide +kernel
theorem dX6_readLine_41 : decode cX6_readLine 41 = .ok (.getfield 9, 3) := by decide +kernel
theorem dX6_readLine_44 : decode cX6_readLine 44 = .ok (.iload_n 3, 1) := by decide +kernel
theorem dX6_readLine_45 : decode cX6_readLine 45 = .ok (.aload_n 1, 1) := by decide +kernel
theorem dX6_readLine_46 : decode cX6_readLine 46 = .ok (.iconst 0, 1) := by decide +kernel
theorem dX6_readLine_47 : decode cX6_readLine 47 = .ok (.bipush 99, 2) := by decide +kernel
theorem dX6_readLine_49 : decode cX6_readLine 49 = .ok (.invokevirtual 41, 3) := by decide +kernel
theorem dX6_readLine_52 : decode cX6_readLine 52 = .ok (.iastore, 1) := by decide +kernel
theorem dX6_readLine_53 : decode cX6_readLine 53 = .ok (.aload_n 0, 1) := by decide +kernel
theorem dX6_readLine_54 : decode cX6_readLine 54 = .ok (.dup, 1) := by decide +kernel
theorem dX6_readLine_55 : decode cX6_readLine 55 = .ok (.getfield 18, 3) := by decide +kernel
theorem dX6_readLine_58 : decode cX6_readLine 58 = .ok (.iconst 1, 1) := by decide +kernel
theorem dX6_readLine_59 : decode cX6_readLine 59 = .ok (.iadd, 1) := by decide +kernel
theorem dX6_readLine_60 : decode cX6_readLine 60 = .ok (.putfield 18, 3) := by decide +kernel
theorem dX6_readLine_63 : decode cX6_readLine 63 = .ok (.aload_n 1, 1) := by decide +kernel
theorem dX6_readLine_64 : decode cX6_readLine 64 = .ok (.bipush 59, 2) := by decide +kernel
theorem dX6_readLine_66 : decode cX6_readLine 66 = .ok (.invokevirtual 56, 3) := by decide +kernel
theorem dX6_readLine_69 : decode cX6_readLine 69 = .ok (.return_, 1) := by decide +kernel
theorem dX7_init_0 : decode cX7_init 0 = .ok (.aload_n 0, 1) := by decide +kernel
theorem dX7_init_1 : decode cX7_init 1 = .ok (.invokespecial 3, 3) := by decide +kernel
theorem dX7_init_4 : decode cX7_init 4 = .ok (.return_, 1) := by decide +kernel
theorem dX7_weigh_0 : decode cX7_weigh 0 = .ok (.aload_n 0, 1) := by decide +kernel
theorem dX7_weigh_1 : decode cX7_weigh 1 = .ok (.iconst 1, 1) := by decide +kernel
theorem dX7_weigh_2 : decode cX7_weigh 2 = .ok (.aload_n 1, 1) := by decide +kernel
theorem dX7_weigh_3 : decode cX7_weigh 3 = .ok (.getfield 9, 3) := by decide +kernel
theorem dX7_weigh_6 : decode cX7_weigh 6 = .ok (.getfield 15, 3) := by decide +kernel
theorem dX7_weigh_9 : decode cX7_weigh 9 = .ok (.ishl, 1) := by decide +kernel
theorem dX7_weigh_10 : decode cX7_weigh 10 = .ok (.iconst 1, 1) := by decide +kernel
theorem dX7_weigh_11 : decode cX7_weigh 11 = .ok (.isub, 1) := by decide +kernel
theorem dX7_weigh_12 : decode cX7_weigh 12 = .ok (.putfield 21, 3) := by decide +kernel
theorem dX7_weigh_15 : decode cX7_weigh 15 = .ok (.aload_n 0, 1) := by decide +kernel
theorem dX7_weigh_16 : decode cX7_weigh 16 = .ok (.aload_n 1, 1) := by decide +kernel
theorem dX7_weigh_17 : decode cX7_weigh 17 = .ok (.invokevirtual 26, 3) := by decide +kernel
theorem dX7_weigh_20 : decode cX7_weigh 20 = .ok (.putfield 30, 3) := by decide +kernel
theorem dX7_weigh_23 : decode cX7_weigh 23 = .ok (.aload_n 0, 1) := by decide +kernel
theorem dX7_weigh_24 : decode cX7_weigh 24 = .ok (.aload_n 0, 1) := by decide +kernel
theorem dX7_weigh_25 : decode cX7_weigh 25 = .ok (.getfield 21, 3) := by decide +kernel
theorem dX7_weigh_28 : decode cX7_weigh 28 = .ok (.putfield 33, 3) := by decide +kernel
theorem dX7_weigh_31 : decode cX7_weigh 31 = .ok (.iconst 0, 1) := by decide +kernel
theorem dX7_weigh_32 : decode cX7_weigh 32 = .ok (.istore_n 3, 1) := by decide +kernel
theorem dX7_weigh_33 : decode cX7_weigh 33 = .ok (.iload_n 3, 1) := by decide +kernel
theorem dX7_weigh_34 : decode cX7_weigh 34 = .ok (.aload_n 1, 1) := by decide +kernel
theorem dX7_weigh_35 : decode cX7_weigh 35 = .ok (.getfield 9, 3) := by decide +kernel
theorem dX7_weigh_38 : decode cX7_weigh 38 = .ok (.getfield 36, 3) := by decide +kernel
theorem dX7_weigh_41 : decode cX7_weigh 41 = .ok (.if_icmp .ge 87, 3) := by decide +kernel
theorem dX7_weigh_44 : decode cX7_weigh 44 = .ok (.aload_n 2, 1) := by decide +kernel
theorem dX7_weigh_45 : decode cX7_weigh 45 = .ok (.getfield 39, 3) := by decide +kernel
theorem dX7_weigh_48 : decode cX7_weigh 48 = .ok (.iload_n 3, 1) := by decide +kernel
theorem dX7_weigh_49 : decode cX7_weigh 49 = .ok (.iaload, 1) := by decide +kernel
theorem dX7_weigh_50 : decode cX7_weigh 50 = .ok (.iconst (-1), 1) := by decide +kernel
theorem dX7_weigh_51 : decode cX7_weigh 51 = .ok (.if_icmp .eq 71, 3) := by decide +kernel
theorem dX7_weigh_54 : decode cX7_weigh 54 = .ok (.iconst 1, 1) := by decide +kernel
theorem dX7_weigh_55 : decode cX7_weigh 55 = .ok (.aload_n 1, 1) := by decide +kernel
theorem dX7_weigh_56 : decode cX7_weigh 56 = .ok (.getfield 9, 3) := by decide +kernel
theorem dX7_weigh_59 : decode cX7_weigh 59 = .ok (.getfield 45, 3) := by decide +kernel
theorem dX7_weigh_62 : decode cX7_weigh 62 = .ok (.iload_n 3, 1) := by decide +kernel
theorem dX7_weigh_63 : decode cX7_weigh 63 = .ok (.iaload, 1) := by decide +kernel
theorem dX7_weigh_64 : decode cX7_weigh 64 = .ok (.ishl, 1) := by decide +kernel
theorem dX7_weigh_65 : decode cX7_weigh 65 = .ok (.istore 4, 2) := by decide +kernel
theorem dX7_weigh_67 : decode cX7_weigh 67 = .ok (.aload_n 1, 1) := by decide +kernel
theorem dX7_weigh_68 : decode cX7_weigh 68 = .ok (.iload_n 3, 1) := by decide +kernel
theorem dX7_weigh_69 : decode cX7_weigh 69 = .ok (.invokevirtual 48, 3) := by decide +kernel
theorem dX7_weigh_72 : decode cX7_weigh 72 = .ok (.aload_n 2, 1) := by decide +kernel
theorem dX7_weigh_73 : decode cX7_weigh 73 = .ok (.getfield 39, 3) := by decide +kernel
theorem dX7_weigh_76 : decode cX7_weigh 76 = .ok (.iload_n 3, 1) := by decide +kernel
theorem dX7_weigh_77 : decode cX7_weigh 77 = .ok (.iaload, 1) := by decide +kernel
theorem dX7_weigh_78 : decode cX7_weigh 78 = .ok (.if_icmp .eq 16, 3) := by decide +kernel
theorem dX7_weigh_81 : decode cX7_weigh 81 = .ok (.aload_n 0, 1) := by decide +kernel
theorem dX7_weigh_82 : decode cX7_weigh 82 = .ok (.dup, 1) := by decide +kernel
theorem dX7_weigh_83 : decode cX7_weigh 83 = .ok (.getfield 33, 3) := by decide +kernel
theorem dX7_weigh_86 : decode cX7_weigh 86 = .ok (.iload 4, 2) := by decide +kernel
theorem dX7_weigh_88 : decode cX7_weigh 88 = .ok (.iconst (-1), 1) := by decide +kernel
theorem dX7_weigh_89 : decode cX7_weigh 89 = .ok (.ixor, 1) := by decide +kernel
theorem dX7_weigh_90 : decode cX7_weigh 90 = .ok (.iand, 1) := by decide +kernel
theorem dX7_weigh_91 : decode cX7_weigh 91 = .ok (.putfield 33, 3) := by decide +kernel
theorem dX7_weigh_94 : decode cX7_weigh 94 = .ok (.aload_n 1, 1) := by decide +kernel
theorem dX7_weigh_95 : decode cX7_weigh 95 = .ok (.iload_n 3, 1) := by decide +kernel
theorem dX7_weigh_96 : decode cX7_weigh 96 = .ok (.iconst 0, 1) := by decide +kernel
theorem dX7_weigh_97 : decode cX7_weigh 97 = .ok (.invokevirtual 52, 3) := by decide +kernel
theorem dX7_weigh_100 : decode cX7_weigh 100 = .ok (.aload_n 2, 1) := by decide +kernel
theorem dX7_weigh_101 : decode cX7_weigh 101 = .ok (.getfield 39, 3) := by decide +kernel
theorem dX7_weigh_104 : decode cX7_weigh 104 = .ok (.iload_n 3, 1) := by decide +kernel
theorem dX7_weigh_105 : decode cX7_weigh 105 = .ok (.iaload, 1) := by decide +kernel
theorem dX7_weigh_106 : decode cX7_weigh 106 = .ok (.if_icmp .eq 16, 3) := by decide +kernel
theorem dX7_weigh_109 : decode cX7_weigh 109 = .ok (.aload_n 0, 1) := by decide +kernel
theorem dX7_weigh_110 : decode cX7_weigh 110 = .ok (.dup, 1) := by decide +kernel
theorem dX7_weigh_111 : decode cX7_weigh 111 = .ok (.getfield 30, 3) := by decide +kernel
theorem dX7_weigh_114 : decode cX7_weigh 114 = .ok (.iload 4, 2) := by decide +kernel
theorem dX7_weigh_116 : decode cX7_weigh 116 = .ok (.iconst (-1), 1) := by decide +kernel
theorem dX7_weigh_117 : decode cX7_weigh 117 = .ok (.ixor, 1) := by decide +kernel
theorem dX7_weigh_118 : decode cX7_weigh 118 = .ok (.iand, 1) := by decide +kernel
theorem dX7_weigh_119 : decode cX7_weigh 119 = .ok (.putfield 30, 3) := by decide +kernel
theorem dX7_weigh_122 : decode cX7_weigh 122 = .ok (.iinc 3 1, 3) := by decide +kernel
theorem dX7_weigh_125 : decode cX7_weigh 125 = .ok (.goto (-92), 3) := by decide +kernel
theorem dX7_weigh_128 : decode cX7_weigh 128 = .ok (.return_, 1) := by decide +kernel
theorem dX7_isPossible_0 : decode cX7_isPossible 0 = .ok (.iload_n 1, 1) := by decide +kernel
theorem dX7_isPossible_1 : decode cX7_isPossible 1 = .ok (.aload_n 0, 1) := by decide +kernel
theorem dX7_isPossible_2 : decode cX7_isPossible 2 = .ok (.getfield 30, 3) := by decide +kernel
theorem dX7_isPossible_5 : decode cX7_isPossible 5 = .ok (.iconst (-1), 1) := by decide +kernel
theorem dX7_isPossible_6 : decode cX7_isPossible 6 = .ok (.ixor, 1) := by decide +kernel
theorem dX7_isPossible_7 : decode cX7_isPossible 7 = .ok (.iand, 1) := by decide +kernel
theorem dX7_isPossible_8 : decode cX7_isPossible 8 = .ok (.ifCond .ne 25, 3) := by decide +kernel
theorem dX7_isPossible_11 : decode cX7_isPossible 11 = .ok (.aload_n 0, 1) := by decide +kernel
theorem dX7_isPossible_12 : decode cX7_isPossible 12 = .ok (.getfield 21, 3) := by decide +kernel
theorem dX7_isPossible_15 : decode cX7_isPossible 15 = .ok (.iload_n 1, 1) := by decide +kernel
theorem dX7_isPossible_16 : decode cX7_isPossible 16 = .ok (.iconst (-1), 1) := by decide +kernel
theorem dX7_isPossible_17 : decode cX7_isPossible 17 = .ok (.ixor, 1) := by decide +kernel
theorem dX7_isPossible_18 : decode cX7_isPossible 18 = .ok (.iand, 1) := by decide +kernel
theorem dX7_isPossible_19 : decode cX7_isPossible 19 = .ok (.aload_n 0, 1) := by decide +kernel
theorem dX7_isPossible_20 : decode cX7_isPossible 20 = .ok (.getfield 33, 3) := by decide +kernel
theorem dX7_isPossible_23 : decode cX7_isPossible 23 = .ok (.iconst (-1), 1) := by decide +kernel
theorem dX7_isPossible_24 : decode cX7_isPossible 24 = .ok (.ixor, 1) := by decide +kernel
theorem dX7_isPossible_25 : decode cX7_isPossible 25 = .ok (.iand, 1) := by decide +kernel
theorem dX7_isPossible_26 : decode cX7_isPossible 26 = .ok (.ifCond .ne 7, 3) := by decide +kernel
theorem dX7_isPossible_29 : decode cX7_isPossible 29 = .ok (.iconst 1, 1) := by decide +kernel
theorem dX7_isPossible_30 : decode cX7_isPossible 30 = .ok (.goto 4, 3) := by decide +kernel
theorem dX7_isPossible_33 : decode cX7_isPossible 33 = .ok (.iconst 0, 1) := by decide +kernel
theorem dX7_isPossible_34 : decode cX7_isPossible 34 = .ok (.ireturn, 1) := by decide +kernel
theorem dX7_sets_0 : decode cX7_sets 0 = .ok (.iconst 0, 1) := by decide +kernel
theorem dX7_sets_1 : decode cX7_sets 1 = .ok (.istore_n 3, 1) := by decide +kernel
theorem dX7_sets_2 : decode cX7_sets 2 = .ok (.iconst 0, 1) := by decide +kernel
theorem dX7_sets_3 : decode cX7_sets 3 = .ok (.istore 4, 2) := by decide +kernel
theorem dX7_sets_5 : decode cX7_sets 5 = .ok (.iload 4, 2) := by decide +kernel
theorem dX7_sets_7 : decode cX7_sets 7 = .ok (.aload_n 0, 1) := by decide +kernel
theorem dX7_sets_8 : decode cX7_sets 8 = .ok (.getfield 21, 3) := by decide +kernel
theorem dX7_sets_11 : decode cX7_sets 11 = .ok (.if_icmp .gt 36, 3) := by decide +kernel
theorem dX7_sets_14 : decode cX7_sets 14 = .ok (.aload_n 0, 1) := by decide +kernel
theorem dX7_sets_15 : decode cX7_sets 15 = .ok (.iload 4, 2) := by decide +kernel
theorem dX7_sets_17 : decode cX7_sets 17 = .ok (.invokevirtual 56, 3) := by decide +kernel
theorem dX7_sets_20 : decode cX7_sets 20 = .ok (.ifCond .eq 21, 3) := by decide +kernel
theorem dX7_sets_23 : decode cX7_sets 23 = .ok (.iload 4, 2) := by decide +kernel
theorem dX7_sets_25 : decode cX7_sets 25 = .ok (.iload_n 1, 1) := by decide +kernel
theorem dX7_sets_26 : decode cX7_sets 26 = .ok (.iand, 1) := by decide +kernel
theorem dX7_sets_27 : decode cX7_sets 27 = .ok (.iload_n 1, 1) := by decide +kernel
theorem dX7_sets_28 : decode cX7_sets 28 = .ok (.if_icmp .ne 13, 3) := by decide +kernel
theorem dX7_sets_31 : decode cX7_sets 31 = .ok (.iload 4, 2) := by decide +kernel
theorem dX7_sets_33 : decode cX7_sets 33 = .ok (.iload_n 2, 1) := by decide +kernel
theorem dX7_sets_34 : decode cX7_sets 34 = .ok (.iand, 1) := by decide +kernel
theorem dX7_sets_35 : decode cX7_sets 35 = .ok (.ifCond .ne 6, 3) := by decide +kernel
theorem dX7_sets_38 : decode cX7_sets 38 = .ok (.iinc 3 1, 3) := by decide +kernel
theorem dX7_sets_41 : decode cX7_sets 41 = .ok (.iinc 4 1, 3) := by decide +kernel
theorem dX7_sets_44 : decode cX7_sets 44 = .ok (.goto (-39), 3) := by decide +kernel
theorem dX7_sets_47 : decode cX7_sets 47 = .ok (.iload_n 3, 1) := by decide +kernel
theorem dX7_sets_48 : decode cX7_sets 48 = .ok (.ireturn, 1) := by decide +kernel
theorem dX7_firstSet_0 : decode cX7_firstSet 0 = .ok (.iconst 0, 1) := by decide +kernel
theorem dX7_firstSet_1 : decode cX7_firstSet 1 = .ok (.istore_n 1, 1) := by decide +kernel
theorem dX7_firstSet_2 : decode cX7_firstSet 2 = .ok (.iload_n 1, 1) := by decide +kernel
theorem dX7_firstSet_3 : decode cX7_firstSet 3 = .ok (.aload_n 0, 1) := by decide +kernel
theorem dX7_firstSet_4 : decode cX7_firstSet 4 = .ok (.getfield 21, 3) := by decide +kernel
theorem dX7_firstSet_7 : decode cX7_firstSet 7 = .ok (.if_icmp .gt 19, 3) := by decide +kernel
theorem dX7_firstSet_10 : decode cX7_firstSet 10 = .ok (.aload_n 0, 1) := by decide +kernel
theorem dX7_firstSet_11 : decode cX7_firstSet 11 = .ok (.iload_n 1, 1) := by decide +kernel
theorem dX7_firstSet_12 : decode cX7_firstSet 12 = .ok (.invokevirtual 56, 3) := by decide +kernel
theorem dX7_firstSet_15 : decode cX7_firstSet 15 = .ok (.ifCond .eq 5, 3) := by decide +kernel
theorem dX7_firstSet_18 : decode cX7_firstSet 18 = .ok (.iload_n 1, 1) := by decide +kernel
theorem dX7_firstSet_19 : decode cX7_firstSet 19 = .ok (.ireturn, 1) := by decide +kernel
theorem dX7_firstSet_20 : decode cX7_firstSet 20 = .ok (.iinc 1 1, 3) := by decide +kernel
theorem dX7_firstSet_23 : decode cX7_firstSet 23 = .ok (.goto (-21), 3) := by decide +kernel
theorem dX7_firstSet_26 : decode cX7_firstSet 26 = .ok (.iconst (-1), 1) := by decide +kernel
theorem dX7_firstSet_27 : decode cX7_firstSet 27 = .ok (.ireturn, 1) := by decide +kernel
theorem dX7_sureOnes_0 : decode cX7_sureOnes 0 = .ok (.aload_n 0, 1) := by decide +kernel
theorem dX7_sureOnes_1 : decode cX7_sureOnes 1 = .ok (.invokevirtual 60, 3) := by decide +kernel
theorem dX7_sureOnes_4 : decode cX7_sureOnes 4 = .ok (.istore_n 1, 1) := by decide +kernel
theorem dX7_sureOnes_5 : decode cX7_sureOnes 5 = .ok (.iload_n 1, 1) := by decide +kernel
theorem dX7_sureOnes_6 : decode cX7_sureOnes 6 = .ok (.iconst (-1), 1) := by decide +kernel
theorem dX7_sureOnes_7 : decode cX7_sureOnes 7 = .ok (.if_icmp .ne 7, 3) := by decide +kernel
theorem dX7_sureOnes_10 : decode cX7_sureOnes 10 = .ok (.iconst 0, 1) := by decide +kernel
theorem dX7_sureOnes_11 : decode cX7_sureOnes 11 = .ok (.goto 4, 3) := by decide +kernel
theorem dX7_sureOnes_14 : decode cX7_sureOnes 14 = .ok (.iload_n 1, 1) := by decide +kernel
theorem dX7_sureOnes_15 : decode cX7_sureOnes 15 = .ok (.ireturn, 1) := by decide +kernel
theorem dX7_leftAtWorst_0 : decode cX7_leftAtWorst 0 = .ok (.aload_n 1, 1) := by decide +kernel
theorem dX7_leftAtWorst_1 : decode cX7_leftAtWorst 1 = .ok (.iload_n 2, 1) := by decide +kernel
theorem dX7_leftAtWorst_2 : decode cX7_leftAtWorst 2 = .ok (.invokevirtual 48, 3) := by decide +kernel
theorem dX7_leftAtWorst_5 : decode cX7_leftAtWorst 5 = .ok (.aload_n 1, 1) := by decide +kernel
theorem dX7_leftAtWorst_6 : decode cX7_leftAtWorst 6 = .ok (.iload_n 2, 1) := by decide +kernel
theorem dX7_leftAtWorst_7 : decode cX7_leftAtWorst 7 = .ok (.iconst 0, 1) := by decide +kernel
theorem dX7_leftAtWorst_8 : decode cX7_leftAtWorst 8 = .ok (.invokevirtual 52, 3) := by decide +kernel
theorem dX7_leftAtWorst_11 : decode cX7_leftAtWorst 11 = .ok (.if_icmp .ne 10, 3) := by decide +kernel
theorem dX7_leftAtWorst_14 : decode cX7_leftAtWorst 14 = .ok (.aload_n 0, 1) := by decide +kernel
theorem dX7_leftAtWorst_15 : decode cX7_leftAtWorst 15 = .ok (.iconst 0, 1) := by decide +kernel
theorem dX7_leftAtWorst_16 : decode cX7_leftAtWorst 16 = .ok (.iconst 0, 1) := by decide +kernel
theorem dX7_leftAtWorst_17 : decode cX7_leftAtWorst 17 = .ok (.invokevirtual 63, 3) := by decide +kernel
theorem dX7_leftAtWorst_20 : decode cX7_leftAtWorst 20 = .ok (.ireturn, 1) := by decide +kernel
theorem dX7_leftAtWorst_21 : decode cX7_leftAtWorst 21 = .ok (.iconst 1, 1) := by decide +kernel
theorem dX7_leftAtWorst_22 : decode cX7_leftAtWorst 22 = .ok (.aload_n 1, 1) := by decide +kernel
theorem dX7_leftAtWorst_23 : decode cX7_leftAtWorst 23 = .ok (.getfield 9, 3) := by decide +kernel
theorem dX7_leftAtWorst_26 : decode cX7_leftAtWorst 26 = .ok (.getfield 45, 3) := by decide +kernel
theorem dX7_leftAtWorst_29 : decode cX7_leftAtWorst 29 = .ok (.iload_n 2, 1) := by decide +kernel
theorem dX7_leftAtWorst_30 : decode cX7_leftAtWorst 30 = .ok (.iaload, 1) := by decide +kernel
theorem dX7_leftAtWorst_31 : decode cX7_leftAtWorst 31 = .ok (.ishl, 1) := by decide +kernel
theorem dX7_leftAtWorst_32 : decode cX7_leftAtWorst 32 = .ok (.istore_n 3, 1) := by decide +kernel
theorem dX7_leftAtWorst_33 : decode cX7_leftAtWorst 33 = .ok (.aload_n 0, 1) := by decide +kernel
theorem dX7_leftAtWorst_34 : decode cX7_leftAtWorst 34 = .ok (.iload_n 3, 1) := by decide +kernel
theorem dX7_leftAtWorst_35 : decode cX7_leftAtWorst 35 = .ok (.iconst 0, 1) := by decide +kernel
theorem dX7_leftAtWorst_36 : decode cX7_leftAtWorst 36 = .ok (.invokevirtual 63, 3) := by decide +kernel
theorem dX7_leftAtWorst_39 : decode cX7_leftAtWorst 39 = .ok (.aload_n 0, 1) := by decide +kernel
theorem dX7_leftAtWorst_40 : decode cX7_leftAtWorst 40 = .ok (.iconst 0, 1) := by decide +kernel
theorem dX7_leftAtWorst_41 : decode cX7_leftAtWorst 41 = .ok (.iload_n 3, 1) := by decide +kernel
theorem dX7_leftAtWorst_42 : decode cX7_leftAtWorst 42 = .ok (.invokevirtual 63, 3) := by decide +kernel
theorem dX7_leftAtWorst_45 : decode cX7_leftAtWorst 45 = .ok (.invokestatic 66, 3) := by decide +kernel
theorem dX7_leftAtWorst_48 : decode cX7_leftAtWorst 48 = .ok (.ireturn, 1) := by decide +kernel
theorem dX8_init_0 : decode cX8_init 0 = .ok (.aload_n 0, 1) := by decide +kernel
theorem dX8_init_1 : decode cX8_init 1 = .ok (.invokespecial 3, 3) := by decide +kernel
theorem dX8_init_4 : decode cX8_init 4 = .ok (.aload_n 0, 1) := by decide +kernel
theorem dX8_init_5 : decode cX8_init 5 = .ok (.sipush 600, 3) := by decide +kernel
theorem dX8_init_8 : decode cX8_init 8 = .ok (.newarray .byte, 2) := by decide +kernel
theorem dX8_init_10 : decode cX8_init 10 = .ok (.putfield 9, 3) := by decide +kernel
theorem dX8_init_13 : decode cX8_init 13 = .ok (.aload_n 0, 1) := by decide +kernel
theorem dX8_init_14 : decode cX8_init 14 = .ok (.iconst (-1), 1) := by decide +kernel
theorem dX8_init_15 : decode cX8_init 15 = .ok (.putfield 15, 3) := by decide +kernel
theorem dX8_init_18 : decode cX8_init 18 = .ok (.return_, 1) := by decide +kernel
theorem dX8_hasRoom_0 : decode cX8_hasRoom 0 = .ok (.aload_n 0, 1) := by decide +kernel
theorem dX8_hasRoom_1 : decode cX8_hasRoom 1 = .ok (.getfield 19, 3) := by decide +kernel
theorem dX8_hasRoom_4 : decode cX8_hasRoom 4 = .ok (.bipush 20, 2) := by decide +kernel
theorem dX8_hasRoom_6 : decode cX8_hasRoom 6 = .ok (.iadd, 1) := by decide +kernel
theorem dX8_hasRoom_7 : decode cX8_hasRoom 7 = .ok (.aload_n 0, 1) := by decide +kernel
theorem dX8_hasRoom_8 : decode cX8_hasRoom 8 = .ok (.getfield 9, 3) := by decide +kernel
theorem dX8_hasRoom_11 : decode cX8_hasRoom 11 = .ok (.arraylength, 1) := by decide +kernel
theorem dX8_hasRoom_12 : decode cX8_hasRoom 12 = .ok (.if_icmp .gt 7, 3) := by decide +kernel
theorem dX8_hasRoom_15 : decode cX8_hasRoom 15 = .ok (.iconst 1, 1) := by decide +kernel
theorem dX8_hasRoom_16 : decode cX8_hasRoom 16 = .ok (.goto 4, 3) := by decide +kernel
theorem dX8_hasRoom_19 : decode cX8_hasRoom 19 = .ok (.iconst 0, 1) := by decide +kernel
theorem dX8_hasRoom_20 : decode cX8_hasRoom 20 = .ok (.ireturn, 1) := by decide +kernel
theorem dX8_put_0 : decode cX8_put 0 = .ok (.bipush 24, 2) := by decide +kernel
theorem dX8_put_2 : decode cX8_put 2 = .ok (.istore_n 2, 1) := by decide +kernel
theorem dX8_put_3 : decode cX8_put 3 = .ok (.iload_n 2, 1) := by decide +kernel
theorem dX8_put_4 : decode cX8_put 4 = .ok (.ifCond .lt 44, 3) := by decide +kernel
theorem dX8_put_7 : decode cX8_put 7 = .ok (.aload_n 0, 1) := by decide +kernel
theorem dX8_put_8 : decode cX8_put 8 = .ok (.getfield 19, 3) := by decide +kernel
theorem dX8_put_11 : decode cX8_put 11 = .ok (.aload_n 0, 1) := by decide +kernel
theorem dX8_put_12 : decode cX8_put 12 = .ok (.getfield 9, 3) := by decide +kernel
theorem dX8_put_15 : decode cX8_put 15 = .ok (.arraylength, 1) := by decide +kernel
theorem dX8_put_16 : decode cX8_put 16 = .ok (.if_icmp .ge 32, 3) := by decide +kernel
theorem dX8_put_19 : decode cX8_put 19 = .ok (.aload_n 0, 1) := by decide +kernel
theorem dX8_put_20 : decode cX8_put 20 = .ok (.getfield 9, 3) := by decide +kernel
theorem dX8_put_23 : decode cX8_put 23 = .ok (.aload_n 0, 1) := by decide +kernel
theorem dX8_put_24 : decode cX8_put 24 = .ok (.getfield 19, 3) := by decide +kernel
theorem dX8_put_27 : decode cX8_put 27 = .ok (.iload_n 1, 1) := by decide +kernel
theorem dX8_put_28 : decode cX8_put 28 = .ok (.iload_n 2, 1) := by decide +kernel
theorem dX8_put_29 : decode cX8_put 29 = .ok (.ishr, 1) := by decide +kernel
theorem dX8_put_30 : decode cX8_put 30 = .ok (.i2b, 1) := by decide +kernel
theorem dX8_put_31 : decode cX8_put 31 = .ok (.bastore, 1) := by decide +kernel
theorem dX8_put_32 : decode cX8_put 32 = .ok (.aload_n 0, 1) := by decide +kernel
theorem dX8_put_33 : decode cX8_put 33 = .ok (.dup, 1) := by decide +kernel
theorem dX8_put_34 : decode cX8_put 34 = .ok (.getfield 19, 3) := by decide +kernel
theorem dX8_put_37 : decode cX8_put 37 = .ok (.iconst 1, 1) := by decide +kernel
theorem dX8_put_38 : decode cX8_put 38 = .ok (.iadd, 1) := by decide +kernel
theorem dX8_put_39 : decode cX8_put 39 = .ok (.putfield 19, 3) := by decide +kernel
theorem dX8_put_42 : decode cX8_put 42 = .ok (.iinc 2 (-8), 3) := by decide +kernel
theorem dX8_put_45 : decode cX8_put 45 = .ok (.goto (-42), 3) := by decide +kernel
theorem dX8_put_48 : decode cX8_put 48 = .ok (.return_, 1) := by decide +kernel
theorem dX8_open_0 : decode cX8_open 0 = .ok (.aload_n 0, 1) := by decide +kernel
theorem dX8_open_1 : decode cX8_open 1 = .ok (.iload_n 1, 1) := by decide +kernel
theorem dX8_open_2 : decode cX8_open 2 = .ok (.putfield 22, 3) := by decide +kernel
theorem dX8_open_5 : decode cX8_open 5 = .ok (.aload_n 0, 1) := by decide +kernel
theorem dX8_open_6 : decode cX8_open 6 = .ok (.iconst 0, 1) := by decide +kernel
theorem dX8_open_7 : decode cX8_open 7 = .ok (.putfield 19, 3) := by decide +kernel
theorem dX8_open_10 : decode cX8_open 10 = .ok (.aload_n 0, 1) := by decide +kernel
theorem dX8_open_11 : decode cX8_open 11 = .ok (.iconst 0, 1) := by decide +kernel
theorem dX8_open_12 : decode cX8_open 12 = .ok (.putfield 25, 3) := by decide +kernel
theorem dX8_open_15 : decode cX8_open 15 = .ok (.aload_n 0, 1) := by decide +kernel
theorem dX8_open_16 : decode cX8_open 16 = .ok (.iconst 0, 1) := by decide +kernel
theorem dX8_open_17 : decode cX8_open 17 = .ok (.putfield 28, 3) := by decide +kernel
theorem dX8_open_20 : decode cX8_open 20 = .ok (.aload_n 0, 1) := by decide +kernel
theorem dX8_open_21 : decode cX8_open 21 = .ok (.iconst 0, 1) := by decide +kernel
theorem dX8_open_22 : decode cX8_open 22 = .ok (.putfield 31, 3) := by decide +kernel
theorem dX8_open_25 : decode cX8_open 25 = .ok (.aload_n 0, 1) := by decide +kernel
theorem dX8_open_26 : decode cX8_open 26 = .ok (.iconst (-1), 1) := by decide +kernel
theorem dX8_open_27 : decode cX8_open 27 = .ok (.putfield 15, 3) := by decide +kernel
theorem dX8_open_30 : decode cX8_open 30 = .ok (.return_, 1) := by decide +kernel
theorem dX8_isSound_0 : decode cX8_isSound 0 = .ok (.aload_n 0, 1) := by decide +kernel
theorem dX8_isSound_1 : decode cX8_isSound 1 = .ok (.getfield 31, 3) := by decide +kernel
theorem dX8_isSound_4 : decode cX8_isSound 4 = .ok (.ifCond .ne 7, 3) := by decide +kernel
theorem dX8_isSound_7 : decode cX8_isSound 7 = .ok (.iconst 1, 1) := by decide +kernel
theorem dX8_isSound_8 : decode cX8_isSound 8 = .ok (.goto 4, 3) := by decide +kernel
theorem dX8_isSound_11 : decode cX8_isSound 11 = .ok (.iconst 0, 1) := by decide +kernel
theorem dX8_isSound_12 : decode cX8_isSound 12 = .ok (.ireturn, 1) := by decide +kernel
theorem dX8_mark_0 : decode cX8_mark 0 = .ok (.aload_n 0, 1) := by decide +kernel
theorem dX8_mark_1 : decode cX8_mark 1 = .ok (.getfield 31, 3) := by decide +kernel
theorem dX8_mark_4 : decode cX8_mark 4 = .ok (.ifCond .ne 13, 3) := by decide +kernel
theorem dX8_mark_7 : decode cX8_mark 7 = .ok (.aload_n 0, 1) := by decide +kernel
theorem dX8_mark_8 : decode cX8_mark 8 = .ok (.iload_n 1, 1) := by decide +kernel
theorem dX8_mark_9 : decode cX8_mark 9 = .ok (.putfield 31, 3) := by decide +kernel
theorem dX8_mark_12 : decode cX8_mark 12 = .ok (.aload_n 0, 1) := by decide +kernel
theorem dX8_mark_13 : decode cX8_mark 13 = .ok (.iload_n 2, 1) := by decide +kernel
theorem dX8_mark_14 : decode cX8_mark 14 = .ok (.putfield 15, 3) := by decide +kernel
theorem dX8_mark_17 : decode cX8_mark 17 = .ok (.return_, 1) := by decide +kernel
theorem dX8_byteAt_0 : decode cX8_byteAt 0 = .ok (.iload_n 1, 1) := by decide +kernel
theorem dX8_byteAt_1 : decode cX8_byteAt 1 = .ok (.ifCond .lt 33, 3) := by decide +kernel
theorem dX8_byteAt_4 : decode cX8_byteAt 4 = .ok (.iload_n 1, 1) := by decide +kernel
theorem dX8_byteAt_5 : decode cX8_byteAt 5 = .ok (.aload_n 0, 1) := by decide +kernel
theorem dX8_byteAt_6 : decode cX8_byteAt 6 = .ok (.getfield 22, 3) := by decide +kernel
theorem dX8_byteAt_9 : decode cX8_byteAt 9 = .ok (.if_icmp .ge 25, 3) := by decide +kernel
theorem dX8_byteAt_12 : decode cX8_byteAt 12 = .ok (.iload_n 1, 1) := by decide +kernel
theorem dX8_byteAt_13 : decode cX8_byteAt 13 = .ok (.aload_n 0, 1) := by decide +kernel
theorem dX8_byteAt_14 : decode cX8_byteAt 14 = .ok (.getfield 9, 3) := by decide +kernel
theorem dX8_byteAt_17 : decode cX8_byteAt 17 = .ok (.arraylength, 1) := by decide +kernel
theorem dX8_byteAt_18 : decode cX8_byteAt 18 = .ok (.if_icmp .ge 16, 3) := by decide +kernel
theorem dX8_byteAt_21 : decode cX8_byteAt 21 = .ok (.aload_n 0, 1) := by decide +kernel
theorem dX8_byteAt_22 : decode cX8_byteAt 22 = .ok (.getfield 9, 3) := by decide +kernel
theorem dX8_byteAt_25 : decode cX8_byteAt 25 = .ok (.iload_n 1, 1) := by decide +kernel
theorem dX8_byteAt_26 : decode cX8_byteAt 26 = .ok (.baload, 1) := by decide +kernel
theorem dX8_byteAt_27 : decode cX8_byteAt 27 = .ok (.sipush 255, 3) := by decide +kernel
theorem dX8_byteAt_30 : decode cX8_byteAt 30 = .ok (.iand, 1) := by decide +kernel
theorem dX8_byteAt_31 : decode cX8_byteAt 31 = .ok (.goto 4, 3) := by decide +kernel
theorem dX8_byteAt_34 : decode cX8_byteAt 34 = .ok (.iconst (-1), 1) := by decide +kernel
theorem dX8_byteAt_35 : decode cX8_byteAt 35 = .ok (.ireturn, 1) := by decide +kernel
theorem dX8_next_0 : decode cX8_next 0 = .ok (.aload_n 0, 1) := by decide +kernel
theorem dX8_next_1 : decode cX8_next 1 = .ok (.getfield 25, 3) := by decide +kernel
theorem dX8_next_4 : decode cX8_next 4 = .ok (.aload_n 0, 1) := by decide +kernel
theorem dX8_next_5 : decode cX8_next 5 = .ok (.getfield 22, 3) := by decide +kernel
theorem dX8_next_8 : decode cX8_next 8 = .ok (.if_icmp .ge 42, 3) := by decide +kernel
theorem dX8_next_11 : decode cX8_next 11 = .ok (.aload_n 0, 1) := by decide +kernel
theorem dX8_next_12 : decode cX8_next 12 = .ok (.getfield 25, 3) := by decide +kernel
theorem dX8_next_15 : decode cX8_next 15 = .ok (.aload_n 0, 1) := by decide +kernel
theorem dX8_next_16 : decode cX8_next 16 = .ok (.getfield 9, 3) := by decide +kernel
theorem dX8_next_19 : decode cX8_next 19 = .ok (.arraylength, 1) := by decide +kernel
theorem dX8_next_20 : decode cX8_next 20 = .ok (.if_icmp .ge 30, 3) := by decide +kernel
theorem dX8_next_23 : decode cX8_next 23 = .ok (.aload_n 0, 1) := by decide +kernel
theorem dX8_next_24 : decode cX8_next 24 = .ok (.getfield 9, 3) := by decide +kernel
theorem dX8_next_27 : decode cX8_next 27 = .ok (.aload_n 0, 1) := by decide +kernel
theorem dX8_next_28 : decode cX8_next 28 = .ok (.getfield 25, 3) := by decide +kernel
theorem dX8_next_31 : decode cX8_next 31 = .ok (.baload, 1) := by decide +kernel
theorem dX8_next_32 : decode cX8_next 32 = .ok (.bipush 32, 2) := by decide +kernel
theorem dX8_next_34 : decode cX8_next 34 = .ok (.if_icmp .ne 16, 3) := by decide +kernel
theorem dX8_next_37 : decode cX8_next 37 = .ok (.aload_n 0, 1) := by decide +kernel
theorem dX8_next_38 : decode cX8_next 38 = .ok (.dup, 1) := by decide +kernel
theorem dX8_next_39 : decode cX8_next 39 = .ok (.getfield 25, 3) := by decide +kernel
theorem dX8_next_42 : decode cX8_next 42 = .ok (.iconst 1, 1) := by decide +kernel
theorem dX8_next_43 : decode cX8_next 43 = .ok (.iadd, 1) := by decide +kernel
theorem dX8_next_44 : decode cX8_next 44 = .ok (.putfield 25, 3) := by decide +kernel
theorem dX8_next_47 : decode cX8_next 47 = .ok (.goto (-47), 3) := by decide +kernel
theorem dX8_next_50 : decode cX8_next 50 = .ok (.aload_n 0, 1) := by decide +kernel
theorem dX8_next_51 : decode cX8_next 51 = .ok (.aload_n 0, 1) := by decide +kernel
theorem dX8_next_52 : decode cX8_next 52 = .ok (.getfield 25, 3) := by decide +kernel
theorem dX8_next_55 : decode cX8_next 55 = .ok (.putfield 28, 3) := by decide +kernel
theorem dX8_next_58 : decode cX8_next 58 = .ok (.aload_n 0, 1) := by decide +kernel
theorem dX8_next_59 : decode cX8_next 59 = .ok (.getfield 25, 3) := by decide +kernel
theorem dX8_next_62 : decode cX8_next 62 = .ok (.aload_n 0, 1) := by decide +kernel
theorem dX8_next_63 : decode cX8_next 63 = .ok (.getfield 22, 3) := by decide +kernel
theorem dX8_next_66 : decode cX8_next 66 = .ok (.if_icmp .ge 31, 3) := by decide +kernel
theorem dX8_next_69 : decode cX8_next 69 = .ok (.aload_n 0, 1) := by decide +kernel
theorem dX8_next_70 : decode cX8_next 70 = .ok (.getfield 25, 3) := by decide +kernel
theorem dX8_next_73 : decode cX8_next 73 = .ok (.aload_n 0, 1) := by decide +kernel
theorem dX8_next_74 : decode cX8_next 74 = .ok (.getfield 9, 3) := by decide +kernel
theorem dX8_next_77 : decode cX8_next 77 = .ok (.arraylength, 1) := by decide +kernel
theorem dX8_next_78 : decode cX8_next 78 = .ok (.if_icmp .ge 19, 3) := by decide +kernel
theorem dX8_next_81 : decode cX8_next 81 = .ok (.aload_n 0, 1) := by decide +kernel
theorem dX8_next_82 : decode cX8_next 82 = .ok (.getfield 9, 3) := by decide +kernel
theorem dX8_next_85 : decode cX8_next 85 = .ok (.aload_n 0, 1) := by decide +kernel
theorem dX8_next_86 : decode cX8_next 86 = .ok (.getfield 25, 3) := by decide +kernel
theorem dX8_next_89 : decode cX8_next 89 = .ok (.baload, 1) := by decide +kernel
theorem dX8_next_90 : decode cX8_next 90 = .ok (.sipush 255, 3) := by decide +kernel
theorem dX8_next_93 : decode cX8_next 93 = .ok (.iand, 1) := by decide +kernel
theorem dX8_next_94 : decode cX8_next 94 = .ok (.goto 4, 3) := by decide +kernel
theorem dX8_next_97 : decode cX8_next 97 = .ok (.iconst (-1), 1) := by decide +kernel
theorem dX8_next_98 : decode cX8_next 98 = .ok (.ireturn, 1) := by decide +kernel
theorem dX8_takeOne_0 : decode cX8_takeOne 0 = .ok (.aload_n 0, 1) := by decide +kernel
theorem dX8_takeOne_1 : decode cX8_takeOne 1 = .ok (.invokevirtual 34, 3) := by decide +kernel
theorem dX8_takeOne_4 : decode cX8_takeOne 4 = .ok (.istore_n 2, 1) := by decide +kernel
theorem dX8_takeOne_5 : decode cX8_takeOne 5 = .ok (.iload_n 2, 1) := by decide +kernel
theorem dX8_takeOne_6 : decode cX8_takeOne 6 = .ok (.iconst (-1), 1) := by decide +kernel
theorem dX8_takeOne_7 : decode cX8_takeOne 7 = .ok (.if_icmp .ne 7, 3) := by decide +kernel
theorem dX8_takeOne_10 : decode cX8_takeOne 10 = .ok (.iconst (-1), 1) := by decide +kernel
theorem dX8_takeOne_11 : decode cX8_takeOne 11 = .ok (.goto 9, 3) := by decide +kernel
theorem dX8_takeOne_14 : decode cX8_takeOne 14 = .ok (.aload_n 1, 1) := by decide +kernel
theorem dX8_takeOne_15 : decode cX8_takeOne 15 = .ok (.iload_n 2, 1) := by decide +kernel
theorem dX8_takeOne_16 : decode cX8_takeOne 16 = .ok (.i2c, 1) := by decide +kernel
theorem dX8_takeOne_17 : decode cX8_takeOne 17 = .ok (.invokevirtual 38, 3) := by decide +kernel
theorem dX8_takeOne_20 : decode cX8_takeOne 20 = .ok (.istore_n 3, 1) := by decide +kernel
theorem dX8_takeOne_21 : decode cX8_takeOne 21 = .ok (.iload_n 3, 1) := by decide +kernel
theorem dX8_takeOne_22 : decode cX8_takeOne 22 = .ok (.iconst (-1), 1) := by decide +kernel
theorem dX8_takeOne_23 : decode cX8_takeOne 23 = .ok (.if_icmp .eq 13, 3) := by decide +kernel
theorem dX8_takeOne_26 : decode cX8_takeOne 26 = .ok (.aload_n 0, 1) := by decide +kernel
theorem dX8_takeOne_27 : decode cX8_takeOne 27 = .ok (.dup, 1) := by decide +kernel
theorem dX8_takeOne_28 : decode cX8_takeOne 28 = .ok (.getfield 25, 3) := by decide +kernel
theorem dX8_takeOne_31 : decode cX8_takeOne 31 = .ok (.iconst 1, 1) := by decide +kernel
theorem dX8_takeOne_32 : decode cX8_takeOne 32 = .ok (.iadd, 1) := by decide +kernel
theorem dX8_takeOne_33 : decode cX8_takeOne 33 = .ok (.putfield 25, 3) := by decide +kernel
theorem dX8_takeOne_36 : decode cX8_takeOne 36 = .ok (.iload_n 3, 1) := by decide +kernel
theorem dX8_takeOne_37 : decode cX8_takeOne 37 = .ok (.ireturn, 1) := by decide +kernel
theorem dX8_demand_0 : decode cX8_demand 0 = .ok (.aload_n 0, 1) := by decide +kernel
theorem dX8_demand_1 : decode cX8_demand 1 = .ok (.invokevirtual 34, 3) := by decide +kernel
theorem dX8_demand_4 : decode cX8_demand 4 = .ok (.iload_n 1, 1) := by decide +kernel
theorem dX8_demand_5 : decode cX8_demand 5 = .ok (.if_icmp .ne 16, 3) := by decide +kernel
theorem dX8_demand_8 : decode cX8_demand 8 = .ok (.aload_n 0, 1) := by decide +kernel
theorem dX8_demand_9 : decode cX8_demand 9 = .ok (.dup, 1) := by decide +kernel
theorem dX8_demand_10 : decode cX8_demand 10 = .ok (.getfield 25, 3) := by decide +kernel
theorem dX8_demand_13 : decode cX8_demand 13 = .ok (.iconst 1, 1) := by decide +kernel
theorem dX8_demand_14 : decode cX8_demand 14 = .ok (.iadd, 1) := by decide +kernel
theorem dX8_demand_15 : decode cX8_demand 15 = .ok (.putfield 25, 3) := by decide +kernel
theorem dX8_demand_18 : decode cX8_demand 18 = .ok (.goto 12, 3) := by decide +kernel
theorem dX8_demand_21 : decode cX8_demand 21 = .ok (.aload_n 0, 1) := by decide +kernel
theorem dX8_demand_22 : decode cX8_demand 22 = .ok (.iconst 1, 1) := by decide +kernel
theorem dX8_demand_23 : decode cX8_demand 23 = .ok (.aload_n 0, 1) := by decide +kernel
theorem dX8_demand_24 : decode cX8_demand 24 = .ok (.getfield 25, 3) := by decide +kernel
theorem dX8_demand_27 : decode cX8_demand 27 = .ok (.invokevirtual 44, 3) := by decide +kernel
theorem dX8_demand_30 : decode cX8_demand 30 = .ok (.return_, 1) := by decide +kernel
theorem dX8_isDigit_0 : decode cX8_isDigit 0 = .ok (.iload_n 1, 1) := by decide +kernel
theorem dX8_isDigit_1 : decode cX8_isDigit 1 = .ok (.bipush 48, 2) := by decide +kernel
theorem dX8_isDigit_3 : decode cX8_isDigit 3 = .ok (.if_icmp .lt 13, 3) := by decide +kernel
theorem dX8_isDigit_6 : decode cX8_isDigit 6 = .ok (.iload_n 1, 1) := by decide +kernel
theorem dX8_isDigit_7 : decode cX8_isDigit 7 = .ok (.bipush 57, 2) := by decide +kernel
theorem dX8_isDigit_9 : decode cX8_isDigit 9 = .ok (.if_icmp .gt 7, 3) := by decide +kernel
theorem dX8_isDigit_12 : decode cX8_isDigit 12 = .ok (.iconst 1, 1) := by decide +kernel
theorem dX8_isDigit_13 : decode cX8_isDigit 13 = .ok (.goto 4, 3) := by decide +kernel
theorem dX8_isDigit_16 : decode cX8_isDigit 16 = .ok (.iconst 0, 1) := by decide +kernel
theorem dX8_isDigit_17 : decode cX8_isDigit 17 = .ok (.ireturn, 1) := by decide +kernel
theorem dX8_isLetter_0 : decode cX8_isLetter 0 = .ok (.iload_n 1, 1) := by decide +kernel
theorem dX8_isLetter_1 : decode cX8_isLetter 1 = .ok (.bipush 97, 2) := by decide +kernel
theorem dX8_isLetter_3 : decode cX8_isLetter 3 = .ok (.if_icmp .lt 13, 3) := by decide +kernel
theorem dX8_isLetter_6 : decode cX8_isLetter 6 = .ok (.iload_n 1, 1) := by decide +kernel
theorem dX8_isLetter_7 : decode cX8_isLetter 7 = .ok (.bipush 122, 2) := by decide +kernel
theorem dX8_isLetter_9 : decode cX8_isLetter 9 = .ok (.if_icmp .gt 7, 3) := by decide +kernel
theorem dX8_isLetter_12 : decode cX8_isLetter 12 = .ok (.iconst 1, 1) := by decide +kernel
theorem dX8_isLetter_13 : decode cX8_isLetter 13 = .ok (.goto 4, 3) := by decide +kernel
theorem dX8_isLetter_16 : decode cX8_isLetter 16 = .ok (.iconst 0, 1) := by decide +kernel
theorem dX8_isLetter_17 : decode cX8_isLetter 17 = .ok (.ireturn, 1) := by decide +kernel
theorem dX8_number_0 : decode cX8_number 0 = .ok (.aload_n 0, 1) := by decide +kernel
theorem dX8_number_1 : decode cX8_number 1 = .ok (.aload_n 0, 1) := by decide +kernel
theorem dX8_number_2 : decode cX8_number 2 = .ok (.invokevirtual 34, 3) := by decide +kernel
theorem dX8_number_5 : decode cX8_number 5 = .ok (.invokevirtual 48, 3) := by decide +kernel
theorem dX8_number_8 : decode cX8_number 8 = .ok (.ifCond .ne 14, 3) := by decide +kernel
theorem dX8_number_11 : decode cX8_number 11 = .ok (.aload_n 0, 1) := by decide +kernel
theorem dX8_number_12 : decode cX8_number 12 = .ok (.iconst 1, 1) := by decide +kernel
theorem dX8_number_13 : decode cX8_number 13 = .ok (.aload_n 0, 1) := by decide +kernel
theorem dX8_number_14 : decode cX8_number 14 = .ok (.getfield 25, 3) := by decide +kernel
theorem dX8_number_17 : decode cX8_number 17 = .ok (.invokevirtual 44, 3) := by decide +kernel
theorem dX8_number_20 : decode cX8_number 20 = .ok (.iconst (-1), 1) := by decide +kernel
theorem dX8_number_21 : decode cX8_number 21 = .ok (.ireturn, 1) := by decide +kernel
theorem dX8_number_22 : decode cX8_number 22 = .ok (.iconst 0, 1) := by decide +kernel
theorem dX8_number_23 : decode cX8_number 23 = .ok (.istore_n 3, 1) := by decide +kernel
theorem dX8_number_24 : decode cX8_number 24 = .ok (.aload_n 0, 1) := by decide +kernel
theorem dX8_number_25 : decode cX8_number 25 = .ok (.getfield 25, 3) := by decide +kernel
theorem dX8_number_28 : decode cX8_number 28 = .ok (.aload_n 0, 1) := by decide +kernel
theorem dX8_number_29 : decode cX8_number 29 = .ok (.getfield 22, 3) := by decide +kernel
theorem dX8_number_32 : decode cX8_number 32 = .ok (.if_icmp .ge 53, 3) := by decide +kernel
theorem dX8_number_35 : decode cX8_number 35 = .ok (.aload_n 0, 1) := by decide +kernel
theorem dX8_number_36 : decode cX8_number 36 = .ok (.aload_n 0, 1) := by decide +kernel
theorem dX8_number_37 : decode cX8_number 37 = .ok (.aload_n 0, 1) := by decide +kernel
theorem dX8_number_38 : decode cX8_number 38 = .ok (.getfield 25, 3) := by decide +kernel
theorem dX8_number_41 : decode cX8_number 41 = .ok (.invokevirtual 52, 3) := by decide +kernel
theorem dX8_number_44 : decode cX8_number 44 = .ok (.invokevirtual 48, 3) := by decide +kernel
theorem dX8_number_47 : decode cX8_number 47 = .ok (.ifCond .eq 38, 3) := by decide +kernel
theorem dX8_number_50 : decode cX8_number 50 = .ok (.ldc 55, 2) := by decide +kernel
theorem dX8_number_52 : decode cX8_number 52 = .ok (.iload_n 3, 1) := by decide +kernel
theorem dX8_number_53 : decode cX8_number 53 = .ok (.bipush 10, 2) := by decide +kernel
theorem dX8_number_55 : decode cX8_number 55 = .ok (.imul, 1) := by decide +kernel
theorem dX8_number_56 : decode cX8_number 56 = .ok (.aload_n 0, 1) := by decide +kernel
theorem dX8_number_57 : decode cX8_number 57 = .ok (.aload_n 0, 1) := by decide +kernel
theorem dX8_number_58 : decode cX8_number 58 = .ok (.getfield 25, 3) := by decide +kernel
theorem dX8_number_61 : decode cX8_number 61 = .ok (.invokevirtual 52, 3) := by decide +kernel
theorem dX8_number_64 : decode cX8_number 64 = .ok (.iadd, 1) := by decide +kernel
theorem dX8_number_65 : decode cX8_number 65 = .ok (.bipush 48, 2) := by decide +kernel
theorem dX8_number_67 : decode cX8_number 67 = .ok (.isub, 1) := by decide +kernel
theorem dX8_number_68 : decode cX8_number 68 = .ok (.invokestatic 56, 3) := by decide +kernel
theorem dX8_number_71 : decode cX8_number 71 = .ok (.istore_n 3, 1) := by decide +kernel
theorem dX8_number_72 : decode cX8_number 72 = .ok (.aload_n 0, 1) := by decide +kernel
theorem dX8_number_73 : decode cX8_number 73 = .ok (.dup, 1) := by decide +kernel
theorem dX8_number_74 : decode cX8_number 74 = .ok (.getfield 25, 3) := by decide +kernel
theorem dX8_number_77 : decode cX8_number 77 = .ok (.iconst 1, 1) := by decide +kernel
theorem dX8_number_78 : decode cX8_number 78 = .ok (.iadd, 1) := by decide +kernel
theorem dX8_number_79 : decode cX8_number 79 = .ok (.putfield 25, 3) := by decide +kernel
theorem dX8_number_82 : decode cX8_number 82 = .ok (.goto (-58), 3) := by decide +kernel
theorem dX8_number_85 : decode cX8_number 85 = .ok (.iload_n 3, 1) := by decide +kernel
theorem dX8_number_86 : decode cX8_number 86 = .ok (.iload_n 1, 1) := by decide +kernel
theorem dX8_number_87 : decode cX8_number 87 = .ok (.if_icmp .lt 8, 3) := by decide +kernel
theorem dX8_number_90 : decode cX8_number 90 = .ok (.iload_n 3, 1) := by decide +kernel
theorem dX8_number_91 : decode cX8_number 91 = .ok (.iload_n 2, 1) := by decide +kernel
theorem dX8_number_92 : decode cX8_number 92 = .ok (.if_icmp .le 14, 3) := by decide +kernel
theorem dX8_number_95 : decode cX8_number 95 = .ok (.aload_n 0, 1) := by decide +kernel
theorem dX8_number_96 : decode cX8_number 96 = .ok (.iconst 2, 1) := by decide +kernel
theorem dX8_number_97 : decode cX8_number 97 = .ok (.aload_n 0, 1) := by decide +kernel
theorem dX8_number_98 : decode cX8_number 98 = .ok (.getfield 28, 3) := by decide +kernel
theorem dX8_number_101 : decode cX8_number 101 = .ok (.invokevirtual 44, 3) := by decide +kernel
theorem dX8_number_104 : decode cX8_number 104 = .ok (.iconst (-1), 1) := by decide +kernel
theorem dX8_number_105 : decode cX8_number 105 = .ok (.ireturn, 1) := by decide +kernel
theorem dX8_number_106 : decode cX8_number 106 = .ok (.iload_n 3, 1) := by decide +kernel
theorem dX8_number_107 : decode cX8_number 107 = .ok (.ireturn, 1) := by decide +kernel
theorem dX8_word_0 : decode cX8_word 0 = .ok (.aload_n 0, 1) := by decide +kernel
theorem dX8_word_1 : decode cX8_word 1 = .ok (.invokevirtual 34, 3) := by decide +kernel
theorem dX8_word_4 : decode cX8_word 4 = .ok (.pop, 1) := by decide +kernel
theorem dX8_word_5 : decode cX8_word 5 = .ok (.aload_n 0, 1) := by decide +kernel
theorem dX8_word_6 : decode cX8_word 6 = .ok (.getfield 25, 3) := by decide +kernel
theorem dX8_word_9 : decode cX8_word 9 = .ok (.aload_n 0, 1) := by decide +kernel
theorem dX8_word_10 : decode cX8_word 10 = .ok (.getfield 22, 3) := by decide +kernel
theorem dX8_word_13 : decode cX8_word 13 = .ok (.if_icmp .ge 31, 3) := by decide +kernel
theorem dX8_word_16 : decode cX8_word 16 = .ok (.aload_n 0, 1) := by decide +kernel
theorem dX8_word_17 : decode cX8_word 17 = .ok (.aload_n 0, 1) := by decide +kernel
theorem dX8_word_18 : decode cX8_word 18 = .ok (.aload_n 0, 1) := by decide +kernel
theorem dX8_word_19 : decode cX8_word 19 = .ok (.getfield 25, 3) := by decide +kernel
theorem dX8_word_22 : decode cX8_word 22 = .ok (.invokevirtual 52, 3) := by decide +kernel
