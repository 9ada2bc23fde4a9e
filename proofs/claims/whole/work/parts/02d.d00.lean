theorem dX0_init_0 : decode cX0_init 0 = .ok (.aload_n 0, 1) := by decide +kernel
theorem dX0_init_1 : decode cX0_init 1 = .ok (.invokespecial 5, 3) := by decide +kernel
theorem dX0_init_4 : decode cX0_init 4 = .ok (.aload_n 0, 1) := by decide +kernel
theorem dX0_init_5 : decode cX0_init 5 = .ok (.bipush 31, 2) := by decide +kernel
theorem dX0_init_7 : decode cX0_init 7 = .ok (.newarray .int, 2) := by decide +kernel
theorem dX0_init_9 : decode cX0_init 9 = .ok (.putfield 11, 3) := by decide +kernel
theorem dX0_init_12 : decode cX0_init 12 = .ok (.aload_n 0, 1) := by decide +kernel
theorem dX0_init_13 : decode cX0_init 13 = .ok (.bipush 8, 2) := by decide +kernel
theorem dX0_init_15 : decode cX0_init 15 = .ok (.newarray .int, 2) := by decide +kernel
theorem dX0_init_17 : decode cX0_init 17 = .ok (.putfield 17, 3) := by decide +kernel
theorem dX0_init_20 : decode cX0_init 20 = .ok (.aload_n 0, 1) := by decide +kernel
theorem dX0_init_21 : decode cX0_init 21 = .ok (.aload_n 1, 1) := by decide +kernel
theorem dX0_init_22 : decode cX0_init 22 = .ok (.putfield 20, 3) := by decide +kernel
theorem dX0_init_25 : decode cX0_init 25 = .ok (.aload_n 0, 1) := by decide +kernel
theorem dX0_init_26 : decode cX0_init 26 = .ok (.aload_n 2, 1) := by decide +kernel
theorem dX0_init_27 : decode cX0_init 27 = .ok (.putfield 24, 3) := by decide +kernel
theorem dX0_init_30 : decode cX0_init 30 = .ok (.aload_n 0, 1) := by decide +kernel
theorem dX0_init_31 : decode cX0_init 31 = .ok (.invokevirtual 28, 3) := by decide +kernel
theorem dX0_init_34 : decode cX0_init 34 = .ok (.return_, 1) := by decide +kernel
theorem dX0_begin_0 : decode cX0_begin 0 = .ok (.iconst 0, 1) := by decide +kernel
theorem dX0_begin_1 : decode cX0_begin 1 = .ok (.istore_n 1, 1) := by decide +kernel
theorem dX0_begin_2 : decode cX0_begin 2 = .ok (.iload_n 1, 1) := by decide +kernel
theorem dX0_begin_3 : decode cX0_begin 3 = .ok (.bipush 31, 2) := by decide +kernel
theorem dX0_begin_5 : decode cX0_begin 5 = .ok (.if_icmp .ge 26, 3) := by decide +kernel
theorem dX0_begin_8 : decode cX0_begin 8 = .ok (.aload_n 0, 1) := by decide +kernel
theorem dX0_begin_9 : decode cX0_begin 9 = .ok (.getfield 11, 3) := by decide +kernel
theorem dX0_begin_12 : decode cX0_begin 12 = .ok (.iload_n 1, 1) := by decide +kernel
theorem dX0_begin_13 : decode cX0_begin 13 = .ok (.iload_n 1, 1) := by decide +kernel
theorem dX0_begin_14 : decode cX0_begin 14 = .ok (.bipush 23, 2) := by decide +kernel
theorem dX0_begin_16 : decode cX0_begin 16 = .ok (.if_icmp .ge 7, 3) := by decide +kernel
theorem dX0_begin_19 : decode cX0_begin 19 = .ok (.iconst 0, 1) := by decide +kernel
theorem dX0_begin_20 : decode cX0_begin 20 = .ok (.goto 4, 3) := by decide +kernel
theorem dX0_begin_23 : decode cX0_begin 23 = .ok (.iconst (-1), 1) := by decide +kernel
theorem dX0_begin_24 : decode cX0_begin 24 = .ok (.iastore, 1) := by decide +kernel
theorem dX0_begin_25 : decode cX0_begin 25 = .ok (.iinc 1 1, 3) := by decide +kernel
theorem dX0_begin_28 : decode cX0_begin 28 = .ok (.goto (-26), 3) := by decide +kernel
theorem dX0_begin_31 : decode cX0_begin 31 = .ok (.aload_n 0, 1) := by decide +kernel
theorem dX0_begin_32 : decode cX0_begin 32 = .ok (.getfield 11, 3) := by decide +kernel
theorem dX0_begin_35 : decode cX0_begin 35 = .ok (.iconst 1, 1) := by decide +kernel
theorem dX0_begin_36 : decode cX0_begin 36 = .ok (.iconst 1, 1) := by decide +kernel
theorem dX0_begin_37 : decode cX0_begin 37 = .ok (.aload_n 0, 1) := by decide +kernel
theorem dX0_begin_38 : decode cX0_begin 38 = .ok (.getfield 20, 3) := by decide +kernel
theorem dX0_begin_41 : decode cX0_begin 41 = .ok (.getfield 31, 3) := by decide +kernel
theorem dX0_begin_44 : decode cX0_begin 44 = .ok (.ishl, 1) := by decide +kernel
theorem dX0_begin_45 : decode cX0_begin 45 = .ok (.iconst 1, 1) := by decide +kernel
theorem dX0_begin_46 : decode cX0_begin 46 = .ok (.isub, 1) := by decide +kernel
theorem dX0_begin_47 : decode cX0_begin 47 = .ok (.iastore, 1) := by decide +kernel
theorem dX0_begin_48 : decode cX0_begin 48 = .ok (.aload_n 0, 1) := by decide +kernel
theorem dX0_begin_49 : decode cX0_begin 49 = .ok (.getfield 24, 3) := by decide +kernel
theorem dX0_begin_52 : decode cX0_begin 52 = .ok (.invokevirtual 37, 3) := by decide +kernel
theorem dX0_begin_55 : decode cX0_begin 55 = .ok (.return_, 1) := by decide +kernel
theorem dX0_copyOf_0 : decode cX0_copyOf 0 = .ok (.aload_n 0, 1) := by decide +kernel
theorem dX0_copyOf_1 : decode cX0_copyOf 1 = .ok (.aload_n 1, 1) := by decide +kernel
theorem dX0_copyOf_2 : decode cX0_copyOf 2 = .ok (.getfield 20, 3) := by decide +kernel
theorem dX0_copyOf_5 : decode cX0_copyOf 5 = .ok (.putfield 20, 3) := by decide +kernel
theorem dX0_copyOf_8 : decode cX0_copyOf 8 = .ok (.aload_n 0, 1) := by decide +kernel
theorem dX0_copyOf_9 : decode cX0_copyOf 9 = .ok (.aload_n 1, 1) := by decide +kernel
theorem dX0_copyOf_10 : decode cX0_copyOf 10 = .ok (.getfield 24, 3) := by decide +kernel
theorem dX0_copyOf_13 : decode cX0_copyOf 13 = .ok (.putfield 24, 3) := by decide +kernel
theorem dX0_copyOf_16 : decode cX0_copyOf 16 = .ok (.aload_n 1, 1) := by decide +kernel
theorem dX0_copyOf_17 : decode cX0_copyOf 17 = .ok (.getfield 11, 3) := by decide +kernel
theorem dX0_copyOf_20 : decode cX0_copyOf 20 = .ok (.iconst 0, 1) := by decide +kernel
theorem dX0_copyOf_21 : decode cX0_copyOf 21 = .ok (.aload_n 0, 1) := by decide +kernel
theorem dX0_copyOf_22 : decode cX0_copyOf 22 = .ok (.getfield 11, 3) := by decide +kernel
theorem dX0_copyOf_25 : decode cX0_copyOf 25 = .ok (.iconst 0, 1) := by decide +kernel
theorem dX0_copyOf_26 : decode cX0_copyOf 26 = .ok (.bipush 31, 2) := by decide +kernel
theorem dX0_copyOf_28 : decode cX0_copyOf 28 = .ok (.invokestatic 40, 3) := by decide +kernel
theorem dX0_copyOf_31 : decode cX0_copyOf 31 = .ok (.return_, 1) := by decide +kernel
theorem dX0_isKept_0 : decode cX0_isKept 0 = .ok (.aload_n 0, 1) := by decide +kernel
theorem dX0_isKept_1 : decode cX0_isKept 1 = .ok (.getfield 11, 3) := by decide +kernel
theorem dX0_isKept_4 : decode cX0_isKept 4 = .ok (.iconst 2, 1) := by decide +kernel
theorem dX0_isKept_5 : decode cX0_isKept 5 = .ok (.iaload, 1) := by decide +kernel
theorem dX0_isKept_6 : decode cX0_isKept 6 = .ok (.iload_n 1, 1) := by decide +kernel
theorem dX0_isKept_7 : decode cX0_isKept 7 = .ok (.ishr, 1) := by decide +kernel
theorem dX0_isKept_8 : decode cX0_isKept 8 = .ok (.iconst 1, 1) := by decide +kernel
theorem dX0_isKept_9 : decode cX0_isKept 9 = .ok (.iand, 1) := by decide +kernel
theorem dX0_isKept_10 : decode cX0_isKept 10 = .ok (.ifCond .eq 7, 3) := by decide +kernel
theorem dX0_isKept_13 : decode cX0_isKept 13 = .ok (.iconst 1, 1) := by decide +kernel
theorem dX0_isKept_14 : decode cX0_isKept 14 = .ok (.goto 4, 3) := by decide +kernel
theorem dX0_isKept_17 : decode cX0_isKept 17 = .ok (.iconst 0, 1) := by decide +kernel
theorem dX0_isKept_18 : decode cX0_isKept 18 = .ok (.ireturn, 1) := by decide +kernel
theorem dX0_isCured_0 : decode cX0_isCured 0 = .ok (.aload_n 0, 1) := by decide +kernel
theorem dX0_isCured_1 : decode cX0_isCured 1 = .ok (.getfield 11, 3) := by decide +kernel
theorem dX0_isCured_4 : decode cX0_isCured 4 = .ok (.iconst 3, 1) := by decide +kernel
theorem dX0_isCured_5 : decode cX0_isCured 5 = .ok (.iaload, 1) := by decide +kernel
theorem dX0_isCured_6 : decode cX0_isCured 6 = .ok (.iload_n 1, 1) := by decide +kernel
theorem dX0_isCured_7 : decode cX0_isCured 7 = .ok (.ishr, 1) := by decide +kernel
theorem dX0_isCured_8 : decode cX0_isCured 8 = .ok (.iconst 1, 1) := by decide +kernel
theorem dX0_isCured_9 : decode cX0_isCured 9 = .ok (.iand, 1) := by decide +kernel
theorem dX0_isCured_10 : decode cX0_isCured 10 = .ok (.ifCond .eq 7, 3) := by decide +kernel
theorem dX0_isCured_13 : decode cX0_isCured 13 = .ok (.iconst 1, 1) := by decide +kernel
theorem dX0_isCured_14 : decode cX0_isCured 14 = .ok (.goto 4, 3) := by decide +kernel
theorem dX0_isCured_17 : decode cX0_isCured 17 = .ok (.iconst 0, 1) := by decide +kernel
theorem dX0_isCured_18 : decode cX0_isCured 18 = .ok (.ireturn, 1) := by decide +kernel
theorem dX0_isUsed_0 : decode cX0_isUsed 0 = .ok (.aload_n 0, 1) := by decide +kernel
theorem dX0_isUsed_1 : decode cX0_isUsed 1 = .ok (.getfield 11, 3) := by decide +kernel
theorem dX0_isUsed_4 : decode cX0_isUsed 4 = .ok (.iconst 4, 1) := by decide +kernel
theorem dX0_isUsed_5 : decode cX0_isUsed 5 = .ok (.iaload, 1) := by decide +kernel
theorem dX0_isUsed_6 : decode cX0_isUsed 6 = .ok (.iload_n 1, 1) := by decide +kernel
theorem dX0_isUsed_7 : decode cX0_isUsed 7 = .ok (.ishr, 1) := by decide +kernel
theorem dX0_isUsed_8 : decode cX0_isUsed 8 = .ok (.iconst 1, 1) := by decide +kernel
theorem dX0_isUsed_9 : decode cX0_isUsed 9 = .ok (.iand, 1) := by decide +kernel
theorem dX0_isUsed_10 : decode cX0_isUsed 10 = .ok (.ifCond .eq 7, 3) := by decide +kernel
theorem dX0_isUsed_13 : decode cX0_isUsed 13 = .ok (.iconst 1, 1) := by decide +kernel
theorem dX0_isUsed_14 : decode cX0_isUsed 14 = .ok (.goto 4, 3) := by decide +kernel
theorem dX0_isUsed_17 : decode cX0_isUsed 17 = .ok (.iconst 0, 1) := by decide +kernel
theorem dX0_isUsed_18 : decode cX0_isUsed 18 = .ok (.ireturn, 1) := by decide +kernel
theorem dX0_isLiving_0 : decode cX0_isLiving 0 = .ok (.aload_n 0, 1) := by decide +kernel
theorem dX0_isLiving_1 : decode cX0_isLiving 1 = .ok (.getfield 11, 3) := by decide +kernel
theorem dX0_isLiving_4 : decode cX0_isLiving 4 = .ok (.iconst 1, 1) := by decide +kernel
theorem dX0_isLiving_5 : decode cX0_isLiving 5 = .ok (.iaload, 1) := by decide +kernel
theorem dX0_isLiving_6 : decode cX0_isLiving 6 = .ok (.iload_n 1, 1) := by decide +kernel
theorem dX0_isLiving_7 : decode cX0_isLiving 7 = .ok (.ishr, 1) := by decide +kernel
theorem dX0_isLiving_8 : decode cX0_isLiving 8 = .ok (.iconst 1, 1) := by decide +kernel
theorem dX0_isLiving_9 : decode cX0_isLiving 9 = .ok (.iand, 1) := by decide +kernel
theorem dX0_isLiving_10 : decode cX0_isLiving 10 = .ok (.ifCond .eq 7, 3) := by decide +kernel
theorem dX0_isLiving_13 : decode cX0_isLiving 13 = .ok (.iconst 1, 1) := by decide +kernel
theorem dX0_isLiving_14 : decode cX0_isLiving 14 = .ok (.goto 4, 3) := by decide +kernel
theorem dX0_isLiving_17 : decode cX0_isLiving 17 = .ok (.iconst 0, 1) := by decide +kernel
theorem dX0_isLiving_18 : decode cX0_isLiving 18 = .ok (.ireturn, 1) := by decide +kernel
theorem dX0_keptOf_0 : decode cX0_keptOf 0 = .ok (.aload_n 0, 1) := by decide +kernel
theorem dX0_keptOf_1 : decode cX0_keptOf 1 = .ok (.getfield 11, 3) := by decide +kernel
theorem dX0_keptOf_4 : decode cX0_keptOf 4 = .ok (.iconst 2, 1) := by decide +kernel
theorem dX0_keptOf_5 : decode cX0_keptOf 5 = .ok (.iaload, 1) := by decide +kernel
theorem dX0_keptOf_6 : decode cX0_keptOf 6 = .ok (.aload_n 0, 1) := by decide +kernel
theorem dX0_keptOf_7 : decode cX0_keptOf 7 = .ok (.getfield 20, 3) := by decide +kernel
theorem dX0_keptOf_10 : decode cX0_keptOf 10 = .ok (.getfield 46, 3) := by decide +kernel
theorem dX0_keptOf_13 : decode cX0_keptOf 13 = .ok (.iload_n 1, 1) := by decide +kernel
theorem dX0_keptOf_14 : decode cX0_keptOf 14 = .ok (.iaload, 1) := by decide +kernel
theorem dX0_keptOf_15 : decode cX0_keptOf 15 = .ok (.iand, 1) := by decide +kernel
theorem dX0_keptOf_16 : decode cX0_keptOf 16 = .ok (.ireturn, 1) := by decide +kernel
theorem dX0_keepers_0 : decode cX0_keepers 0 = .ok (.iconst 0, 1) := by decide +kernel
theorem dX0_keepers_1 : decode cX0_keepers 1 = .ok (.istore_n 1, 1) := by decide +kernel
theorem dX0_keepers_2 : decode cX0_keepers 2 = .ok (.iconst 0, 1) := by decide +kernel
theorem dX0_keepers_3 : decode cX0_keepers 3 = .ok (.istore_n 2, 1) := by decide +kernel
theorem dX0_keepers_4 : decode cX0_keepers 4 = .ok (.iload_n 2, 1) := by decide +kernel
theorem dX0_keepers_5 : decode cX0_keepers 5 = .ok (.aload_n 0, 1) := by decide +kernel
theorem dX0_keepers_6 : decode cX0_keepers 6 = .ok (.getfield 20, 3) := by decide +kernel
theorem dX0_keepers_9 : decode cX0_keepers 9 = .ok (.getfield 31, 3) := by decide +kernel
theorem dX0_keepers_12 : decode cX0_keepers 12 = .ok (.if_icmp .ge 31, 3) := by decide +kernel
theorem dX0_keepers_15 : decode cX0_keepers 15 = .ok (.aload_n 0, 1) := by decide +kernel
theorem dX0_keepers_16 : decode cX0_keepers 16 = .ok (.iload_n 2, 1) := by decide +kernel
theorem dX0_keepers_17 : decode cX0_keepers 17 = .ok (.invokevirtual 49, 3) := by decide +kernel
theorem dX0_keepers_20 : decode cX0_keepers 20 = .ok (.ifCond .eq 17, 3) := by decide +kernel
theorem dX0_keepers_23 : decode cX0_keepers 23 = .ok (.aload_n 0, 1) := by decide +kernel
theorem dX0_keepers_24 : decode cX0_keepers 24 = .ok (.iload_n 2, 1) := by decide +kernel
theorem dX0_keepers_25 : decode cX0_keepers 25 = .ok (.invokevirtual 53, 3) := by decide +kernel
theorem dX0_keepers_28 : decode cX0_keepers 28 = .ok (.ifCond .eq 9, 3) := by decide +kernel
theorem dX0_keepers_31 : decode cX0_keepers 31 = .ok (.iload_n 1, 1) := by decide +kernel
theorem dX0_keepers_32 : decode cX0_keepers 32 = .ok (.iconst 1, 1) := by decide +kernel
theorem dX0_keepers_33 : decode cX0_keepers 33 = .ok (.iload_n 2, 1) := by decide +kernel
theorem dX0_keepers_34 : decode cX0_keepers 34 = .ok (.ishl, 1) := by decide +kernel
theorem dX0_keepers_35 : decode cX0_keepers 35 = .ok (.ior, 1) := by decide +kernel
theorem dX0_keepers_36 : decode cX0_keepers 36 = .ok (.istore_n 1, 1) := by decide +kernel
theorem dX0_keepers_37 : decode cX0_keepers 37 = .ok (.iinc 2 1, 3) := by decide +kernel
theorem dX0_keepers_40 : decode cX0_keepers 40 = .ok (.goto (-36), 3) := by decide +kernel
theorem dX0_keepers_43 : decode cX0_keepers 43 = .ok (.iload_n 1, 1) := by decide +kernel
theorem dX0_keepers_44 : decode cX0_keepers 44 = .ok (.ireturn, 1) := by decide +kernel
theorem dX0_powerIf_0 : decode cX0_powerIf 0 = .ok (.aload_n 0, 1) := by decide +kernel
theorem dX0_powerIf_1 : decode cX0_powerIf 1 = .ok (.iload_n 1, 1) := by decide +kernel
theorem dX0_powerIf_2 : decode cX0_powerIf 2 = .ok (.invokevirtual 57, 3) := by decide +kernel
theorem dX0_powerIf_5 : decode cX0_powerIf 5 = .ok (.ifCond .ne 5, 3) := by decide +kernel
theorem dX0_powerIf_8 : decode cX0_powerIf 8 = .ok (.iconst 0, 1) := by decide +kernel
theorem dX0_powerIf_9 : decode cX0_powerIf 9 = .ok (.ireturn, 1) := by decide +kernel
theorem dX0_powerIf_10 : decode cX0_powerIf 10 = .ok (.aload_n 0, 1) := by decide +kernel
theorem dX0_powerIf_11 : decode cX0_powerIf 11 = .ok (.getfield 20, 3) := by decide +kernel
theorem dX0_powerIf_14 : decode cX0_powerIf 14 = .ok (.getfield 60, 3) := by decide +kernel
theorem dX0_powerIf_17 : decode cX0_powerIf 17 = .ok (.iload_n 1, 1) := by decide +kernel
theorem dX0_powerIf_18 : decode cX0_powerIf 18 = .ok (.iaload, 1) := by decide +kernel
theorem dX0_powerIf_19 : decode cX0_powerIf 19 = .ok (.istore 5, 2) := by decide +kernel
theorem dX0_powerIf_21 : decode cX0_powerIf 21 = .ok (.aload_n 0, 1) := by decide +kernel
theorem dX0_powerIf_22 : decode cX0_powerIf 22 = .ok (.getfield 17, 3) := by decide +kernel
theorem dX0_powerIf_25 : decode cX0_powerIf 25 = .ok (.iconst 0, 1) := by decide +kernel
theorem dX0_powerIf_26 : decode cX0_powerIf 26 = .ok (.aload_n 0, 1) := by decide +kernel
theorem dX0_powerIf_27 : decode cX0_powerIf 27 = .ok (.getfield 20, 3) := by decide +kernel
theorem dX0_powerIf_30 : decode cX0_powerIf 30 = .ok (.getfield 63, 3) := by decide +kernel
theorem dX0_powerIf_33 : decode cX0_powerIf 33 = .ok (.iload_n 1, 1) := by decide +kernel
theorem dX0_powerIf_34 : decode cX0_powerIf 34 = .ok (.iaload, 1) := by decide +kernel
theorem dX0_powerIf_35 : decode cX0_powerIf 35 = .ok (.iastore, 1) := by decide +kernel
theorem dX0_powerIf_36 : decode cX0_powerIf 36 = .ok (.aload_n 0, 1) := by decide +kernel
theorem dX0_powerIf_37 : decode cX0_powerIf 37 = .ok (.getfield 17, 3) := by decide +kernel
theorem dX0_powerIf_40 : decode cX0_powerIf 40 = .ok (.iconst 1, 1) := by decide +kernel
theorem dX0_powerIf_41 : decode cX0_powerIf 41 = .ok (.iload_n 2, 1) := by decide +kernel
theorem dX0_powerIf_42 : decode cX0_powerIf 42 = .ok (.iastore, 1) := by decide +kernel
theorem dX0_powerIf_43 : decode cX0_powerIf 43 = .ok (.aload_n 0, 1) := by decide +kernel
theorem dX0_powerIf_44 : decode cX0_powerIf 44 = .ok (.getfield 17, 3) := by decide +kernel
theorem dX0_powerIf_47 : decode cX0_powerIf 47 = .ok (.iconst 2, 1) := by decide +kernel
theorem dX0_powerIf_48 : decode cX0_powerIf 48 = .ok (.iload_n 3, 1) := by decide +kernel
theorem dX0_powerIf_49 : decode cX0_powerIf 49 = .ok (.iastore, 1) := by decide +kernel
theorem dX0_powerIf_50 : decode cX0_powerIf 50 = .ok (.aload_n 0, 1) := by decide +kernel
theorem dX0_powerIf_51 : decode cX0_powerIf 51 = .ok (.getfield 17, 3) := by decide +kernel
theorem dX0_powerIf_54 : decode cX0_powerIf 54 = .ok (.iconst 3, 1) := by decide +kernel
theorem dX0_powerIf_55 : decode cX0_powerIf 55 = .ok (.aload_n 0, 1) := by decide +kernel
theorem dX0_powerIf_56 : decode cX0_powerIf 56 = .ok (.getfield 20, 3) := by decide +kernel
theorem dX0_powerIf_59 : decode cX0_powerIf 59 = .ok (.getfield 66, 3) := by decide +kernel
theorem dX0_powerIf_62 : decode cX0_powerIf 62 = .ok (.iload 5, 2) := by decide +kernel
theorem dX0_powerIf_64 : decode cX0_powerIf 64 = .ok (.iaload, 1) := by decide +kernel
theorem dX0_powerIf_65 : decode cX0_powerIf 65 = .ok (.iastore, 1) := by decide +kernel
theorem dX0_powerIf_66 : decode cX0_powerIf 66 = .ok (.aload_n 0, 1) := by decide +kernel
theorem dX0_powerIf_67 : decode cX0_powerIf 67 = .ok (.getfield 17, 3) := by decide +kernel
theorem dX0_powerIf_70 : decode cX0_powerIf 70 = .ok (.iconst 4, 1) := by decide +kernel
theorem dX0_powerIf_71 : decode cX0_powerIf 71 = .ok (.aload_n 0, 1) := by decide +kernel
theorem dX0_powerIf_72 : decode cX0_powerIf 72 = .ok (.getfield 20, 3) := by decide +kernel
theorem dX0_powerIf_75 : decode cX0_powerIf 75 = .ok (.getfield 69, 3) := by decide +kernel
theorem dX0_powerIf_78 : decode cX0_powerIf 78 = .ok (.iload_n 1, 1) := by decide +kernel
theorem dX0_powerIf_79 : decode cX0_powerIf 79 = .ok (.iaload, 1) := by decide +kernel
theorem dX0_powerIf_80 : decode cX0_powerIf 80 = .ok (.iastore, 1) := by decide +kernel
theorem dX0_powerIf_81 : decode cX0_powerIf 81 = .ok (.aload_n 0, 1) := by decide +kernel
theorem dX0_powerIf_82 : decode cX0_powerIf 82 = .ok (.getfield 17, 3) := by decide +kernel
theorem dX0_powerIf_85 : decode cX0_powerIf 85 = .ok (.iconst 5, 1) := by decide +kernel
theorem dX0_powerIf_86 : decode cX0_powerIf 86 = .ok (.aload_n 0, 1) := by decide +kernel
theorem dX0_powerIf_87 : decode cX0_powerIf 87 = .ok (.iload 5, 2) := by decide +kernel
theorem dX0_powerIf_89 : decode cX0_powerIf 89 = .ok (.invokevirtual 53, 3) := by decide +kernel
theorem dX0_powerIf_92 : decode cX0_powerIf 92 = .ok (.iconst 1, 1) := by decide +kernel
theorem dX0_powerIf_93 : decode cX0_powerIf 93 = .ok (.iload_n 1, 1) := by decide +kernel
theorem dX0_powerIf_94 : decode cX0_powerIf 94 = .ok (.ishl, 1) := by decide +kernel
theorem dX0_powerIf_95 : decode cX0_powerIf 95 = .ok (.iconst (-1), 1) := by decide +kernel
theorem dX0_powerIf_96 : decode cX0_powerIf 96 = .ok (.ixor, 1) := by decide +kernel
theorem dX0_powerIf_97 : decode cX0_powerIf 97 = .ok (.iand, 1) := by decide +kernel
theorem dX0_powerIf_98 : decode cX0_powerIf 98 = .ok (.invokestatic 72, 3) := by decide +kernel
theorem dX0_powerIf_101 : decode cX0_powerIf 101 = .ok (.iastore, 1) := by decide +kernel
theorem dX0_powerIf_102 : decode cX0_powerIf 102 = .ok (.aload_n 0, 1) := by decide +kernel
theorem dX0_powerIf_103 : decode cX0_powerIf 103 = .ok (.getfield 17, 3) := by decide +kernel
theorem dX0_powerIf_106 : decode cX0_powerIf 106 = .ok (.bipush 6, 2) := by decide +kernel
theorem dX0_powerIf_108 : decode cX0_powerIf 108 = .ok (.iload 5, 2) := by decide +kernel
theorem dX0_powerIf_110 : decode cX0_powerIf 110 = .ok (.iastore, 1) := by decide +kernel
theorem dX0_powerIf_111 : decode cX0_powerIf 111 = .ok (.aload_n 0, 1) := by decide +kernel
theorem dX0_powerIf_112 : decode cX0_powerIf 112 = .ok (.getfield 17, 3) := by decide +kernel
theorem dX0_powerIf_115 : decode cX0_powerIf 115 = .ok (.bipush 7, 2) := by decide +kernel
theorem dX0_powerIf_117 : decode cX0_powerIf 117 = .ok (.iload 4, 2) := by decide +kernel
theorem dX0_powerIf_119 : decode cX0_powerIf 119 = .ok (.iastore, 1) := by decide +kernel
theorem dX0_powerIf_120 : decode cX0_powerIf 120 = .ok (.aload_n 0, 1) := by decide +kernel
theorem dX0_powerIf_121 : decode cX0_powerIf 121 = .ok (.getfield 24, 3) := by decide +kernel
theorem dX0_powerIf_124 : decode cX0_powerIf 124 = .ok (.aload_n 0, 1) := by decide +kernel
theorem dX0_powerIf_125 : decode cX0_powerIf 125 = .ok (.getfield 17, 3) := by decide +kernel
theorem dX0_powerIf_128 : decode cX0_powerIf 128 = .ok (.invokevirtual 77, 3) := by decide +kernel
theorem dX0_powerIf_131 : decode cX0_powerIf 131 = .ok (.ireturn, 1) := by decide +kernel
theorem dX0_powerIn_0 : decode cX0_powerIn 0 = .ok (.aload_n 0, 1) := by decide +kernel
theorem dX0_powerIn_1 : decode cX0_powerIn 1 = .ok (.iload_n 1, 1) := by decide +kernel
theorem dX0_powerIn_2 : decode cX0_powerIn 2 = .ok (.aload_n 0, 1) := by decide +kernel
theorem dX0_powerIn_3 : decode cX0_powerIn 3 = .ok (.getfield 11, 3) := by decide +kernel
theorem dX0_powerIn_6 : decode cX0_powerIn 6 = .ok (.iconst 5, 1) := by decide +kernel
theorem dX0_powerIn_7 : decode cX0_powerIn 7 = .ok (.iload_n 1, 1) := by decide +kernel
theorem dX0_powerIn_8 : decode cX0_powerIn 8 = .ok (.iadd, 1) := by decide +kernel
theorem dX0_powerIn_9 : decode cX0_powerIn 9 = .ok (.iaload, 1) := by decide +kernel
theorem dX0_powerIn_10 : decode cX0_powerIn 10 = .ok (.iload_n 2, 1) := by decide +kernel
theorem dX0_powerIn_11 : decode cX0_powerIn 11 = .ok (.iadd, 1) := by decide +kernel
theorem dX0_powerIn_12 : decode cX0_powerIn 12 = .ok (.aload_n 0, 1) := by decide +kernel
theorem dX0_powerIn_13 : decode cX0_powerIn 13 = .ok (.getfield 11, 3) := by decide +kernel
theorem dX0_powerIn_16 : decode cX0_powerIn 16 = .ok (.bipush 15, 2) := by decide +kernel
theorem dX0_powerIn_18 : decode cX0_powerIn 18 = .ok (.aload_n 0, 1) := by decide +kernel
theorem dX0_powerIn_19 : decode cX0_powerIn 19 = .ok (.getfield 20, 3) := by decide +kernel
theorem dX0_powerIn_22 : decode cX0_powerIn 22 = .ok (.getfield 60, 3) := by decide +kernel
theorem dX0_powerIn_25 : decode cX0_powerIn 25 = .ok (.iload_n 1, 1) := by decide +kernel
theorem dX0_powerIn_26 : decode cX0_powerIn 26 = .ok (.iaload, 1) := by decide +kernel
theorem dX0_powerIn_27 : decode cX0_powerIn 27 = .ok (.iadd, 1) := by decide +kernel
theorem dX0_powerIn_28 : decode cX0_powerIn 28 = .ok (.iaload, 1) := by decide +kernel
theorem dX0_powerIn_29 : decode cX0_powerIn 29 = .ok (.aload_n 0, 1) := by decide +kernel
theorem dX0_powerIn_30 : decode cX0_powerIn 30 = .ok (.getfield 11, 3) := by decide +kernel
theorem dX0_powerIn_33 : decode cX0_powerIn 33 = .ok (.iconst 0, 1) := by decide +kernel
theorem dX0_powerIn_34 : decode cX0_powerIn 34 = .ok (.iaload, 1) := by decide +kernel
theorem dX0_powerIn_35 : decode cX0_powerIn 35 = .ok (.iload_n 2, 1) := by decide +kernel
theorem dX0_powerIn_36 : decode cX0_powerIn 36 = .ok (.iadd, 1) := by decide +kernel
theorem dX0_powerIn_37 : decode cX0_powerIn 37 = .ok (.invokevirtual 81, 3) := by decide +kernel
theorem dX0_powerIn_40 : decode cX0_powerIn 40 = .ok (.ireturn, 1) := by decide +kernel
theorem dX0_powerIfLapsed_0 : decode cX0_powerIfLapsed 0 = .ok (.aload_n 0, 1) := by decide +kernel
theorem dX0_powerIfLapsed_1 : decode cX0_powerIfLapsed 1 = .ok (.iload_n 1, 1) := by decide +kernel
theorem dX0_powerIfLapsed_2 : decode cX0_powerIfLapsed 2 = .ok (.aload_n 0, 1) := by decide +kernel
theorem dX0_powerIfLapsed_3 : decode cX0_powerIfLapsed 3 = .ok (.getfield 11, 3) := by decide +kernel
theorem dX0_powerIfLapsed_6 : decode cX0_powerIfLapsed 6 = .ok (.iconst 5, 1) := by decide +kernel
theorem dX0_powerIfLapsed_7 : decode cX0_powerIfLapsed 7 = .ok (.iload_n 1, 1) := by decide +kernel
theorem dX0_powerIfLapsed_8 : decode cX0_powerIfLapsed 8 = .ok (.iadd, 1) := by decide +kernel
theorem dX0_powerIfLapsed_9 : decode cX0_powerIfLapsed 9 = .ok (.iaload, 1) := by decide +kernel
theorem dX0_powerIfLapsed_10 : decode cX0_powerIfLapsed 10 = .ok (.iconst 2, 1) := by decide +kernel
theorem dX0_powerIfLapsed_11 : decode cX0_powerIfLapsed 11 = .ok (.idiv, 1) := by decide +kernel
theorem dX0_powerIfLapsed_12 : decode cX0_powerIfLapsed 12 = .ok (.iload_n 2, 1) := by decide +kernel
theorem dX0_powerIfLapsed_13 : decode cX0_powerIfLapsed 13 = .ok (.iadd, 1) := by decide +kernel
theorem dX0_powerIfLapsed_14 : decode cX0_powerIfLapsed 14 = .ok (.aload_n 0, 1) := by decide +kernel
theorem dX0_powerIfLapsed_15 : decode cX0_powerIfLapsed 15 = .ok (.getfield 11, 3) := by decide +kernel
theorem dX0_powerIfLapsed_18 : decode cX0_powerIfLapsed 18 = .ok (.bipush 15, 2) := by decide +kernel
theorem dX0_powerIfLapsed_20 : decode cX0_powerIfLapsed 20 = .ok (.aload_n 0, 1) := by decide +kernel
theorem dX0_powerIfLapsed_21 : decode cX0_powerIfLapsed 21 = .ok (.getfield 20, 3) := by decide +kernel
theorem dX0_powerIfLapsed_24 : decode cX0_powerIfLapsed 24 = .ok (.getfield 60, 3) := by decide +kernel
theorem dX0_powerIfLapsed_27 : decode cX0_powerIfLapsed 27 = .ok (.iload_n 1, 1) := by decide +kernel
theorem dX0_powerIfLapsed_28 : decode cX0_powerIfLapsed 28 = .ok (.iaload, 1) := by decide +kernel
theorem dX0_powerIfLapsed_29 : decode cX0_powerIfLapsed 29 = .ok (.iadd, 1) := by decide +kernel
theorem dX0_powerIfLapsed_30 : decode cX0_powerIfLapsed 30 = .ok (.iaload, 1) := by decide +kernel
theorem dX0_powerIfLapsed_31 : decode cX0_powerIfLapsed 31 = .ok (.iconst 1, 1) := by decide +kernel
theorem dX0_powerIfLapsed_32 : decode cX0_powerIfLapsed 32 = .ok (.iadd, 1) := by decide +kernel
theorem dX0_powerIfLapsed_33 : decode cX0_powerIfLapsed 33 = .ok (.aload_n 0, 1) := by decide +kernel
theorem dX0_powerIfLapsed_34 : decode cX0_powerIfLapsed 34 = .ok (.getfield 11, 3) := by decide +kernel
theorem dX0_powerIfLapsed_37 : decode cX0_powerIfLapsed 37 = .ok (.iconst 0, 1) := by decide +kernel
theorem dX0_powerIfLapsed_38 : decode cX0_powerIfLapsed 38 = .ok (.iaload, 1) := by decide +kernel
theorem dX0_powerIfLapsed_39 : decode cX0_powerIfLapsed 39 = .ok (.iload_n 2, 1) := by decide +kernel
theorem dX0_powerIfLapsed_40 : decode cX0_powerIfLapsed 40 = .ok (.iadd, 1) := by decide +kernel
theorem dX0_powerIfLapsed_41 : decode cX0_powerIfLapsed 41 = .ok (.invokevirtual 81, 3) := by decide +kernel
theorem dX0_powerIfLapsed_44 : decode cX0_powerIfLapsed 44 = .ok (.ireturn, 1) := by decide +kernel
theorem dX0_powerOf_0 : decode cX0_powerOf 0 = .ok (.aload_n 0, 1) := by decide +kernel
theorem dX0_powerOf_1 : decode cX0_powerOf 1 = .ok (.iload_n 1, 1) := by decide +kernel
theorem dX0_powerOf_2 : decode cX0_powerOf 2 = .ok (.iconst 0, 1) := by decide +kernel
theorem dX0_powerOf_3 : decode cX0_powerOf 3 = .ok (.invokevirtual 85, 3) := by decide +kernel
theorem dX0_powerOf_6 : decode cX0_powerOf 6 = .ok (.ireturn, 1) := by decide +kernel
theorem dX0_powerOfAll_0 : decode cX0_powerOfAll 0 = .ok (.iconst 0, 1) := by decide +kernel
theorem dX0_powerOfAll_1 : decode cX0_powerOfAll 1 = .ok (.istore_n 1, 1) := by decide +kernel
theorem dX0_powerOfAll_2 : decode cX0_powerOfAll 2 = .ok (.iconst 0, 1) := by decide +kernel
theorem dX0_powerOfAll_3 : decode cX0_powerOfAll 3 = .ok (.istore_n 2, 1) := by decide +kernel
theorem dX0_powerOfAll_4 : decode cX0_powerOfAll 4 = .ok (.iload_n 2, 1) := by decide +kernel
theorem dX0_powerOfAll_5 : decode cX0_powerOfAll 5 = .ok (.aload_n 0, 1) := by decide +kernel
theorem dX0_powerOfAll_6 : decode cX0_powerOfAll 6 = .ok (.getfield 20, 3) := by decide +kernel
theorem dX0_powerOfAll_9 : decode cX0_powerOfAll 9 = .ok (.getfield 89, 3) := by decide +kernel
theorem dX0_powerOfAll_12 : decode cX0_powerOfAll 12 = .ok (.if_icmp .ge 17, 3) := by decide +kernel
theorem dX0_powerOfAll_15 : decode cX0_powerOfAll 15 = .ok (.iload_n 1, 1) := by decide +kernel
theorem dX0_powerOfAll_16 : decode cX0_powerOfAll 16 = .ok (.aload_n 0, 1) := by decide +kernel
theorem dX0_powerOfAll_17 : decode cX0_powerOfAll 17 = .ok (.iload_n 2, 1) := by decide +kernel
theorem dX0_powerOfAll_18 : decode cX0_powerOfAll 18 = .ok (.invokevirtual 92, 3) := by decide +kernel
theorem dX0_powerOfAll_21 : decode cX0_powerOfAll 21 = .ok (.iadd, 1) := by decide +kernel
theorem dX0_powerOfAll_22 : decode cX0_powerOfAll 22 = .ok (.istore_n 1, 1) := by decide +kernel
theorem dX0_powerOfAll_23 : decode cX0_powerOfAll 23 = .ok (.iinc 2 1, 3) := by decide +kernel
theorem dX0_powerOfAll_26 : decode cX0_powerOfAll 26 = .ok (.goto (-22), 3) := by decide +kernel
theorem dX0_powerOfAll_29 : decode cX0_powerOfAll 29 = .ok (.iload_n 1, 1) := by decide +kernel
theorem dX0_powerOfAll_30 : decode cX0_powerOfAll 30 = .ok (.ireturn, 1) := by decide +kernel
theorem dX0_canIn_0 : decode cX0_canIn 0 = .ok (.aload_n 0, 1) := by decide +kernel
theorem dX0_canIn_1 : decode cX0_canIn 1 = .ok (.getfield 11, 3) := by decide +kernel
theorem dX0_canIn_4 : decode cX0_canIn 4 = .ok (.bipush 15, 2) := by decide +kernel
theorem dX0_canIn_6 : decode cX0_canIn 6 = .ok (.aload_n 0, 1) := by decide +kernel
theorem dX0_canIn_7 : decode cX0_canIn 7 = .ok (.getfield 20, 3) := by decide +kernel
theorem dX0_canIn_10 : decode cX0_canIn 10 = .ok (.getfield 60, 3) := by decide +kernel
theorem dX0_canIn_13 : decode cX0_canIn 13 = .ok (.iload_n 1, 1) := by decide +kernel
theorem dX0_canIn_14 : decode cX0_canIn 14 = .ok (.iaload, 1) := by decide +kernel
theorem dX0_canIn_15 : decode cX0_canIn 15 = .ok (.iadd, 1) := by decide +kernel
theorem dX0_canIn_16 : decode cX0_canIn 16 = .ok (.iaload, 1) := by decide +kernel
theorem dX0_canIn_17 : decode cX0_canIn 17 = .ok (.istore 4, 2) := by decide +kernel
theorem dX0_canIn_19 : decode cX0_canIn 19 = .ok (.aload_n 0, 1) := by decide +kernel
theorem dX0_canIn_20 : decode cX0_canIn 20 = .ok (.getfield 20, 3) := by decide +kernel
theorem dX0_canIn_23 : decode cX0_canIn 23 = .ok (.getfield 69, 3) := by decide +kernel
theorem dX0_canIn_26 : decode cX0_canIn 26 = .ok (.iload_n 1, 1) := by decide +kernel
theorem dX0_canIn_27 : decode cX0_canIn 27 = .ok (.iaload, 1) := by decide +kernel
theorem dX0_canIn_28 : decode cX0_canIn 28 = .ok (.aload_n 0, 1) := by decide +kernel
theorem dX0_canIn_29 : decode cX0_canIn 29 = .ok (.getfield 20, 3) := by decide +kernel
theorem dX0_canIn_32 : decode cX0_canIn 32 = .ok (.getfield 95, 3) := by decide +kernel
theorem dX0_canIn_35 : decode cX0_canIn 35 = .ok (.iload_n 2, 1) := by decide +kernel
theorem dX0_canIn_36 : decode cX0_canIn 36 = .ok (.iaload, 1) := by decide +kernel
theorem dX0_canIn_37 : decode cX0_canIn 37 = .ok (.if_icmp .ne 44, 3) := by decide +kernel
theorem dX0_canIn_40 : decode cX0_canIn 40 = .ok (.aload_n 0, 1) := by decide +kernel
theorem dX0_canIn_41 : decode cX0_canIn 41 = .ok (.iload_n 1, 1) := by decide +kernel
theorem dX0_canIn_42 : decode cX0_canIn 42 = .ok (.aload_n 0, 1) := by decide +kernel
theorem dX0_canIn_43 : decode cX0_canIn 43 = .ok (.getfield 11, 3) := by decide +kernel
theorem dX0_canIn_46 : decode cX0_canIn 46 = .ok (.iconst 5, 1) := by decide +kernel
theorem dX0_canIn_47 : decode cX0_canIn 47 = .ok (.iload_n 1, 1) := by decide +kernel
theorem dX0_canIn_48 : decode cX0_canIn 48 = .ok (.iadd, 1) := by decide +kernel
theorem dX0_canIn_49 : decode cX0_canIn 49 = .ok (.iaload, 1) := by decide +kernel
theorem dX0_canIn_50 : decode cX0_canIn 50 = .ok (.iload_n 3, 1) := by decide +kernel
theorem dX0_canIn_51 : decode cX0_canIn 51 = .ok (.iadd, 1) := by decide +kernel
theorem dX0_canIn_52 : decode cX0_canIn 52 = .ok (.iload 4, 2) := by decide +kernel
theorem dX0_canIn_54 : decode cX0_canIn 54 = .ok (.aload_n 0, 1) := by decide +kernel
theorem dX0_canIn_55 : decode cX0_canIn 55 = .ok (.getfield 11, 3) := by decide +kernel
theorem dX0_canIn_58 : decode cX0_canIn 58 = .ok (.iconst 0, 1) := by decide +kernel
theorem dX0_canIn_59 : decode cX0_canIn 59 = .ok (.iaload, 1) := by decide +kernel
theorem dX0_canIn_60 : decode cX0_canIn 60 = .ok (.iload_n 3, 1) := by decide +kernel
theorem dX0_canIn_61 : decode cX0_canIn 61 = .ok (.iadd, 1) := by decide +kernel
theorem dX0_canIn_62 : decode cX0_canIn 62 = .ok (.invokevirtual 81, 3) := by decide +kernel
theorem dX0_canIn_65 : decode cX0_canIn 65 = .ok (.aload_n 0, 1) := by decide +kernel
theorem dX0_canIn_66 : decode cX0_canIn 66 = .ok (.getfield 20, 3) := by decide +kernel
theorem dX0_canIn_69 : decode cX0_canIn 69 = .ok (.getfield 98, 3) := by decide +kernel
theorem dX0_canIn_72 : decode cX0_canIn 72 = .ok (.iload_n 2, 1) := by decide +kernel
theorem dX0_canIn_73 : decode cX0_canIn 73 = .ok (.iaload, 1) := by decide +kernel
theorem dX0_canIn_74 : decode cX0_canIn 74 = .ok (.if_icmp .lt 7, 3) := by decide +kernel
theorem dX0_canIn_77 : decode cX0_canIn 77 = .ok (.iconst 1, 1) := by decide +kernel
theorem dX0_canIn_78 : decode cX0_canIn 78 = .ok (.goto 4, 3) := by decide +kernel
theorem dX0_canIn_81 : decode cX0_canIn 81 = .ok (.iconst 0, 1) := by decide +kernel
theorem dX0_canIn_82 : decode cX0_canIn 82 = .ok (.ireturn, 1) := by decide +kernel
theorem dX0_relicsThatCan_0 : decode cX0_relicsThatCan 0 = .ok (.iconst 0, 1) := by decide +kernel
theorem dX0_relicsThatCan_1 : decode cX0_relicsThatCan 1 = .ok (.istore_n 3, 1) := by decide +kernel
theorem dX0_relicsThatCan_2 : decode cX0_relicsThatCan 2 = .ok (.iconst 0, 1) := by decide +kernel
theorem dX0_relicsThatCan_3 : decode cX0_relicsThatCan 3 = .ok (.istore 4, 2) := by decide +kernel
theorem dX0_relicsThatCan_5 : decode cX0_relicsThatCan 5 = .ok (.iload 4, 2) := by decide +kernel
theorem dX0_relicsThatCan_7 : decode cX0_relicsThatCan 7 = .ok (.aload_n 0, 1) := by decide +kernel
theorem dX0_relicsThatCan_8 : decode cX0_relicsThatCan 8 = .ok (.getfield 20, 3) := by decide +kernel
theorem dX0_relicsThatCan_11 : decode cX0_relicsThatCan 11 = .ok (.getfield 89, 3) := by decide +kernel
theorem dX0_relicsThatCan_14 : decode cX0_relicsThatCan 14 = .ok (.if_icmp .ge 27, 3) := by decide +kernel
theorem dX0_relicsThatCan_17 : decode cX0_relicsThatCan 17 = .ok (.aload_n 0, 1) := by decide +kernel
theorem dX0_relicsThatCan_18 : decode cX0_relicsThatCan 18 = .ok (.iload 4, 2) := by decide +kernel
theorem dX0_relicsThatCan_20 : decode cX0_relicsThatCan 20 = .ok (.iload_n 1, 1) := by decide +kernel
theorem dX0_relicsThatCan_21 : decode cX0_relicsThatCan 21 = .ok (.iload_n 2, 1) := by decide +kernel
theorem dX0_relicsThatCan_22 : decode cX0_relicsThatCan 22 = .ok (.invokevirtual 101, 3) := by decide +kernel
theorem dX0_relicsThatCan_25 : decode cX0_relicsThatCan 25 = .ok (.ifCond .eq 10, 3) := by decide +kernel
theorem dX0_relicsThatCan_28 : decode cX0_relicsThatCan 28 = .ok (.iload_n 3, 1) := by decide +kernel
theorem dX0_relicsThatCan_29 : decode cX0_relicsThatCan 29 = .ok (.iconst 1, 1) := by decide +kernel
theorem dX0_relicsThatCan_30 : decode cX0_relicsThatCan 30 = .ok (.iload 4, 2) := by decide +kernel
theorem dX0_relicsThatCan_32 : decode cX0_relicsThatCan 32 = .ok (.ishl, 1) := by decide +kernel
theorem dX0_relicsThatCan_33 : decode cX0_relicsThatCan 33 = .ok (.ior, 1) := by decide +kernel
theorem dX0_relicsThatCan_34 : decode cX0_relicsThatCan 34 = .ok (.istore_n 3, 1) := by decide +kernel
theorem dX0_relicsThatCan_35 : decode cX0_relicsThatCan 35 = .ok (.iinc 4 1, 3) := by decide +kernel
theorem dX0_relicsThatCan_38 : decode cX0_relicsThatCan 38 = .ok (.goto (-33), 3) := by decide +kernel
theorem dX0_relicsThatCan_41 : decode cX0_relicsThatCan 41 = .ok (.iload_n 3, 1) := by decide +kernel
theorem dX0_relicsThatCan_42 : decode cX0_relicsThatCan 42 = .ok (.ireturn, 1) := by decide +kernel
theorem dX0_give_0 : decode cX0_give 0 = .ok (.aload_n 0, 1) := by decide +kernel
theorem dX0_give_1 : decode cX0_give 1 = .ok (.iload_n 1, 1) := by decide +kernel
theorem dX0_give_2 : decode cX0_give 2 = .ok (.invokevirtual 57, 3) := by decide +kernel
theorem dX0_give_5 : decode cX0_give 5 = .ok (.ifCond .ne 19, 3) := by decide +kernel
theorem dX0_give_8 : decode cX0_give 8 = .ok (.aload_n 0, 1) := by decide +kernel
theorem dX0_give_9 : decode cX0_give 9 = .ok (.aload_n 0, 1) := by decide +kernel
theorem dX0_give_10 : decode cX0_give 10 = .ok (.getfield 20, 3) := by decide +kernel
theorem dX0_give_13 : decode cX0_give 13 = .ok (.getfield 60, 3) := by decide +kernel
theorem dX0_give_16 : decode cX0_give 16 = .ok (.iload_n 1, 1) := by decide +kernel
theorem dX0_give_17 : decode cX0_give 17 = .ok (.iaload, 1) := by decide +kernel
theorem dX0_give_18 : decode cX0_give 18 = .ok (.invokevirtual 49, 3) := by decide +kernel
theorem dX0_give_21 : decode cX0_give 21 = .ok (.ifCond .ne 5, 3) := by decide +kernel
theorem dX0_give_24 : decode cX0_give 24 = .ok (.iconst 0, 1) := by decide +kernel
theorem dX0_give_25 : decode cX0_give 25 = .ok (.ireturn, 1) := by decide +kernel
theorem dX0_give_26 : decode cX0_give 26 = .ok (.aload_n 0, 1) := by decide +kernel
theorem dX0_give_27 : decode cX0_give 27 = .ok (.getfield 11, 3) := by decide +kernel
theorem dX0_give_30 : decode cX0_give 30 = .ok (.iconst 2, 1) := by decide +kernel
theorem dX0_give_31 : decode cX0_give 31 = .ok (.dup2, 1) := by decide +kernel
theorem dX0_give_32 : decode cX0_give 32 = .ok (.iaload, 1) := by decide +kernel
theorem dX0_give_33 : decode cX0_give 33 = .ok (.iconst 1, 1) := by decide +kernel
theorem dX0_give_34 : decode cX0_give 34 = .ok (.iload_n 1, 1) := by decide +kernel
theorem dX0_give_35 : decode cX0_give 35 = .ok (.ishl, 1) := by decide +kernel
theorem dX0_give_36 : decode cX0_give 36 = .ok (.ior, 1) := by decide +kernel
theorem dX0_give_37 : decode cX0_give 37 = .ok (.iastore, 1) := by decide +kernel
theorem dX0_give_38 : decode cX0_give 38 = .ok (.aload_n 0, 1) := by decide +kernel
theorem dX0_give_39 : decode cX0_give 39 = .ok (.getfield 11, 3) := by decide +kernel
theorem dX0_give_42 : decode cX0_give 42 = .ok (.iconst 5, 1) := by decide +kernel
theorem dX0_give_43 : decode cX0_give 43 = .ok (.iload_n 1, 1) := by decide +kernel
theorem dX0_give_44 : decode cX0_give 44 = .ok (.iadd, 1) := by decide +kernel
theorem dX0_give_45 : decode cX0_give 45 = .ok (.iconst 0, 1) := by decide +kernel
theorem dX0_give_46 : decode cX0_give 46 = .ok (.iastore, 1) := by decide +kernel
theorem dX0_give_47 : decode cX0_give 47 = .ok (.iconst 1, 1) := by decide +kernel
theorem dX0_give_48 : decode cX0_give 48 = .ok (.ireturn, 1) := by decide +kernel
theorem dX0_giveBack_0 : decode cX0_giveBack 0 = .ok (.aload_n 0, 1) := by decide +kernel
theorem dX0_giveBack_1 : decode cX0_giveBack 1 = .ok (.iload_n 1, 1) := by decide +kernel
theorem dX0_giveBack_2 : decode cX0_giveBack 2 = .ok (.invokevirtual 57, 3) := by decide +kernel
theorem dX0_giveBack_5 : decode cX0_giveBack 5 = .ok (.ifCond .ne 5, 3) := by decide +kernel
theorem dX0_giveBack_8 : decode cX0_giveBack 8 = .ok (.iconst 0, 1) := by decide +kernel
theorem dX0_giveBack_9 : decode cX0_giveBack 9 = .ok (.ireturn, 1) := by decide +kernel
theorem dX0_giveBack_10 : decode cX0_giveBack 10 = .ok (.aload_n 0, 1) := by decide +kernel
theorem dX0_giveBack_11 : decode cX0_giveBack 11 = .ok (.getfield 11, 3) := by decide +kernel
theorem dX0_giveBack_14 : decode cX0_giveBack 14 = .ok (.iconst 2, 1) := by decide +kernel
theorem dX0_giveBack_15 : decode cX0_giveBack 15 = .ok (.dup2, 1) := by decide +kernel
theorem dX0_giveBack_16 : decode cX0_giveBack 16 = .ok (.iaload, 1) := by decide +kernel
theorem dX0_giveBack_17 : decode cX0_giveBack 17 = .ok (.iconst 1, 1) := by decide +kernel
theorem dX0_giveBack_18 : decode cX0_giveBack 18 = .ok (.iload_n 1, 1) := by decide +kernel
theorem dX0_giveBack_19 : decode cX0_giveBack 19 = .ok (.ishl, 1) := by decide +kernel
theorem dX0_giveBack_20 : decode cX0_giveBack 20 = .ok (.iconst (-1), 1) := by decide +kernel
theorem dX0_giveBack_21 : decode cX0_giveBack 21 = .ok (.ixor, 1) := by decide +kernel
theorem dX0_giveBack_22 : decode cX0_giveBack 22 = .ok (.iand, 1) := by decide +kernel
theorem dX0_giveBack_23 : decode cX0_giveBack 23 = .ok (.iastore, 1) := by decide +kernel
theorem dX0_giveBack_24 : decode cX0_giveBack 24 = .ok (.iconst 1, 1) := by decide +kernel
theorem dX0_giveBack_25 : decode cX0_giveBack 25 = .ok (.ireturn, 1) := by decide +kernel
theorem dX0_lapse_0 : decode cX0_lapse 0 = .ok (.aload_n 0, 1) := by decide +kernel
theorem dX0_lapse_1 : decode cX0_lapse 1 = .ok (.iload_n 1, 1) := by decide +kernel
theorem dX0_lapse_2 : decode cX0_lapse 2 = .ok (.invokevirtual 49, 3) := by decide +kernel
theorem dX0_lapse_5 : decode cX0_lapse 5 = .ok (.ifCond .eq 11, 3) := by decide +kernel
theorem dX0_lapse_8 : decode cX0_lapse 8 = .ok (.aload_n 0, 1) := by decide +kernel
theorem dX0_lapse_9 : decode cX0_lapse 9 = .ok (.iload_n 1, 1) := by decide +kernel
theorem dX0_lapse_10 : decode cX0_lapse 10 = .ok (.invokevirtual 53, 3) := by decide +kernel
theorem dX0_lapse_13 : decode cX0_lapse 13 = .ok (.ifCond .ne 5, 3) := by decide +kernel
theorem dX0_lapse_16 : decode cX0_lapse 16 = .ok (.iconst 0, 1) := by decide +kernel
theorem dX0_lapse_17 : decode cX0_lapse 17 = .ok (.ireturn, 1) := by decide +kernel
theorem dX0_lapse_18 : decode cX0_lapse 18 = .ok (.aload_n 0, 1) := by decide +kernel
theorem dX0_lapse_19 : decode cX0_lapse 19 = .ok (.getfield 11, 3) := by decide +kernel
theorem dX0_lapse_22 : decode cX0_lapse 22 = .ok (.bipush 15, 2) := by decide +kernel
theorem dX0_lapse_24 : decode cX0_lapse 24 = .ok (.iload_n 1, 1) := by decide +kernel
theorem dX0_lapse_25 : decode cX0_lapse 25 = .ok (.iadd, 1) := by decide +kernel
theorem dX0_lapse_26 : decode cX0_lapse 26 = .ok (.dup2, 1) := by decide +kernel
theorem dX0_lapse_27 : decode cX0_lapse 27 = .ok (.iaload, 1) := by decide +kernel
theorem dX0_lapse_28 : decode cX0_lapse 28 = .ok (.iconst 1, 1) := by decide +kernel
theorem dX0_lapse_29 : decode cX0_lapse 29 = .ok (.iadd, 1) := by decide +kernel
theorem dX0_lapse_30 : decode cX0_lapse 30 = .ok (.iastore, 1) := by decide +kernel
theorem dX0_lapse_31 : decode cX0_lapse 31 = .ok (.iconst 0, 1) := by decide +kernel
theorem dX0_lapse_32 : decode cX0_lapse 32 = .ok (.istore_n 2, 1) := by decide +kernel
theorem dX0_lapse_33 : decode cX0_lapse 33 = .ok (.iload_n 2, 1) := by decide +kernel
theorem dX0_lapse_34 : decode cX0_lapse 34 = .ok (.aload_n 0, 1) := by decide +kernel
theorem dX0_lapse_35 : decode cX0_lapse 35 = .ok (.getfield 20, 3) := by decide +kernel
theorem dX0_lapse_38 : decode cX0_lapse 38 = .ok (.getfield 89, 3) := by decide +kernel
theorem dX0_lapse_41 : decode cX0_lapse 41 = .ok (.if_icmp .ge 48, 3) := by decide +kernel
theorem dX0_lapse_44 : decode cX0_lapse 44 = .ok (.aload_n 0, 1) := by decide +kernel
theorem dX0_lapse_45 : decode cX0_lapse 45 = .ok (.iload_n 2, 1) := by decide +kernel
theorem dX0_lapse_46 : decode cX0_lapse 46 = .ok (.invokevirtual 57, 3) := by decide +kernel
theorem dX0_lapse_49 : decode cX0_lapse 49 = .ok (.ifCond .eq 34, 3) := by decide +kernel
theorem dX0_lapse_52 : decode cX0_lapse 52 = .ok (.aload_n 0, 1) := by decide +kernel
theorem dX0_lapse_53 : decode cX0_lapse 53 = .ok (.getfield 20, 3) := by decide +kernel
theorem dX0_lapse_56 : decode cX0_lapse 56 = .ok (.getfield 60, 3) := by decide +kernel
theorem dX0_lapse_59 : decode cX0_lapse 59 = .ok (.iload_n 2, 1) := by decide +kernel
theorem dX0_lapse_60 : decode cX0_lapse 60 = .ok (.iaload, 1) := by decide +kernel
theorem dX0_lapse_61 : decode cX0_lapse 61 = .ok (.iload_n 1, 1) := by decide +kernel
theorem dX0_lapse_62 : decode cX0_lapse 62 = .ok (.if_icmp .ne 21, 3) := by decide +kernel
theorem dX0_lapse_65 : decode cX0_lapse 65 = .ok (.aload_n 0, 1) := by decide +kernel
theorem dX0_lapse_66 : decode cX0_lapse 66 = .ok (.getfield 11, 3) := by decide +kernel
theorem dX0_lapse_69 : decode cX0_lapse 69 = .ok (.iconst 5, 1) := by decide +kernel
theorem dX0_lapse_70 : decode cX0_lapse 70 = .ok (.iload_n 2, 1) := by decide +kernel
theorem dX0_lapse_71 : decode cX0_lapse 71 = .ok (.iadd, 1) := by decide +kernel
theorem dX0_lapse_72 : decode cX0_lapse 72 = .ok (.aload_n 0, 1) := by decide +kernel
theorem dX0_lapse_73 : decode cX0_lapse 73 = .ok (.getfield 11, 3) := by decide +kernel
theorem dX0_lapse_76 : decode cX0_lapse 76 = .ok (.iconst 5, 1) := by decide +kernel
theorem dX0_lapse_77 : decode cX0_lapse 77 = .ok (.iload_n 2, 1) := by decide +kernel
theorem dX0_lapse_78 : decode cX0_lapse 78 = .ok (.iadd, 1) := by decide +kernel
theorem dX0_lapse_79 : decode cX0_lapse 79 = .ok (.iaload, 1) := by decide +kernel
theorem dX0_lapse_80 : decode cX0_lapse 80 = .ok (.iconst 2, 1) := by decide +kernel
theorem dX0_lapse_81 : decode cX0_lapse 81 = .ok (.idiv, 1) := by decide +kernel
theorem dX0_lapse_82 : decode cX0_lapse 82 = .ok (.iastore, 1) := by decide +kernel
theorem dX0_lapse_83 : decode cX0_lapse 83 = .ok (.iinc 2 1, 3) := by decide +kernel
theorem dX0_lapse_86 : decode cX0_lapse 86 = .ok (.goto (-53), 3) := by decide +kernel
theorem dX0_lapse_89 : decode cX0_lapse 89 = .ok (.iconst 1, 1) := by decide +kernel
theorem dX0_lapse_90 : decode cX0_lapse 90 = .ok (.ireturn, 1) := by decide +kernel
theorem dX0_cure_0 : decode cX0_cure 0 = .ok (.aload_n 0, 1) := by decide +kernel
theorem dX0_cure_1 : decode cX0_cure 1 = .ok (.iload_n 2, 1) := by decide +kernel
theorem dX0_cure_2 : decode cX0_cure 2 = .ok (.invokevirtual 105, 3) := by decide +kernel
theorem dX0_cure_5 : decode cX0_cure 5 = .ok (.ifCond .ne 21, 3) := by decide +kernel
theorem dX0_cure_8 : decode cX0_cure 8 = .ok (.aload_n 0, 1) := by decide +kernel
theorem dX0_cure_9 : decode cX0_cure 9 = .ok (.iload_n 1, 1) := by decide +kernel
theorem dX0_cure_10 : decode cX0_cure 10 = .ok (.invokevirtual 108, 3) := by decide +kernel
theorem dX0_cure_13 : decode cX0_cure 13 = .ok (.ifCond .ne 13, 3) := by decide +kernel
theorem dX0_cure_16 : decode cX0_cure 16 = .ok (.aload_n 0, 1) := by decide +kernel
theorem dX0_cure_17 : decode cX0_cure 17 = .ok (.iload_n 1, 1) := by decide +kernel
theorem dX0_cure_18 : decode cX0_cure 18 = .ok (.iload_n 2, 1) := by decide +kernel
theorem dX0_cure_19 : decode cX0_cure 19 = .ok (.iconst 0, 1) := by decide +kernel
theorem dX0_cure_20 : decode cX0_cure 20 = .ok (.invokevirtual 101, 3) := by decide +kernel
theorem dX0_cure_23 : decode cX0_cure 23 = .ok (.ifCond .ne 5, 3) := by decide +kernel
theorem dX0_cure_26 : decode cX0_cure 26 = .ok (.iconst 0, 1) := by decide +kernel
theorem dX0_cure_27 : decode cX0_cure 27 = .ok (.ireturn, 1) := by decide +kernel
theorem dX0_cure_28 : decode cX0_cure 28 = .ok (.aload_n 0, 1) := by decide +kernel
theorem dX0_cure_29 : decode cX0_cure 29 = .ok (.getfield 11, 3) := by decide +kernel
theorem dX0_cure_32 : decode cX0_cure 32 = .ok (.iconst 3, 1) := by decide +kernel
theorem dX0_cure_33 : decode cX0_cure 33 = .ok (.dup2, 1) := by decide +kernel
theorem dX0_cure_34 : decode cX0_cure 34 = .ok (.iaload, 1) := by decide +kernel
theorem dX0_cure_35 : decode cX0_cure 35 = .ok (.iconst 1, 1) := by decide +kernel
theorem dX0_cure_36 : decode cX0_cure 36 = .ok (.iload_n 2, 1) := by decide +kernel
theorem dX0_cure_37 : decode cX0_cure 37 = .ok (.ishl, 1) := by decide +kernel
theorem dX0_cure_38 : decode cX0_cure 38 = .ok (.ior, 1) := by decide +kernel
theorem dX0_cure_39 : decode cX0_cure 39 = .ok (.iastore, 1) := by decide +kernel
theorem dX0_cure_40 : decode cX0_cure 40 = .ok (.aload_n 0, 1) := by decide +kernel
theorem dX0_cure_41 : decode cX0_cure 41 = .ok (.getfield 11, 3) := by decide +kernel
theorem dX0_cure_44 : decode cX0_cure 44 = .ok (.iconst 4, 1) := by decide +kernel
theorem dX0_cure_45 : decode cX0_cure 45 = .ok (.dup2, 1) := by decide +kernel
theorem dX0_cure_46 : decode cX0_cure 46 = .ok (.iaload, 1) := by decide +kernel
theorem dX0_cure_47 : decode cX0_cure 47 = .ok (.iconst 1, 1) := by decide +kernel
theorem dX0_cure_48 : decode cX0_cure 48 = .ok (.iload_n 1, 1) := by decide +kernel
theorem dX0_cure_49 : decode cX0_cure 49 = .ok (.ishl, 1) := by decide +kernel
theorem dX0_cure_50 : decode cX0_cure 50 = .ok (.ior, 1) := by decide +kernel
theorem dX0_cure_51 : decode cX0_cure 51 = .ok (.iastore, 1) := by decide +kernel
theorem dX0_cure_52 : decode cX0_cure 52 = .ok (.aload_n 0, 1) := by decide +kernel
theorem dX0_cure_53 : decode cX0_cure 53 = .ok (.getfield 11, 3) := by decide +kernel
theorem dX0_cure_56 : decode cX0_cure 56 = .ok (.bipush 23, 2) := by decide +kernel
theorem dX0_cure_58 : decode cX0_cure 58 = .ok (.iload_n 2, 1) := by decide +kernel
theorem dX0_cure_59 : decode cX0_cure 59 = .ok (.iadd, 1) := by decide +kernel
theorem dX0_cure_60 : decode cX0_cure 60 = .ok (.iload_n 1, 1) := by decide +kernel
theorem dX0_cure_61 : decode cX0_cure 61 = .ok (.iastore, 1) := by decide +kernel
theorem dX0_cure_62 : decode cX0_cure 62 = .ok (.iconst 1, 1) := by decide +kernel
theorem dX0_cure_63 : decode cX0_cure 63 = .ok (.ireturn, 1) := by decide +kernel
theorem dX0_die_0 : decode cX0_die 0 = .ok (.aload_n 0, 1) := by decide +kernel
theorem dX0_die_1 : decode cX0_die 1 = .ok (.iload_n 1, 1) := by decide +kernel
theorem dX0_die_2 : decode cX0_die 2 = .ok (.invokevirtual 49, 3) := by decide +kernel
theorem dX0_die_5 : decode cX0_die 5 = .ok (.ifCond .ne 5, 3) := by decide +kernel
theorem dX0_die_8 : decode cX0_die 8 = .ok (.iconst 0, 1) := by decide +kernel
theorem dX0_die_9 : decode cX0_die 9 = .ok (.ireturn, 1) := by decide +kernel
theorem dX0_die_10 : decode cX0_die 10 = .ok (.aload_n 0, 1) := by decide +kernel
theorem dX0_die_11 : decode cX0_die 11 = .ok (.getfield 11, 3) := by decide +kernel
theorem dX0_die_14 : decode cX0_die 14 = .ok (.iconst 1, 1) := by decide +kernel
theorem dX0_die_15 : decode cX0_die 15 = .ok (.dup2, 1) := by decide +kernel
theorem dX0_die_16 : decode cX0_die 16 = .ok (.iaload, 1) := by decide +kernel
theorem dX0_die_17 : decode cX0_die 17 = .ok (.iconst 1, 1) := by decide +kernel
theorem dX0_die_18 : decode cX0_die 18 = .ok (.iload_n 1, 1) := by decide +kernel
theorem dX0_die_19 : decode cX0_die 19 = .ok (.ishl, 1) := by decide +kernel
theorem dX0_die_20 : decode cX0_die 20 = .ok (.iconst (-1), 1) := by decide +kernel
theorem dX0_die_21 : decode cX0_die 21 = .ok (.ixor, 1) := by decide +kernel
theorem dX0_die_22 : decode cX0_die 22 = .ok (.iand, 1) := by decide +kernel
theorem dX0_die_23 : decode cX0_die 23 = .ok (.iastore, 1) := by decide +kernel
theorem dX0_die_24 : decode cX0_die 24 = .ok (.aload_n 0, 1) := by decide +kernel
theorem dX0_die_25 : decode cX0_die 25 = .ok (.getfield 11, 3) := by decide +kernel
theorem dX0_die_28 : decode cX0_die 28 = .ok (.iconst 2, 1) := by decide +kernel
theorem dX0_die_29 : decode cX0_die 29 = .ok (.dup2, 1) := by decide +kernel
theorem dX0_die_30 : decode cX0_die 30 = .ok (.iaload, 1) := by decide +kernel
theorem dX0_die_31 : decode cX0_die 31 = .ok (.aload_n 0, 1) := by decide +kernel
theorem dX0_die_32 : decode cX0_die 32 = .ok (.getfield 20, 3) := by decide +kernel
theorem dX0_die_35 : decode cX0_die 35 = .ok (.getfield 46, 3) := by decide +kernel
theorem dX0_die_38 : decode cX0_die 38 = .ok (.iload_n 1, 1) := by decide +kernel
theorem dX0_die_39 : decode cX0_die 39 = .ok (.iaload, 1) := by decide +kernel
theorem dX0_die_40 : decode cX0_die 40 = .ok (.iconst (-1), 1) := by decide +kernel
theorem dX0_die_41 : decode cX0_die 41 = .ok (.ixor, 1) := by decide +kernel
theorem dX0_die_42 : decode cX0_die 42 = .ok (.iand, 1) := by decide +kernel
theorem dX0_die_43 : decode cX0_die 43 = .ok (.iastore, 1) := by decide +kernel
theorem dX0_die_44 : decode cX0_die 44 = .ok (.iconst 1, 1) := by decide +kernel
theorem dX0_die_45 : decode cX0_die 45 = .ok (.ireturn, 1) := by decide +kernel
theorem dX0_passDay_0 : decode cX0_passDay 0 = .ok (.iconst 0, 1) := by decide +kernel
theorem dX0_passDay_1 : decode cX0_passDay 1 = .ok (.istore_n 1, 1) := by decide +kernel
theorem dX0_passDay_2 : decode cX0_passDay 2 = .ok (.iload_n 1, 1) := by decide +kernel
theorem dX0_passDay_3 : decode cX0_passDay 3 = .ok (.aload_n 0, 1) := by decide +kernel
theorem dX0_passDay_4 : decode cX0_passDay 4 = .ok (.getfield 20, 3) := by decide +kernel
theorem dX0_passDay_7 : decode cX0_passDay 7 = .ok (.getfield 89, 3) := by decide +kernel
theorem dX0_passDay_10 : decode cX0_passDay 10 = .ok (.if_icmp .ge 29, 3) := by decide +kernel
theorem dX0_passDay_13 : decode cX0_passDay 13 = .ok (.aload_n 0, 1) := by decide +kernel
theorem dX0_passDay_14 : decode cX0_passDay 14 = .ok (.iload_n 1, 1) := by decide +kernel
theorem dX0_passDay_15 : decode cX0_passDay 15 = .ok (.invokevirtual 57, 3) := by decide +kernel
theorem dX0_passDay_18 : decode cX0_passDay 18 = .ok (.ifCond .eq 15, 3) := by decide +kernel
theorem dX0_passDay_21 : decode cX0_passDay 21 = .ok (.aload_n 0, 1) := by decide +kernel
theorem dX0_passDay_22 : decode cX0_passDay 22 = .ok (.getfield 11, 3) := by decide +kernel
theorem dX0_passDay_25 : decode cX0_passDay 25 = .ok (.iconst 5, 1) := by decide +kernel
theorem dX0_passDay_26 : decode cX0_passDay 26 = .ok (.iload_n 1, 1) := by decide +kernel
theorem dX0_passDay_27 : decode cX0_passDay 27 = .ok (.iadd, 1) := by decide +kernel
theorem dX0_passDay_28 : decode cX0_passDay 28 = .ok (.dup2, 1) := by decide +kernel
theorem dX0_passDay_29 : decode cX0_passDay 29 = .ok (.iaload, 1) := by decide +kernel
theorem dX0_passDay_30 : decode cX0_passDay 30 = .ok (.iconst 1, 1) := by decide +kernel
theorem dX0_passDay_31 : decode cX0_passDay 31 = .ok (.iadd, 1) := by decide +kernel
theorem dX0_passDay_32 : decode cX0_passDay 32 = .ok (.iastore, 1) := by decide +kernel
theorem dX0_passDay_33 : decode cX0_passDay 33 = .ok (.iinc 1 1, 3) := by decide +kernel
theorem dX0_passDay_36 : decode cX0_passDay 36 = .ok (.goto (-34), 3) := by decide +kernel
theorem dX0_passDay_39 : decode cX0_passDay 39 = .ok (.aload_n 0, 1) := by decide +kernel
theorem dX0_passDay_40 : decode cX0_passDay 40 = .ok (.getfield 11, 3) := by decide +kernel
theorem dX0_passDay_43 : decode cX0_passDay 43 = .ok (.iconst 4, 1) := by decide +kernel
theorem dX0_passDay_44 : decode cX0_passDay 44 = .ok (.iconst 0, 1) := by decide +kernel
theorem dX0_passDay_45 : decode cX0_passDay 45 = .ok (.iastore, 1) := by decide +kernel
theorem dX0_passDay_46 : decode cX0_passDay 46 = .ok (.aload_n 0, 1) := by decide +kernel
theorem dX0_passDay_47 : decode cX0_passDay 47 = .ok (.getfield 11, 3) := by decide +kernel
theorem dX0_passDay_50 : decode cX0_passDay 50 = .ok (.iconst 0, 1) := by decide +kernel
theorem dX0_passDay_51 : decode cX0_passDay 51 = .ok (.dup2, 1) := by decide +kernel
theorem dX0_passDay_52 : decode cX0_passDay 52 = .ok (.iaload, 1) := by decide +kernel
theorem dX0_passDay_53 : decode cX0_passDay 53 = .ok (.iconst 1, 1) := by decide +kernel
theorem dX0_passDay_54 : decode cX0_passDay 54 = .ok (.iadd, 1) := by decide +kernel
theorem dX0_passDay_55 : decode cX0_passDay 55 = .ok (.iastore, 1) := by decide +kernel
theorem dX0_passDay_56 : decode cX0_passDay 56 = .ok (.iconst 1, 1) := by decide +kernel
theorem dX0_passDay_57 : decode cX0_passDay 57 = .ok (.ireturn, 1) := by decide +kernel
theorem dX1_init_0 : decode cX1_init 0 = .ok (.aload_n 0, 1) := by decide +kernel
theorem dX1_init_1 : decode cX1_init 1 = .ok (.invokespecial 3, 3) := by decide +kernel
theorem dX1_init_4 : decode cX1_init 4 = .ok (.aload_n 0, 1) := by decide +kernel
theorem dX1_init_5 : decode cX1_init 5 = .ok (.bipush 8, 2) := by decide +kernel
theorem dX1_init_7 : decode cX1_init 7 = .ok (.newarray .int, 2) := by decide +kernel
theorem dX1_init_9 : decode cX1_init 9 = .ok (.putfield 9, 3) := by decide +kernel
theorem dX1_init_12 : decode cX1_init 12 = .ok (.aload_n 0, 1) := by decide +kernel
theorem dX1_init_13 : decode cX1_init 13 = .ok (.bipush 8, 2) := by decide +kernel
theorem dX1_init_15 : decode cX1_init 15 = .ok (.newarray .int, 2) := by decide +kernel
theorem dX1_init_17 : decode cX1_init 17 = .ok (.putfield 15, 3) := by decide +kernel
theorem dX1_init_20 : decode cX1_init 20 = .ok (.aload_n 0, 1) := by decide +kernel
theorem dX1_init_21 : decode cX1_init 21 = .ok (.bipush 8, 2) := by decide +kernel
theorem dX1_init_23 : decode cX1_init 23 = .ok (.newarray .int, 2) := by decide +kernel
theorem dX1_init_25 : decode cX1_init 25 = .ok (.putfield 18, 3) := by decide +kernel
theorem dX1_init_28 : decode cX1_init 28 = .ok (.aload_n 0, 1) := by decide +kernel
theorem dX1_init_29 : decode cX1_init 29 = .ok (.bipush 10, 2) := by decide +kernel
theorem dX1_init_31 : decode cX1_init 31 = .ok (.newarray .int, 2) := by decide +kernel
theorem dX1_init_33 : decode cX1_init 33 = .ok (.putfield 21, 3) := by decide +kernel
theorem dX1_init_36 : decode cX1_init 36 = .ok (.aload_n 0, 1) := by decide +kernel
theorem dX1_init_37 : decode cX1_init 37 = .ok (.bipush 10, 2) := by decide +kernel
theorem dX1_init_39 : decode cX1_init 39 = .ok (.newarray .int, 2) := by decide +kernel
theorem dX1_init_41 : decode cX1_init 41 = .ok (.putfield 24, 3) := by decide +kernel
theorem dX1_init_44 : decode cX1_init 44 = .ok (.aload_n 0, 1) := by decide +kernel
theorem dX1_init_45 : decode cX1_init 45 = .ok (.bipush 10, 2) := by decide +kernel
theorem dX1_init_47 : decode cX1_init 47 = .ok (.newarray .int, 2) := by decide +kernel
theorem dX1_init_49 : decode cX1_init 49 = .ok (.putfield 27, 3) := by decide +kernel
theorem dX1_init_52 : decode cX1_init 52 = .ok (.aload_n 0, 1) := by decide +kernel
theorem dX1_init_53 : decode cX1_init 53 = .ok (.bipush 8, 2) := by decide +kernel
theorem dX1_init_55 : decode cX1_init 55 = .ok (.newarray .int, 2) := by decide +kernel
theorem dX1_init_57 : decode cX1_init 57 = .ok (.putfield 30, 3) := by decide +kernel
theorem dX1_init_60 : decode cX1_init 60 = .ok (.aload_n 0, 1) := by decide +kernel
theorem dX1_init_61 : decode cX1_init 61 = .ok (.bipush 8, 2) := by decide +kernel
theorem dX1_init_63 : decode cX1_init 63 = .ok (.newarray .int, 2) := by decide +kernel
theorem dX1_init_65 : decode cX1_init 65 = .ok (.putfield 33, 3) := by decide +kernel
theorem dX1_init_68 : decode cX1_init 68 = .ok (.return_, 1) := by decide +kernel
theorem dX1_hasSister_0 : decode cX1_hasSister 0 = .ok (.iload_n 1, 1) := by decide +kernel
theorem dX1_hasSister_1 : decode cX1_hasSister 1 = .ok (.ifCond .lt 15, 3) := by decide +kernel
theorem dX1_hasSister_4 : decode cX1_hasSister 4 = .ok (.iload_n 1, 1) := by decide +kernel
theorem dX1_hasSister_5 : decode cX1_hasSister 5 = .ok (.aload_n 0, 1) := by decide +kernel
theorem dX1_hasSister_6 : decode cX1_hasSister 6 = .ok (.getfield 36, 3) := by decide +kernel
theorem dX1_hasSister_9 : decode cX1_hasSister 9 = .ok (.if_icmp .ge 7, 3) := by decide +kernel
theorem dX1_hasSister_12 : decode cX1_hasSister 12 = .ok (.iconst 1, 1) := by decide +kernel
theorem dX1_hasSister_13 : decode cX1_hasSister 13 = .ok (.goto 4, 3) := by decide +kernel
theorem dX1_hasSister_16 : decode cX1_hasSister 16 = .ok (.iconst 0, 1) := by decide +kernel
theorem dX1_hasSister_17 : decode cX1_hasSister 17 = .ok (.ireturn, 1) := by decide +kernel
theorem dX1_hasRelic_0 : decode cX1_hasRelic 0 = .ok (.iload_n 1, 1) := by decide +kernel
theorem dX1_hasRelic_1 : decode cX1_hasRelic 1 = .ok (.ifCond .lt 15, 3) := by decide +kernel
theorem dX1_hasRelic_4 : decode cX1_hasRelic 4 = .ok (.iload_n 1, 1) := by decide +kernel
theorem dX1_hasRelic_5 : decode cX1_hasRelic 5 = .ok (.aload_n 0, 1) := by decide +kernel
theorem dX1_hasRelic_6 : decode cX1_hasRelic 6 = .ok (.getfield 40, 3) := by decide +kernel
theorem dX1_hasRelic_9 : decode cX1_hasRelic 9 = .ok (.if_icmp .ge 7, 3) := by decide +kernel
theorem dX1_hasRelic_12 : decode cX1_hasRelic 12 = .ok (.iconst 1, 1) := by decide +kernel
theorem dX1_hasRelic_13 : decode cX1_hasRelic 13 = .ok (.goto 4, 3) := by decide +kernel
theorem dX1_hasRelic_16 : decode cX1_hasRelic 16 = .ok (.iconst 0, 1) := by decide +kernel
theorem dX1_hasRelic_17 : decode cX1_hasRelic 17 = .ok (.ireturn, 1) := by decide +kernel
theorem dX1_hasPilgrim_0 : decode cX1_hasPilgrim 0 = .ok (.iload_n 1, 1) := by decide +kernel
theorem dX1_hasPilgrim_1 : decode cX1_hasPilgrim 1 = .ok (.ifCond .lt 15, 3) := by decide +kernel
theorem dX1_hasPilgrim_4 : decode cX1_hasPilgrim 4 = .ok (.iload_n 1, 1) := by decide +kernel
theorem dX1_hasPilgrim_5 : decode cX1_hasPilgrim 5 = .ok (.aload_n 0, 1) := by decide +kernel
theorem dX1_hasPilgrim_6 : decode cX1_hasPilgrim 6 = .ok (.getfield 43, 3) := by decide +kernel
theorem dX1_hasPilgrim_9 : decode cX1_hasPilgrim 9 = .ok (.if_icmp .ge 7, 3) := by decide +kernel
theorem dX1_hasPilgrim_12 : decode cX1_hasPilgrim 12 = .ok (.iconst 1, 1) := by decide +kernel
theorem dX1_hasPilgrim_13 : decode cX1_hasPilgrim 13 = .ok (.goto 4, 3) := by decide +kernel
theorem dX1_hasPilgrim_16 : decode cX1_hasPilgrim 16 = .ok (.iconst 0, 1) := by decide +kernel
theorem dX1_hasPilgrim_17 : decode cX1_hasPilgrim 17 = .ok (.ireturn, 1) := by decide +kernel
theorem dX1_read_0 : decode cX1_read 0 = .ok (.aload_n 0, 1) := by decide +kernel
theorem dX1_read_1 : decode cX1_read 1 = .ok (.iconst 0, 1) := by decide +kernel
theorem dX1_read_2 : decode cX1_read 2 = .ok (.putfield 36, 3) := by decide +kernel
theorem dX1_read_5 : decode cX1_read 5 = .ok (.aload_n 0, 1) := by decide +kernel
theorem dX1_read_6 : decode cX1_read 6 = .ok (.iconst 0, 1) := by decide +kernel
theorem dX1_read_7 : decode cX1_read 7 = .ok (.putfield 40, 3) := by decide +kernel
theorem dX1_read_10 : decode cX1_read 10 = .ok (.aload_n 0, 1) := by decide +kernel
theorem dX1_read_11 : decode cX1_read 11 = .ok (.iconst 0, 1) := by decide +kernel
theorem dX1_read_12 : decode cX1_read 12 = .ok (.putfield 43, 3) := by decide +kernel
theorem dX1_read_15 : decode cX1_read 15 = .ok (.iconst 0, 1) := by decide +kernel
theorem dX1_read_16 : decode cX1_read 16 = .ok (.istore_n 2, 1) := by decide +kernel
theorem dX1_read_17 : decode cX1_read 17 = .ok (.iload_n 2, 1) := by decide +kernel
theorem dX1_read_18 : decode cX1_read 18 = .ok (.bipush 60, 2) := by decide +kernel
theorem dX1_read_20 : decode cX1_read 20 = .ok (.if_icmp .gt 30, 3) := by decide +kernel
theorem dX1_read_23 : decode cX1_read 23 = .ok (.aload_n 1, 1) := by decide +kernel
theorem dX1_read_24 : decode cX1_read 24 = .ok (.invokevirtual 46, 3) := by decide +kernel
theorem dX1_read_27 : decode cX1_read 27 = .ok (.ifCond .eq 23, 3) := by decide +kernel
theorem dX1_read_30 : decode cX1_read 30 = .ok (.aload_n 1, 1) := by decide +kernel
theorem dX1_read_31 : decode cX1_read 31 = .ok (.invokevirtual 52, 3) := by decide +kernel
theorem dX1_read_34 : decode cX1_read 34 = .ok (.iconst (-1), 1) := by decide +kernel
theorem dX1_read_35 : decode cX1_read 35 = .ok (.if_icmp .eq 15, 3) := by decide +kernel
theorem dX1_read_38 : decode cX1_read 38 = .ok (.aload_n 0, 1) := by decide +kernel
theorem dX1_read_39 : decode cX1_read 39 = .ok (.aload_n 1, 1) := by decide +kernel
theorem dX1_read_40 : decode cX1_read 40 = .ok (.iload_n 2, 1) := by decide +kernel
theorem dX1_read_41 : decode cX1_read 41 = .ok (.invokevirtual 56, 3) := by decide +kernel
theorem dX1_read_44 : decode cX1_read 44 = .ok (.iinc 2 1, 3) := by decide +kernel
theorem dX1_read_47 : decode cX1_read 47 = .ok (.goto (-30), 3) := by decide +kernel
theorem dX1_read_50 : decode cX1_read 50 = .ok (.return_, 1) := by decide +kernel
theorem dX1_readClause_0 : decode cX1_readClause 0 = .ok (.aload_n 1, 1) := by decide +kernel
theorem dX1_readClause_1 : decode cX1_readClause 1 = .ok (.ldc 60, 2) := by decide +kernel
theorem dX1_readClause_3 : decode cX1_readClause 3 = .ok (.invokevirtual 62, 3) := by decide +kernel
theorem dX1_readClause_6 : decode cX1_readClause 6 = .ok (.istore_n 3, 1) := by decide +kernel
theorem dX1_readClause_7 : decode cX1_readClause 7 = .ok (.iload_n 3, 1) := by decide +kernel
theorem dX1_readClause_8 : decode cX1_readClause 8 = .ok (.iconst (-1), 1) := by decide +kernel
theorem dX1_readClause_9 : decode cX1_readClause 9 = .ok (.if_icmp .ne 4, 3) := by decide +kernel
theorem dX1_readClause_12 : decode cX1_readClause 12 = .ok (.return_, 1) := by decide +kernel
theorem dX1_readClause_13 : decode cX1_readClause 13 = .ok (.iload_n 2, 1) := by decide +kernel
theorem dX1_readClause_14 : decode cX1_readClause 14 = .ok (.bipush 60, 2) := by decide +kernel
theorem dX1_readClause_16 : decode cX1_readClause 16 = .ok (.if_icmp .eq 11, 3) := by decide +kernel
theorem dX1_readClause_19 : decode cX1_readClause 19 = .ok (.aload_n 0, 1) := by decide +kernel
theorem dX1_readClause_20 : decode cX1_readClause 20 = .ok (.iload_n 3, 1) := by decide +kernel
theorem dX1_readClause_21 : decode cX1_readClause 21 = .ok (.invokevirtual 66, 3) := by decide +kernel
theorem dX1_readClause_24 : decode cX1_readClause 24 = .ok (.ifCond .eq 13, 3) := by decide +kernel
theorem dX1_readClause_27 : decode cX1_readClause 27 = .ok (.aload_n 1, 1) := by decide +kernel
theorem dX1_readClause_28 : decode cX1_readClause 28 = .ok (.iconst 3, 1) := by decide +kernel
theorem dX1_readClause_29 : decode cX1_readClause 29 = .ok (.aload_n 1, 1) := by decide +kernel
theorem dX1_readClause_30 : decode cX1_readClause 30 = .ok (.getfield 70, 3) := by decide +kernel
theorem dX1_readClause_33 : decode cX1_readClause 33 = .ok (.invokevirtual 73, 3) := by decide +kernel
theorem dX1_readClause_36 : decode cX1_readClause 36 = .ok (.return_, 1) := by decide +kernel
theorem dX1_readClause_37 : decode cX1_readClause 37 = .ok (.iload_n 3, 1) := by decide +kernel
theorem dX1_readClause_38 : decode cX1_readClause 38 = .ok (.ifCond .ne 11, 3) := by decide +kernel
theorem dX1_readClause_41 : decode cX1_readClause 41 = .ok (.aload_n 0, 1) := by decide +kernel
theorem dX1_readClause_42 : decode cX1_readClause 42 = .ok (.aload_n 1, 1) := by decide +kernel
theorem dX1_readClause_43 : decode cX1_readClause 43 = .ok (.invokevirtual 77, 3) := by decide +kernel
theorem dX1_readClause_46 : decode cX1_readClause 46 = .ok (.goto 34, 3) := by decide +kernel
theorem dX1_readClause_49 : decode cX1_readClause 49 = .ok (.iload_n 3, 1) := by decide +kernel
theorem dX1_readClause_50 : decode cX1_readClause 50 = .ok (.iconst 1, 1) := by decide +kernel
theorem dX1_readClause_51 : decode cX1_readClause 51 = .ok (.if_icmp .ne 11, 3) := by decide +kernel
theorem dX1_readClause_54 : decode cX1_readClause 54 = .ok (.aload_n 0, 1) := by decide +kernel
theorem dX1_readClause_55 : decode cX1_readClause 55 = .ok (.aload_n 1, 1) := by decide +kernel
theorem dX1_readClause_56 : decode cX1_readClause 56 = .ok (.invokevirtual 81, 3) := by decide +kernel
theorem dX1_readClause_59 : decode cX1_readClause 59 = .ok (.goto 21, 3) := by decide +kernel
theorem dX1_readClause_62 : decode cX1_readClause 62 = .ok (.iload_n 3, 1) := by decide +kernel
theorem dX1_readClause_63 : decode cX1_readClause 63 = .ok (.iconst 2, 1) := by decide +kernel
theorem dX1_readClause_64 : decode cX1_readClause 64 = .ok (.if_icmp .ne 11, 3) := by decide +kernel
theorem dX1_readClause_67 : decode cX1_readClause 67 = .ok (.aload_n 0, 1) := by decide +kernel
theorem dX1_readClause_68 : decode cX1_readClause 68 = .ok (.aload_n 1, 1) := by decide +kernel
theorem dX1_readClause_69 : decode cX1_readClause 69 = .ok (.invokevirtual 84, 3) := by decide +kernel
theorem dX1_readClause_72 : decode cX1_readClause 72 = .ok (.goto 8, 3) := by decide +kernel
theorem dX1_readClause_75 : decode cX1_readClause 75 = .ok (.aload_n 0, 1) := by decide +kernel
theorem dX1_readClause_76 : decode cX1_readClause 76 = .ok (.aload_n 1, 1) := by decide +kernel
theorem dX1_readClause_77 : decode cX1_readClause 77 = .ok (.invokevirtual 87, 3) := by decide +kernel
theorem dX1_readClause_80 : decode cX1_readClause 80 = .ok (.aload_n 1, 1) := by decide +kernel
theorem dX1_readClause_81 : decode cX1_readClause 81 = .ok (.bipush 59, 2) := by decide +kernel
theorem dX1_readClause_83 : decode cX1_readClause 83 = .ok (.invokevirtual 90, 3) := by decide +kernel
theorem dX1_readClause_86 : decode cX1_readClause 86 = .ok (.return_, 1) := by decide +kernel
theorem dX1_isFull_0 : decode cX1_isFull 0 = .ok (.iload_n 1, 1) := by decide +kernel
theorem dX1_isFull_1 : decode cX1_isFull 1 = .ok (.ifCond .ne 12, 3) := by decide +kernel
theorem dX1_isFull_4 : decode cX1_isFull 4 = .ok (.aload_n 0, 1) := by decide +kernel
theorem dX1_isFull_5 : decode cX1_isFull 5 = .ok (.getfield 36, 3) := by decide +kernel
theorem dX1_isFull_8 : decode cX1_isFull 8 = .ok (.bipush 8, 2) := by decide +kernel
theorem dX1_isFull_10 : decode cX1_isFull 10 = .ok (.if_icmp .ge 31, 3) := by decide +kernel
theorem dX1_isFull_13 : decode cX1_isFull 13 = .ok (.iload_n 1, 1) := by decide +kernel
theorem dX1_isFull_14 : decode cX1_isFull 14 = .ok (.iconst 1, 1) := by decide +kernel
theorem dX1_isFull_15 : decode cX1_isFull 15 = .ok (.if_icmp .ne 12, 3) := by decide +kernel
theorem dX1_isFull_18 : decode cX1_isFull 18 = .ok (.aload_n 0, 1) := by decide +kernel
theorem dX1_isFull_19 : decode cX1_isFull 19 = .ok (.getfield 40, 3) := by decide +kernel
theorem dX1_isFull_22 : decode cX1_isFull 22 = .ok (.bipush 10, 2) := by decide +kernel
theorem dX1_isFull_24 : decode cX1_isFull 24 = .ok (.if_icmp .ge 17, 3) := by decide +kernel
theorem dX1_isFull_27 : decode cX1_isFull 27 = .ok (.iload_n 1, 1) := by decide +kernel
theorem dX1_isFull_28 : decode cX1_isFull 28 = .ok (.iconst 2, 1) := by decide +kernel
theorem dX1_isFull_29 : decode cX1_isFull 29 = .ok (.if_icmp .ne 16, 3) := by decide +kernel
theorem dX1_isFull_32 : decode cX1_isFull 32 = .ok (.aload_n 0, 1) := by decide +kernel
theorem dX1_isFull_33 : decode cX1_isFull 33 = .ok (.getfield 43, 3) := by decide +kernel
theorem dX1_isFull_36 : decode cX1_isFull 36 = .ok (.bipush 8, 2) := by decide +kernel
theorem dX1_isFull_38 : decode cX1_isFull 38 = .ok (.if_icmp .lt 7, 3) := by decide +kernel
theorem dX1_isFull_41 : decode cX1_isFull 41 = .ok (.iconst 1, 1) := by decide +kernel
theorem dX1_isFull_42 : decode cX1_isFull 42 = .ok (.goto 4, 3) := by decide +kernel
theorem dX1_isFull_45 : decode cX1_isFull 45 = .ok (.iconst 0, 1) := by decide +kernel
theorem dX1_isFull_46 : decode cX1_isFull 46 = .ok (.ireturn, 1) := by decide +kernel
theorem dX1_readSister_0 : decode cX1_readSister 0 = .ok (.aload_n 1, 1) := by decide +kernel
theorem dX1_readSister_1 : decode cX1_readSister 1 = .ok (.iconst 0, 1) := by decide +kernel
theorem dX1_readSister_2 : decode cX1_readSister 2 = .ok (.bipush 15, 2) := by decide +kernel
theorem dX1_readSister_4 : decode cX1_readSister 4 = .ok (.invokevirtual 94, 3) := by decide +kernel
theorem dX1_readSister_7 : decode cX1_readSister 7 = .ok (.istore_n 2, 1) := by decide +kernel
theorem dX1_readSister_8 : decode cX1_readSister 8 = .ok (.aload_n 1, 1) := by decide +kernel
theorem dX1_readSister_9 : decode cX1_readSister 9 = .ok (.invokevirtual 46, 3) := by decide +kernel
theorem dX1_readSister_12 : decode cX1_readSister 12 = .ok (.ifCond .eq 52, 3) := by decide +kernel
theorem dX1_readSister_15 : decode cX1_readSister 15 = .ok (.aload_n 0, 1) := by decide +kernel
theorem dX1_readSister_16 : decode cX1_readSister 16 = .ok (.getfield 36, 3) := by decide +kernel
theorem dX1_readSister_19 : decode cX1_readSister 19 = .ok (.bipush 8, 2) := by decide +kernel
theorem dX1_readSister_21 : decode cX1_readSister 21 = .ok (.if_icmp .ge 43, 3) := by decide +kernel
theorem dX1_readSister_24 : decode cX1_readSister 24 = .ok (.aload_n 0, 1) := by decide +kernel
theorem dX1_readSister_25 : decode cX1_readSister 25 = .ok (.getfield 9, 3) := by decide +kernel
theorem dX1_readSister_28 : decode cX1_readSister 28 = .ok (.aload_n 0, 1) := by decide +kernel
theorem dX1_readSister_29 : decode cX1_readSister 29 = .ok (.getfield 36, 3) := by decide +kernel
theorem dX1_readSister_32 : decode cX1_readSister 32 = .ok (.iload_n 2, 1) := by decide +kernel
theorem dX1_readSister_33 : decode cX1_readSister 33 = .ok (.iastore, 1) := by decide +kernel
theorem dX1_readSister_34 : decode cX1_readSister 34 = .ok (.aload_n 0, 1) := by decide +kernel
theorem dX1_readSister_35 : decode cX1_readSister 35 = .ok (.getfield 15, 3) := by decide +kernel
theorem dX1_readSister_38 : decode cX1_readSister 38 = .ok (.aload_n 0, 1) := by decide +kernel
theorem dX1_readSister_39 : decode cX1_readSister 39 = .ok (.getfield 36, 3) := by decide +kernel
theorem dX1_readSister_42 : decode cX1_readSister 42 = .ok (.iconst 0, 1) := by decide +kernel
theorem dX1_readSister_43 : decode cX1_readSister 43 = .ok (.iastore, 1) := by decide +kernel
theorem dX1_readSister_44 : decode cX1_readSister 44 = .ok (.aload_n 0, 1) := by decide +kernel
theorem dX1_readSister_45 : decode cX1_readSister 45 = .ok (.getfield 18, 3) := by decide +kernel
theorem dX1_readSister_48 : decode cX1_readSister 48 = .ok (.aload_n 0, 1) := by decide +kernel
theorem dX1_readSister_49 : decode cX1_readSister 49 = .ok (.getfield 36, 3) := by decide +kernel
theorem dX1_readSister_52 : decode cX1_readSister 52 = .ok (.iconst (-1), 1) := by decide +kernel
theorem dX1_readSister_53 : decode cX1_readSister 53 = .ok (.iastore, 1) := by decide +kernel
theorem dX1_readSister_54 : decode cX1_readSister 54 = .ok (.aload_n 0, 1) := by decide +kernel
theorem dX1_readSister_55 : decode cX1_readSister 55 = .ok (.dup, 1) := by decide +kernel
theorem dX1_readSister_56 : decode cX1_readSister 56 = .ok (.getfield 36, 3) := by decide +kernel
theorem dX1_readSister_59 : decode cX1_readSister 59 = .ok (.iconst 1, 1) := by decide +kernel
theorem dX1_readSister_60 : decode cX1_readSister 60 = .ok (.iadd, 1) := by decide +kernel
theorem dX1_readSister_61 : decode cX1_readSister 61 = .ok (.putfield 36, 3) := by decide +kernel
theorem dX1_readSister_64 : decode cX1_readSister 64 = .ok (.return_, 1) := by decide +kernel
theorem dX1_readRelic_0 : decode cX1_readRelic 0 = .ok (.aload_n 1, 1) := by decide +kernel
theorem dX1_readRelic_1 : decode cX1_readRelic 1 = .ok (.iconst 0, 1) := by decide +kernel
theorem dX1_readRelic_2 : decode cX1_readRelic 2 = .ok (.aload_n 0, 1) := by decide +kernel
theorem dX1_readRelic_3 : decode cX1_readRelic 3 = .ok (.getfield 36, 3) := by decide +kernel
theorem dX1_readRelic_6 : decode cX1_readRelic 6 = .ok (.iconst 1, 1) := by decide +kernel
theorem dX1_readRelic_7 : decode cX1_readRelic 7 = .ok (.isub, 1) := by decide +kernel
theorem dX1_readRelic_8 : decode cX1_readRelic 8 = .ok (.invokevirtual 94, 3) := by decide +kernel
theorem dX1_readRelic_11 : decode cX1_readRelic 11 = .ok (.istore_n 2, 1) := by decide +kernel
theorem dX1_readRelic_12 : decode cX1_readRelic 12 = .ok (.aload_n 1, 1) := by decide +kernel
theorem dX1_readRelic_13 : decode cX1_readRelic 13 = .ok (.iconst 0, 1) := by decide +kernel
theorem dX1_readRelic_14 : decode cX1_readRelic 14 = .ok (.iconst 5, 1) := by decide +kernel
theorem dX1_readRelic_15 : decode cX1_readRelic 15 = .ok (.invokevirtual 94, 3) := by decide +kernel
theorem dX1_readRelic_18 : decode cX1_readRelic 18 = .ok (.istore_n 3, 1) := by decide +kernel
theorem dX1_readRelic_19 : decode cX1_readRelic 19 = .ok (.aload_n 1, 1) := by decide +kernel
theorem dX1_readRelic_20 : decode cX1_readRelic 20 = .ok (.iconst 1, 1) := by decide +kernel
theorem dX1_readRelic_21 : decode cX1_readRelic 21 = .ok (.bipush 30, 2) := by decide +kernel
theorem dX1_readRelic_23 : decode cX1_readRelic 23 = .ok (.invokevirtual 94, 3) := by decide +kernel
theorem dX1_readRelic_26 : decode cX1_readRelic 26 = .ok (.istore 4, 2) := by decide +kernel
theorem dX1_readRelic_28 : decode cX1_readRelic 28 = .ok (.aload_n 1, 1) := by decide +kernel
theorem dX1_readRelic_29 : decode cX1_readRelic 29 = .ok (.invokevirtual 46, 3) := by decide +kernel
theorem dX1_readRelic_32 : decode cX1_readRelic 32 = .ok (.ifCond .eq 76, 3) := by decide +kernel
theorem dX1_readRelic_35 : decode cX1_readRelic 35 = .ok (.aload_n 0, 1) := by decide +kernel
theorem dX1_readRelic_36 : decode cX1_readRelic 36 = .ok (.iload_n 2, 1) := by decide +kernel
theorem dX1_readRelic_37 : decode cX1_readRelic 37 = .ok (.invokevirtual 98, 3) := by decide +kernel
theorem dX1_readRelic_40 : decode cX1_readRelic 40 = .ok (.ifCond .eq 68, 3) := by decide +kernel
theorem dX1_readRelic_43 : decode cX1_readRelic 43 = .ok (.aload_n 0, 1) := by decide +kernel
theorem dX1_readRelic_44 : decode cX1_readRelic 44 = .ok (.getfield 40, 3) := by decide +kernel
theorem dX1_readRelic_47 : decode cX1_readRelic 47 = .ok (.bipush 10, 2) := by decide +kernel
theorem dX1_readRelic_49 : decode cX1_readRelic 49 = .ok (.if_icmp .ge 59, 3) := by decide +kernel
theorem dX1_readRelic_52 : decode cX1_readRelic 52 = .ok (.aload_n 0, 1) := by decide +kernel
theorem dX1_readRelic_53 : decode cX1_readRelic 53 = .ok (.getfield 21, 3) := by decide +kernel
theorem dX1_readRelic_56 : decode cX1_readRelic 56 = .ok (.aload_n 0, 1) := by decide +kernel
theorem dX1_readRelic_57 : decode cX1_readRelic 57 = .ok (.getfield 40, 3) := by decide +kernel
theorem dX1_readRelic_60 : decode cX1_readRelic 60 = .ok (.iload_n 2, 1) := by decide +kernel
theorem dX1_readRelic_61 : decode cX1_readRelic 61 = .ok (.iastore, 1) := by decide +kernel
theorem dX1_readRelic_62 : decode cX1_readRelic 62 = .ok (.aload_n 0, 1) := by decide +kernel
theorem dX1_readRelic_63 : decode cX1_readRelic 63 = .ok (.getfield 24, 3) := by decide +kernel
theorem dX1_readRelic_66 : decode cX1_readRelic 66 = .ok (.aload_n 0, 1) := by decide +kernel
theorem dX1_readRelic_67 : decode cX1_readRelic 67 = .ok (.getfield 40, 3) := by decide +kernel
theorem dX1_readRelic_70 : decode cX1_readRelic 70 = .ok (.iload_n 3, 1) := by decide +kernel
theorem dX1_readRelic_71 : decode cX1_readRelic 71 = .ok (.iastore, 1) := by decide +kernel
theorem dX1_readRelic_72 : decode cX1_readRelic 72 = .ok (.aload_n 0, 1) := by decide +kernel
theorem dX1_readRelic_73 : decode cX1_readRelic 73 = .ok (.getfield 27, 3) := by decide +kernel
theorem dX1_readRelic_76 : decode cX1_readRelic 76 = .ok (.aload_n 0, 1) := by decide +kernel
theorem dX1_readRelic_77 : decode cX1_readRelic 77 = .ok (.getfield 40, 3) := by decide +kernel
theorem dX1_readRelic_80 : decode cX1_readRelic 80 = .ok (.iload 4, 2) := by decide +kernel
theorem dX1_readRelic_82 : decode cX1_readRelic 82 = .ok (.iastore, 1) := by decide +kernel
theorem dX1_readRelic_83 : decode cX1_readRelic 83 = .ok (.aload_n 0, 1) := by decide +kernel
theorem dX1_readRelic_84 : decode cX1_readRelic 84 = .ok (.getfield 15, 3) := by decide +kernel
theorem dX1_readRelic_87 : decode cX1_readRelic 87 = .ok (.iload_n 2, 1) := by decide +kernel
theorem dX1_readRelic_88 : decode cX1_readRelic 88 = .ok (.dup2, 1) := by decide +kernel
theorem dX1_readRelic_89 : decode cX1_readRelic 89 = .ok (.iaload, 1) := by decide +kernel
theorem dX1_readRelic_90 : decode cX1_readRelic 90 = .ok (.iconst 1, 1) := by decide +kernel
theorem dX1_readRelic_91 : decode cX1_readRelic 91 = .ok (.aload_n 0, 1) := by decide +kernel
theorem dX1_readRelic_92 : decode cX1_readRelic 92 = .ok (.getfield 40, 3) := by decide +kernel
theorem dX1_readRelic_95 : decode cX1_readRelic 95 = .ok (.ishl, 1) := by decide +kernel
theorem dX1_readRelic_96 : decode cX1_readRelic 96 = .ok (.ior, 1) := by decide +kernel
theorem dX1_readRelic_97 : decode cX1_readRelic 97 = .ok (.iastore, 1) := by decide +kernel
theorem dX1_readRelic_98 : decode cX1_readRelic 98 = .ok (.aload_n 0, 1) := by decide +kernel
theorem dX1_readRelic_99 : decode cX1_readRelic 99 = .ok (.dup, 1) := by decide +kernel
theorem dX1_readRelic_100 : decode cX1_readRelic 100 = .ok (.getfield 40, 3) := by decide +kernel
theorem dX1_readRelic_103 : decode cX1_readRelic 103 = .ok (.iconst 1, 1) := by decide +kernel
theorem dX1_readRelic_104 : decode cX1_readRelic 104 = .ok (.iadd, 1) := by decide +kernel
theorem dX1_readRelic_105 : decode cX1_readRelic 105 = .ok (.putfield 40, 3) := by decide +kernel
theorem dX1_readRelic_108 : decode cX1_readRelic 108 = .ok (.return_, 1) := by decide +kernel
theorem dX1_readPilgrim_0 : decode cX1_readPilgrim 0 = .ok (.aload_n 1, 1) := by decide +kernel
theorem dX1_readPilgrim_1 : decode cX1_readPilgrim 1 = .ok (.iconst 0, 1) := by decide +kernel
theorem dX1_readPilgrim_2 : decode cX1_readPilgrim 2 = .ok (.iconst 5, 1) := by decide +kernel
theorem dX1_readPilgrim_3 : decode cX1_readPilgrim 3 = .ok (.invokevirtual 94, 3) := by decide +kernel
theorem dX1_readPilgrim_6 : decode cX1_readPilgrim 6 = .ok (.istore_n 2, 1) := by decide +kernel
theorem dX1_readPilgrim_7 : decode cX1_readPilgrim 7 = .ok (.aload_n 1, 1) := by decide +kernel
theorem dX1_readPilgrim_8 : decode cX1_readPilgrim 8 = .ok (.iconst 1, 1) := by decide +kernel
theorem dX1_readPilgrim_9 : decode cX1_readPilgrim 9 = .ok (.bipush 99, 2) := by decide +kernel
theorem dX1_readPilgrim_11 : decode cX1_readPilgrim 11 = .ok (.invokevirtual 94, 3) := by decide +kernel
theorem dX1_readPilgrim_14 : decode cX1_readPilgrim 14 = .ok (.istore_n 3, 1) := by decide +kernel
theorem dX1_readPilgrim_15 : decode cX1_readPilgrim 15 = .ok (.aload_n 1, 1) := by decide +kernel
theorem dX1_readPilgrim_16 : decode cX1_readPilgrim 16 = .ok (.invokevirtual 46, 3) := by decide +kernel
theorem dX1_readPilgrim_19 : decode cX1_readPilgrim 19 = .ok (.ifCond .eq 42, 3) := by decide +kernel
theorem dX1_readPilgrim_22 : decode cX1_readPilgrim 22 = .ok (.aload_n 0, 1) := by decide +kernel
theorem dX1_readPilgrim_23 : decode cX1_readPilgrim 23 = .ok (.getfield 43, 3) := by decide +kernel
theorem dX1_readPilgrim_26 : decode cX1_readPilgrim 26 = .ok (.bipush 8, 2) := by decide +kernel
theorem dX1_readPilgrim_28 : decode cX1_readPilgrim 28 = .ok (.if_icmp .ge 33, 3) := by decide +kernel
theorem dX1_readPilgrim_31 : decode cX1_readPilgrim 31 = .ok (.aload_n 0, 1) := by decide +kernel
theorem dX1_readPilgrim_32 : decode cX1_readPilgrim 32 = .ok (.getfield 30, 3) := by decide +kernel
theorem dX1_readPilgrim_35 : decode cX1_readPilgrim 35 = .ok (.aload_n 0, 1) := by decide +kernel
theorem dX1_readPilgrim_36 : decode cX1_readPilgrim 36 = .ok (.getfield 43, 3) := by decide +kernel
theorem dX1_readPilgrim_39 : decode cX1_readPilgrim 39 = .ok (.iload_n 2, 1) := by decide +kernel
theorem dX1_readPilgrim_40 : decode cX1_readPilgrim 40 = .ok (.iastore, 1) := by decide +kernel
theorem dX1_readPilgrim_41 : decode cX1_readPilgrim 41 = .ok (.aload_n 0, 1) := by decide +kernel
theorem dX1_readPilgrim_42 : decode cX1_readPilgrim 42 = .ok (.getfield 33, 3) := by decide +kernel
theorem dX1_readPilgrim_45 : decode cX1_readPilgrim 45 = .ok (.aload_n 0, 1) := by decide +kernel
theorem dX1_readPilgrim_46 : decode cX1_readPilgrim 46 = .ok (.getfield 43, 3) := by decide +kernel
theorem dX1_readPilgrim_49 : decode cX1_readPilgrim 49 = .ok (.iload_n 3, 1) := by decide +kernel
theorem dX1_readPilgrim_50 : decode cX1_readPilgrim 50 = .ok (.iastore, 1) := by decide +kernel
theorem dX1_readPilgrim_51 : decode cX1_readPilgrim 51 = .ok (.aload_n 0, 1) := by decide +kernel
theorem dX1_readPilgrim_52 : decode cX1_readPilgrim 52 = .ok (.dup, 1) := by decide +kernel
theorem dX1_readPilgrim_53 : decode cX1_readPilgrim 53 = .ok (.getfield 43, 3) := by decide +kernel
theorem dX1_readPilgrim_56 : decode cX1_readPilgrim 56 = .ok (.iconst 1, 1) := by decide +kernel
theorem dX1_readPilgrim_57 : decode cX1_readPilgrim 57 = .ok (.iadd, 1) := by decide +kernel
theorem dX1_readPilgrim_58 : decode cX1_readPilgrim 58 = .ok (.putfield 43, 3) := by decide +kernel
theorem dX1_readPilgrim_61 : decode cX1_readPilgrim 61 = .ok (.return_, 1) := by decide +kernel
theorem dX1_readVow_0 : decode cX1_readVow 0 = .ok (.aload_n 1, 1) := by decide +kernel
theorem dX1_readVow_1 : decode cX1_readVow 1 = .ok (.iconst 0, 1) := by decide +kernel
theorem dX1_readVow_2 : decode cX1_readVow 2 = .ok (.aload_n 0, 1) := by decide +kernel
theorem dX1_readVow_3 : decode cX1_readVow 3 = .ok (.getfield 36, 3) := by decide +kernel
theorem dX1_readVow_6 : decode cX1_readVow 6 = .ok (.iconst 1, 1) := by decide +kernel
theorem dX1_readVow_7 : decode cX1_readVow 7 = .ok (.isub, 1) := by decide +kernel
theorem dX1_readVow_8 : decode cX1_readVow 8 = .ok (.invokevirtual 94, 3) := by decide +kernel
theorem dX1_readVow_11 : decode cX1_readVow 11 = .ok (.istore_n 2, 1) := by decide +kernel
theorem dX1_readVow_12 : decode cX1_readVow 12 = .ok (.aload_n 1, 1) := by decide +kernel
theorem dX1_readVow_13 : decode cX1_readVow 13 = .ok (.iconst 0, 1) := by decide +kernel
theorem dX1_readVow_14 : decode cX1_readVow 14 = .ok (.aload_n 0, 1) := by decide +kernel
theorem dX1_readVow_15 : decode cX1_readVow 15 = .ok (.getfield 36, 3) := by decide +kernel
theorem dX1_readVow_18 : decode cX1_readVow 18 = .ok (.iconst 1, 1) := by decide +kernel
theorem dX1_readVow_19 : decode cX1_readVow 19 = .ok (.isub, 1) := by decide +kernel
theorem dX1_readVow_20 : decode cX1_readVow 20 = .ok (.invokevirtual 94, 3) := by decide +kernel
theorem dX1_readVow_23 : decode cX1_readVow 23 = .ok (.istore_n 3, 1) := by decide +kernel
theorem dX1_readVow_24 : decode cX1_readVow 24 = .ok (.aload_n 1, 1) := by decide +kernel
theorem dX1_readVow_25 : decode cX1_readVow 25 = .ok (.invokevirtual 46, 3) := by decide +kernel
theorem dX1_readVow_28 : decode cX1_readVow 28 = .ok (.ifCond .eq 18, 3) := by decide +kernel
theorem dX1_readVow_31 : decode cX1_readVow 31 = .ok (.aload_n 0, 1) := by decide +kernel
theorem dX1_readVow_32 : decode cX1_readVow 32 = .ok (.iload_n 2, 1) := by decide +kernel
theorem dX1_readVow_33 : decode cX1_readVow 33 = .ok (.invokevirtual 98, 3) := by decide +kernel
theorem dX1_readVow_36 : decode cX1_readVow 36 = .ok (.ifCond .eq 10, 3) := by decide +kernel
theorem dX1_readVow_39 : decode cX1_readVow 39 = .ok (.aload_n 0, 1) := by decide +kernel
theorem dX1_readVow_40 : decode cX1_readVow 40 = .ok (.getfield 18, 3) := by decide +kernel
theorem dX1_readVow_43 : decode cX1_readVow 43 = .ok (.iload_n 2, 1) := by decide +kernel
theorem dX1_readVow_44 : decode cX1_readVow 44 = .ok (.iload_n 3, 1) := by decide +kernel
theorem dX1_readVow_45 : decode cX1_readVow 45 = .ok (.iastore, 1) := by decide +kernel
theorem dX1_readVow_46 : decode cX1_readVow 46 = .ok (.return_, 1) := by decide +kernel
theorem dX1_walk_0 : decode cX1_walk 0 = .ok (.iload_n 1, 1) := by decide +kernel
theorem dX1_walk_1 : decode cX1_walk 1 = .ok (.istore_n 3, 1) := by decide +kernel
theorem dX1_walk_2 : decode cX1_walk 2 = .ok (.iconst 0, 1) := by decide +kernel
theorem dX1_walk_3 : decode cX1_walk 3 = .ok (.istore 4, 2) := by decide +kernel
theorem dX1_walk_5 : decode cX1_walk 5 = .ok (.iload 4, 2) := by decide +kernel
theorem dX1_walk_7 : decode cX1_walk 7 = .ok (.iload_n 2, 1) := by decide +kernel
theorem dX1_walk_8 : decode cX1_walk 8 = .ok (.if_icmp .ge 24, 3) := by decide +kernel
theorem dX1_walk_11 : decode cX1_walk 11 = .ok (.aload_n 0, 1) := by decide +kernel
theorem dX1_walk_12 : decode cX1_walk 12 = .ok (.iload_n 3, 1) := by decide +kernel
theorem dX1_walk_13 : decode cX1_walk 13 = .ok (.invokevirtual 98, 3) := by decide +kernel
theorem dX1_walk_16 : decode cX1_walk 16 = .ok (.ifCond .eq 16, 3) := by decide +kernel
theorem dX1_walk_19 : decode cX1_walk 19 = .ok (.aload_n 0, 1) := by decide +kernel
theorem dX1_walk_20 : decode cX1_walk 20 = .ok (.getfield 18, 3) := by decide +kernel
theorem dX1_walk_23 : decode cX1_walk 23 = .ok (.iload_n 3, 1) := by decide +kernel
theorem dX1_walk_24 : decode cX1_walk 24 = .ok (.iaload, 1) := by decide +kernel
theorem dX1_walk_25 : decode cX1_walk 25 = .ok (.istore_n 3, 1) := by decide +kernel
theorem dX1_walk_26 : decode cX1_walk 26 = .ok (.iinc 4 1, 3) := by decide +kernel
theorem dX1_walk_29 : decode cX1_walk 29 = .ok (.goto (-24), 3) := by decide +kernel
theorem dX1_walk_32 : decode cX1_walk 32 = .ok (.iload_n 3, 1) := by decide +kernel
theorem dX1_walk_33 : decode cX1_walk 33 = .ok (.ireturn, 1) := by decide +kernel
theorem dX1_ringOf_0 : decode cX1_ringOf 0 = .ok (.iload_n 1, 1) := by decide +kernel
theorem dX1_ringOf_1 : decode cX1_ringOf 1 = .ok (.istore_n 2, 1) := by decide +kernel
theorem dX1_ringOf_2 : decode cX1_ringOf 2 = .ok (.iconst 1, 1) := by decide +kernel
theorem dX1_ringOf_3 : decode cX1_ringOf 3 = .ok (.istore_n 3, 1) := by decide +kernel
theorem dX1_ringOf_4 : decode cX1_ringOf 4 = .ok (.iload_n 3, 1) := by decide +kernel
theorem dX1_ringOf_5 : decode cX1_ringOf 5 = .ok (.bipush 8, 2) := by decide +kernel
theorem dX1_ringOf_7 : decode cX1_ringOf 7 = .ok (.if_icmp .gt 31, 3) := by decide +kernel
theorem dX1_ringOf_10 : decode cX1_ringOf 10 = .ok (.aload_n 0, 1) := by decide +kernel
theorem dX1_ringOf_11 : decode cX1_ringOf 11 = .ok (.iload_n 2, 1) := by decide +kernel
theorem dX1_ringOf_12 : decode cX1_ringOf 12 = .ok (.invokevirtual 98, 3) := by decide +kernel
theorem dX1_ringOf_15 : decode cX1_ringOf 15 = .ok (.ifCond .eq 23, 3) := by decide +kernel
theorem dX1_ringOf_18 : decode cX1_ringOf 18 = .ok (.aload_n 0, 1) := by decide +kernel
theorem dX1_ringOf_19 : decode cX1_ringOf 19 = .ok (.getfield 18, 3) := by decide +kernel
theorem dX1_ringOf_22 : decode cX1_ringOf 22 = .ok (.iload_n 2, 1) := by decide +kernel
theorem dX1_ringOf_23 : decode cX1_ringOf 23 = .ok (.iaload, 1) := by decide +kernel
theorem dX1_ringOf_24 : decode cX1_ringOf 24 = .ok (.istore_n 2, 1) := by decide +kernel
theorem dX1_ringOf_25 : decode cX1_ringOf 25 = .ok (.iload_n 2, 1) := by decide +kernel
theorem dX1_ringOf_26 : decode cX1_ringOf 26 = .ok (.iload_n 1, 1) := by decide +kernel
theorem dX1_ringOf_27 : decode cX1_ringOf 27 = .ok (.if_icmp .ne 5, 3) := by decide +kernel
theorem dX1_ringOf_30 : decode cX1_ringOf 30 = .ok (.iload_n 3, 1) := by decide +kernel
theorem dX1_ringOf_31 : decode cX1_ringOf 31 = .ok (.ireturn, 1) := by decide +kernel
theorem dX1_ringOf_32 : decode cX1_ringOf 32 = .ok (.iinc 3 1, 3) := by decide +kernel
theorem dX1_ringOf_35 : decode cX1_ringOf 35 = .ok (.goto (-31), 3) := by decide +kernel
theorem dX1_ringOf_38 : decode cX1_ringOf 38 = .ok (.iconst (-1), 1) := by decide +kernel
theorem dX1_ringOf_39 : decode cX1_ringOf 39 = .ok (.ireturn, 1) := by decide +kernel
theorem dX10_init_0 : decode cX10_init 0 = .ok (.aload_n 0, 1) := by decide +kernel
theorem dX10_init_1 : decode cX10_init 1 = .ok (.invokespecial 1, 3) := by decide +kernel
theorem dX10_init_4 : decode cX10_init 4 = .ok (.aload_n 0, 1) := by decide +kernel
theorem dX10_init_5 : decode cX10_init 5 = .ok (.new 7, 3) := by decide +kernel
theorem dX10_init_8 : decode cX10_init 8 = .ok (.dup, 1) := by decide +kernel
theorem dX10_init_9 : decode cX10_init 9 = .ok (.invokespecial 9, 3) := by decide +kernel
theorem dX10_init_12 : decode cX10_init 12 = .ok (.putfield 10, 3) := by decide +kernel
theorem dX10_init_15 : decode cX10_init 15 = .ok (.aload_n 0, 1) := by decide +kernel
theorem dX10_init_16 : decode cX10_init 16 = .ok (.new 16, 3) := by decide +kernel
theorem dX10_init_19 : decode cX10_init 19 = .ok (.dup, 1) := by decide +kernel
theorem dX10_init_20 : decode cX10_init 20 = .ok (.new 18, 3) := by decide +kernel
theorem dX10_init_23 : decode cX10_init 23 = .ok (.dup, 1) := by decide +kernel
theorem dX10_init_24 : decode cX10_init 24 = .ok (.invokespecial 20, 3) := by decide +kernel
theorem dX10_init_27 : decode cX10_init 27 = .ok (.new 21, 3) := by decide +kernel
theorem dX10_init_30 : decode cX10_init 30 = .ok (.dup, 1) := by decide +kernel
theorem dX10_init_31 : decode cX10_init 31 = .ok (.invokespecial 23, 3) := by decide +kernel
theorem dX10_init_34 : decode cX10_init 34 = .ok (.invokespecial 24, 3) := by decide +kernel
theorem dX10_init_37 : decode cX10_init 37 = .ok (.putfield 27, 3) := by decide +kernel
theorem dX10_init_40 : decode cX10_init 40 = .ok (.aload_n 0, 1) := by decide +kernel
theorem dX10_init_41 : decode cX10_init 41 = .ok (.new 31, 3) := by decide +kernel
theorem dX10_init_44 : decode cX10_init 44 = .ok (.dup, 1) := by decide +kernel
theorem dX10_init_45 : decode cX10_init 45 = .ok (.invokespecial 33, 3) := by decide +kernel
theorem dX10_init_48 : decode cX10_init 48 = .ok (.putfield 34, 3) := by decide +kernel
theorem dX10_init_51 : decode cX10_init 51 = .ok (.aload_n 0, 1) := by decide +kernel
theorem dX10_init_52 : decode cX10_init 52 = .ok (.new 38, 3) := by decide +kernel
theorem dX10_init_55 : decode cX10_init 55 = .ok (.dup, 1) := by decide +kernel
theorem dX10_init_56 : decode cX10_init 56 = .ok (.invokespecial 40, 3) := by decide +kernel
theorem dX10_init_59 : decode cX10_init 59 = .ok (.putfield 41, 3) := by decide +kernel
theorem dX10_init_62 : decode cX10_init 62 = .ok (.aload_n 0, 1) := by decide +kernel
theorem dX10_init_63 : decode cX10_init 63 = .ok (.new 45, 3) := by decide +kernel
theorem dX10_init_66 : decode cX10_init 66 = .ok (.dup, 1) := by decide +kernel
theorem dX10_init_67 : decode cX10_init 67 = .ok (.invokespecial 47, 3) := by decide +kernel
theorem dX10_init_70 : decode cX10_init 70 = .ok (.putfield 48, 3) := by decide +kernel
theorem dX10_init_73 : decode cX10_init 73 = .ok (.aload_n 0, 1) := by decide +kernel
theorem dX10_init_74 : decode cX10_init 74 = .ok (.new 52, 3) := by decide +kernel
theorem dX10_init_77 : decode cX10_init 77 = .ok (.dup, 1) := by decide +kernel
theorem dX10_init_78 : decode cX10_init 78 = .ok (.aload_n 0, 1) := by decide +kernel
theorem dX10_init_79 : decode cX10_init 79 = .ok (.getfield 27, 3) := by decide +kernel
theorem dX10_init_82 : decode cX10_init 82 = .ok (.getfield 54, 3) := by decide +kernel
theorem dX10_init_85 : decode cX10_init 85 = .ok (.aload_n 0, 1) := by decide +kernel
theorem dX10_init_86 : decode cX10_init 86 = .ok (.getfield 27, 3) := by decide +kernel
theorem dX10_init_89 : decode cX10_init 89 = .ok (.getfield 58, 3) := by decide +kernel
theorem dX10_init_92 : decode cX10_init 92 = .ok (.invokespecial 62, 3) := by decide +kernel
theorem dX10_init_95 : decode cX10_init 95 = .ok (.putfield 63, 3) := by decide +kernel
theorem dX10_init_98 : decode cX10_init 98 = .ok (.aload_n 0, 1) := by decide +kernel
theorem dX10_init_99 : decode cX10_init 99 = .ok (.new 67, 3) := by decide +kernel
theorem dX10_init_102 : decode cX10_init 102 = .ok (.dup, 1) := by decide +kernel
theorem dX10_init_103 : decode cX10_init 103 = .ok (.bipush 16, 2) := by decide +kernel
theorem dX10_init_105 : decode cX10_init 105 = .ok (.bipush 31, 2) := by decide +kernel
theorem dX10_init_107 : decode cX10_init 107 = .ok (.invokespecial 69, 3) := by decide +kernel
theorem dX10_init_110 : decode cX10_init 110 = .ok (.putfield 72, 3) := by decide +kernel
theorem dX10_init_113 : decode cX10_init 113 = .ok (.aload_n 0, 1) := by decide +kernel
theorem dX10_init_114 : decode cX10_init 114 = .ok (.new 67, 3) := by decide +kernel
theorem dX10_init_117 : decode cX10_init 117 = .ok (.dup, 1) := by decide +kernel
theorem dX10_init_118 : decode cX10_init 118 = .ok (.iconst 3, 1) := by decide +kernel
theorem dX10_init_119 : decode cX10_init 119 = .ok (.bipush 31, 2) := by decide +kernel
theorem dX10_init_121 : decode cX10_init 121 = .ok (.invokespecial 69, 3) := by decide +kernel
theorem dX10_init_124 : decode cX10_init 124 = .ok (.putfield 76, 3) := by decide +kernel
theorem dX10_init_127 : decode cX10_init 127 = .ok (.aload_n 0, 1) := by decide +kernel
theorem dX10_init_128 : decode cX10_init 128 = .ok (.iconst 3, 1) := by decide +kernel
theorem dX10_init_129 : decode cX10_init 129 = .ok (.anewarray 67, 3) := by decide +kernel
theorem dX10_init_132 : decode cX10_init 132 = .ok (.putfield 79, 3) := by decide +kernel
theorem dX10_init_135 : decode cX10_init 135 = .ok (.aload_n 0, 1) := by decide +kernel
theorem dX10_init_136 : decode cX10_init 136 = .ok (.new 83, 3) := by decide +kernel
theorem dX10_init_139 : decode cX10_init 139 = .ok (.dup, 1) := by decide +kernel
theorem dX10_init_140 : decode cX10_init 140 = .ok (.invokespecial 85, 3) := by decide +kernel
theorem dX10_init_143 : decode cX10_init 143 = .ok (.putfield 86, 3) := by decide +kernel
theorem dX10_init_146 : decode cX10_init 146 = .ok (.aload_n 0, 1) := by decide +kernel
theorem dX10_init_147 : decode cX10_init 147 = .ok (.new 18, 3) := by decide +kernel
theorem dX10_init_150 : decode cX10_init 150 = .ok (.dup, 1) := by decide +kernel
theorem dX10_init_151 : decode cX10_init 151 = .ok (.invokespecial 20, 3) := by decide +kernel
theorem dX10_init_154 : decode cX10_init 154 = .ok (.putfield 90, 3) := by decide +kernel
theorem dX10_init_157 : decode cX10_init 157 = .ok (.aload_n 0, 1) := by decide +kernel
theorem dX10_init_158 : decode cX10_init 158 = .ok (.new 21, 3) := by decide +kernel
theorem dX10_init_161 : decode cX10_init 161 = .ok (.dup, 1) := by decide +kernel
theorem dX10_init_162 : decode cX10_init 162 = .ok (.invokespecial 23, 3) := by decide +kernel
theorem dX10_init_165 : decode cX10_init 165 = .ok (.putfield 93, 3) := by decide +kernel
theorem dX10_init_168 : decode cX10_init 168 = .ok (.aload_n 0, 1) := by decide +kernel
theorem dX10_init_169 : decode cX10_init 169 = .ok (.new 83, 3) := by decide +kernel
theorem dX10_init_172 : decode cX10_init 172 = .ok (.dup, 1) := by decide +kernel
theorem dX10_init_173 : decode cX10_init 173 = .ok (.invokespecial 85, 3) := by decide +kernel
theorem dX10_init_176 : decode cX10_init 176 = .ok (.putfield 96, 3) := by decide +kernel
theorem dX10_init_179 : decode cX10_init 179 = .ok (.iconst 0, 1) := by decide +kernel
theorem dX10_init_180 : decode cX10_init 180 = .ok (.istore_n 1, 1) := by decide +kernel
theorem dX10_init_181 : decode cX10_init 181 = .ok (.iload_n 1, 1) := by decide +kernel
theorem dX10_init_182 : decode cX10_init 182 = .ok (.aload_n 0, 1) := by decide +kernel
theorem dX10_init_183 : decode cX10_init 183 = .ok (.getfield 79, 3) := by decide +kernel
theorem dX10_init_186 : decode cX10_init 186 = .ok (.arraylength, 1) := by decide +kernel
theorem dX10_init_187 : decode cX10_init 187 = .ok (.if_icmp .ge 26, 3) := by decide +kernel
theorem dX10_init_190 : decode cX10_init 190 = .ok (.aload_n 0, 1) := by decide +kernel
theorem dX10_init_191 : decode cX10_init 191 = .ok (.getfield 79, 3) := by decide +kernel
theorem dX10_init_194 : decode cX10_init 194 = .ok (.iload_n 1, 1) := by decide +kernel
theorem dX10_init_195 : decode cX10_init 195 = .ok (.new 67, 3) := by decide +kernel
theorem dX10_init_198 : decode cX10_init 198 = .ok (.dup, 1) := by decide +kernel
theorem dX10_init_199 : decode cX10_init 199 = .ok (.bipush 16, 2) := by decide +kernel
theorem dX10_init_201 : decode cX10_init 201 = .ok (.bipush 31, 2) := by decide +kernel
theorem dX10_init_203 : decode cX10_init 203 = .ok (.invokespecial 69, 3) := by decide +kernel
theorem dX10_init_206 : decode cX10_init 206 = .ok (.aastore, 1) := by decide +kernel
theorem dX10_init_207 : decode cX10_init 207 = .ok (.iinc 1 1, 3) := by decide +kernel
theorem dX10_init_210 : decode cX10_init 210 = .ok (.goto (-29), 3) := by decide +kernel
theorem dX10_init_213 : decode cX10_init 213 = .ok (.return_, 1) := by decide +kernel
