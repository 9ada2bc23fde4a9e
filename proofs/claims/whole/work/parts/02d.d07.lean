theorem dX11_needs_30 : decode cX11_needs 30 = .ok (.iconst 0, 1) := by decide +kernel
theorem dX11_needs_31 : decode cX11_needs 31 = .ok (.istore_n 2, 1) := by decide +kernel
theorem dX11_needs_32 : decode cX11_needs 32 = .ok (.iconst 0, 1) := by decide +kernel
theorem dX11_needs_33 : decode cX11_needs 33 = .ok (.istore_n 3, 1) := by decide +kernel
theorem dX11_needs_34 : decode cX11_needs 34 = .ok (.iload_n 3, 1) := by decide +kernel
theorem dX11_needs_35 : decode cX11_needs 35 = .ok (.aload_n 0, 1) := by decide +kernel
theorem dX11_needs_36 : decode cX11_needs 36 = .ok (.getfield 23, 3) := by decide +kernel
theorem dX11_needs_39 : decode cX11_needs 39 = .ok (.iconst 2, 1) := by decide +kernel
theorem dX11_needs_40 : decode cX11_needs 40 = .ok (.iaload, 1) := by decide +kernel
theorem dX11_needs_41 : decode cX11_needs 41 = .ok (.if_icmp .ge 49, 3) := by decide +kernel
theorem dX11_needs_44 : decode cX11_needs 44 = .ok (.iload_n 2, 1) := by decide +kernel
theorem dX11_needs_45 : decode cX11_needs 45 = .ok (.aload_n 0, 1) := by decide +kernel
theorem dX11_needs_46 : decode cX11_needs 46 = .ok (.getfield 49, 3) := by decide +kernel
theorem dX11_needs_49 : decode cX11_needs 49 = .ok (.iload_n 3, 1) := by decide +kernel
theorem dX11_needs_50 : decode cX11_needs 50 = .ok (.aaload, 1) := by decide +kernel
theorem dX11_needs_51 : decode cX11_needs 51 = .ok (.iconst 0, 1) := by decide +kernel
theorem dX11_needs_52 : decode cX11_needs 52 = .ok (.iaload, 1) := by decide +kernel
theorem dX11_needs_53 : decode cX11_needs 53 = .ok (.iload_n 1, 1) := by decide +kernel
theorem dX11_needs_54 : decode cX11_needs 54 = .ok (.if_icmp .ne 27, 3) := by decide +kernel
theorem dX11_needs_57 : decode cX11_needs 57 = .ok (.aload_n 0, 1) := by decide +kernel
theorem dX11_needs_58 : decode cX11_needs 58 = .ok (.getfield 73, 3) := by decide +kernel
theorem dX11_needs_61 : decode cX11_needs 61 = .ok (.bipush 36, 2) := by decide +kernel
theorem dX11_needs_63 : decode cX11_needs 63 = .ok (.iload_n 3, 1) := by decide +kernel
theorem dX11_needs_64 : decode cX11_needs 64 = .ok (.iadd, 1) := by decide +kernel
theorem dX11_needs_65 : decode cX11_needs 65 = .ok (.iaload, 1) := by decide +kernel
theorem dX11_needs_66 : decode cX11_needs 66 = .ok (.iconst (-1), 1) := by decide +kernel
theorem dX11_needs_67 : decode cX11_needs 67 = .ok (.if_icmp .ne 14, 3) := by decide +kernel
theorem dX11_needs_70 : decode cX11_needs 70 = .ok (.aload_n 0, 1) := by decide +kernel
theorem dX11_needs_71 : decode cX11_needs 71 = .ok (.getfield 49, 3) := by decide +kernel
theorem dX11_needs_74 : decode cX11_needs 74 = .ok (.iload_n 3, 1) := by decide +kernel
theorem dX11_needs_75 : decode cX11_needs 75 = .ok (.aaload, 1) := by decide +kernel
theorem dX11_needs_76 : decode cX11_needs 76 = .ok (.iconst 1, 1) := by decide +kernel
theorem dX11_needs_77 : decode cX11_needs 77 = .ok (.iaload, 1) := by decide +kernel
theorem dX11_needs_78 : decode cX11_needs 78 = .ok (.goto 4, 3) := by decide +kernel
theorem dX11_needs_81 : decode cX11_needs 81 = .ok (.iconst 0, 1) := by decide +kernel
theorem dX11_needs_82 : decode cX11_needs 82 = .ok (.iadd, 1) := by decide +kernel
theorem dX11_needs_83 : decode cX11_needs 83 = .ok (.istore_n 2, 1) := by decide +kernel
theorem dX11_needs_84 : decode cX11_needs 84 = .ok (.iinc 3 1, 3) := by decide +kernel
theorem dX11_needs_87 : decode cX11_needs 87 = .ok (.goto (-53), 3) := by decide +kernel
theorem dX11_needs_90 : decode cX11_needs 90 = .ok (.iload_n 2, 1) := by decide +kernel
theorem dX11_needs_91 : decode cX11_needs 91 = .ok (.ireturn, 1) := by decide +kernel
theorem dX11_strength_0 : decode cX11_strength 0 = .ok (.aload_n 0, 1) := by decide +kernel
theorem dX11_strength_1 : decode cX11_strength 1 = .ok (.iconst 0, 1) := by decide +kernel
theorem dX11_strength_2 : decode cX11_strength 2 = .ok (.putfield 103, 3) := by decide +kernel
theorem dX11_strength_5 : decode cX11_strength 5 = .ok (.aload_n 0, 1) := by decide +kernel
theorem dX11_strength_6 : decode cX11_strength 6 = .ok (.aload_n 0, 1) := by decide +kernel
theorem dX11_strength_7 : decode cX11_strength 7 = .ok (.iload_n 1, 1) := by decide +kernel
theorem dX11_strength_8 : decode cX11_strength 8 = .ok (.invokevirtual 336, 3) := by decide +kernel
theorem dX11_strength_11 : decode cX11_strength 11 = .ok (.ifCond .ne 7, 3) := by decide +kernel
theorem dX11_strength_14 : decode cX11_strength 14 = .ok (.iconst 1, 1) := by decide +kernel
theorem dX11_strength_15 : decode cX11_strength 15 = .ok (.goto 4, 3) := by decide +kernel
theorem dX11_strength_18 : decode cX11_strength 18 = .ok (.iconst 0, 1) := by decide +kernel
theorem dX11_strength_19 : decode cX11_strength 19 = .ok (.iconst 1, 1) := by decide +kernel
theorem dX11_strength_20 : decode cX11_strength 20 = .ok (.iconst 0, 1) := by decide +kernel
theorem dX11_strength_21 : decode cX11_strength 21 = .ok (.invokevirtual 183, 3) := by decide +kernel
theorem dX11_strength_24 : decode cX11_strength 24 = .ok (.ifCond .eq 5, 3) := by decide +kernel
theorem dX11_strength_27 : decode cX11_strength 27 = .ok (.iconst 0, 1) := by decide +kernel
theorem dX11_strength_28 : decode cX11_strength 28 = .ok (.ireturn, 1) := by decide +kernel
theorem dX11_strength_29 : decode cX11_strength 29 = .ok (.iconst 0, 1) := by decide +kernel
theorem dX11_strength_30 : decode cX11_strength 30 = .ok (.istore_n 2, 1) := by decide +kernel
theorem dX11_strength_31 : decode cX11_strength 31 = .ok (.iconst 0, 1) := by decide +kernel
theorem dX11_strength_32 : decode cX11_strength 32 = .ok (.istore_n 3, 1) := by decide +kernel
theorem dX11_strength_33 : decode cX11_strength 33 = .ok (.iload_n 3, 1) := by decide +kernel
theorem dX11_strength_34 : decode cX11_strength 34 = .ok (.aload_n 0, 1) := by decide +kernel
theorem dX11_strength_35 : decode cX11_strength 35 = .ok (.getfield 23, 3) := by decide +kernel
theorem dX11_strength_38 : decode cX11_strength 38 = .ok (.iconst 1, 1) := by decide +kernel
theorem dX11_strength_39 : decode cX11_strength 39 = .ok (.iaload, 1) := by decide +kernel
theorem dX11_strength_40 : decode cX11_strength 40 = .ok (.if_icmp .ge 37, 3) := by decide +kernel
theorem dX11_strength_43 : decode cX11_strength 43 = .ok (.iload_n 2, 1) := by decide +kernel
theorem dX11_strength_44 : decode cX11_strength 44 = .ok (.aload_n 0, 1) := by decide +kernel
theorem dX11_strength_45 : decode cX11_strength 45 = .ok (.getfield 43, 3) := by decide +kernel
theorem dX11_strength_48 : decode cX11_strength 48 = .ok (.iload_n 3, 1) := by decide +kernel
theorem dX11_strength_49 : decode cX11_strength 49 = .ok (.aaload, 1) := by decide +kernel
theorem dX11_strength_50 : decode cX11_strength 50 = .ok (.iconst 0, 1) := by decide +kernel
theorem dX11_strength_51 : decode cX11_strength 51 = .ok (.iaload, 1) := by decide +kernel
theorem dX11_strength_52 : decode cX11_strength 52 = .ok (.iload_n 1, 1) := by decide +kernel
theorem dX11_strength_53 : decode cX11_strength 53 = .ok (.if_icmp .ne 15, 3) := by decide +kernel
theorem dX11_strength_56 : decode cX11_strength 56 = .ok (.aload_n 0, 1) := by decide +kernel
theorem dX11_strength_57 : decode cX11_strength 57 = .ok (.aload_n 0, 1) := by decide +kernel
theorem dX11_strength_58 : decode cX11_strength 58 = .ok (.getfield 73, 3) := by decide +kernel
theorem dX11_strength_61 : decode cX11_strength 61 = .ok (.iload_n 3, 1) := by decide +kernel
theorem dX11_strength_62 : decode cX11_strength 62 = .ok (.invokevirtual 289, 3) := by decide +kernel
theorem dX11_strength_65 : decode cX11_strength 65 = .ok (.goto 4, 3) := by decide +kernel
theorem dX11_strength_68 : decode cX11_strength 68 = .ok (.iconst 0, 1) := by decide +kernel
theorem dX11_strength_69 : decode cX11_strength 69 = .ok (.iadd, 1) := by decide +kernel
theorem dX11_strength_70 : decode cX11_strength 70 = .ok (.istore_n 2, 1) := by decide +kernel
theorem dX11_strength_71 : decode cX11_strength 71 = .ok (.iinc 3 1, 3) := by decide +kernel
theorem dX11_strength_74 : decode cX11_strength 74 = .ok (.goto (-41), 3) := by decide +kernel
theorem dX11_strength_77 : decode cX11_strength 77 = .ok (.iload_n 2, 1) := by decide +kernel
theorem dX11_strength_78 : decode cX11_strength 78 = .ok (.ireturn, 1) := by decide +kernel
theorem dX11_weakest_0 : decode cX11_weakest 0 = .ok (.aload_n 0, 1) := by decide +kernel
theorem dX11_weakest_1 : decode cX11_weakest 1 = .ok (.iconst 0, 1) := by decide +kernel
theorem dX11_weakest_2 : decode cX11_weakest 2 = .ok (.putfield 103, 3) := by decide +kernel
theorem dX11_weakest_5 : decode cX11_weakest 5 = .ok (.aload_n 0, 1) := by decide +kernel
theorem dX11_weakest_6 : decode cX11_weakest 6 = .ok (.iload_n 1, 1) := by decide +kernel
theorem dX11_weakest_7 : decode cX11_weakest 7 = .ok (.iconst 0, 1) := by decide +kernel
theorem dX11_weakest_8 : decode cX11_weakest 8 = .ok (.iconst 1, 1) := by decide +kernel
theorem dX11_weakest_9 : decode cX11_weakest 9 = .ok (.invokestatic 137, 3) := by decide +kernel
theorem dX11_weakest_12 : decode cX11_weakest 12 = .ok (.ifCond .ne 7, 3) := by decide +kernel
theorem dX11_weakest_15 : decode cX11_weakest 15 = .ok (.iconst 1, 1) := by decide +kernel
theorem dX11_weakest_16 : decode cX11_weakest 16 = .ok (.goto 4, 3) := by decide +kernel
theorem dX11_weakest_19 : decode cX11_weakest 19 = .ok (.iconst 0, 1) := by decide +kernel
theorem dX11_weakest_20 : decode cX11_weakest 20 = .ok (.iconst 1, 1) := by decide +kernel
theorem dX11_weakest_21 : decode cX11_weakest 21 = .ok (.iconst 1, 1) := by decide +kernel
theorem dX11_weakest_22 : decode cX11_weakest 22 = .ok (.invokevirtual 183, 3) := by decide +kernel
theorem dX11_weakest_25 : decode cX11_weakest 25 = .ok (.ifCond .eq 5, 3) := by decide +kernel
theorem dX11_weakest_28 : decode cX11_weakest 28 = .ok (.iconst 0, 1) := by decide +kernel
theorem dX11_weakest_29 : decode cX11_weakest 29 = .ok (.ireturn, 1) := by decide +kernel
theorem dX11_weakest_30 : decode cX11_weakest 30 = .ok (.iconst (-1), 1) := by decide +kernel
theorem dX11_weakest_31 : decode cX11_weakest 31 = .ok (.istore_n 2, 1) := by decide +kernel
theorem dX11_weakest_32 : decode cX11_weakest 32 = .ok (.iconst 0, 1) := by decide +kernel
theorem dX11_weakest_33 : decode cX11_weakest 33 = .ok (.istore_n 3, 1) := by decide +kernel
theorem dX11_weakest_34 : decode cX11_weakest 34 = .ok (.iconst 0, 1) := by decide +kernel
theorem dX11_weakest_35 : decode cX11_weakest 35 = .ok (.istore 4, 2) := by decide +kernel
theorem dX11_weakest_37 : decode cX11_weakest 37 = .ok (.iload 4, 2) := by decide +kernel
theorem dX11_weakest_39 : decode cX11_weakest 39 = .ok (.aload_n 0, 1) := by decide +kernel
theorem dX11_weakest_40 : decode cX11_weakest 40 = .ok (.getfield 23, 3) := by decide +kernel
theorem dX11_weakest_43 : decode cX11_weakest 43 = .ok (.iconst 0, 1) := by decide +kernel
theorem dX11_weakest_44 : decode cX11_weakest 44 = .ok (.iaload, 1) := by decide +kernel
theorem dX11_weakest_45 : decode cX11_weakest 45 = .ok (.if_icmp .ge 40, 3) := by decide +kernel
theorem dX11_weakest_48 : decode cX11_weakest 48 = .ok (.aload_n 0, 1) := by decide +kernel
theorem dX11_weakest_49 : decode cX11_weakest 49 = .ok (.getfield 73, 3) := by decide +kernel
theorem dX11_weakest_52 : decode cX11_weakest 52 = .ok (.bipush 8, 2) := by decide +kernel
theorem dX11_weakest_54 : decode cX11_weakest 54 = .ok (.iload 4, 2) := by decide +kernel
theorem dX11_weakest_56 : decode cX11_weakest 56 = .ok (.iadd, 1) := by decide +kernel
theorem dX11_weakest_57 : decode cX11_weakest 57 = .ok (.iaload, 1) := by decide +kernel
theorem dX11_weakest_58 : decode cX11_weakest 58 = .ok (.iload_n 3, 1) := by decide +kernel
theorem dX11_weakest_59 : decode cX11_weakest 59 = .ok (.if_icmp .gt 6, 3) := by decide +kernel
theorem dX11_weakest_62 : decode cX11_weakest 62 = .ok (.goto 17, 3) := by decide +kernel
theorem dX11_weakest_65 : decode cX11_weakest 65 = .ok (.iload 4, 2) := by decide +kernel
theorem dX11_weakest_67 : decode cX11_weakest 67 = .ok (.istore_n 2, 1) := by decide +kernel
theorem dX11_weakest_68 : decode cX11_weakest 68 = .ok (.aload_n 0, 1) := by decide +kernel
theorem dX11_weakest_69 : decode cX11_weakest 69 = .ok (.getfield 73, 3) := by decide +kernel
theorem dX11_weakest_72 : decode cX11_weakest 72 = .ok (.bipush 8, 2) := by decide +kernel
theorem dX11_weakest_74 : decode cX11_weakest 74 = .ok (.iload 4, 2) := by decide +kernel
theorem dX11_weakest_76 : decode cX11_weakest 76 = .ok (.iadd, 1) := by decide +kernel
theorem dX11_weakest_77 : decode cX11_weakest 77 = .ok (.iaload, 1) := by decide +kernel
theorem dX11_weakest_78 : decode cX11_weakest 78 = .ok (.istore_n 3, 1) := by decide +kernel
theorem dX11_weakest_79 : decode cX11_weakest 79 = .ok (.iinc 4 1, 3) := by decide +kernel
theorem dX11_weakest_82 : decode cX11_weakest 82 = .ok (.goto (-45), 3) := by decide +kernel
theorem dX11_weakest_85 : decode cX11_weakest 85 = .ok (.iload_n 1, 1) := by decide +kernel
theorem dX11_weakest_86 : decode cX11_weakest 86 = .ok (.ifCond .eq 8, 3) := by decide +kernel
theorem dX11_weakest_89 : decode cX11_weakest 89 = .ok (.iload_n 2, 1) := by decide +kernel
theorem dX11_weakest_90 : decode cX11_weakest 90 = .ok (.iconst (-1), 1) := by decide +kernel
theorem dX11_weakest_91 : decode cX11_weakest 91 = .ok (.if_icmp .ne 7, 3) := by decide +kernel
theorem dX11_weakest_94 : decode cX11_weakest 94 = .ok (.iload_n 2, 1) := by decide +kernel
theorem dX11_weakest_95 : decode cX11_weakest 95 = .ok (.goto 4, 3) := by decide +kernel
theorem dX11_weakest_98 : decode cX11_weakest 98 = .ok (.iload_n 3, 1) := by decide +kernel
theorem dX11_weakest_99 : decode cX11_weakest 99 = .ok (.ireturn, 1) := by decide +kernel
theorem dX11_bare_0 : decode cX11_bare 0 = .ok (.aload_n 0, 1) := by decide +kernel
theorem dX11_bare_1 : decode cX11_bare 1 = .ok (.iconst 0, 1) := by decide +kernel
theorem dX11_bare_2 : decode cX11_bare 2 = .ok (.putfield 103, 3) := by decide +kernel
theorem dX11_bare_5 : decode cX11_bare 5 = .ok (.bipush 63, 2) := by decide +kernel
theorem dX11_bare_7 : decode cX11_bare 7 = .ok (.istore_n 1, 1) := by decide +kernel
theorem dX11_bare_8 : decode cX11_bare 8 = .ok (.iconst 0, 1) := by decide +kernel
theorem dX11_bare_9 : decode cX11_bare 9 = .ok (.istore_n 2, 1) := by decide +kernel
theorem dX11_bare_10 : decode cX11_bare 10 = .ok (.iload_n 2, 1) := by decide +kernel
theorem dX11_bare_11 : decode cX11_bare 11 = .ok (.aload_n 0, 1) := by decide +kernel
theorem dX11_bare_12 : decode cX11_bare 12 = .ok (.getfield 23, 3) := by decide +kernel
theorem dX11_bare_15 : decode cX11_bare 15 = .ok (.iconst 1, 1) := by decide +kernel
theorem dX11_bare_16 : decode cX11_bare 16 = .ok (.iaload, 1) := by decide +kernel
theorem dX11_bare_17 : decode cX11_bare 17 = .ok (.if_icmp .ge 39, 3) := by decide +kernel
theorem dX11_bare_20 : decode cX11_bare 20 = .ok (.iload_n 1, 1) := by decide +kernel
theorem dX11_bare_21 : decode cX11_bare 21 = .ok (.aload_n 0, 1) := by decide +kernel
theorem dX11_bare_22 : decode cX11_bare 22 = .ok (.getfield 73, 3) := by decide +kernel
theorem dX11_bare_25 : decode cX11_bare 25 = .ok (.iload_n 2, 1) := by decide +kernel
theorem dX11_bare_26 : decode cX11_bare 26 = .ok (.invokestatic 267, 3) := by decide +kernel
theorem dX11_bare_29 : decode cX11_bare 29 = .ok (.ifCond .eq 18, 3) := by decide +kernel
theorem dX11_bare_32 : decode cX11_bare 32 = .ok (.iconst 1, 1) := by decide +kernel
theorem dX11_bare_33 : decode cX11_bare 33 = .ok (.aload_n 0, 1) := by decide +kernel
theorem dX11_bare_34 : decode cX11_bare 34 = .ok (.getfield 43, 3) := by decide +kernel
theorem dX11_bare_37 : decode cX11_bare 37 = .ok (.iload_n 2, 1) := by decide +kernel
theorem dX11_bare_38 : decode cX11_bare 38 = .ok (.aaload, 1) := by decide +kernel
theorem dX11_bare_39 : decode cX11_bare 39 = .ok (.iconst 1, 1) := by decide +kernel
theorem dX11_bare_40 : decode cX11_bare 40 = .ok (.iaload, 1) := by decide +kernel
theorem dX11_bare_41 : decode cX11_bare 41 = .ok (.ishl, 1) := by decide +kernel
theorem dX11_bare_42 : decode cX11_bare 42 = .ok (.iconst (-1), 1) := by decide +kernel
theorem dX11_bare_43 : decode cX11_bare 43 = .ok (.ixor, 1) := by decide +kernel
theorem dX11_bare_44 : decode cX11_bare 44 = .ok (.goto 4, 3) := by decide +kernel
theorem dX11_bare_47 : decode cX11_bare 47 = .ok (.iload_n 1, 1) := by decide +kernel
theorem dX11_bare_48 : decode cX11_bare 48 = .ok (.iand, 1) := by decide +kernel
theorem dX11_bare_49 : decode cX11_bare 49 = .ok (.istore_n 1, 1) := by decide +kernel
theorem dX11_bare_50 : decode cX11_bare 50 = .ok (.iinc 2 1, 3) := by decide +kernel
theorem dX11_bare_53 : decode cX11_bare 53 = .ok (.goto (-43), 3) := by decide +kernel
theorem dX11_bare_56 : decode cX11_bare 56 = .ok (.iload_n 1, 1) := by decide +kernel
theorem dX11_bare_57 : decode cX11_bare 57 = .ok (.ireturn, 1) := by decide +kernel
theorem dX11_draw_0 : decode cX11_draw 0 = .ok (.aload_n 0, 1) := by decide +kernel
theorem dX11_draw_1 : decode cX11_draw 1 = .ok (.aload_n 0, 1) := by decide +kernel
theorem dX11_draw_2 : decode cX11_draw 2 = .ok (.getfield 388, 3) := by decide +kernel
theorem dX11_draw_5 : decode cX11_draw 5 = .ok (.ldc_w 391, 3) := by decide +kernel
theorem dX11_draw_8 : decode cX11_draw 8 = .ok (.imul, 1) := by decide +kernel
theorem dX11_draw_9 : decode cX11_draw 9 = .ok (.sipush 12345, 3) := by decide +kernel
theorem dX11_draw_12 : decode cX11_draw 12 = .ok (.iadd, 1) := by decide +kernel
theorem dX11_draw_13 : decode cX11_draw 13 = .ok (.putfield 388, 3) := by decide +kernel
theorem dX11_draw_16 : decode cX11_draw 16 = .ok (.aload_n 0, 1) := by decide +kernel
theorem dX11_draw_17 : decode cX11_draw 17 = .ok (.getfield 388, 3) := by decide +kernel
theorem dX11_draw_20 : decode cX11_draw 20 = .ok (.bipush 16, 2) := by decide +kernel
theorem dX11_draw_22 : decode cX11_draw 22 = .ok (.ishr, 1) := by decide +kernel
theorem dX11_draw_23 : decode cX11_draw 23 = .ok (.sipush 32767, 3) := by decide +kernel
theorem dX11_draw_26 : decode cX11_draw 26 = .ok (.iand, 1) := by decide +kernel
theorem dX11_draw_27 : decode cX11_draw 27 = .ok (.iload_n 1, 1) := by decide +kernel
theorem dX11_draw_28 : decode cX11_draw 28 = .ok (.irem, 1) := by decide +kernel
theorem dX11_draw_29 : decode cX11_draw 29 = .ok (.ireturn, 1) := by decide +kernel
theorem dX11_yearBy_0 : decode cX11_yearBy 0 = .ok (.aload_n 0, 1) := by decide +kernel
theorem dX11_yearBy_1 : decode cX11_yearBy 1 = .ok (.getfield 73, 3) := by decide +kernel
theorem dX11_yearBy_4 : decode cX11_yearBy 4 = .ok (.aload_n 0, 1) := by decide +kernel
theorem dX11_yearBy_5 : decode cX11_yearBy 5 = .ok (.getfield 76, 3) := by decide +kernel
theorem dX11_yearBy_8 : decode cX11_yearBy 8 = .ok (.invokestatic 325, 3) := by decide +kernel
theorem dX11_yearBy_11 : decode cX11_yearBy 11 = .ok (.aload_n 0, 1) := by decide +kernel
theorem dX11_yearBy_12 : decode cX11_yearBy 12 = .ok (.iload_n 1, 1) := by decide +kernel
theorem dX11_yearBy_13 : decode cX11_yearBy 13 = .ok (.putfield 388, 3) := by decide +kernel
theorem dX11_yearBy_16 : decode cX11_yearBy 16 = .ok (.aload_n 0, 1) := by decide +kernel
theorem dX11_yearBy_17 : decode cX11_yearBy 17 = .ok (.iconst 0, 1) := by decide +kernel
theorem dX11_yearBy_18 : decode cX11_yearBy 18 = .ok (.putfield 392, 3) := by decide +kernel
theorem dX11_yearBy_21 : decode cX11_yearBy 21 = .ok (.iconst 0, 1) := by decide +kernel
theorem dX11_yearBy_22 : decode cX11_yearBy 22 = .ok (.istore_n 3, 1) := by decide +kernel
theorem dX11_yearBy_23 : decode cX11_yearBy 23 = .ok (.iload_n 3, 1) := by decide +kernel
theorem dX11_yearBy_24 : decode cX11_yearBy 24 = .ok (.iload_n 2, 1) := by decide +kernel
theorem dX11_yearBy_25 : decode cX11_yearBy 25 = .ok (.if_icmp .ge 144, 3) := by decide +kernel
theorem dX11_yearBy_28 : decode cX11_yearBy 28 = .ok (.iconst 0, 1) := by decide +kernel
theorem dX11_yearBy_29 : decode cX11_yearBy 29 = .ok (.istore 4, 2) := by decide +kernel
theorem dX11_yearBy_31 : decode cX11_yearBy 31 = .ok (.iload 4, 2) := by decide +kernel
theorem dX11_yearBy_33 : decode cX11_yearBy 33 = .ok (.aload_n 0, 1) := by decide +kernel
theorem dX11_yearBy_34 : decode cX11_yearBy 34 = .ok (.getfield 23, 3) := by decide +kernel
theorem dX11_yearBy_37 : decode cX11_yearBy 37 = .ok (.iconst 0, 1) := by decide +kernel
theorem dX11_yearBy_38 : decode cX11_yearBy 38 = .ok (.iaload, 1) := by decide +kernel
theorem dX11_yearBy_39 : decode cX11_yearBy 39 = .ok (.if_icmp .ge 65, 3) := by decide +kernel
theorem dX11_yearBy_42 : decode cX11_yearBy 42 = .ok (.aload_n 0, 1) := by decide +kernel
theorem dX11_yearBy_43 : decode cX11_yearBy 43 = .ok (.aload_n 0, 1) := by decide +kernel
theorem dX11_yearBy_44 : decode cX11_yearBy 44 = .ok (.getfield 76, 3) := by decide +kernel
theorem dX11_yearBy_47 : decode cX11_yearBy 47 = .ok (.iload 4, 2) := by decide +kernel
theorem dX11_yearBy_49 : decode cX11_yearBy 49 = .ok (.invokevirtual 296, 3) := by decide +kernel
theorem dX11_yearBy_52 : decode cX11_yearBy 52 = .ok (.ifCond .eq 46, 3) := by decide +kernel
theorem dX11_yearBy_55 : decode cX11_yearBy 55 = .ok (.aload_n 0, 1) := by decide +kernel
theorem dX11_yearBy_56 : decode cX11_yearBy 56 = .ok (.bipush 16, 2) := by decide +kernel
theorem dX11_yearBy_58 : decode cX11_yearBy 58 = .ok (.invokevirtual 395, 3) := by decide +kernel
theorem dX11_yearBy_61 : decode cX11_yearBy 61 = .ok (.aload_n 0, 1) := by decide +kernel
theorem dX11_yearBy_62 : decode cX11_yearBy 62 = .ok (.getfield 29, 3) := by decide +kernel
theorem dX11_yearBy_65 : decode cX11_yearBy 65 = .ok (.iload 4, 2) := by decide +kernel
theorem dX11_yearBy_67 : decode cX11_yearBy 67 = .ok (.iaload, 1) := by decide +kernel
theorem dX11_yearBy_68 : decode cX11_yearBy 68 = .ok (.if_icmp .ge 30, 3) := by decide +kernel
theorem dX11_yearBy_71 : decode cX11_yearBy 71 = .ok (.aload_n 0, 1) := by decide +kernel
theorem dX11_yearBy_72 : decode cX11_yearBy 72 = .ok (.dup, 1) := by decide +kernel
theorem dX11_yearBy_73 : decode cX11_yearBy 73 = .ok (.getfield 392, 3) := by decide +kernel
theorem dX11_yearBy_76 : decode cX11_yearBy 76 = .ok (.aload_n 0, 1) := by decide +kernel
theorem dX11_yearBy_77 : decode cX11_yearBy 77 = .ok (.aload_n 0, 1) := by decide +kernel
theorem dX11_yearBy_78 : decode cX11_yearBy 78 = .ok (.getfield 76, 3) := by decide +kernel
theorem dX11_yearBy_81 : decode cX11_yearBy 81 = .ok (.iload 4, 2) := by decide +kernel
theorem dX11_yearBy_83 : decode cX11_yearBy 83 = .ok (.invokevirtual 302, 3) := by decide +kernel
theorem dX11_yearBy_86 : decode cX11_yearBy 86 = .ok (.ifCond .eq 7, 3) := by decide +kernel
theorem dX11_yearBy_89 : decode cX11_yearBy 89 = .ok (.iconst 1, 1) := by decide +kernel
theorem dX11_yearBy_90 : decode cX11_yearBy 90 = .ok (.goto 4, 3) := by decide +kernel
theorem dX11_yearBy_93 : decode cX11_yearBy 93 = .ok (.iconst 0, 1) := by decide +kernel
theorem dX11_yearBy_94 : decode cX11_yearBy 94 = .ok (.iadd, 1) := by decide +kernel
theorem dX11_yearBy_95 : decode cX11_yearBy 95 = .ok (.putfield 392, 3) := by decide +kernel
theorem dX11_yearBy_98 : decode cX11_yearBy 98 = .ok (.iinc 4 1, 3) := by decide +kernel
theorem dX11_yearBy_101 : decode cX11_yearBy 101 = .ok (.goto (-70), 3) := by decide +kernel
theorem dX11_yearBy_104 : decode cX11_yearBy 104 = .ok (.aload_n 0, 1) := by decide +kernel
theorem dX11_yearBy_105 : decode cX11_yearBy 105 = .ok (.getfield 23, 3) := by decide +kernel
theorem dX11_yearBy_108 : decode cX11_yearBy 108 = .ok (.iconst 1, 1) := by decide +kernel
theorem dX11_yearBy_109 : decode cX11_yearBy 109 = .ok (.iaload, 1) := by decide +kernel
theorem dX11_yearBy_110 : decode cX11_yearBy 110 = .ok (.ifCond .le 45, 3) := by decide +kernel
theorem dX11_yearBy_113 : decode cX11_yearBy 113 = .ok (.aload_n 0, 1) := by decide +kernel
theorem dX11_yearBy_114 : decode cX11_yearBy 114 = .ok (.getfield 23, 3) := by decide +kernel
theorem dX11_yearBy_117 : decode cX11_yearBy 117 = .ok (.iconst 2, 1) := by decide +kernel
theorem dX11_yearBy_118 : decode cX11_yearBy 118 = .ok (.iaload, 1) := by decide +kernel
theorem dX11_yearBy_119 : decode cX11_yearBy 119 = .ok (.ifCond .le 36, 3) := by decide +kernel
theorem dX11_yearBy_122 : decode cX11_yearBy 122 = .ok (.aload_n 0, 1) := by decide +kernel
theorem dX11_yearBy_123 : decode cX11_yearBy 123 = .ok (.aload_n 0, 1) := by decide +kernel
theorem dX11_yearBy_124 : decode cX11_yearBy 124 = .ok (.getfield 23, 3) := by decide +kernel
theorem dX11_yearBy_127 : decode cX11_yearBy 127 = .ok (.iconst 1, 1) := by decide +kernel
theorem dX11_yearBy_128 : decode cX11_yearBy 128 = .ok (.iaload, 1) := by decide +kernel
theorem dX11_yearBy_129 : decode cX11_yearBy 129 = .ok (.invokevirtual 395, 3) := by decide +kernel
theorem dX11_yearBy_132 : decode cX11_yearBy 132 = .ok (.istore 4, 2) := by decide +kernel
theorem dX11_yearBy_134 : decode cX11_yearBy 134 = .ok (.aload_n 0, 1) := by decide +kernel
theorem dX11_yearBy_135 : decode cX11_yearBy 135 = .ok (.aload_n 0, 1) := by decide +kernel
theorem dX11_yearBy_136 : decode cX11_yearBy 136 = .ok (.getfield 76, 3) := by decide +kernel
theorem dX11_yearBy_139 : decode cX11_yearBy 139 = .ok (.iload 4, 2) := by decide +kernel
theorem dX11_yearBy_141 : decode cX11_yearBy 141 = .ok (.aload_n 0, 1) := by decide +kernel
theorem dX11_yearBy_142 : decode cX11_yearBy 142 = .ok (.aload_n 0, 1) := by decide +kernel
theorem dX11_yearBy_143 : decode cX11_yearBy 143 = .ok (.getfield 23, 3) := by decide +kernel
theorem dX11_yearBy_146 : decode cX11_yearBy 146 = .ok (.iconst 2, 1) := by decide +kernel
theorem dX11_yearBy_147 : decode cX11_yearBy 147 = .ok (.iaload, 1) := by decide +kernel
theorem dX11_yearBy_148 : decode cX11_yearBy 148 = .ok (.invokevirtual 395, 3) := by decide +kernel
theorem dX11_yearBy_151 : decode cX11_yearBy 151 = .ok (.invokevirtual 305, 3) := by decide +kernel
theorem dX11_yearBy_154 : decode cX11_yearBy 154 = .ok (.pop, 1) := by decide +kernel
theorem dX11_yearBy_155 : decode cX11_yearBy 155 = .ok (.aload_n 0, 1) := by decide +kernel
theorem dX11_yearBy_156 : decode cX11_yearBy 156 = .ok (.aload_n 0, 1) := by decide +kernel
theorem dX11_yearBy_157 : decode cX11_yearBy 157 = .ok (.getfield 76, 3) := by decide +kernel
theorem dX11_yearBy_160 : decode cX11_yearBy 160 = .ok (.invokevirtual 308, 3) := by decide +kernel
theorem dX11_yearBy_163 : decode cX11_yearBy 163 = .ok (.iinc 3 1, 3) := by decide +kernel
theorem dX11_yearBy_166 : decode cX11_yearBy 166 = .ok (.goto (-143), 3) := by decide +kernel
theorem dX11_yearBy_169 : decode cX11_yearBy 169 = .ok (.return_, 1) := by decide +kernel
theorem dX11_curedMore_0 : decode cX11_curedMore 0 = .ok (.aload_n 0, 1) := by decide +kernel
theorem dX11_curedMore_1 : decode cX11_curedMore 1 = .ok (.aload_n 0, 1) := by decide +kernel
theorem dX11_curedMore_2 : decode cX11_curedMore 2 = .ok (.getfield 76, 3) := by decide +kernel
theorem dX11_curedMore_5 : decode cX11_curedMore 5 = .ok (.invokevirtual 329, 3) := by decide +kernel
theorem dX11_curedMore_8 : decode cX11_curedMore 8 = .ok (.invokestatic 278, 3) := by decide +kernel
theorem dX11_curedMore_11 : decode cX11_curedMore 11 = .ok (.aload_n 0, 1) := by decide +kernel
theorem dX11_curedMore_12 : decode cX11_curedMore 12 = .ok (.aload_n 0, 1) := by decide +kernel
theorem dX11_curedMore_13 : decode cX11_curedMore 13 = .ok (.getfield 73, 3) := by decide +kernel
theorem dX11_curedMore_16 : decode cX11_curedMore 16 = .ok (.invokevirtual 329, 3) := by decide +kernel
theorem dX11_curedMore_19 : decode cX11_curedMore 19 = .ok (.invokestatic 278, 3) := by decide +kernel
theorem dX11_curedMore_22 : decode cX11_curedMore 22 = .ok (.isub, 1) := by decide +kernel
theorem dX11_curedMore_23 : decode cX11_curedMore 23 = .ok (.ireturn, 1) := by decide +kernel
theorem dX11_year_0 : decode cX11_year 0 = .ok (.aload_n 0, 1) := by decide +kernel
theorem dX11_year_1 : decode cX11_year 1 = .ok (.iconst 0, 1) := by decide +kernel
theorem dX11_year_2 : decode cX11_year 2 = .ok (.putfield 103, 3) := by decide +kernel
theorem dX11_year_5 : decode cX11_year 5 = .ok (.aload_n 0, 1) := by decide +kernel
theorem dX11_year_6 : decode cX11_year 6 = .ok (.iload_n 2, 1) := by decide +kernel
theorem dX11_year_7 : decode cX11_year 7 = .ok (.iconst 1, 1) := by decide +kernel
theorem dX11_year_8 : decode cX11_year 8 = .ok (.bipush 96, 2) := by decide +kernel
theorem dX11_year_10 : decode cX11_year 10 = .ok (.invokestatic 137, 3) := by decide +kernel
theorem dX11_year_13 : decode cX11_year 13 = .ok (.ifCond .eq 12, 3) := by decide +kernel
theorem dX11_year_16 : decode cX11_year 16 = .ok (.iload_n 3, 1) := by decide +kernel
theorem dX11_year_17 : decode cX11_year 17 = .ok (.iconst 0, 1) := by decide +kernel
theorem dX11_year_18 : decode cX11_year 18 = .ok (.iconst 3, 1) := by decide +kernel
theorem dX11_year_19 : decode cX11_year 19 = .ok (.invokestatic 137, 3) := by decide +kernel
theorem dX11_year_22 : decode cX11_year 22 = .ok (.ifCond .ne 7, 3) := by decide +kernel
theorem dX11_year_25 : decode cX11_year 25 = .ok (.iconst 1, 1) := by decide +kernel
theorem dX11_year_26 : decode cX11_year 26 = .ok (.goto 4, 3) := by decide +kernel
theorem dX11_year_29 : decode cX11_year 29 = .ok (.iconst 0, 1) := by decide +kernel
theorem dX11_year_30 : decode cX11_year 30 = .ok (.iconst 1, 1) := by decide +kernel
theorem dX11_year_31 : decode cX11_year 31 = .ok (.iconst 1, 1) := by decide +kernel
theorem dX11_year_32 : decode cX11_year 32 = .ok (.invokevirtual 183, 3) := by decide +kernel
theorem dX11_year_35 : decode cX11_year 35 = .ok (.ifCond .eq 5, 3) := by decide +kernel
theorem dX11_year_38 : decode cX11_year 38 = .ok (.iconst 0, 1) := by decide +kernel
theorem dX11_year_39 : decode cX11_year 39 = .ok (.ireturn, 1) := by decide +kernel
theorem dX11_year_40 : decode cX11_year 40 = .ok (.aload_n 0, 1) := by decide +kernel
theorem dX11_year_41 : decode cX11_year 41 = .ok (.iload_n 1, 1) := by decide +kernel
theorem dX11_year_42 : decode cX11_year 42 = .ok (.iload_n 2, 1) := by decide +kernel
theorem dX11_year_43 : decode cX11_year 43 = .ok (.invokevirtual 398, 3) := by decide +kernel
theorem dX11_year_46 : decode cX11_year 46 = .ok (.iload_n 3, 1) := by decide +kernel
theorem dX11_year_47 : decode cX11_year 47 = .ok (.tableswitch 44 0 2 #[25, 30, 35], 25) := by decide +kernel
theorem dX11_year_72 : decode cX11_year 72 = .ok (.aload_n 0, 1) := by decide +kernel
theorem dX11_year_73 : decode cX11_year 73 = .ok (.invokevirtual 401, 3) := by decide +kernel
theorem dX11_year_76 : decode cX11_year 76 = .ok (.ireturn, 1) := by decide +kernel
theorem dX11_year_77 : decode cX11_year 77 = .ok (.aload_n 0, 1) := by decide +kernel
theorem dX11_year_78 : decode cX11_year 78 = .ok (.getfield 392, 3) := by decide +kernel
theorem dX11_year_81 : decode cX11_year 81 = .ok (.ireturn, 1) := by decide +kernel
theorem dX11_year_82 : decode cX11_year 82 = .ok (.aload_n 0, 1) := by decide +kernel
theorem dX11_year_83 : decode cX11_year 83 = .ok (.aload_n 0, 1) := by decide +kernel
theorem dX11_year_84 : decode cX11_year 84 = .ok (.getfield 76, 3) := by decide +kernel
theorem dX11_year_87 : decode cX11_year 87 = .ok (.invokevirtual 333, 3) := by decide +kernel
theorem dX11_year_90 : decode cX11_year 90 = .ok (.ireturn, 1) := by decide +kernel
theorem dX11_year_91 : decode cX11_year 91 = .ok (.aload_n 0, 1) := by decide +kernel
theorem dX11_year_92 : decode cX11_year 92 = .ok (.aload_n 0, 1) := by decide +kernel
theorem dX11_year_93 : decode cX11_year 93 = .ok (.getfield 76, 3) := by decide +kernel
theorem dX11_year_96 : decode cX11_year 96 = .ok (.invokevirtual 329, 3) := by decide +kernel
theorem dX11_year_99 : decode cX11_year 99 = .ok (.ireturn, 1) := by decide +kernel
theorem dX11_span_0 : decode cX11_span 0 = .ok (.aload_n 0, 1) := by decide +kernel
theorem dX11_span_1 : decode cX11_span 1 = .ok (.iconst 0, 1) := by decide +kernel
theorem dX11_span_2 : decode cX11_span 2 = .ok (.putfield 103, 3) := by decide +kernel
theorem dX11_span_5 : decode cX11_span 5 = .ok (.aload_n 0, 1) := by decide +kernel
theorem dX11_span_6 : decode cX11_span 6 = .ok (.iload_n 2, 1) := by decide +kernel
theorem dX11_span_7 : decode cX11_span 7 = .ok (.iconst 1, 1) := by decide +kernel
theorem dX11_span_8 : decode cX11_span 8 = .ok (.bipush 20, 2) := by decide +kernel
theorem dX11_span_10 : decode cX11_span 10 = .ok (.invokestatic 137, 3) := by decide +kernel
theorem dX11_span_13 : decode cX11_span 13 = .ok (.ifCond .eq 32, 3) := by decide +kernel
theorem dX11_span_16 : decode cX11_span 16 = .ok (.iload_n 3, 1) := by decide +kernel
theorem dX11_span_17 : decode cX11_span 17 = .ok (.iconst 1, 1) := by decide +kernel
theorem dX11_span_18 : decode cX11_span 18 = .ok (.bipush 96, 2) := by decide +kernel
theorem dX11_span_20 : decode cX11_span 20 = .ok (.invokestatic 137, 3) := by decide +kernel
theorem dX11_span_23 : decode cX11_span 23 = .ok (.ifCond .eq 22, 3) := by decide +kernel
theorem dX11_span_26 : decode cX11_span 26 = .ok (.iload 4, 2) := by decide +kernel
theorem dX11_span_28 : decode cX11_span 28 = .ok (.iconst 0, 1) := by decide +kernel
theorem dX11_span_29 : decode cX11_span 29 = .ok (.iconst 2, 1) := by decide +kernel
theorem dX11_span_30 : decode cX11_span 30 = .ok (.invokestatic 137, 3) := by decide +kernel
theorem dX11_span_33 : decode cX11_span 33 = .ok (.ifCond .eq 12, 3) := by decide +kernel
theorem dX11_span_36 : decode cX11_span 36 = .ok (.aload_n 0, 1) := by decide +kernel
theorem dX11_span_37 : decode cX11_span 37 = .ok (.iload 5, 2) := by decide +kernel
theorem dX11_span_39 : decode cX11_span 39 = .ok (.invokevirtual 342, 3) := by decide +kernel
theorem dX11_span_42 : decode cX11_span 42 = .ok (.ifCond .ne 7, 3) := by decide +kernel
theorem dX11_span_45 : decode cX11_span 45 = .ok (.iconst 1, 1) := by decide +kernel
theorem dX11_span_46 : decode cX11_span 46 = .ok (.goto 4, 3) := by decide +kernel
theorem dX11_span_49 : decode cX11_span 49 = .ok (.iconst 0, 1) := by decide +kernel
theorem dX11_span_50 : decode cX11_span 50 = .ok (.iconst 1, 1) := by decide +kernel
theorem dX11_span_51 : decode cX11_span 51 = .ok (.iconst 1, 1) := by decide +kernel
theorem dX11_span_52 : decode cX11_span 52 = .ok (.invokevirtual 183, 3) := by decide +kernel
theorem dX11_span_55 : decode cX11_span 55 = .ok (.ifCond .eq 5, 3) := by decide +kernel
theorem dX11_span_58 : decode cX11_span 58 = .ok (.iconst 0, 1) := by decide +kernel
theorem dX11_span_59 : decode cX11_span 59 = .ok (.ireturn, 1) := by decide +kernel
theorem dX11_span_60 : decode cX11_span 60 = .ok (.iconst (-1), 1) := by decide +kernel
theorem dX11_span_61 : decode cX11_span 61 = .ok (.istore 6, 2) := by decide +kernel
theorem dX11_span_63 : decode cX11_span 63 = .ok (.iconst 0, 1) := by decide +kernel
theorem dX11_span_64 : decode cX11_span 64 = .ok (.istore 7, 2) := by decide +kernel
theorem dX11_span_66 : decode cX11_span 66 = .ok (.iconst 0, 1) := by decide +kernel
theorem dX11_span_67 : decode cX11_span 67 = .ok (.istore 8, 2) := by decide +kernel
theorem dX11_span_69 : decode cX11_span 69 = .ok (.iconst 0, 1) := by decide +kernel
theorem dX11_span_70 : decode cX11_span 70 = .ok (.istore 9, 2) := by decide +kernel
theorem dX11_span_72 : decode cX11_span 72 = .ok (.iload 9, 2) := by decide +kernel
theorem dX11_span_74 : decode cX11_span 74 = .ok (.iload_n 2, 1) := by decide +kernel
theorem dX11_span_75 : decode cX11_span 75 = .ok (.if_icmp .ge 79, 3) := by decide +kernel
theorem dX11_span_78 : decode cX11_span 78 = .ok (.aload_n 0, 1) := by decide +kernel
theorem dX11_span_79 : decode cX11_span 79 = .ok (.iload_n 1, 1) := by decide +kernel
theorem dX11_span_80 : decode cX11_span 80 = .ok (.iload 9, 2) := by decide +kernel
theorem dX11_span_82 : decode cX11_span 82 = .ok (.iadd, 1) := by decide +kernel
theorem dX11_span_83 : decode cX11_span 83 = .ok (.iload_n 3, 1) := by decide +kernel
theorem dX11_span_84 : decode cX11_span 84 = .ok (.invokevirtual 398, 3) := by decide +kernel
theorem dX11_span_87 : decode cX11_span 87 = .ok (.aload_n 0, 1) := by decide +kernel
theorem dX11_span_88 : decode cX11_span 88 = .ok (.invokevirtual 401, 3) := by decide +kernel
theorem dX11_span_91 : decode cX11_span 91 = .ok (.istore 10, 2) := by decide +kernel
theorem dX11_span_93 : decode cX11_span 93 = .ok (.iload 6, 2) := by decide +kernel
theorem dX11_span_95 : decode cX11_span 95 = .ok (.iconst (-1), 1) := by decide +kernel
theorem dX11_span_96 : decode cX11_span 96 = .ok (.if_icmp .ne 8, 3) := by decide +kernel
theorem dX11_span_99 : decode cX11_span 99 = .ok (.iload 10, 2) := by decide +kernel
theorem dX11_span_101 : decode cX11_span 101 = .ok (.goto 10, 3) := by decide +kernel
theorem dX11_span_104 : decode cX11_span 104 = .ok (.iload 6, 2) := by decide +kernel
theorem dX11_span_106 : decode cX11_span 106 = .ok (.iload 10, 2) := by decide +kernel
theorem dX11_span_108 : decode cX11_span 108 = .ok (.invokestatic 245, 3) := by decide +kernel
theorem dX11_span_111 : decode cX11_span 111 = .ok (.istore 6, 2) := by decide +kernel
theorem dX11_span_113 : decode cX11_span 113 = .ok (.iload 7, 2) := by decide +kernel
theorem dX11_span_115 : decode cX11_span 115 = .ok (.iload 10, 2) := by decide +kernel
theorem dX11_span_117 : decode cX11_span 117 = .ok (.invokestatic 248, 3) := by decide +kernel
theorem dX11_span_120 : decode cX11_span 120 = .ok (.istore 7, 2) := by decide +kernel
theorem dX11_span_122 : decode cX11_span 122 = .ok (.iload 8, 2) := by decide +kernel
theorem dX11_span_124 : decode cX11_span 124 = .ok (.aload_n 0, 1) := by decide +kernel
theorem dX11_span_125 : decode cX11_span 125 = .ok (.aload_n 0, 1) := by decide +kernel
theorem dX11_span_126 : decode cX11_span 126 = .ok (.getfield 76, 3) := by decide +kernel
theorem dX11_span_129 : decode cX11_span 129 = .ok (.invokevirtual 329, 3) := by decide +kernel
theorem dX11_span_132 : decode cX11_span 132 = .ok (.iload 5, 2) := by decide +kernel
theorem dX11_span_134 : decode cX11_span 134 = .ok (.invokestatic 263, 3) := by decide +kernel
theorem dX11_span_137 : decode cX11_span 137 = .ok (.ifCond .eq 7, 3) := by decide +kernel
theorem dX11_span_140 : decode cX11_span 140 = .ok (.iconst 1, 1) := by decide +kernel
theorem dX11_span_141 : decode cX11_span 141 = .ok (.goto 4, 3) := by decide +kernel
theorem dX11_span_144 : decode cX11_span 144 = .ok (.iconst 0, 1) := by decide +kernel
theorem dX11_span_145 : decode cX11_span 145 = .ok (.iadd, 1) := by decide +kernel
theorem dX11_span_146 : decode cX11_span 146 = .ok (.istore 8, 2) := by decide +kernel
theorem dX11_span_148 : decode cX11_span 148 = .ok (.iinc 9 1, 3) := by decide +kernel
theorem dX11_span_151 : decode cX11_span 151 = .ok (.goto (-79), 3) := by decide +kernel
theorem dX11_span_154 : decode cX11_span 154 = .ok (.iload 4, 2) := by decide +kernel
theorem dX11_span_156 : decode cX11_span 156 = .ok (.ifCond .ne 8, 3) := by decide +kernel
theorem dX11_span_159 : decode cX11_span 159 = .ok (.iload 6, 2) := by decide +kernel
theorem dX11_span_161 : decode cX11_span 161 = .ok (.goto 16, 3) := by decide +kernel
theorem dX11_span_164 : decode cX11_span 164 = .ok (.iload 4, 2) := by decide +kernel
theorem dX11_span_166 : decode cX11_span 166 = .ok (.iconst 1, 1) := by decide +kernel
theorem dX11_span_167 : decode cX11_span 167 = .ok (.if_icmp .ne 8, 3) := by decide +kernel
theorem dX11_span_170 : decode cX11_span 170 = .ok (.iload 7, 2) := by decide +kernel
theorem dX11_span_172 : decode cX11_span 172 = .ok (.goto 5, 3) := by decide +kernel
theorem dX11_span_175 : decode cX11_span 175 = .ok (.iload 8, 2) := by decide +kernel
theorem dX11_span_177 : decode cX11_span 177 = .ok (.ireturn, 1) := by decide +kernel
theorem dX11_puts_0 : decode cX11_puts 0 = .ok (.iload_n 3, 1) := by decide +kernel
theorem dX11_puts_1 : decode cX11_puts 1 = .ok (.ifCond .ne 10, 3) := by decide +kernel
theorem dX11_puts_4 : decode cX11_puts 4 = .ok (.aload_n 1, 1) := by decide +kernel
theorem dX11_puts_5 : decode cX11_puts 5 = .ok (.aload_n 0, 1) := by decide +kernel
theorem dX11_puts_6 : decode cX11_puts 6 = .ok (.getfield 404, 3) := by decide +kernel
theorem dX11_puts_9 : decode cX11_puts 9 = .ok (.iload_n 2, 1) := by decide +kernel
theorem dX11_puts_10 : decode cX11_puts 10 = .ok (.iastore, 1) := by decide +kernel
theorem dX11_puts_11 : decode cX11_puts 11 = .ok (.aload_n 0, 1) := by decide +kernel
theorem dX11_puts_12 : decode cX11_puts 12 = .ok (.dup, 1) := by decide +kernel
theorem dX11_puts_13 : decode cX11_puts 13 = .ok (.getfield 404, 3) := by decide +kernel
theorem dX11_puts_16 : decode cX11_puts 16 = .ok (.iconst 1, 1) := by decide +kernel
theorem dX11_puts_17 : decode cX11_puts 17 = .ok (.iadd, 1) := by decide +kernel
theorem dX11_puts_18 : decode cX11_puts 18 = .ok (.putfield 404, 3) := by decide +kernel
theorem dX11_puts_21 : decode cX11_puts 21 = .ok (.aload_n 1, 1) := by decide +kernel
theorem dX11_puts_22 : decode cX11_puts 22 = .ok (.aload_n 0, 1) := by decide +kernel
theorem dX11_puts_23 : decode cX11_puts 23 = .ok (.getfield 404, 3) := by decide +kernel
theorem dX11_puts_26 : decode cX11_puts 26 = .ok (.iconst 1, 1) := by decide +kernel
theorem dX11_puts_27 : decode cX11_puts 27 = .ok (.isub, 1) := by decide +kernel
theorem dX11_puts_28 : decode cX11_puts 28 = .ok (.iaload, 1) := by decide +kernel
theorem dX11_puts_29 : decode cX11_puts 29 = .ok (.ireturn, 1) := by decide +kernel
theorem dX11_putsAll_0 : decode cX11_putsAll 0 = .ok (.aload_n 0, 1) := by decide +kernel
theorem dX11_putsAll_1 : decode cX11_putsAll 1 = .ok (.iconst 0, 1) := by decide +kernel
theorem dX11_putsAll_2 : decode cX11_putsAll 2 = .ok (.putfield 404, 3) := by decide +kernel
theorem dX11_putsAll_5 : decode cX11_putsAll 5 = .ok (.aload_n 0, 1) := by decide +kernel
theorem dX11_putsAll_6 : decode cX11_putsAll 6 = .ok (.aload_n 0, 1) := by decide +kernel
theorem dX11_putsAll_7 : decode cX11_putsAll 7 = .ok (.aload_n 1, 1) := by decide +kernel
theorem dX11_putsAll_8 : decode cX11_putsAll 8 = .ok (.aload_n 0, 1) := by decide +kernel
theorem dX11_putsAll_9 : decode cX11_putsAll 9 = .ok (.getfield 206, 3) := by decide +kernel
theorem dX11_putsAll_12 : decode cX11_putsAll 12 = .ok (.iload_n 2, 1) := by decide +kernel
theorem dX11_putsAll_13 : decode cX11_putsAll 13 = .ok (.invokevirtual 407, 3) := by decide +kernel
theorem dX11_putsAll_16 : decode cX11_putsAll 16 = .ok (.putfield 206, 3) := by decide +kernel
theorem dX11_putsAll_19 : decode cX11_putsAll 19 = .ok (.iconst 0, 1) := by decide +kernel
theorem dX11_putsAll_20 : decode cX11_putsAll 20 = .ok (.istore_n 3, 1) := by decide +kernel
theorem dX11_putsAll_21 : decode cX11_putsAll 21 = .ok (.iload_n 3, 1) := by decide +kernel
theorem dX11_putsAll_22 : decode cX11_putsAll 22 = .ok (.bipush 45, 2) := by decide +kernel
theorem dX11_putsAll_24 : decode cX11_putsAll 24 = .ok (.if_icmp .ge 27, 3) := by decide +kernel
theorem dX11_putsAll_27 : decode cX11_putsAll 27 = .ok (.aload_n 0, 1) := by decide +kernel
theorem dX11_putsAll_28 : decode cX11_putsAll 28 = .ok (.getfield 73, 3) := by decide +kernel
theorem dX11_putsAll_31 : decode cX11_putsAll 31 = .ok (.iload_n 3, 1) := by decide +kernel
theorem dX11_putsAll_32 : decode cX11_putsAll 32 = .ok (.aload_n 0, 1) := by decide +kernel
theorem dX11_putsAll_33 : decode cX11_putsAll 33 = .ok (.aload_n 1, 1) := by decide +kernel
theorem dX11_putsAll_34 : decode cX11_putsAll 34 = .ok (.aload_n 0, 1) := by decide +kernel
theorem dX11_putsAll_35 : decode cX11_putsAll 35 = .ok (.getfield 73, 3) := by decide +kernel
theorem dX11_putsAll_38 : decode cX11_putsAll 38 = .ok (.iload_n 3, 1) := by decide +kernel
theorem dX11_putsAll_39 : decode cX11_putsAll 39 = .ok (.iaload, 1) := by decide +kernel
theorem dX11_putsAll_40 : decode cX11_putsAll 40 = .ok (.iload_n 2, 1) := by decide +kernel
theorem dX11_putsAll_41 : decode cX11_putsAll 41 = .ok (.invokevirtual 407, 3) := by decide +kernel
theorem dX11_putsAll_44 : decode cX11_putsAll 44 = .ok (.iastore, 1) := by decide +kernel
theorem dX11_putsAll_45 : decode cX11_putsAll 45 = .ok (.iinc 3 1, 3) := by decide +kernel
theorem dX11_putsAll_48 : decode cX11_putsAll 48 = .ok (.goto (-27), 3) := by decide +kernel
theorem dX11_putsAll_51 : decode cX11_putsAll 51 = .ok (.iconst 0, 1) := by decide +kernel
theorem dX11_putsAll_52 : decode cX11_putsAll 52 = .ok (.istore_n 3, 1) := by decide +kernel
theorem dX11_putsAll_53 : decode cX11_putsAll 53 = .ok (.iload_n 3, 1) := by decide +kernel
theorem dX11_putsAll_54 : decode cX11_putsAll 54 = .ok (.bipush 16, 2) := by decide +kernel
theorem dX11_putsAll_56 : decode cX11_putsAll 56 = .ok (.if_icmp .ge 49, 3) := by decide +kernel
theorem dX11_putsAll_59 : decode cX11_putsAll 59 = .ok (.iconst 0, 1) := by decide +kernel
theorem dX11_putsAll_60 : decode cX11_putsAll 60 = .ok (.istore 4, 2) := by decide +kernel
theorem dX11_putsAll_62 : decode cX11_putsAll 62 = .ok (.iload 4, 2) := by decide +kernel
theorem dX11_putsAll_64 : decode cX11_putsAll 64 = .ok (.bipush 45, 2) := by decide +kernel
theorem dX11_putsAll_66 : decode cX11_putsAll 66 = .ok (.if_icmp .ge 33, 3) := by decide +kernel
theorem dX11_putsAll_69 : decode cX11_putsAll 69 = .ok (.aload_n 0, 1) := by decide +kernel
theorem dX11_putsAll_70 : decode cX11_putsAll 70 = .ok (.getfield 79, 3) := by decide +kernel
theorem dX11_putsAll_73 : decode cX11_putsAll 73 = .ok (.iload_n 3, 1) := by decide +kernel
theorem dX11_putsAll_74 : decode cX11_putsAll 74 = .ok (.aaload, 1) := by decide +kernel
theorem dX11_putsAll_75 : decode cX11_putsAll 75 = .ok (.iload 4, 2) := by decide +kernel
theorem dX11_putsAll_77 : decode cX11_putsAll 77 = .ok (.aload_n 0, 1) := by decide +kernel
theorem dX11_putsAll_78 : decode cX11_putsAll 78 = .ok (.aload_n 1, 1) := by decide +kernel
theorem dX11_putsAll_79 : decode cX11_putsAll 79 = .ok (.aload_n 0, 1) := by decide +kernel
theorem dX11_putsAll_80 : decode cX11_putsAll 80 = .ok (.getfield 79, 3) := by decide +kernel
theorem dX11_putsAll_83 : decode cX11_putsAll 83 = .ok (.iload_n 3, 1) := by decide +kernel
theorem dX11_putsAll_84 : decode cX11_putsAll 84 = .ok (.aaload, 1) := by decide +kernel
theorem dX11_putsAll_85 : decode cX11_putsAll 85 = .ok (.iload 4, 2) := by decide +kernel
theorem dX11_putsAll_87 : decode cX11_putsAll 87 = .ok (.iaload, 1) := by decide +kernel
theorem dX11_putsAll_88 : decode cX11_putsAll 88 = .ok (.iload_n 2, 1) := by decide +kernel
theorem dX11_putsAll_89 : decode cX11_putsAll 89 = .ok (.invokevirtual 407, 3) := by decide +kernel
theorem dX11_putsAll_92 : decode cX11_putsAll 92 = .ok (.iastore, 1) := by decide +kernel
theorem dX11_putsAll_93 : decode cX11_putsAll 93 = .ok (.iinc 4 1, 3) := by decide +kernel
theorem dX11_putsAll_96 : decode cX11_putsAll 96 = .ok (.goto (-34), 3) := by decide +kernel
theorem dX11_putsAll_99 : decode cX11_putsAll 99 = .ok (.iinc 3 1, 3) := by decide +kernel
theorem dX11_putsAll_102 : decode cX11_putsAll 102 = .ok (.goto (-49), 3) := by decide +kernel
theorem dX11_putsAll_105 : decode cX11_putsAll 105 = .ok (.return_, 1) := by decide +kernel
theorem dX11_image_0 : decode cX11_image 0 = .ok (.aload_n 0, 1) := by decide +kernel
theorem dX11_image_1 : decode cX11_image 1 = .ok (.iconst 0, 1) := by decide +kernel
theorem dX11_image_2 : decode cX11_image 2 = .ok (.putfield 103, 3) := by decide +kernel
theorem dX11_image_5 : decode cX11_image 5 = .ok (.aload_n 0, 1) := by decide +kernel
theorem dX11_image_6 : decode cX11_image 6 = .ok (.getfield 212, 3) := by decide +kernel
theorem dX11_image_9 : decode cX11_image 9 = .ok (.iconst 3, 1) := by decide +kernel
theorem dX11_image_10 : decode cX11_image 10 = .ok (.if_icmp .ne 5, 3) := by decide +kernel
theorem dX11_image_13 : decode cX11_image 13 = .ok (.iconst (-1), 1) := by decide +kernel
theorem dX11_image_14 : decode cX11_image 14 = .ok (.ireturn, 1) := by decide +kernel
theorem dX11_image_15 : decode cX11_image 15 = .ok (.aload_n 0, 1) := by decide +kernel
theorem dX11_image_16 : decode cX11_image 16 = .ok (.aload_n 0, 1) := by decide +kernel
theorem dX11_image_17 : decode cX11_image 17 = .ok (.getfield 82, 3) := by decide +kernel
theorem dX11_image_20 : decode cX11_image 20 = .ok (.aload_n 0, 1) := by decide +kernel
theorem dX11_image_21 : decode cX11_image 21 = .ok (.getfield 212, 3) := by decide +kernel
theorem dX11_image_24 : decode cX11_image 24 = .ok (.aaload, 1) := by decide +kernel
theorem dX11_image_25 : decode cX11_image 25 = .ok (.iconst 0, 1) := by decide +kernel
theorem dX11_image_26 : decode cX11_image 26 = .ok (.invokevirtual 411, 3) := by decide +kernel
theorem dX11_image_29 : decode cX11_image 29 = .ok (.aload_n 0, 1) := by decide +kernel
theorem dX11_image_30 : decode cX11_image 30 = .ok (.dup, 1) := by decide +kernel
theorem dX11_image_31 : decode cX11_image 31 = .ok (.getfield 212, 3) := by decide +kernel
theorem dX11_image_34 : decode cX11_image 34 = .ok (.iconst 1, 1) := by decide +kernel
theorem dX11_image_35 : decode cX11_image 35 = .ok (.iadd, 1) := by decide +kernel
theorem dX11_image_36 : decode cX11_image 36 = .ok (.putfield 212, 3) := by decide +kernel
theorem dX11_image_39 : decode cX11_image 39 = .ok (.aload_n 0, 1) := by decide +kernel
theorem dX11_image_40 : decode cX11_image 40 = .ok (.getfield 212, 3) := by decide +kernel
theorem dX11_image_43 : decode cX11_image 43 = .ok (.ireturn, 1) := by decide +kernel
theorem dX11_restore_0 : decode cX11_restore 0 = .ok (.aload_n 0, 1) := by decide +kernel
theorem dX11_restore_1 : decode cX11_restore 1 = .ok (.iconst 0, 1) := by decide +kernel
theorem dX11_restore_2 : decode cX11_restore 2 = .ok (.putfield 103, 3) := by decide +kernel
theorem dX11_restore_5 : decode cX11_restore 5 = .ok (.aload_n 0, 1) := by decide +kernel
theorem dX11_restore_6 : decode cX11_restore 6 = .ok (.getfield 212, 3) := by decide +kernel
theorem dX11_restore_9 : decode cX11_restore 9 = .ok (.ifCond .ne 5, 3) := by decide +kernel
theorem dX11_restore_12 : decode cX11_restore 12 = .ok (.iconst (-1), 1) := by decide +kernel
theorem dX11_restore_13 : decode cX11_restore 13 = .ok (.ireturn, 1) := by decide +kernel
theorem dX11_restore_14 : decode cX11_restore 14 = .ok (.aload_n 0, 1) := by decide +kernel
theorem dX11_restore_15 : decode cX11_restore 15 = .ok (.dup, 1) := by decide +kernel
theorem dX11_restore_16 : decode cX11_restore 16 = .ok (.getfield 212, 3) := by decide +kernel
theorem dX11_restore_19 : decode cX11_restore 19 = .ok (.iconst 1, 1) := by decide +kernel
theorem dX11_restore_20 : decode cX11_restore 20 = .ok (.isub, 1) := by decide +kernel
theorem dX11_restore_21 : decode cX11_restore 21 = .ok (.putfield 212, 3) := by decide +kernel
theorem dX11_restore_24 : decode cX11_restore 24 = .ok (.aload_n 0, 1) := by decide +kernel
theorem dX11_restore_25 : decode cX11_restore 25 = .ok (.aload_n 0, 1) := by decide +kernel
theorem dX11_restore_26 : decode cX11_restore 26 = .ok (.getfield 82, 3) := by decide +kernel
theorem dX11_restore_29 : decode cX11_restore 29 = .ok (.aload_n 0, 1) := by decide +kernel
theorem dX11_restore_30 : decode cX11_restore 30 = .ok (.getfield 212, 3) := by decide +kernel
theorem dX11_restore_33 : decode cX11_restore 33 = .ok (.aaload, 1) := by decide +kernel
theorem dX11_restore_34 : decode cX11_restore 34 = .ok (.iconst 1, 1) := by decide +kernel
theorem dX11_restore_35 : decode cX11_restore 35 = .ok (.invokevirtual 411, 3) := by decide +kernel
theorem dX11_restore_38 : decode cX11_restore 38 = .ok (.aload_n 0, 1) := by decide +kernel
theorem dX11_restore_39 : decode cX11_restore 39 = .ok (.iconst 0, 1) := by decide +kernel
theorem dX11_restore_40 : decode cX11_restore 40 = .ok (.putfield 209, 3) := by decide +kernel
theorem dX11_restore_43 : decode cX11_restore 43 = .ok (.aload_n 0, 1) := by decide +kernel
theorem dX11_restore_44 : decode cX11_restore 44 = .ok (.getfield 212, 3) := by decide +kernel
theorem dX11_restore_47 : decode cX11_restore 47 = .ok (.ireturn, 1) := by decide +kernel
theorem dX11_status_0 : decode cX11_status 0 = .ok (.aload_n 0, 1) := by decide +kernel
theorem dX11_status_1 : decode cX11_status 1 = .ok (.iconst 0, 1) := by decide +kernel
theorem dX11_status_2 : decode cX11_status 2 = .ok (.putfield 103, 3) := by decide +kernel
theorem dX11_status_5 : decode cX11_status 5 = .ok (.iload_n 1, 1) := by decide +kernel
theorem dX11_status_6 : decode cX11_status 6 = .ok (.iconst 0, 1) := by decide +kernel
theorem dX11_status_7 : decode cX11_status 7 = .ok (.iconst 1, 1) := by decide +kernel
theorem dX11_status_8 : decode cX11_status 8 = .ok (.invokestatic 137, 3) := by decide +kernel
theorem dX11_status_11 : decode cX11_status 11 = .ok (.ifCond .eq 12, 3) := by decide +kernel
theorem dX11_status_14 : decode cX11_status 14 = .ok (.aload_n 0, 1) := by decide +kernel
theorem dX11_status_15 : decode cX11_status 15 = .ok (.getfield 17, 3) := by decide +kernel
theorem dX11_status_18 : decode cX11_status 18 = .ok (.iload_n 1, 1) := by decide +kernel
theorem dX11_status_19 : decode cX11_status 19 = .ok (.iaload, 1) := by decide +kernel
theorem dX11_status_20 : decode cX11_status 20 = .ok (.goto 4, 3) := by decide +kernel
theorem dX11_status_23 : decode cX11_status 23 = .ok (.iconst (-1), 1) := by decide +kernel
theorem dX11_status_24 : decode cX11_status 24 = .ok (.ireturn, 1) := by decide +kernel
theorem dX11_count_0 : decode cX11_count 0 = .ok (.aload_n 0, 1) := by decide +kernel
theorem dX11_count_1 : decode cX11_count 1 = .ok (.iconst 0, 1) := by decide +kernel
theorem dX11_count_2 : decode cX11_count 2 = .ok (.putfield 103, 3) := by decide +kernel
theorem dX11_count_5 : decode cX11_count 5 = .ok (.iload_n 1, 1) := by decide +kernel
theorem dX11_count_6 : decode cX11_count 6 = .ok (.ifCond .ne 10, 3) := by decide +kernel
theorem dX11_count_9 : decode cX11_count 9 = .ok (.aload_n 0, 1) := by decide +kernel
theorem dX11_count_10 : decode cX11_count 10 = .ok (.getfield 212, 3) := by decide +kernel
theorem dX11_count_13 : decode cX11_count 13 = .ok (.goto 28, 3) := by decide +kernel
theorem dX11_count_16 : decode cX11_count 16 = .ok (.iload_n 1, 1) := by decide +kernel
theorem dX11_count_17 : decode cX11_count 17 = .ok (.iconst 1, 1) := by decide +kernel
theorem dX11_count_18 : decode cX11_count 18 = .ok (.if_icmp .ne 10, 3) := by decide +kernel
theorem dX11_count_21 : decode cX11_count 21 = .ok (.aload_n 0, 1) := by decide +kernel
theorem dX11_count_22 : decode cX11_count 22 = .ok (.getfield 106, 3) := by decide +kernel
theorem dX11_count_25 : decode cX11_count 25 = .ok (.goto 16, 3) := by decide +kernel
theorem dX11_count_28 : decode cX11_count 28 = .ok (.iload_n 1, 1) := by decide +kernel
theorem dX11_count_29 : decode cX11_count 29 = .ok (.iconst 2, 1) := by decide +kernel
theorem dX11_count_30 : decode cX11_count 30 = .ok (.if_icmp .ne 10, 3) := by decide +kernel
theorem dX11_count_33 : decode cX11_count 33 = .ok (.aload_n 0, 1) := by decide +kernel
theorem dX11_count_34 : decode cX11_count 34 = .ok (.getfield 206, 3) := by decide +kernel
theorem dX11_count_37 : decode cX11_count 37 = .ok (.goto 4, 3) := by decide +kernel
theorem dX11_count_40 : decode cX11_count 40 = .ok (.iconst (-1), 1) := by decide +kernel
theorem dX11_count_41 : decode cX11_count 41 = .ok (.ireturn, 1) := by decide +kernel
theorem dX2_init_0 : decode cX2_init 0 = .ok (.aload_n 0, 1) := by decide +kernel
theorem dX2_init_1 : decode cX2_init 1 = .ok (.invokespecial 3, 3) := by decide +kernel
theorem dX2_init_4 : decode cX2_init 4 = .ok (.aload_n 0, 1) := by decide +kernel
theorem dX2_init_5 : decode cX2_init 5 = .ok (.sipush 150, 3) := by decide +kernel
theorem dX2_init_8 : decode cX2_init 8 = .ok (.newarray .int, 2) := by decide +kernel
theorem dX2_init_10 : decode cX2_init 10 = .ok (.putfield 9, 3) := by decide +kernel
theorem dX2_init_13 : decode cX2_init 13 = .ok (.aload_n 0, 1) := by decide +kernel
theorem dX2_init_14 : decode cX2_init 14 = .ok (.bipush 24, 2) := by decide +kernel
theorem dX2_init_16 : decode cX2_init 16 = .ok (.newarray .int, 2) := by decide +kernel
theorem dX2_init_18 : decode cX2_init 18 = .ok (.putfield 15, 3) := by decide +kernel
theorem dX2_init_21 : decode cX2_init 21 = .ok (.return_, 1) := by decide +kernel
theorem dX2_setPlain_0 : decode cX2_setPlain 0 = .ok (.aload_n 0, 1) := by decide +kernel
theorem dX2_setPlain_1 : decode cX2_setPlain 1 = .ok (.iconst 0, 1) := by decide +kernel
theorem dX2_setPlain_2 : decode cX2_setPlain 2 = .ok (.putfield 18, 3) := by decide +kernel
theorem dX2_setPlain_5 : decode cX2_setPlain 5 = .ok (.aload_n 0, 1) := by decide +kernel
theorem dX2_setPlain_6 : decode cX2_setPlain 6 = .ok (.sipush 1000, 3) := by decide +kernel
theorem dX2_setPlain_9 : decode cX2_setPlain 9 = .ok (.invokevirtual 22, 3) := by decide +kernel
theorem dX2_setPlain_12 : decode cX2_setPlain 12 = .ok (.aload_n 0, 1) := by decide +kernel
theorem dX2_setPlain_13 : decode cX2_setPlain 13 = .ok (.sipush 1001, 3) := by decide +kernel
theorem dX2_setPlain_16 : decode cX2_setPlain 16 = .ok (.invokevirtual 22, 3) := by decide +kernel
theorem dX2_setPlain_19 : decode cX2_setPlain 19 = .ok (.aload_n 0, 1) := by decide +kernel
theorem dX2_setPlain_20 : decode cX2_setPlain 20 = .ok (.sipush 2000, 3) := by decide +kernel
theorem dX2_setPlain_23 : decode cX2_setPlain 23 = .ok (.invokevirtual 22, 3) := by decide +kernel
theorem dX2_setPlain_26 : decode cX2_setPlain 26 = .ok (.aload_n 0, 1) := by decide +kernel
theorem dX2_setPlain_27 : decode cX2_setPlain 27 = .ok (.sipush 1002, 3) := by decide +kernel
theorem dX2_setPlain_30 : decode cX2_setPlain 30 = .ok (.invokevirtual 22, 3) := by decide +kernel
theorem dX2_setPlain_33 : decode cX2_setPlain 33 = .ok (.aload_n 0, 1) := by decide +kernel
theorem dX2_setPlain_34 : decode cX2_setPlain 34 = .ok (.iconst 2, 1) := by decide +kernel
theorem dX2_setPlain_35 : decode cX2_setPlain 35 = .ok (.invokevirtual 22, 3) := by decide +kernel
theorem dX2_setPlain_38 : decode cX2_setPlain 38 = .ok (.aload_n 0, 1) := by decide +kernel
theorem dX2_setPlain_39 : decode cX2_setPlain 39 = .ok (.sipush 2002, 3) := by decide +kernel
theorem dX2_setPlain_42 : decode cX2_setPlain 42 = .ok (.invokevirtual 22, 3) := by decide +kernel
theorem dX2_setPlain_45 : decode cX2_setPlain 45 = .ok (.aload_n 0, 1) := by decide +kernel
theorem dX2_setPlain_46 : decode cX2_setPlain 46 = .ok (.sipush 2001, 3) := by decide +kernel
theorem dX2_setPlain_49 : decode cX2_setPlain 49 = .ok (.invokevirtual 22, 3) := by decide +kernel
theorem dX2_setPlain_52 : decode cX2_setPlain 52 = .ok (.return_, 1) := by decide +kernel
theorem dX2_add_0 : decode cX2_add 0 = .ok (.aload_n 0, 1) := by decide +kernel
theorem dX2_add_1 : decode cX2_add 1 = .ok (.getfield 18, 3) := by decide +kernel
theorem dX2_add_4 : decode cX2_add 4 = .ok (.aload_n 0, 1) := by decide +kernel
theorem dX2_add_5 : decode cX2_add 5 = .ok (.getfield 9, 3) := by decide +kernel
theorem dX2_add_8 : decode cX2_add 8 = .ok (.arraylength, 1) := by decide +kernel
theorem dX2_add_9 : decode cX2_add 9 = .ok (.if_icmp .ge 23, 3) := by decide +kernel
theorem dX2_add_12 : decode cX2_add 12 = .ok (.aload_n 0, 1) := by decide +kernel
theorem dX2_add_13 : decode cX2_add 13 = .ok (.getfield 9, 3) := by decide +kernel
theorem dX2_add_16 : decode cX2_add 16 = .ok (.aload_n 0, 1) := by decide +kernel
theorem dX2_add_17 : decode cX2_add 17 = .ok (.getfield 18, 3) := by decide +kernel
theorem dX2_add_20 : decode cX2_add 20 = .ok (.iload_n 1, 1) := by decide +kernel
theorem dX2_add_21 : decode cX2_add 21 = .ok (.iastore, 1) := by decide +kernel
theorem dX2_add_22 : decode cX2_add 22 = .ok (.aload_n 0, 1) := by decide +kernel
theorem dX2_add_23 : decode cX2_add 23 = .ok (.dup, 1) := by decide +kernel
theorem dX2_add_24 : decode cX2_add 24 = .ok (.getfield 18, 3) := by decide +kernel
theorem dX2_add_27 : decode cX2_add 27 = .ok (.iconst 1, 1) := by decide +kernel
theorem dX2_add_28 : decode cX2_add 28 = .ok (.iadd, 1) := by decide +kernel
theorem dX2_add_29 : decode cX2_add 29 = .ok (.putfield 18, 3) := by decide +kernel
theorem dX2_add_32 : decode cX2_add 32 = .ok (.return_, 1) := by decide +kernel
theorem dX2_read_0 : decode cX2_read 0 = .ok (.aload_n 0, 1) := by decide +kernel
theorem dX2_read_1 : decode cX2_read 1 = .ok (.iconst 0, 1) := by decide +kernel
theorem dX2_read_2 : decode cX2_read 2 = .ok (.putfield 18, 3) := by decide +kernel
theorem dX2_read_5 : decode cX2_read 5 = .ok (.aload_n 0, 1) := by decide +kernel
theorem dX2_read_6 : decode cX2_read 6 = .ok (.aload_n 1, 1) := by decide +kernel
theorem dX2_read_7 : decode cX2_read 7 = .ok (.iconst 0, 1) := by decide +kernel
theorem dX2_read_8 : decode cX2_read 8 = .ok (.invokevirtual 26, 3) := by decide +kernel
theorem dX2_read_11 : decode cX2_read 11 = .ok (.aload_n 1, 1) := by decide +kernel
theorem dX2_read_12 : decode cX2_read 12 = .ok (.invokevirtual 30, 3) := by decide +kernel
theorem dX2_read_15 : decode cX2_read 15 = .ok (.ifCond .eq 20, 3) := by decide +kernel
theorem dX2_read_18 : decode cX2_read 18 = .ok (.aload_n 1, 1) := by decide +kernel
theorem dX2_read_19 : decode cX2_read 19 = .ok (.invokevirtual 36, 3) := by decide +kernel
theorem dX2_read_22 : decode cX2_read 22 = .ok (.iconst (-1), 1) := by decide +kernel
theorem dX2_read_23 : decode cX2_read 23 = .ok (.if_icmp .eq 12, 3) := by decide +kernel
theorem dX2_read_26 : decode cX2_read 26 = .ok (.aload_n 1, 1) := by decide +kernel
theorem dX2_read_27 : decode cX2_read 27 = .ok (.iconst 1, 1) := by decide +kernel
theorem dX2_read_28 : decode cX2_read 28 = .ok (.aload_n 1, 1) := by decide +kernel
theorem dX2_read_29 : decode cX2_read 29 = .ok (.getfield 40, 3) := by decide +kernel
theorem dX2_read_32 : decode cX2_read 32 = .ok (.invokevirtual 43, 3) := by decide +kernel
theorem dX2_read_35 : decode cX2_read 35 = .ok (.return_, 1) := by decide +kernel
theorem dX2_readSum_0 : decode cX2_readSum 0 = .ok (.aload_n 0, 1) := by decide +kernel
theorem dX2_readSum_1 : decode cX2_readSum 1 = .ok (.aload_n 1, 1) := by decide +kernel
theorem dX2_readSum_2 : decode cX2_readSum 2 = .ok (.iload_n 2, 1) := by decide +kernel
theorem dX2_readSum_3 : decode cX2_readSum 3 = .ok (.invokevirtual 47, 3) := by decide +kernel
theorem dX2_readSum_6 : decode cX2_readSum 6 = .ok (.iconst 0, 1) := by decide +kernel
theorem dX2_readSum_7 : decode cX2_readSum 7 = .ok (.istore_n 3, 1) := by decide +kernel
theorem dX2_readSum_8 : decode cX2_readSum 8 = .ok (.iload_n 3, 1) := by decide +kernel
theorem dX2_readSum_9 : decode cX2_readSum 9 = .ok (.sipush 150, 3) := by decide +kernel
theorem dX2_readSum_12 : decode cX2_readSum 12 = .ok (.if_icmp .ge 47, 3) := by decide +kernel
theorem dX2_readSum_15 : decode cX2_readSum 15 = .ok (.aload_n 1, 1) := by decide +kernel
theorem dX2_readSum_16 : decode cX2_readSum 16 = .ok (.invokevirtual 30, 3) := by decide +kernel
theorem dX2_readSum_19 : decode cX2_readSum 19 = .ok (.ifCond .eq 40, 3) := by decide +kernel
theorem dX2_readSum_22 : decode cX2_readSum 22 = .ok (.aload_n 1, 1) := by decide +kernel
theorem dX2_readSum_23 : decode cX2_readSum 23 = .ok (.ldc 50, 2) := by decide +kernel
theorem dX2_readSum_25 : decode cX2_readSum 25 = .ok (.invokevirtual 52, 3) := by decide +kernel
theorem dX2_readSum_28 : decode cX2_readSum 28 = .ok (.istore 4, 2) := by decide +kernel
theorem dX2_readSum_30 : decode cX2_readSum 30 = .ok (.iload 4, 2) := by decide +kernel
theorem dX2_readSum_32 : decode cX2_readSum 32 = .ok (.iconst (-1), 1) := by decide +kernel
theorem dX2_readSum_33 : decode cX2_readSum 33 = .ok (.if_icmp .ne 4, 3) := by decide +kernel
theorem dX2_readSum_36 : decode cX2_readSum 36 = .ok (.return_, 1) := by decide +kernel
theorem dX2_readSum_37 : decode cX2_readSum 37 = .ok (.aload_n 0, 1) := by decide +kernel
theorem dX2_readSum_38 : decode cX2_readSum 38 = .ok (.aload_n 1, 1) := by decide +kernel
theorem dX2_readSum_39 : decode cX2_readSum 39 = .ok (.iload_n 2, 1) := by decide +kernel
theorem dX2_readSum_40 : decode cX2_readSum 40 = .ok (.invokevirtual 47, 3) := by decide +kernel
theorem dX2_readSum_43 : decode cX2_readSum 43 = .ok (.aload_n 0, 1) := by decide +kernel
theorem dX2_readSum_44 : decode cX2_readSum 44 = .ok (.sipush 2000, 3) := by decide +kernel
theorem dX2_readSum_47 : decode cX2_readSum 47 = .ok (.iload 4, 2) := by decide +kernel
theorem dX2_readSum_49 : decode cX2_readSum 49 = .ok (.iadd, 1) := by decide +kernel
theorem dX2_readSum_50 : decode cX2_readSum 50 = .ok (.invokevirtual 22, 3) := by decide +kernel
theorem dX2_readSum_53 : decode cX2_readSum 53 = .ok (.iinc 3 1, 3) := by decide +kernel
theorem dX2_readSum_56 : decode cX2_readSum 56 = .ok (.goto (-48), 3) := by decide +kernel
theorem dX2_readSum_59 : decode cX2_readSum 59 = .ok (.return_, 1) := by decide +kernel
theorem dX2_readProduct_0 : decode cX2_readProduct 0 = .ok (.aload_n 0, 1) := by decide +kernel
theorem dX2_readProduct_1 : decode cX2_readProduct 1 = .ok (.aload_n 1, 1) := by decide +kernel
theorem dX2_readProduct_2 : decode cX2_readProduct 2 = .ok (.iload_n 2, 1) := by decide +kernel
theorem dX2_readProduct_3 : decode cX2_readProduct 3 = .ok (.invokevirtual 56, 3) := by decide +kernel
theorem dX2_readProduct_6 : decode cX2_readProduct 6 = .ok (.iconst 0, 1) := by decide +kernel
theorem dX2_readProduct_7 : decode cX2_readProduct 7 = .ok (.istore_n 3, 1) := by decide +kernel
theorem dX2_readProduct_8 : decode cX2_readProduct 8 = .ok (.iload_n 3, 1) := by decide +kernel
theorem dX2_readProduct_9 : decode cX2_readProduct 9 = .ok (.sipush 150, 3) := by decide +kernel
theorem dX2_readProduct_12 : decode cX2_readProduct 12 = .ok (.if_icmp .ge 47, 3) := by decide +kernel
theorem dX2_readProduct_15 : decode cX2_readProduct 15 = .ok (.aload_n 1, 1) := by decide +kernel
theorem dX2_readProduct_16 : decode cX2_readProduct 16 = .ok (.invokevirtual 30, 3) := by decide +kernel
theorem dX2_readProduct_19 : decode cX2_readProduct 19 = .ok (.ifCond .eq 40, 3) := by decide +kernel
theorem dX2_readProduct_22 : decode cX2_readProduct 22 = .ok (.aload_n 1, 1) := by decide +kernel
theorem dX2_readProduct_23 : decode cX2_readProduct 23 = .ok (.ldc 59, 2) := by decide +kernel
theorem dX2_readProduct_25 : decode cX2_readProduct 25 = .ok (.invokevirtual 52, 3) := by decide +kernel
theorem dX2_readProduct_28 : decode cX2_readProduct 28 = .ok (.istore 4, 2) := by decide +kernel
theorem dX2_readProduct_30 : decode cX2_readProduct 30 = .ok (.iload 4, 2) := by decide +kernel
theorem dX2_readProduct_32 : decode cX2_readProduct 32 = .ok (.iconst (-1), 1) := by decide +kernel
theorem dX2_readProduct_33 : decode cX2_readProduct 33 = .ok (.if_icmp .ne 4, 3) := by decide +kernel
theorem dX2_readProduct_36 : decode cX2_readProduct 36 = .ok (.return_, 1) := by decide +kernel
theorem dX2_readProduct_37 : decode cX2_readProduct 37 = .ok (.aload_n 0, 1) := by decide +kernel
theorem dX2_readProduct_38 : decode cX2_readProduct 38 = .ok (.aload_n 1, 1) := by decide +kernel
theorem dX2_readProduct_39 : decode cX2_readProduct 39 = .ok (.iload_n 2, 1) := by decide +kernel
theorem dX2_readProduct_40 : decode cX2_readProduct 40 = .ok (.invokevirtual 56, 3) := by decide +kernel
theorem dX2_readProduct_43 : decode cX2_readProduct 43 = .ok (.aload_n 0, 1) := by decide +kernel
theorem dX2_readProduct_44 : decode cX2_readProduct 44 = .ok (.sipush 2002, 3) := by decide +kernel
theorem dX2_readProduct_47 : decode cX2_readProduct 47 = .ok (.iload 4, 2) := by decide +kernel
theorem dX2_readProduct_49 : decode cX2_readProduct 49 = .ok (.iadd, 1) := by decide +kernel
theorem dX2_readProduct_50 : decode cX2_readProduct 50 = .ok (.invokevirtual 22, 3) := by decide +kernel
theorem dX2_readProduct_53 : decode cX2_readProduct 53 = .ok (.iinc 3 1, 3) := by decide +kernel
theorem dX2_readProduct_56 : decode cX2_readProduct 56 = .ok (.goto (-48), 3) := by decide +kernel
theorem dX2_readProduct_59 : decode cX2_readProduct 59 = .ok (.return_, 1) := by decide +kernel
theorem dX2_readUnit_0 : decode cX2_readUnit 0 = .ok (.aload_n 1, 1) := by decide +kernel
theorem dX2_readUnit_1 : decode cX2_readUnit 1 = .ok (.aload_n 1, 1) := by decide +kernel
theorem dX2_readUnit_2 : decode cX2_readUnit 2 = .ok (.invokevirtual 36, 3) := by decide +kernel
theorem dX2_readUnit_5 : decode cX2_readUnit 5 = .ok (.invokevirtual 61, 3) := by decide +kernel
theorem dX2_readUnit_8 : decode cX2_readUnit 8 = .ok (.ifCond .eq 18, 3) := by decide +kernel
theorem dX2_readUnit_11 : decode cX2_readUnit 11 = .ok (.aload_n 0, 1) := by decide +kernel
theorem dX2_readUnit_12 : decode cX2_readUnit 12 = .ok (.aload_n 1, 1) := by decide +kernel
theorem dX2_readUnit_13 : decode cX2_readUnit 13 = .ok (.iconst 0, 1) := by decide +kernel
theorem dX2_readUnit_14 : decode cX2_readUnit 14 = .ok (.sipush 999, 3) := by decide +kernel
theorem dX2_readUnit_17 : decode cX2_readUnit 17 = .ok (.invokevirtual 65, 3) := by decide +kernel
theorem dX2_readUnit_20 : decode cX2_readUnit 20 = .ok (.invokevirtual 22, 3) := by decide +kernel
theorem dX2_readUnit_23 : decode cX2_readUnit 23 = .ok (.goto 98, 3) := by decide +kernel
theorem dX2_readUnit_26 : decode cX2_readUnit 26 = .ok (.aload_n 1, 1) := by decide +kernel
theorem dX2_readUnit_27 : decode cX2_readUnit 27 = .ok (.ldc 69, 2) := by decide +kernel
theorem dX2_readUnit_29 : decode cX2_readUnit 29 = .ok (.invokevirtual 52, 3) := by decide +kernel
theorem dX2_readUnit_32 : decode cX2_readUnit 32 = .ok (.iconst (-1), 1) := by decide +kernel
theorem dX2_readUnit_33 : decode cX2_readUnit 33 = .ok (.if_icmp .eq 29, 3) := by decide +kernel
theorem dX2_readUnit_36 : decode cX2_readUnit 36 = .ok (.aload_n 0, 1) := by decide +kernel
theorem dX2_readUnit_37 : decode cX2_readUnit 37 = .ok (.aload_n 1, 1) := by decide +kernel
theorem dX2_readUnit_38 : decode cX2_readUnit 38 = .ok (.iload_n 2, 1) := by decide +kernel
theorem dX2_readUnit_39 : decode cX2_readUnit 39 = .ok (.invokevirtual 71, 3) := by decide +kernel
theorem dX2_readUnit_42 : decode cX2_readUnit 42 = .ok (.ifCond .eq 79, 3) := by decide +kernel
theorem dX2_readUnit_45 : decode cX2_readUnit 45 = .ok (.aload_n 0, 1) := by decide +kernel
theorem dX2_readUnit_46 : decode cX2_readUnit 46 = .ok (.aload_n 1, 1) := by decide +kernel
theorem dX2_readUnit_47 : decode cX2_readUnit 47 = .ok (.iload_n 2, 1) := by decide +kernel
theorem dX2_readUnit_48 : decode cX2_readUnit 48 = .ok (.iconst 1, 1) := by decide +kernel
theorem dX2_readUnit_49 : decode cX2_readUnit 49 = .ok (.iadd, 1) := by decide +kernel
theorem dX2_readUnit_50 : decode cX2_readUnit 50 = .ok (.invokevirtual 26, 3) := by decide +kernel
theorem dX2_readUnit_53 : decode cX2_readUnit 53 = .ok (.aload_n 1, 1) := by decide +kernel
theorem dX2_readUnit_54 : decode cX2_readUnit 54 = .ok (.bipush 41, 2) := by decide +kernel
theorem dX2_readUnit_56 : decode cX2_readUnit 56 = .ok (.invokevirtual 75, 3) := by decide +kernel
theorem dX2_readUnit_59 : decode cX2_readUnit 59 = .ok (.goto 62, 3) := by decide +kernel
theorem dX2_readUnit_62 : decode cX2_readUnit 62 = .ok (.aload_n 1, 1) := by decide +kernel
theorem dX2_readUnit_63 : decode cX2_readUnit 63 = .ok (.ldc 79, 2) := by decide +kernel
theorem dX2_readUnit_65 : decode cX2_readUnit 65 = .ok (.invokevirtual 81, 3) := by decide +kernel
theorem dX2_readUnit_68 : decode cX2_readUnit 68 = .ok (.istore_n 3, 1) := by decide +kernel
theorem dX2_readUnit_69 : decode cX2_readUnit 69 = .ok (.iload_n 3, 1) := by decide +kernel
theorem dX2_readUnit_70 : decode cX2_readUnit 70 = .ok (.bipush 8, 2) := by decide +kernel
theorem dX2_readUnit_72 : decode cX2_readUnit 72 = .ok (.if_icmp .lt 35, 3) := by decide +kernel
theorem dX2_readUnit_75 : decode cX2_readUnit 75 = .ok (.aload_n 0, 1) := by decide +kernel
theorem dX2_readUnit_76 : decode cX2_readUnit 76 = .ok (.aload_n 1, 1) := by decide +kernel
theorem dX2_readUnit_77 : decode cX2_readUnit 77 = .ok (.iload_n 2, 1) := by decide +kernel
theorem dX2_readUnit_78 : decode cX2_readUnit 78 = .ok (.invokevirtual 71, 3) := by decide +kernel
theorem dX2_readUnit_81 : decode cX2_readUnit 81 = .ok (.ifCond .eq 40, 3) := by decide +kernel
theorem dX2_readUnit_84 : decode cX2_readUnit 84 = .ok (.aload_n 0, 1) := by decide +kernel
theorem dX2_readUnit_85 : decode cX2_readUnit 85 = .ok (.aload_n 1, 1) := by decide +kernel
theorem dX2_readUnit_86 : decode cX2_readUnit 86 = .ok (.iload_n 2, 1) := by decide +kernel
theorem dX2_readUnit_87 : decode cX2_readUnit 87 = .ok (.iconst 1, 1) := by decide +kernel
theorem dX2_readUnit_88 : decode cX2_readUnit 88 = .ok (.iadd, 1) := by decide +kernel
theorem dX2_readUnit_89 : decode cX2_readUnit 89 = .ok (.invokevirtual 84, 3) := by decide +kernel
theorem dX2_readUnit_92 : decode cX2_readUnit 92 = .ok (.aload_n 0, 1) := by decide +kernel
theorem dX2_readUnit_93 : decode cX2_readUnit 93 = .ok (.sipush 2005, 3) := by decide +kernel
theorem dX2_readUnit_96 : decode cX2_readUnit 96 = .ok (.iload_n 3, 1) := by decide +kernel
theorem dX2_readUnit_97 : decode cX2_readUnit 97 = .ok (.iadd, 1) := by decide +kernel
theorem dX2_readUnit_98 : decode cX2_readUnit 98 = .ok (.bipush 8, 2) := by decide +kernel
theorem dX2_readUnit_100 : decode cX2_readUnit 100 = .ok (.isub, 1) := by decide +kernel
theorem dX2_readUnit_101 : decode cX2_readUnit 101 = .ok (.invokevirtual 22, 3) := by decide +kernel
theorem dX2_readUnit_104 : decode cX2_readUnit 104 = .ok (.goto 17, 3) := by decide +kernel
theorem dX2_readUnit_107 : decode cX2_readUnit 107 = .ok (.iload_n 3, 1) := by decide +kernel
theorem dX2_readUnit_108 : decode cX2_readUnit 108 = .ok (.iconst (-1), 1) := by decide +kernel
theorem dX2_readUnit_109 : decode cX2_readUnit 109 = .ok (.if_icmp .eq 12, 3) := by decide +kernel
theorem dX2_readUnit_112 : decode cX2_readUnit 112 = .ok (.aload_n 0, 1) := by decide +kernel
theorem dX2_readUnit_113 : decode cX2_readUnit 113 = .ok (.sipush 1000, 3) := by decide +kernel
theorem dX2_readUnit_116 : decode cX2_readUnit 116 = .ok (.iload_n 3, 1) := by decide +kernel
theorem dX2_readUnit_117 : decode cX2_readUnit 117 = .ok (.iadd, 1) := by decide +kernel
theorem dX2_readUnit_118 : decode cX2_readUnit 118 = .ok (.invokevirtual 22, 3) := by decide +kernel
theorem dX2_readUnit_121 : decode cX2_readUnit 121 = .ok (.return_, 1) := by decide +kernel
theorem dX2_mayOpen_0 : decode cX2_mayOpen 0 = .ok (.iload_n 2, 1) := by decide +kernel
theorem dX2_mayOpen_1 : decode cX2_mayOpen 1 = .ok (.bipush 6, 2) := by decide +kernel
theorem dX2_mayOpen_3 : decode cX2_mayOpen 3 = .ok (.if_icmp .lt 12, 3) := by decide +kernel
theorem dX2_mayOpen_6 : decode cX2_mayOpen 6 = .ok (.aload_n 1, 1) := by decide +kernel
theorem dX2_mayOpen_7 : decode cX2_mayOpen 7 = .ok (.iconst 3, 1) := by decide +kernel
theorem dX2_mayOpen_8 : decode cX2_mayOpen 8 = .ok (.aload_n 1, 1) := by decide +kernel
theorem dX2_mayOpen_9 : decode cX2_mayOpen 9 = .ok (.getfield 87, 3) := by decide +kernel
theorem dX2_mayOpen_12 : decode cX2_mayOpen 12 = .ok (.invokevirtual 43, 3) := by decide +kernel
theorem dX2_mayOpen_15 : decode cX2_mayOpen 15 = .ok (.iload_n 2, 1) := by decide +kernel
theorem dX2_mayOpen_16 : decode cX2_mayOpen 16 = .ok (.bipush 6, 2) := by decide +kernel
theorem dX2_mayOpen_18 : decode cX2_mayOpen 18 = .ok (.if_icmp .ge 7, 3) := by decide +kernel
theorem dX2_mayOpen_21 : decode cX2_mayOpen 21 = .ok (.iconst 1, 1) := by decide +kernel
theorem dX2_mayOpen_22 : decode cX2_mayOpen 22 = .ok (.goto 4, 3) := by decide +kernel
theorem dX2_mayOpen_25 : decode cX2_mayOpen 25 = .ok (.iconst 0, 1) := by decide +kernel
theorem dX2_mayOpen_26 : decode cX2_mayOpen 26 = .ok (.ireturn, 1) := by decide +kernel
theorem dX2_readPair_0 : decode cX2_readPair 0 = .ok (.aload_n 1, 1) := by decide +kernel
theorem dX2_readPair_1 : decode cX2_readPair 1 = .ok (.bipush 91, 2) := by decide +kernel
theorem dX2_readPair_3 : decode cX2_readPair 3 = .ok (.invokevirtual 75, 3) := by decide +kernel
theorem dX2_readPair_6 : decode cX2_readPair 6 = .ok (.aload_n 1, 1) := by decide +kernel
theorem dX2_readPair_7 : decode cX2_readPair 7 = .ok (.invokevirtual 30, 3) := by decide +kernel
theorem dX2_readPair_10 : decode cX2_readPair 10 = .ok (.ifCond .eq 9, 3) := by decide +kernel
theorem dX2_readPair_13 : decode cX2_readPair 13 = .ok (.aload_n 0, 1) := by decide +kernel
theorem dX2_readPair_14 : decode cX2_readPair 14 = .ok (.aload_n 1, 1) := by decide +kernel
theorem dX2_readPair_15 : decode cX2_readPair 15 = .ok (.iload_n 2, 1) := by decide +kernel
theorem dX2_readPair_16 : decode cX2_readPair 16 = .ok (.invokevirtual 26, 3) := by decide +kernel
theorem dX2_readPair_19 : decode cX2_readPair 19 = .ok (.aload_n 1, 1) := by decide +kernel
theorem dX2_readPair_20 : decode cX2_readPair 20 = .ok (.bipush 44, 2) := by decide +kernel
theorem dX2_readPair_22 : decode cX2_readPair 22 = .ok (.invokevirtual 75, 3) := by decide +kernel
theorem dX2_readPair_25 : decode cX2_readPair 25 = .ok (.aload_n 1, 1) := by decide +kernel
theorem dX2_readPair_26 : decode cX2_readPair 26 = .ok (.invokevirtual 30, 3) := by decide +kernel
theorem dX2_readPair_29 : decode cX2_readPair 29 = .ok (.ifCond .eq 9, 3) := by decide +kernel
theorem dX2_readPair_32 : decode cX2_readPair 32 = .ok (.aload_n 0, 1) := by decide +kernel
theorem dX2_readPair_33 : decode cX2_readPair 33 = .ok (.aload_n 1, 1) := by decide +kernel
theorem dX2_readPair_34 : decode cX2_readPair 34 = .ok (.iload_n 2, 1) := by decide +kernel
theorem dX2_readPair_35 : decode cX2_readPair 35 = .ok (.invokevirtual 26, 3) := by decide +kernel
theorem dX2_readPair_38 : decode cX2_readPair 38 = .ok (.aload_n 1, 1) := by decide +kernel
theorem dX2_readPair_39 : decode cX2_readPair 39 = .ok (.bipush 93, 2) := by decide +kernel
theorem dX2_readPair_41 : decode cX2_readPair 41 = .ok (.invokevirtual 75, 3) := by decide +kernel
theorem dX2_readPair_44 : decode cX2_readPair 44 = .ok (.return_, 1) := by decide +kernel
theorem dX2_power_0 : decode cX2_power 0 = .ok (.iconst 0, 1) := by decide +kernel
theorem dX2_power_1 : decode cX2_power 1 = .ok (.istore_n 2, 1) := by decide +kernel
theorem dX2_power_2 : decode cX2_power 2 = .ok (.iconst 0, 1) := by decide +kernel
theorem dX2_power_3 : decode cX2_power 3 = .ok (.istore_n 3, 1) := by decide +kernel
theorem dX2_power_4 : decode cX2_power 4 = .ok (.iload_n 3, 1) := by decide +kernel
theorem dX2_power_5 : decode cX2_power 5 = .ok (.aload_n 0, 1) := by decide +kernel
theorem dX2_power_6 : decode cX2_power 6 = .ok (.getfield 18, 3) := by decide +kernel
theorem dX2_power_9 : decode cX2_power 9 = .ok (.if_icmp .ge 102, 3) := by decide +kernel
theorem dX2_power_12 : decode cX2_power 12 = .ok (.aload_n 0, 1) := by decide +kernel
theorem dX2_power_13 : decode cX2_power 13 = .ok (.getfield 9, 3) := by decide +kernel
theorem dX2_power_16 : decode cX2_power 16 = .ok (.iload_n 3, 1) := by decide +kernel
theorem dX2_power_17 : decode cX2_power 17 = .ok (.iaload, 1) := by decide +kernel
theorem dX2_power_18 : decode cX2_power 18 = .ok (.istore 4, 2) := by decide +kernel
theorem dX2_power_20 : decode cX2_power 20 = .ok (.iload 4, 2) := by decide +kernel
theorem dX2_power_22 : decode cX2_power 22 = .ok (.sipush 2000, 3) := by decide +kernel
theorem dX2_power_25 : decode cX2_power 25 = .ok (.if_icmp .ge 45, 3) := by decide +kernel
theorem dX2_power_28 : decode cX2_power 28 = .ok (.iload_n 2, 1) := by decide +kernel
theorem dX2_power_29 : decode cX2_power 29 = .ok (.aload_n 0, 1) := by decide +kernel
theorem dX2_power_30 : decode cX2_power 30 = .ok (.getfield 15, 3) := by decide +kernel
theorem dX2_power_33 : decode cX2_power 33 = .ok (.arraylength, 1) := by decide +kernel
theorem dX2_power_34 : decode cX2_power 34 = .ok (.if_icmp .ge 71, 3) := by decide +kernel
theorem dX2_power_37 : decode cX2_power 37 = .ok (.aload_n 0, 1) := by decide +kernel
theorem dX2_power_38 : decode cX2_power 38 = .ok (.getfield 15, 3) := by decide +kernel
theorem dX2_power_41 : decode cX2_power 41 = .ok (.iload_n 2, 1) := by decide +kernel
theorem dX2_power_42 : decode cX2_power 42 = .ok (.iload 4, 2) := by decide +kernel
theorem dX2_power_44 : decode cX2_power 44 = .ok (.sipush 1000, 3) := by decide +kernel
theorem dX2_power_47 : decode cX2_power 47 = .ok (.if_icmp .ge 8, 3) := by decide +kernel
theorem dX2_power_50 : decode cX2_power 50 = .ok (.iload 4, 2) := by decide +kernel
theorem dX2_power_52 : decode cX2_power 52 = .ok (.goto 11, 3) := by decide +kernel
theorem dX2_power_55 : decode cX2_power 55 = .ok (.aload_n 1, 1) := by decide +kernel
theorem dX2_power_56 : decode cX2_power 56 = .ok (.iload 4, 2) := by decide +kernel
theorem dX2_power_58 : decode cX2_power 58 = .ok (.sipush 1000, 3) := by decide +kernel
theorem dX2_power_61 : decode cX2_power 61 = .ok (.isub, 1) := by decide +kernel
theorem dX2_power_62 : decode cX2_power 62 = .ok (.iaload, 1) := by decide +kernel
theorem dX2_power_63 : decode cX2_power 63 = .ok (.iastore, 1) := by decide +kernel
theorem dX2_power_64 : decode cX2_power 64 = .ok (.iinc 2 1, 3) := by decide +kernel
theorem dX2_power_67 : decode cX2_power 67 = .ok (.goto 38, 3) := by decide +kernel
theorem dX2_power_70 : decode cX2_power 70 = .ok (.iload_n 2, 1) := by decide +kernel
theorem dX2_power_71 : decode cX2_power 71 = .ok (.iconst 2, 1) := by decide +kernel
theorem dX2_power_72 : decode cX2_power 72 = .ok (.if_icmp .lt 33, 3) := by decide +kernel
theorem dX2_power_75 : decode cX2_power 75 = .ok (.iinc 2 (-1), 3) := by decide +kernel
theorem dX2_power_78 : decode cX2_power 78 = .ok (.aload_n 0, 1) := by decide +kernel
theorem dX2_power_79 : decode cX2_power 79 = .ok (.getfield 15, 3) := by decide +kernel
theorem dX2_power_82 : decode cX2_power 82 = .ok (.iload_n 2, 1) := by decide +kernel
theorem dX2_power_83 : decode cX2_power 83 = .ok (.iconst 1, 1) := by decide +kernel
theorem dX2_power_84 : decode cX2_power 84 = .ok (.isub, 1) := by decide +kernel
theorem dX2_power_85 : decode cX2_power 85 = .ok (.iload 4, 2) := by decide +kernel
theorem dX2_power_87 : decode cX2_power 87 = .ok (.aload_n 0, 1) := by decide +kernel
theorem dX2_power_88 : decode cX2_power 88 = .ok (.getfield 15, 3) := by decide +kernel
theorem dX2_power_91 : decode cX2_power 91 = .ok (.iload_n 2, 1) := by decide +kernel
theorem dX2_power_92 : decode cX2_power 92 = .ok (.iconst 1, 1) := by decide +kernel
theorem dX2_power_93 : decode cX2_power 93 = .ok (.isub, 1) := by decide +kernel
theorem dX2_power_94 : decode cX2_power 94 = .ok (.iaload, 1) := by decide +kernel
theorem dX2_power_95 : decode cX2_power 95 = .ok (.aload_n 0, 1) := by decide +kernel
theorem dX2_power_96 : decode cX2_power 96 = .ok (.getfield 15, 3) := by decide +kernel
theorem dX2_power_99 : decode cX2_power 99 = .ok (.iload_n 2, 1) := by decide +kernel
theorem dX2_power_100 : decode cX2_power 100 = .ok (.iaload, 1) := by decide +kernel
theorem dX2_power_101 : decode cX2_power 101 = .ok (.invokestatic 90, 3) := by decide +kernel
theorem dX2_power_104 : decode cX2_power 104 = .ok (.iastore, 1) := by decide +kernel
theorem dX2_power_105 : decode cX2_power 105 = .ok (.iinc 3 1, 3) := by decide +kernel
theorem dX2_power_108 : decode cX2_power 108 = .ok (.goto (-104), 3) := by decide +kernel
theorem dX2_power_111 : decode cX2_power 111 = .ok (.iconst 0, 1) := by decide +kernel
theorem dX2_power_112 : decode cX2_power 112 = .ok (.bipush 99, 2) := by decide +kernel
theorem dX2_power_114 : decode cX2_power 114 = .ok (.aload_n 0, 1) := by decide +kernel
theorem dX2_power_115 : decode cX2_power 115 = .ok (.getfield 15, 3) := by decide +kernel
theorem dX2_power_118 : decode cX2_power 118 = .ok (.iconst 0, 1) := by decide +kernel
theorem dX2_power_119 : decode cX2_power 119 = .ok (.iaload, 1) := by decide +kernel
theorem dX2_power_120 : decode cX2_power 120 = .ok (.invokestatic 94, 3) := by decide +kernel
theorem dX2_power_123 : decode cX2_power 123 = .ok (.invokestatic 99, 3) := by decide +kernel
theorem dX2_power_126 : decode cX2_power 126 = .ok (.ireturn, 1) := by decide +kernel
theorem dX2_combine_0 : decode cX2_combine 0 = .ok (.iload_n 0, 1) := by decide +kernel
theorem dX2_combine_1 : decode cX2_combine 1 = .ok (.tableswitch 86 2000 2005 #[39, 43, 47, 51, 63, 75], 39) := by decide +kernel
theorem dX2_combine_40 : decode cX2_combine 40 = .ok (.iload_n 1, 1) := by decide +kernel
theorem dX2_combine_41 : decode cX2_combine 41 = .ok (.iload_n 2, 1) := by decide +kernel
theorem dX2_combine_42 : decode cX2_combine 42 = .ok (.iadd, 1) := by decide +kernel
theorem dX2_combine_43 : decode cX2_combine 43 = .ok (.ireturn, 1) := by decide +kernel
theorem dX2_combine_44 : decode cX2_combine 44 = .ok (.iload_n 1, 1) := by decide +kernel
theorem dX2_combine_45 : decode cX2_combine 45 = .ok (.iload_n 2, 1) := by decide +kernel
theorem dX2_combine_46 : decode cX2_combine 46 = .ok (.isub, 1) := by decide +kernel
theorem dX2_combine_47 : decode cX2_combine 47 = .ok (.ireturn, 1) := by decide +kernel
theorem dX2_combine_48 : decode cX2_combine 48 = .ok (.iload_n 1, 1) := by decide +kernel
theorem dX2_combine_49 : decode cX2_combine 49 = .ok (.iload_n 2, 1) := by decide +kernel
theorem dX2_combine_50 : decode cX2_combine 50 = .ok (.imul, 1) := by decide +kernel
theorem dX2_combine_51 : decode cX2_combine 51 = .ok (.ireturn, 1) := by decide +kernel
theorem dX2_combine_52 : decode cX2_combine 52 = .ok (.iload_n 2, 1) := by decide +kernel
theorem dX2_combine_53 : decode cX2_combine 53 = .ok (.ifCond .ne 7, 3) := by decide +kernel
theorem dX2_combine_56 : decode cX2_combine 56 = .ok (.iconst 0, 1) := by decide +kernel
theorem dX2_combine_57 : decode cX2_combine 57 = .ok (.goto 6, 3) := by decide +kernel
theorem dX2_combine_60 : decode cX2_combine 60 = .ok (.iload_n 1, 1) := by decide +kernel
theorem dX2_combine_61 : decode cX2_combine 61 = .ok (.iload_n 2, 1) := by decide +kernel
theorem dX2_combine_62 : decode cX2_combine 62 = .ok (.idiv, 1) := by decide +kernel
theorem dX2_combine_63 : decode cX2_combine 63 = .ok (.ireturn, 1) := by decide +kernel
theorem dX2_combine_64 : decode cX2_combine 64 = .ok (.iload_n 2, 1) := by decide +kernel
theorem dX2_combine_65 : decode cX2_combine 65 = .ok (.ifCond .ne 7, 3) := by decide +kernel
theorem dX2_combine_68 : decode cX2_combine 68 = .ok (.iconst 0, 1) := by decide +kernel
theorem dX2_combine_69 : decode cX2_combine 69 = .ok (.goto 6, 3) := by decide +kernel
theorem dX2_combine_72 : decode cX2_combine 72 = .ok (.iload_n 1, 1) := by decide +kernel
theorem dX2_combine_73 : decode cX2_combine 73 = .ok (.iload_n 2, 1) := by decide +kernel
theorem dX2_combine_74 : decode cX2_combine 74 = .ok (.irem, 1) := by decide +kernel
theorem dX2_combine_75 : decode cX2_combine 75 = .ok (.ireturn, 1) := by decide +kernel
theorem dX2_combine_76 : decode cX2_combine 76 = .ok (.iload_n 1, 1) := by decide +kernel
theorem dX2_combine_77 : decode cX2_combine 77 = .ok (.iload_n 2, 1) := by decide +kernel
theorem dX2_combine_78 : decode cX2_combine 78 = .ok (.if_icmp .ge 7, 3) := by decide +kernel
theorem dX2_combine_81 : decode cX2_combine 81 = .ok (.iload_n 1, 1) := by decide +kernel
theorem dX2_combine_82 : decode cX2_combine 82 = .ok (.goto 4, 3) := by decide +kernel
theorem dX2_combine_85 : decode cX2_combine 85 = .ok (.iload_n 2, 1) := by decide +kernel
theorem dX2_combine_86 : decode cX2_combine 86 = .ok (.ireturn, 1) := by decide +kernel
theorem dX2_combine_87 : decode cX2_combine 87 = .ok (.iload_n 1, 1) := by decide +kernel
theorem dX2_combine_88 : decode cX2_combine 88 = .ok (.iload_n 2, 1) := by decide +kernel
theorem dX2_combine_89 : decode cX2_combine 89 = .ok (.if_icmp .le 7, 3) := by decide +kernel
theorem dX2_combine_92 : decode cX2_combine 92 = .ok (.iload_n 1, 1) := by decide +kernel
theorem dX2_combine_93 : decode cX2_combine 93 = .ok (.goto 4, 3) := by decide +kernel
theorem dX2_combine_96 : decode cX2_combine 96 = .ok (.iload_n 2, 1) := by decide +kernel
theorem dX2_combine_97 : decode cX2_combine 97 = .ok (.ireturn, 1) := by decide +kernel
theorem dX3_init_0 : decode cX3_init 0 = .ok (.aload_n 0, 1) := by decide +kernel
theorem dX3_init_1 : decode cX3_init 1 = .ok (.invokespecial 3, 3) := by decide +kernel
theorem dX3_init_4 : decode cX3_init 4 = .ok (.aload_n 0, 1) := by decide +kernel
theorem dX3_init_5 : decode cX3_init 5 = .ok (.bipush 8, 2) := by decide +kernel
theorem dX3_init_7 : decode cX3_init 7 = .ok (.newarray .int, 2) := by decide +kernel
theorem dX3_init_9 : decode cX3_init 9 = .ok (.putfield 9, 3) := by decide +kernel
theorem dX3_init_12 : decode cX3_init 12 = .ok (.aload_n 0, 1) := by decide +kernel
theorem dX3_init_13 : decode cX3_init 13 = .ok (.bipush 8, 2) := by decide +kernel
theorem dX3_init_15 : decode cX3_init 15 = .ok (.newarray .int, 2) := by decide +kernel
theorem dX3_init_17 : decode cX3_init 17 = .ok (.putfield 15, 3) := by decide +kernel
theorem dX3_init_20 : decode cX3_init 20 = .ok (.aload_n 0, 1) := by decide +kernel
theorem dX3_init_21 : decode cX3_init 21 = .ok (.bipush 10, 2) := by decide +kernel
theorem dX3_init_23 : decode cX3_init 23 = .ok (.newarray .int, 2) := by decide +kernel
theorem dX3_init_25 : decode cX3_init 25 = .ok (.putfield 18, 3) := by decide +kernel
theorem dX3_init_28 : decode cX3_init 28 = .ok (.return_, 1) := by decide +kernel
theorem dX3_pair_0 : decode cX3_pair 0 = .ok (.aload_n 1, 1) := by decide +kernel
theorem dX3_pair_1 : decode cX3_pair 1 = .ok (.getfield 21, 3) := by decide +kernel
theorem dX3_pair_4 : decode cX3_pair 4 = .ok (.getfield 27, 3) := by decide +kernel
theorem dX3_pair_7 : decode cX3_pair 7 = .ok (.istore_n 2, 1) := by decide +kernel
theorem dX3_pair_8 : decode cX3_pair 8 = .ok (.aload_n 1, 1) := by decide +kernel
theorem dX3_pair_9 : decode cX3_pair 9 = .ok (.getfield 21, 3) := by decide +kernel
theorem dX3_pair_12 : decode cX3_pair 12 = .ok (.getfield 33, 3) := by decide +kernel
theorem dX3_pair_15 : decode cX3_pair 15 = .ok (.istore_n 3, 1) := by decide +kernel
theorem dX3_pair_16 : decode cX3_pair 16 = .ok (.iconst 0, 1) := by decide +kernel
theorem dX3_pair_17 : decode cX3_pair 17 = .ok (.istore 4, 2) := by decide +kernel
theorem dX3_pair_19 : decode cX3_pair 19 = .ok (.iload 4, 2) := by decide +kernel
theorem dX3_pair_21 : decode cX3_pair 21 = .ok (.iload_n 2, 1) := by decide +kernel
theorem dX3_pair_22 : decode cX3_pair 22 = .ok (.if_icmp .ge 45, 3) := by decide +kernel
theorem dX3_pair_25 : decode cX3_pair 25 = .ok (.aload_n 0, 1) := by decide +kernel
theorem dX3_pair_26 : decode cX3_pair 26 = .ok (.getfield 9, 3) := by decide +kernel
theorem dX3_pair_29 : decode cX3_pair 29 = .ok (.iload 4, 2) := by decide +kernel
theorem dX3_pair_31 : decode cX3_pair 31 = .ok (.aload_n 1, 1) := by decide +kernel
theorem dX3_pair_32 : decode cX3_pair 32 = .ok (.iload 4, 2) := by decide +kernel
theorem dX3_pair_34 : decode cX3_pair 34 = .ok (.invokevirtual 36, 3) := by decide +kernel
theorem dX3_pair_37 : decode cX3_pair 37 = .ok (.ifCond .eq 7, 3) := by decide +kernel
theorem dX3_pair_40 : decode cX3_pair 40 = .ok (.iconst 0, 1) := by decide +kernel
theorem dX3_pair_41 : decode cX3_pair 41 = .ok (.goto 19, 3) := by decide +kernel
theorem dX3_pair_44 : decode cX3_pair 44 = .ok (.aload_n 1, 1) := by decide +kernel
theorem dX3_pair_45 : decode cX3_pair 45 = .ok (.iload 4, 2) := by decide +kernel
theorem dX3_pair_47 : decode cX3_pair 47 = .ok (.iconst 0, 1) := by decide +kernel
theorem dX3_pair_48 : decode cX3_pair 48 = .ok (.invokevirtual 40, 3) := by decide +kernel
theorem dX3_pair_51 : decode cX3_pair 51 = .ok (.aload_n 1, 1) := by decide +kernel
theorem dX3_pair_52 : decode cX3_pair 52 = .ok (.getfield 44, 3) := by decide +kernel
theorem dX3_pair_55 : decode cX3_pair 55 = .ok (.iconst 4, 1) := by decide +kernel
theorem dX3_pair_56 : decode cX3_pair 56 = .ok (.iaload, 1) := by decide +kernel
theorem dX3_pair_57 : decode cX3_pair 57 = .ok (.iconst (-1), 1) := by decide +kernel
theorem dX3_pair_58 : decode cX3_pair 58 = .ok (.ixor, 1) := by decide +kernel
theorem dX3_pair_59 : decode cX3_pair 59 = .ok (.iand, 1) := by decide +kernel
theorem dX3_pair_60 : decode cX3_pair 60 = .ok (.iastore, 1) := by decide +kernel
theorem dX3_pair_61 : decode cX3_pair 61 = .ok (.iinc 4 1, 3) := by decide +kernel
theorem dX3_pair_64 : decode cX3_pair 64 = .ok (.goto (-45), 3) := by decide +kernel
theorem dX3_pair_67 : decode cX3_pair 67 = .ok (.iconst 1, 1) := by decide +kernel
theorem dX3_pair_68 : decode cX3_pair 68 = .ok (.iload_n 3, 1) := by decide +kernel
theorem dX3_pair_69 : decode cX3_pair 69 = .ok (.ishl, 1) := by decide +kernel
theorem dX3_pair_70 : decode cX3_pair 70 = .ok (.iconst 1, 1) := by decide +kernel
theorem dX3_pair_71 : decode cX3_pair 71 = .ok (.isub, 1) := by decide +kernel
theorem dX3_pair_72 : decode cX3_pair 72 = .ok (.istore 4, 2) := by decide +kernel
theorem dX3_pair_74 : decode cX3_pair 74 = .ok (.aload_n 0, 1) := by decide +kernel
theorem dX3_pair_75 : decode cX3_pair 75 = .ok (.iconst 0, 1) := by decide +kernel
theorem dX3_pair_76 : decode cX3_pair 76 = .ok (.iload_n 2, 1) := by decide +kernel
theorem dX3_pair_77 : decode cX3_pair 77 = .ok (.iload 4, 2) := by decide +kernel
theorem dX3_pair_79 : decode cX3_pair 79 = .ok (.invokevirtual 47, 3) := by decide +kernel
theorem dX3_pair_82 : decode cX3_pair 82 = .ok (.istore 5, 2) := by decide +kernel
theorem dX3_pair_84 : decode cX3_pair 84 = .ok (.iconst 0, 1) := by decide +kernel
theorem dX3_pair_85 : decode cX3_pair 85 = .ok (.istore 6, 2) := by decide +kernel
theorem dX3_pair_87 : decode cX3_pair 87 = .ok (.iload 6, 2) := by decide +kernel
theorem dX3_pair_89 : decode cX3_pair 89 = .ok (.iload_n 2, 1) := by decide +kernel
theorem dX3_pair_90 : decode cX3_pair 90 = .ok (.if_icmp .ge 109, 3) := by decide +kernel
theorem dX3_pair_93 : decode cX3_pair 93 = .ok (.aload_n 0, 1) := by decide +kernel
theorem dX3_pair_94 : decode cX3_pair 94 = .ok (.getfield 15, 3) := by decide +kernel
theorem dX3_pair_97 : decode cX3_pair 97 = .ok (.iload 6, 2) := by decide +kernel
theorem dX3_pair_99 : decode cX3_pair 99 = .ok (.iconst (-1), 1) := by decide +kernel
theorem dX3_pair_100 : decode cX3_pair 100 = .ok (.iastore, 1) := by decide +kernel
theorem dX3_pair_101 : decode cX3_pair 101 = .ok (.iconst 0, 1) := by decide +kernel
theorem dX3_pair_102 : decode cX3_pair 102 = .ok (.istore 7, 2) := by decide +kernel
theorem dX3_pair_104 : decode cX3_pair 104 = .ok (.iload 7, 2) := by decide +kernel
theorem dX3_pair_106 : decode cX3_pair 106 = .ok (.iload_n 3, 1) := by decide +kernel
theorem dX3_pair_107 : decode cX3_pair 107 = .ok (.if_icmp .ge 86, 3) := by decide +kernel
theorem dX3_pair_110 : decode cX3_pair 110 = .ok (.aload_n 0, 1) := by decide +kernel
theorem dX3_pair_111 : decode cX3_pair 111 = .ok (.getfield 15, 3) := by decide +kernel
theorem dX3_pair_114 : decode cX3_pair 114 = .ok (.iload 6, 2) := by decide +kernel
theorem dX3_pair_116 : decode cX3_pair 116 = .ok (.iaload, 1) := by decide +kernel
theorem dX3_pair_117 : decode cX3_pair 117 = .ok (.iconst (-1), 1) := by decide +kernel
theorem dX3_pair_118 : decode cX3_pair 118 = .ok (.if_icmp .ne 75, 3) := by decide +kernel
theorem dX3_pair_121 : decode cX3_pair 121 = .ok (.aload_n 0, 1) := by decide +kernel
theorem dX3_pair_122 : decode cX3_pair 122 = .ok (.getfield 9, 3) := by decide +kernel
theorem dX3_pair_125 : decode cX3_pair 125 = .ok (.iload 6, 2) := by decide +kernel
theorem dX3_pair_127 : decode cX3_pair 127 = .ok (.iaload, 1) := by decide +kernel
theorem dX3_pair_128 : decode cX3_pair 128 = .ok (.iload 4, 2) := by decide +kernel
theorem dX3_pair_130 : decode cX3_pair 130 = .ok (.iand, 1) := by decide +kernel
theorem dX3_pair_131 : decode cX3_pair 131 = .ok (.iconst 1, 1) := by decide +kernel
theorem dX3_pair_132 : decode cX3_pair 132 = .ok (.iload 7, 2) := by decide +kernel
theorem dX3_pair_134 : decode cX3_pair 134 = .ok (.ishl, 1) := by decide +kernel
theorem dX3_pair_135 : decode cX3_pair 135 = .ok (.iand, 1) := by decide +kernel
theorem dX3_pair_136 : decode cX3_pair 136 = .ok (.ifCond .eq 51, 3) := by decide +kernel
theorem dX3_pair_139 : decode cX3_pair 139 = .ok (.iconst 1, 1) := by decide +kernel
theorem dX3_pair_140 : decode cX3_pair 140 = .ok (.aload_n 0, 1) := by decide +kernel
theorem dX3_pair_141 : decode cX3_pair 141 = .ok (.iload 6, 2) := by decide +kernel
theorem dX3_pair_143 : decode cX3_pair 143 = .ok (.iconst 1, 1) := by decide +kernel
theorem dX3_pair_144 : decode cX3_pair 144 = .ok (.iadd, 1) := by decide +kernel
theorem dX3_pair_145 : decode cX3_pair 145 = .ok (.iload_n 2, 1) := by decide +kernel
theorem dX3_pair_146 : decode cX3_pair 146 = .ok (.iload 4, 2) := by decide +kernel
theorem dX3_pair_148 : decode cX3_pair 148 = .ok (.iconst 1, 1) := by decide +kernel
theorem dX3_pair_149 : decode cX3_pair 149 = .ok (.iload 7, 2) := by decide +kernel
theorem dX3_pair_151 : decode cX3_pair 151 = .ok (.ishl, 1) := by decide +kernel
theorem dX3_pair_152 : decode cX3_pair 152 = .ok (.iconst (-1), 1) := by decide +kernel
theorem dX3_pair_153 : decode cX3_pair 153 = .ok (.ixor, 1) := by decide +kernel
theorem dX3_pair_154 : decode cX3_pair 154 = .ok (.iand, 1) := by decide +kernel
theorem dX3_pair_155 : decode cX3_pair 155 = .ok (.invokevirtual 47, 3) := by decide +kernel
theorem dX3_pair_158 : decode cX3_pair 158 = .ok (.iadd, 1) := by decide +kernel
theorem dX3_pair_159 : decode cX3_pair 159 = .ok (.iload 5, 2) := by decide +kernel
theorem dX3_pair_161 : decode cX3_pair 161 = .ok (.if_icmp .ne 26, 3) := by decide +kernel
theorem dX3_pair_164 : decode cX3_pair 164 = .ok (.aload_n 0, 1) := by decide +kernel
theorem dX3_pair_165 : decode cX3_pair 165 = .ok (.getfield 15, 3) := by decide +kernel
theorem dX3_pair_168 : decode cX3_pair 168 = .ok (.iload 6, 2) := by decide +kernel
theorem dX3_pair_170 : decode cX3_pair 170 = .ok (.iload 7, 2) := by decide +kernel
theorem dX3_pair_172 : decode cX3_pair 172 = .ok (.iastore, 1) := by decide +kernel
theorem dX3_pair_173 : decode cX3_pair 173 = .ok (.iload 4, 2) := by decide +kernel
theorem dX3_pair_175 : decode cX3_pair 175 = .ok (.iconst 1, 1) := by decide +kernel
theorem dX3_pair_176 : decode cX3_pair 176 = .ok (.iload 7, 2) := by decide +kernel
theorem dX3_pair_178 : decode cX3_pair 178 = .ok (.ishl, 1) := by decide +kernel
theorem dX3_pair_179 : decode cX3_pair 179 = .ok (.iconst (-1), 1) := by decide +kernel
theorem dX3_pair_180 : decode cX3_pair 180 = .ok (.ixor, 1) := by decide +kernel
theorem dX3_pair_181 : decode cX3_pair 181 = .ok (.iand, 1) := by decide +kernel
theorem dX3_pair_182 : decode cX3_pair 182 = .ok (.istore 4, 2) := by decide +kernel
theorem dX3_pair_184 : decode cX3_pair 184 = .ok (.iinc 5 (-1), 3) := by decide +kernel
theorem dX3_pair_187 : decode cX3_pair 187 = .ok (.iinc 7 1, 3) := by decide +kernel
theorem dX3_pair_190 : decode cX3_pair 190 = .ok (.goto (-86), 3) := by decide +kernel
