theorem dX10_strongest_14 : decode cX10_strongest 14 = .ok (.iconst 0, 1) := by decide +kernel
theorem dX10_strongest_15 : decode cX10_strongest 15 = .ok (.istore 4, 2) := by decide +kernel
theorem dX10_strongest_17 : decode cX10_strongest 17 = .ok (.iload 4, 2) := by decide +kernel
theorem dX10_strongest_19 : decode cX10_strongest 19 = .ok (.aload_n 0, 1) := by decide +kernel
theorem dX10_strongest_20 : decode cX10_strongest 20 = .ok (.getfield 27, 3) := by decide +kernel
theorem dX10_strongest_23 : decode cX10_strongest 23 = .ok (.getfield 54, 3) := by decide +kernel
theorem dX10_strongest_26 : decode cX10_strongest 26 = .ok (.getfield 136, 3) := by decide +kernel
theorem dX10_strongest_29 : decode cX10_strongest 29 = .ok (.if_icmp .ge 44, 3) := by decide +kernel
theorem dX10_strongest_32 : decode cX10_strongest 32 = .ok (.aload_n 0, 1) := by decide +kernel
theorem dX10_strongest_33 : decode cX10_strongest 33 = .ok (.getfield 27, 3) := by decide +kernel
theorem dX10_strongest_36 : decode cX10_strongest 36 = .ok (.iload 4, 2) := by decide +kernel
theorem dX10_strongest_38 : decode cX10_strongest 38 = .ok (.invokevirtual 227, 3) := by decide +kernel
theorem dX10_strongest_41 : decode cX10_strongest 41 = .ok (.ifCond .eq 26, 3) := by decide +kernel
theorem dX10_strongest_44 : decode cX10_strongest 44 = .ok (.aload_n 0, 1) := by decide +kernel
theorem dX10_strongest_45 : decode cX10_strongest 45 = .ok (.getfield 27, 3) := by decide +kernel
theorem dX10_strongest_48 : decode cX10_strongest 48 = .ok (.iload 4, 2) := by decide +kernel
theorem dX10_strongest_50 : decode cX10_strongest 50 = .ok (.invokevirtual 230, 3) := by decide +kernel
theorem dX10_strongest_53 : decode cX10_strongest 53 = .ok (.istore 5, 2) := by decide +kernel
theorem dX10_strongest_55 : decode cX10_strongest 55 = .ok (.iload 5, 2) := by decide +kernel
theorem dX10_strongest_57 : decode cX10_strongest 57 = .ok (.iload_n 3, 1) := by decide +kernel
theorem dX10_strongest_58 : decode cX10_strongest 58 = .ok (.if_icmp .le 9, 3) := by decide +kernel
theorem dX10_strongest_61 : decode cX10_strongest 61 = .ok (.iload 4, 2) := by decide +kernel
theorem dX10_strongest_63 : decode cX10_strongest 63 = .ok (.istore_n 2, 1) := by decide +kernel
theorem dX10_strongest_64 : decode cX10_strongest 64 = .ok (.iload 5, 2) := by decide +kernel
theorem dX10_strongest_66 : decode cX10_strongest 66 = .ok (.istore_n 3, 1) := by decide +kernel
theorem dX10_strongest_67 : decode cX10_strongest 67 = .ok (.iinc 4 1, 3) := by decide +kernel
theorem dX10_strongest_70 : decode cX10_strongest 70 = .ok (.goto (-53), 3) := by decide +kernel
theorem dX10_strongest_73 : decode cX10_strongest 73 = .ok (.iload_n 1, 1) := by decide +kernel
theorem dX10_strongest_74 : decode cX10_strongest 74 = .ok (.ifCond .ne 7, 3) := by decide +kernel
theorem dX10_strongest_77 : decode cX10_strongest 77 = .ok (.iload_n 2, 1) := by decide +kernel
theorem dX10_strongest_78 : decode cX10_strongest 78 = .ok (.goto 4, 3) := by decide +kernel
theorem dX10_strongest_81 : decode cX10_strongest 81 = .ok (.iload_n 3, 1) := by decide +kernel
theorem dX10_strongest_82 : decode cX10_strongest 82 = .ok (.ireturn, 1) := by decide +kernel
theorem dX10_bare_0 : decode cX10_bare 0 = .ok (.bipush 63, 2) := by decide +kernel
theorem dX10_bare_2 : decode cX10_bare 2 = .ok (.istore_n 1, 1) := by decide +kernel
theorem dX10_bare_3 : decode cX10_bare 3 = .ok (.iconst 0, 1) := by decide +kernel
theorem dX10_bare_4 : decode cX10_bare 4 = .ok (.istore_n 2, 1) := by decide +kernel
theorem dX10_bare_5 : decode cX10_bare 5 = .ok (.iload_n 2, 1) := by decide +kernel
theorem dX10_bare_6 : decode cX10_bare 6 = .ok (.aload_n 0, 1) := by decide +kernel
theorem dX10_bare_7 : decode cX10_bare 7 = .ok (.getfield 27, 3) := by decide +kernel
theorem dX10_bare_10 : decode cX10_bare 10 = .ok (.getfield 54, 3) := by decide +kernel
theorem dX10_bare_13 : decode cX10_bare 13 = .ok (.getfield 136, 3) := by decide +kernel
theorem dX10_bare_16 : decode cX10_bare 16 = .ok (.if_icmp .ge 39, 3) := by decide +kernel
theorem dX10_bare_19 : decode cX10_bare 19 = .ok (.aload_n 0, 1) := by decide +kernel
theorem dX10_bare_20 : decode cX10_bare 20 = .ok (.getfield 27, 3) := by decide +kernel
theorem dX10_bare_23 : decode cX10_bare 23 = .ok (.iload_n 2, 1) := by decide +kernel
theorem dX10_bare_24 : decode cX10_bare 24 = .ok (.invokevirtual 227, 3) := by decide +kernel
theorem dX10_bare_27 : decode cX10_bare 27 = .ok (.ifCond .eq 22, 3) := by decide +kernel
theorem dX10_bare_30 : decode cX10_bare 30 = .ok (.iload_n 1, 1) := by decide +kernel
theorem dX10_bare_31 : decode cX10_bare 31 = .ok (.iconst 1, 1) := by decide +kernel
theorem dX10_bare_32 : decode cX10_bare 32 = .ok (.aload_n 0, 1) := by decide +kernel
theorem dX10_bare_33 : decode cX10_bare 33 = .ok (.getfield 27, 3) := by decide +kernel
theorem dX10_bare_36 : decode cX10_bare 36 = .ok (.getfield 54, 3) := by decide +kernel
theorem dX10_bare_39 : decode cX10_bare 39 = .ok (.getfield 221, 3) := by decide +kernel
theorem dX10_bare_42 : decode cX10_bare 42 = .ok (.iload_n 2, 1) := by decide +kernel
theorem dX10_bare_43 : decode cX10_bare 43 = .ok (.iaload, 1) := by decide +kernel
theorem dX10_bare_44 : decode cX10_bare 44 = .ok (.ishl, 1) := by decide +kernel
theorem dX10_bare_45 : decode cX10_bare 45 = .ok (.iconst (-1), 1) := by decide +kernel
theorem dX10_bare_46 : decode cX10_bare 46 = .ok (.ixor, 1) := by decide +kernel
theorem dX10_bare_47 : decode cX10_bare 47 = .ok (.iand, 1) := by decide +kernel
theorem dX10_bare_48 : decode cX10_bare 48 = .ok (.istore_n 1, 1) := by decide +kernel
theorem dX10_bare_49 : decode cX10_bare 49 = .ok (.iinc 2 1, 3) := by decide +kernel
theorem dX10_bare_52 : decode cX10_bare 52 = .ok (.goto (-47), 3) := by decide +kernel
theorem dX10_bare_55 : decode cX10_bare 55 = .ok (.iload_n 1, 1) := by decide +kernel
theorem dX10_bare_56 : decode cX10_bare 56 = .ok (.ireturn, 1) := by decide +kernel
theorem dX10_hopeless_0 : decode cX10_hopeless 0 = .ok (.aload_n 0, 1) := by decide +kernel
theorem dX10_hopeless_1 : decode cX10_hopeless 1 = .ok (.iload_n 1, 1) := by decide +kernel
theorem dX10_hopeless_2 : decode cX10_hopeless 2 = .ok (.iconst 0, 1) := by decide +kernel
theorem dX10_hopeless_3 : decode cX10_hopeless 3 = .ok (.bipush 99, 2) := by decide +kernel
theorem dX10_hopeless_5 : decode cX10_hopeless 5 = .ok (.invokestatic 177, 3) := by decide +kernel
theorem dX10_hopeless_8 : decode cX10_hopeless 8 = .ok (.invokevirtual 181, 3) := by decide +kernel
theorem dX10_hopeless_11 : decode cX10_hopeless 11 = .ok (.iconst 0, 1) := by decide +kernel
theorem dX10_hopeless_12 : decode cX10_hopeless 12 = .ok (.istore_n 2, 1) := by decide +kernel
theorem dX10_hopeless_13 : decode cX10_hopeless 13 = .ok (.iconst 0, 1) := by decide +kernel
theorem dX10_hopeless_14 : decode cX10_hopeless 14 = .ok (.istore_n 3, 1) := by decide +kernel
theorem dX10_hopeless_15 : decode cX10_hopeless 15 = .ok (.iload_n 3, 1) := by decide +kernel
theorem dX10_hopeless_16 : decode cX10_hopeless 16 = .ok (.aload_n 0, 1) := by decide +kernel
theorem dX10_hopeless_17 : decode cX10_hopeless 17 = .ok (.getfield 27, 3) := by decide +kernel
theorem dX10_hopeless_20 : decode cX10_hopeless 20 = .ok (.getfield 54, 3) := by decide +kernel
theorem dX10_hopeless_23 : decode cX10_hopeless 23 = .ok (.getfield 188, 3) := by decide +kernel
theorem dX10_hopeless_26 : decode cX10_hopeless 26 = .ok (.if_icmp .ge 38, 3) := by decide +kernel
theorem dX10_hopeless_29 : decode cX10_hopeless 29 = .ok (.aload_n 0, 1) := by decide +kernel
theorem dX10_hopeless_30 : decode cX10_hopeless 30 = .ok (.getfield 27, 3) := by decide +kernel
theorem dX10_hopeless_33 : decode cX10_hopeless 33 = .ok (.iload_n 3, 1) := by decide +kernel
theorem dX10_hopeless_34 : decode cX10_hopeless 34 = .ok (.invokevirtual 256, 3) := by decide +kernel
theorem dX10_hopeless_37 : decode cX10_hopeless 37 = .ok (.ifCond .ne 21, 3) := by decide +kernel
theorem dX10_hopeless_40 : decode cX10_hopeless 40 = .ok (.aload_n 0, 1) := by decide +kernel
theorem dX10_hopeless_41 : decode cX10_hopeless 41 = .ok (.getfield 27, 3) := by decide +kernel
theorem dX10_hopeless_44 : decode cX10_hopeless 44 = .ok (.iload_n 3, 1) := by decide +kernel
theorem dX10_hopeless_45 : decode cX10_hopeless 45 = .ok (.iload_n 1, 1) := by decide +kernel
theorem dX10_hopeless_46 : decode cX10_hopeless 46 = .ok (.invokevirtual 245, 3) := by decide +kernel
theorem dX10_hopeless_49 : decode cX10_hopeless 49 = .ok (.ifCond .ne 9, 3) := by decide +kernel
theorem dX10_hopeless_52 : decode cX10_hopeless 52 = .ok (.iload_n 2, 1) := by decide +kernel
theorem dX10_hopeless_53 : decode cX10_hopeless 53 = .ok (.iconst 1, 1) := by decide +kernel
theorem dX10_hopeless_54 : decode cX10_hopeless 54 = .ok (.iload_n 3, 1) := by decide +kernel
theorem dX10_hopeless_55 : decode cX10_hopeless 55 = .ok (.ishl, 1) := by decide +kernel
theorem dX10_hopeless_56 : decode cX10_hopeless 56 = .ok (.ior, 1) := by decide +kernel
theorem dX10_hopeless_57 : decode cX10_hopeless 57 = .ok (.istore_n 2, 1) := by decide +kernel
theorem dX10_hopeless_58 : decode cX10_hopeless 58 = .ok (.iinc 3 1, 3) := by decide +kernel
theorem dX10_hopeless_61 : decode cX10_hopeless 61 = .ok (.goto (-46), 3) := by decide +kernel
theorem dX10_hopeless_64 : decode cX10_hopeless 64 = .ok (.iload_n 2, 1) := by decide +kernel
theorem dX10_hopeless_65 : decode cX10_hopeless 65 = .ok (.ireturn, 1) := by decide +kernel
theorem dX10_eldest_0 : decode cX10_eldest 0 = .ok (.aload_n 0, 1) := by decide +kernel
theorem dX10_eldest_1 : decode cX10_eldest 1 = .ok (.iload_n 1, 1) := by decide +kernel
theorem dX10_eldest_2 : decode cX10_eldest 2 = .ok (.iconst 0, 1) := by decide +kernel
theorem dX10_eldest_3 : decode cX10_eldest 3 = .ok (.iconst 1, 1) := by decide +kernel
theorem dX10_eldest_4 : decode cX10_eldest 4 = .ok (.invokestatic 177, 3) := by decide +kernel
theorem dX10_eldest_7 : decode cX10_eldest 7 = .ok (.invokevirtual 181, 3) := by decide +kernel
theorem dX10_eldest_10 : decode cX10_eldest 10 = .ok (.iconst (-1), 1) := by decide +kernel
theorem dX10_eldest_11 : decode cX10_eldest 11 = .ok (.istore_n 2, 1) := by decide +kernel
theorem dX10_eldest_12 : decode cX10_eldest 12 = .ok (.iconst (-1), 1) := by decide +kernel
theorem dX10_eldest_13 : decode cX10_eldest 13 = .ok (.istore_n 3, 1) := by decide +kernel
theorem dX10_eldest_14 : decode cX10_eldest 14 = .ok (.iconst 0, 1) := by decide +kernel
theorem dX10_eldest_15 : decode cX10_eldest 15 = .ok (.istore 4, 2) := by decide +kernel
theorem dX10_eldest_17 : decode cX10_eldest 17 = .ok (.iload 4, 2) := by decide +kernel
theorem dX10_eldest_19 : decode cX10_eldest 19 = .ok (.aload_n 0, 1) := by decide +kernel
theorem dX10_eldest_20 : decode cX10_eldest 20 = .ok (.getfield 27, 3) := by decide +kernel
theorem dX10_eldest_23 : decode cX10_eldest 23 = .ok (.getfield 54, 3) := by decide +kernel
theorem dX10_eldest_26 : decode cX10_eldest 26 = .ok (.getfield 136, 3) := by decide +kernel
theorem dX10_eldest_29 : decode cX10_eldest 29 = .ok (.if_icmp .ge 53, 3) := by decide +kernel
theorem dX10_eldest_32 : decode cX10_eldest 32 = .ok (.aload_n 0, 1) := by decide +kernel
theorem dX10_eldest_33 : decode cX10_eldest 33 = .ok (.getfield 27, 3) := by decide +kernel
theorem dX10_eldest_36 : decode cX10_eldest 36 = .ok (.iload 4, 2) := by decide +kernel
theorem dX10_eldest_38 : decode cX10_eldest 38 = .ok (.invokevirtual 227, 3) := by decide +kernel
theorem dX10_eldest_41 : decode cX10_eldest 41 = .ok (.ifCond .eq 35, 3) := by decide +kernel
theorem dX10_eldest_44 : decode cX10_eldest 44 = .ok (.aload_n 0, 1) := by decide +kernel
theorem dX10_eldest_45 : decode cX10_eldest 45 = .ok (.getfield 27, 3) := by decide +kernel
theorem dX10_eldest_48 : decode cX10_eldest 48 = .ok (.getfield 146, 3) := by decide +kernel
theorem dX10_eldest_51 : decode cX10_eldest 51 = .ok (.iconst 5, 1) := by decide +kernel
theorem dX10_eldest_52 : decode cX10_eldest 52 = .ok (.iload 4, 2) := by decide +kernel
theorem dX10_eldest_54 : decode cX10_eldest 54 = .ok (.iadd, 1) := by decide +kernel
theorem dX10_eldest_55 : decode cX10_eldest 55 = .ok (.iaload, 1) := by decide +kernel
theorem dX10_eldest_56 : decode cX10_eldest 56 = .ok (.iload_n 3, 1) := by decide +kernel
theorem dX10_eldest_57 : decode cX10_eldest 57 = .ok (.if_icmp .le 19, 3) := by decide +kernel
theorem dX10_eldest_60 : decode cX10_eldest 60 = .ok (.iload 4, 2) := by decide +kernel
theorem dX10_eldest_62 : decode cX10_eldest 62 = .ok (.istore_n 2, 1) := by decide +kernel
theorem dX10_eldest_63 : decode cX10_eldest 63 = .ok (.aload_n 0, 1) := by decide +kernel
theorem dX10_eldest_64 : decode cX10_eldest 64 = .ok (.getfield 27, 3) := by decide +kernel
theorem dX10_eldest_67 : decode cX10_eldest 67 = .ok (.getfield 146, 3) := by decide +kernel
theorem dX10_eldest_70 : decode cX10_eldest 70 = .ok (.iconst 5, 1) := by decide +kernel
theorem dX10_eldest_71 : decode cX10_eldest 71 = .ok (.iload 4, 2) := by decide +kernel
theorem dX10_eldest_73 : decode cX10_eldest 73 = .ok (.iadd, 1) := by decide +kernel
theorem dX10_eldest_74 : decode cX10_eldest 74 = .ok (.iaload, 1) := by decide +kernel
theorem dX10_eldest_75 : decode cX10_eldest 75 = .ok (.istore_n 3, 1) := by decide +kernel
theorem dX10_eldest_76 : decode cX10_eldest 76 = .ok (.iinc 4 1, 3) := by decide +kernel
theorem dX10_eldest_79 : decode cX10_eldest 79 = .ok (.goto (-62), 3) := by decide +kernel
theorem dX10_eldest_82 : decode cX10_eldest 82 = .ok (.iload_n 1, 1) := by decide +kernel
theorem dX10_eldest_83 : decode cX10_eldest 83 = .ok (.ifCond .ne 7, 3) := by decide +kernel
theorem dX10_eldest_86 : decode cX10_eldest 86 = .ok (.iload_n 2, 1) := by decide +kernel
theorem dX10_eldest_87 : decode cX10_eldest 87 = .ok (.goto 4, 3) := by decide +kernel
theorem dX10_eldest_90 : decode cX10_eldest 90 = .ok (.iload_n 3, 1) := by decide +kernel
theorem dX10_eldest_91 : decode cX10_eldest 91 = .ok (.ireturn, 1) := by decide +kernel
theorem dX10_idle_0 : decode cX10_idle 0 = .ok (.aload_n 0, 1) := by decide +kernel
theorem dX10_idle_1 : decode cX10_idle 1 = .ok (.getfield 27, 3) := by decide +kernel
theorem dX10_idle_4 : decode cX10_idle 4 = .ok (.getfield 146, 3) := by decide +kernel
theorem dX10_idle_7 : decode cX10_idle 7 = .ok (.iconst 1, 1) := by decide +kernel
theorem dX10_idle_8 : decode cX10_idle 8 = .ok (.iaload, 1) := by decide +kernel
theorem dX10_idle_9 : decode cX10_idle 9 = .ok (.aload_n 0, 1) := by decide +kernel
theorem dX10_idle_10 : decode cX10_idle 10 = .ok (.getfield 27, 3) := by decide +kernel
theorem dX10_idle_13 : decode cX10_idle 13 = .ok (.invokevirtual 328, 3) := by decide +kernel
theorem dX10_idle_16 : decode cX10_idle 16 = .ok (.iconst (-1), 1) := by decide +kernel
theorem dX10_idle_17 : decode cX10_idle 17 = .ok (.ixor, 1) := by decide +kernel
theorem dX10_idle_18 : decode cX10_idle 18 = .ok (.iand, 1) := by decide +kernel
theorem dX10_idle_19 : decode cX10_idle 19 = .ok (.ireturn, 1) := by decide +kernel
theorem dX10_needs_0 : decode cX10_needs 0 = .ok (.aload_n 0, 1) := by decide +kernel
theorem dX10_needs_1 : decode cX10_needs 1 = .ok (.iload_n 1, 1) := by decide +kernel
theorem dX10_needs_2 : decode cX10_needs 2 = .ok (.iconst 0, 1) := by decide +kernel
theorem dX10_needs_3 : decode cX10_needs 3 = .ok (.iconst 5, 1) := by decide +kernel
theorem dX10_needs_4 : decode cX10_needs 4 = .ok (.invokestatic 177, 3) := by decide +kernel
theorem dX10_needs_7 : decode cX10_needs 7 = .ok (.invokevirtual 181, 3) := by decide +kernel
theorem dX10_needs_10 : decode cX10_needs 10 = .ok (.iconst 0, 1) := by decide +kernel
theorem dX10_needs_11 : decode cX10_needs 11 = .ok (.istore_n 2, 1) := by decide +kernel
theorem dX10_needs_12 : decode cX10_needs 12 = .ok (.iconst 0, 1) := by decide +kernel
theorem dX10_needs_13 : decode cX10_needs 13 = .ok (.istore_n 3, 1) := by decide +kernel
theorem dX10_needs_14 : decode cX10_needs 14 = .ok (.iload_n 3, 1) := by decide +kernel
theorem dX10_needs_15 : decode cX10_needs 15 = .ok (.aload_n 0, 1) := by decide +kernel
theorem dX10_needs_16 : decode cX10_needs 16 = .ok (.getfield 27, 3) := by decide +kernel
theorem dX10_needs_19 : decode cX10_needs 19 = .ok (.getfield 54, 3) := by decide +kernel
theorem dX10_needs_22 : decode cX10_needs 22 = .ok (.getfield 188, 3) := by decide +kernel
theorem dX10_needs_25 : decode cX10_needs 25 = .ok (.if_icmp .ge 51, 3) := by decide +kernel
theorem dX10_needs_28 : decode cX10_needs 28 = .ok (.aload_n 0, 1) := by decide +kernel
theorem dX10_needs_29 : decode cX10_needs 29 = .ok (.getfield 27, 3) := by decide +kernel
theorem dX10_needs_32 : decode cX10_needs 32 = .ok (.getfield 54, 3) := by decide +kernel
theorem dX10_needs_35 : decode cX10_needs 35 = .ok (.getfield 239, 3) := by decide +kernel
theorem dX10_needs_38 : decode cX10_needs 38 = .ok (.iload_n 3, 1) := by decide +kernel
theorem dX10_needs_39 : decode cX10_needs 39 = .ok (.iaload, 1) := by decide +kernel
theorem dX10_needs_40 : decode cX10_needs 40 = .ok (.iload_n 1, 1) := by decide +kernel
theorem dX10_needs_41 : decode cX10_needs 41 = .ok (.if_icmp .ne 29, 3) := by decide +kernel
theorem dX10_needs_44 : decode cX10_needs 44 = .ok (.aload_n 0, 1) := by decide +kernel
theorem dX10_needs_45 : decode cX10_needs 45 = .ok (.getfield 27, 3) := by decide +kernel
theorem dX10_needs_48 : decode cX10_needs 48 = .ok (.iload_n 3, 1) := by decide +kernel
theorem dX10_needs_49 : decode cX10_needs 49 = .ok (.invokevirtual 256, 3) := by decide +kernel
theorem dX10_needs_52 : decode cX10_needs 52 = .ok (.ifCond .ne 18, 3) := by decide +kernel
theorem dX10_needs_55 : decode cX10_needs 55 = .ok (.iload_n 2, 1) := by decide +kernel
theorem dX10_needs_56 : decode cX10_needs 56 = .ok (.aload_n 0, 1) := by decide +kernel
theorem dX10_needs_57 : decode cX10_needs 57 = .ok (.getfield 27, 3) := by decide +kernel
theorem dX10_needs_60 : decode cX10_needs 60 = .ok (.getfield 54, 3) := by decide +kernel
theorem dX10_needs_63 : decode cX10_needs 63 = .ok (.getfield 242, 3) := by decide +kernel
theorem dX10_needs_66 : decode cX10_needs 66 = .ok (.iload_n 3, 1) := by decide +kernel
theorem dX10_needs_67 : decode cX10_needs 67 = .ok (.iaload, 1) := by decide +kernel
theorem dX10_needs_68 : decode cX10_needs 68 = .ok (.iadd, 1) := by decide +kernel
theorem dX10_needs_69 : decode cX10_needs 69 = .ok (.istore_n 2, 1) := by decide +kernel
theorem dX10_needs_70 : decode cX10_needs 70 = .ok (.iinc 3 1, 3) := by decide +kernel
theorem dX10_needs_73 : decode cX10_needs 73 = .ok (.goto (-59), 3) := by decide +kernel
theorem dX10_needs_76 : decode cX10_needs 76 = .ok (.iload_n 2, 1) := by decide +kernel
theorem dX10_needs_77 : decode cX10_needs 77 = .ok (.ireturn, 1) := by decide +kernel
theorem dX10_strength_0 : decode cX10_strength 0 = .ok (.aload_n 0, 1) := by decide +kernel
theorem dX10_strength_1 : decode cX10_strength 1 = .ok (.aload_n 0, 1) := by decide +kernel
theorem dX10_strength_2 : decode cX10_strength 2 = .ok (.getfield 27, 3) := by decide +kernel
theorem dX10_strength_5 : decode cX10_strength 5 = .ok (.getfield 54, 3) := by decide +kernel
theorem dX10_strength_8 : decode cX10_strength 8 = .ok (.iload_n 1, 1) := by decide +kernel
theorem dX10_strength_9 : decode cX10_strength 9 = .ok (.invokevirtual 195, 3) := by decide +kernel
theorem dX10_strength_12 : decode cX10_strength 12 = .ok (.invokevirtual 199, 3) := by decide +kernel
theorem dX10_strength_15 : decode cX10_strength 15 = .ok (.iconst 0, 1) := by decide +kernel
theorem dX10_strength_16 : decode cX10_strength 16 = .ok (.istore_n 2, 1) := by decide +kernel
theorem dX10_strength_17 : decode cX10_strength 17 = .ok (.iconst 0, 1) := by decide +kernel
theorem dX10_strength_18 : decode cX10_strength 18 = .ok (.istore_n 3, 1) := by decide +kernel
theorem dX10_strength_19 : decode cX10_strength 19 = .ok (.iload_n 3, 1) := by decide +kernel
theorem dX10_strength_20 : decode cX10_strength 20 = .ok (.aload_n 0, 1) := by decide +kernel
theorem dX10_strength_21 : decode cX10_strength 21 = .ok (.getfield 27, 3) := by decide +kernel
theorem dX10_strength_24 : decode cX10_strength 24 = .ok (.getfield 54, 3) := by decide +kernel
theorem dX10_strength_27 : decode cX10_strength 27 = .ok (.getfield 136, 3) := by decide +kernel
theorem dX10_strength_30 : decode cX10_strength 30 = .ok (.if_icmp .ge 36, 3) := by decide +kernel
theorem dX10_strength_33 : decode cX10_strength 33 = .ok (.aload_n 0, 1) := by decide +kernel
theorem dX10_strength_34 : decode cX10_strength 34 = .ok (.getfield 27, 3) := by decide +kernel
theorem dX10_strength_37 : decode cX10_strength 37 = .ok (.getfield 54, 3) := by decide +kernel
theorem dX10_strength_40 : decode cX10_strength 40 = .ok (.getfield 218, 3) := by decide +kernel
theorem dX10_strength_43 : decode cX10_strength 43 = .ok (.iload_n 3, 1) := by decide +kernel
theorem dX10_strength_44 : decode cX10_strength 44 = .ok (.iaload, 1) := by decide +kernel
theorem dX10_strength_45 : decode cX10_strength 45 = .ok (.iload_n 1, 1) := by decide +kernel
theorem dX10_strength_46 : decode cX10_strength 46 = .ok (.if_icmp .ne 14, 3) := by decide +kernel
theorem dX10_strength_49 : decode cX10_strength 49 = .ok (.iload_n 2, 1) := by decide +kernel
theorem dX10_strength_50 : decode cX10_strength 50 = .ok (.aload_n 0, 1) := by decide +kernel
theorem dX10_strength_51 : decode cX10_strength 51 = .ok (.getfield 27, 3) := by decide +kernel
theorem dX10_strength_54 : decode cX10_strength 54 = .ok (.iload_n 3, 1) := by decide +kernel
theorem dX10_strength_55 : decode cX10_strength 55 = .ok (.invokevirtual 230, 3) := by decide +kernel
theorem dX10_strength_58 : decode cX10_strength 58 = .ok (.iadd, 1) := by decide +kernel
theorem dX10_strength_59 : decode cX10_strength 59 = .ok (.istore_n 2, 1) := by decide +kernel
theorem dX10_strength_60 : decode cX10_strength 60 = .ok (.iinc 3 1, 3) := by decide +kernel
theorem dX10_strength_63 : decode cX10_strength 63 = .ok (.goto (-44), 3) := by decide +kernel
theorem dX10_strength_66 : decode cX10_strength 66 = .ok (.iload_n 2, 1) := by decide +kernel
theorem dX10_strength_67 : decode cX10_strength 67 = .ok (.ireturn, 1) := by decide +kernel
theorem dX10_weakest_0 : decode cX10_weakest 0 = .ok (.aload_n 0, 1) := by decide +kernel
theorem dX10_weakest_1 : decode cX10_weakest 1 = .ok (.iload_n 1, 1) := by decide +kernel
theorem dX10_weakest_2 : decode cX10_weakest 2 = .ok (.iconst 0, 1) := by decide +kernel
theorem dX10_weakest_3 : decode cX10_weakest 3 = .ok (.iconst 1, 1) := by decide +kernel
theorem dX10_weakest_4 : decode cX10_weakest 4 = .ok (.invokestatic 177, 3) := by decide +kernel
theorem dX10_weakest_7 : decode cX10_weakest 7 = .ok (.invokevirtual 181, 3) := by decide +kernel
theorem dX10_weakest_10 : decode cX10_weakest 10 = .ok (.iconst (-1), 1) := by decide +kernel
theorem dX10_weakest_11 : decode cX10_weakest 11 = .ok (.istore_n 2, 1) := by decide +kernel
theorem dX10_weakest_12 : decode cX10_weakest 12 = .ok (.iconst 0, 1) := by decide +kernel
theorem dX10_weakest_13 : decode cX10_weakest 13 = .ok (.istore_n 3, 1) := by decide +kernel
theorem dX10_weakest_14 : decode cX10_weakest 14 = .ok (.iconst 0, 1) := by decide +kernel
theorem dX10_weakest_15 : decode cX10_weakest 15 = .ok (.istore 4, 2) := by decide +kernel
theorem dX10_weakest_17 : decode cX10_weakest 17 = .ok (.iload 4, 2) := by decide +kernel
theorem dX10_weakest_19 : decode cX10_weakest 19 = .ok (.aload_n 0, 1) := by decide +kernel
theorem dX10_weakest_20 : decode cX10_weakest 20 = .ok (.getfield 27, 3) := by decide +kernel
theorem dX10_weakest_23 : decode cX10_weakest 23 = .ok (.getfield 54, 3) := by decide +kernel
theorem dX10_weakest_26 : decode cX10_weakest 26 = .ok (.getfield 185, 3) := by decide +kernel
theorem dX10_weakest_29 : decode cX10_weakest 29 = .ok (.if_icmp .ge 43, 3) := by decide +kernel
theorem dX10_weakest_32 : decode cX10_weakest 32 = .ok (.aload_n 0, 1) := by decide +kernel
theorem dX10_weakest_33 : decode cX10_weakest 33 = .ok (.getfield 27, 3) := by decide +kernel
theorem dX10_weakest_36 : decode cX10_weakest 36 = .ok (.getfield 146, 3) := by decide +kernel
theorem dX10_weakest_39 : decode cX10_weakest 39 = .ok (.bipush 15, 2) := by decide +kernel
theorem dX10_weakest_41 : decode cX10_weakest 41 = .ok (.iload 4, 2) := by decide +kernel
theorem dX10_weakest_43 : decode cX10_weakest 43 = .ok (.iadd, 1) := by decide +kernel
theorem dX10_weakest_44 : decode cX10_weakest 44 = .ok (.iaload, 1) := by decide +kernel
theorem dX10_weakest_45 : decode cX10_weakest 45 = .ok (.iload_n 3, 1) := by decide +kernel
theorem dX10_weakest_46 : decode cX10_weakest 46 = .ok (.if_icmp .le 20, 3) := by decide +kernel
theorem dX10_weakest_49 : decode cX10_weakest 49 = .ok (.iload 4, 2) := by decide +kernel
theorem dX10_weakest_51 : decode cX10_weakest 51 = .ok (.istore_n 2, 1) := by decide +kernel
theorem dX10_weakest_52 : decode cX10_weakest 52 = .ok (.aload_n 0, 1) := by decide +kernel
theorem dX10_weakest_53 : decode cX10_weakest 53 = .ok (.getfield 27, 3) := by decide +kernel
theorem dX10_weakest_56 : decode cX10_weakest 56 = .ok (.getfield 146, 3) := by decide +kernel
theorem dX10_weakest_59 : decode cX10_weakest 59 = .ok (.bipush 15, 2) := by decide +kernel
theorem dX10_weakest_61 : decode cX10_weakest 61 = .ok (.iload 4, 2) := by decide +kernel
theorem dX10_weakest_63 : decode cX10_weakest 63 = .ok (.iadd, 1) := by decide +kernel
theorem dX10_weakest_64 : decode cX10_weakest 64 = .ok (.iaload, 1) := by decide +kernel
theorem dX10_weakest_65 : decode cX10_weakest 65 = .ok (.istore_n 3, 1) := by decide +kernel
theorem dX10_weakest_66 : decode cX10_weakest 66 = .ok (.iinc 4 1, 3) := by decide +kernel
theorem dX10_weakest_69 : decode cX10_weakest 69 = .ok (.goto (-52), 3) := by decide +kernel
theorem dX10_weakest_72 : decode cX10_weakest 72 = .ok (.iload_n 1, 1) := by decide +kernel
theorem dX10_weakest_73 : decode cX10_weakest 73 = .ok (.ifCond .eq 8, 3) := by decide +kernel
theorem dX10_weakest_76 : decode cX10_weakest 76 = .ok (.iload_n 2, 1) := by decide +kernel
theorem dX10_weakest_77 : decode cX10_weakest 77 = .ok (.iconst (-1), 1) := by decide +kernel
theorem dX10_weakest_78 : decode cX10_weakest 78 = .ok (.if_icmp .ne 7, 3) := by decide +kernel
theorem dX10_weakest_81 : decode cX10_weakest 81 = .ok (.iload_n 2, 1) := by decide +kernel
theorem dX10_weakest_82 : decode cX10_weakest 82 = .ok (.goto 4, 3) := by decide +kernel
theorem dX10_weakest_85 : decode cX10_weakest 85 = .ok (.iload_n 3, 1) := by decide +kernel
theorem dX10_weakest_86 : decode cX10_weakest 86 = .ok (.ireturn, 1) := by decide +kernel
theorem dX10_year_0 : decode cX10_year 0 = .ok (.aload_n 0, 1) := by decide +kernel
theorem dX10_year_1 : decode cX10_year 1 = .ok (.iload_n 2, 1) := by decide +kernel
theorem dX10_year_2 : decode cX10_year 2 = .ok (.iconst 1, 1) := by decide +kernel
theorem dX10_year_3 : decode cX10_year 3 = .ok (.bipush 96, 2) := by decide +kernel
theorem dX10_year_5 : decode cX10_year 5 = .ok (.invokestatic 177, 3) := by decide +kernel
theorem dX10_year_8 : decode cX10_year 8 = .ok (.ifCond .eq 16, 3) := by decide +kernel
theorem dX10_year_11 : decode cX10_year 11 = .ok (.iload_n 3, 1) := by decide +kernel
theorem dX10_year_12 : decode cX10_year 12 = .ok (.iconst 0, 1) := by decide +kernel
theorem dX10_year_13 : decode cX10_year 13 = .ok (.iconst 3, 1) := by decide +kernel
theorem dX10_year_14 : decode cX10_year 14 = .ok (.invokestatic 177, 3) := by decide +kernel
theorem dX10_year_17 : decode cX10_year 17 = .ok (.ifCond .eq 7, 3) := by decide +kernel
theorem dX10_year_20 : decode cX10_year 20 = .ok (.iconst 1, 1) := by decide +kernel
theorem dX10_year_21 : decode cX10_year 21 = .ok (.goto 4, 3) := by decide +kernel
theorem dX10_year_24 : decode cX10_year 24 = .ok (.iconst 0, 1) := by decide +kernel
theorem dX10_year_25 : decode cX10_year 25 = .ok (.invokevirtual 181, 3) := by decide +kernel
theorem dX10_year_28 : decode cX10_year 28 = .ok (.aload_n 0, 1) := by decide +kernel
theorem dX10_year_29 : decode cX10_year 29 = .ok (.getfield 63, 3) := by decide +kernel
theorem dX10_year_32 : decode cX10_year 32 = .ok (.aload_n 0, 1) := by decide +kernel
theorem dX10_year_33 : decode cX10_year 33 = .ok (.getfield 27, 3) := by decide +kernel
theorem dX10_year_36 : decode cX10_year 36 = .ok (.iload_n 1, 1) := by decide +kernel
theorem dX10_year_37 : decode cX10_year 37 = .ok (.iload_n 2, 1) := by decide +kernel
theorem dX10_year_38 : decode cX10_year 38 = .ok (.invokevirtual 331, 3) := by decide +kernel
theorem dX10_year_41 : decode cX10_year 41 = .ok (.iload_n 3, 1) := by decide +kernel
theorem dX10_year_42 : decode cX10_year 42 = .ok (.tableswitch 53 0 2 #[26, 34, 42], 26) := by decide +kernel
theorem dX10_year_68 : decode cX10_year 68 = .ok (.aload_n 0, 1) := by decide +kernel
theorem dX10_year_69 : decode cX10_year 69 = .ok (.getfield 63, 3) := by decide +kernel
theorem dX10_year_72 : decode cX10_year 72 = .ok (.getfield 335, 3) := by decide +kernel
theorem dX10_year_75 : decode cX10_year 75 = .ok (.ireturn, 1) := by decide +kernel
theorem dX10_year_76 : decode cX10_year 76 = .ok (.aload_n 0, 1) := by decide +kernel
theorem dX10_year_77 : decode cX10_year 77 = .ok (.getfield 63, 3) := by decide +kernel
theorem dX10_year_80 : decode cX10_year 80 = .ok (.getfield 338, 3) := by decide +kernel
theorem dX10_year_83 : decode cX10_year 83 = .ok (.ireturn, 1) := by decide +kernel
theorem dX10_year_84 : decode cX10_year 84 = .ok (.aload_n 0, 1) := by decide +kernel
theorem dX10_year_85 : decode cX10_year 85 = .ok (.getfield 63, 3) := by decide +kernel
theorem dX10_year_88 : decode cX10_year 88 = .ok (.getfield 341, 3) := by decide +kernel
theorem dX10_year_91 : decode cX10_year 91 = .ok (.invokevirtual 191, 3) := by decide +kernel
theorem dX10_year_94 : decode cX10_year 94 = .ok (.ireturn, 1) := by decide +kernel
theorem dX10_year_95 : decode cX10_year 95 = .ok (.aload_n 0, 1) := by decide +kernel
theorem dX10_year_96 : decode cX10_year 96 = .ok (.getfield 63, 3) := by decide +kernel
theorem dX10_year_99 : decode cX10_year 99 = .ok (.getfield 341, 3) := by decide +kernel
theorem dX10_year_102 : decode cX10_year 102 = .ok (.getfield 146, 3) := by decide +kernel
theorem dX10_year_105 : decode cX10_year 105 = .ok (.iconst 3, 1) := by decide +kernel
theorem dX10_year_106 : decode cX10_year 106 = .ok (.iaload, 1) := by decide +kernel
theorem dX10_year_107 : decode cX10_year 107 = .ok (.ireturn, 1) := by decide +kernel
theorem dX10_span_0 : decode cX10_span 0 = .ok (.aload_n 0, 1) := by decide +kernel
theorem dX10_span_1 : decode cX10_span 1 = .ok (.iload_n 2, 1) := by decide +kernel
theorem dX10_span_2 : decode cX10_span 2 = .ok (.iconst 1, 1) := by decide +kernel
theorem dX10_span_3 : decode cX10_span 3 = .ok (.bipush 20, 2) := by decide +kernel
theorem dX10_span_5 : decode cX10_span 5 = .ok (.invokestatic 177, 3) := by decide +kernel
theorem dX10_span_8 : decode cX10_span 8 = .ok (.ifCond .eq 42, 3) := by decide +kernel
theorem dX10_span_11 : decode cX10_span 11 = .ok (.iload_n 3, 1) := by decide +kernel
theorem dX10_span_12 : decode cX10_span 12 = .ok (.iconst 1, 1) := by decide +kernel
theorem dX10_span_13 : decode cX10_span 13 = .ok (.bipush 96, 2) := by decide +kernel
theorem dX10_span_15 : decode cX10_span 15 = .ok (.invokestatic 177, 3) := by decide +kernel
theorem dX10_span_18 : decode cX10_span 18 = .ok (.ifCond .eq 32, 3) := by decide +kernel
theorem dX10_span_21 : decode cX10_span 21 = .ok (.iload 4, 2) := by decide +kernel
theorem dX10_span_23 : decode cX10_span 23 = .ok (.iconst 0, 1) := by decide +kernel
theorem dX10_span_24 : decode cX10_span 24 = .ok (.iconst 2, 1) := by decide +kernel
theorem dX10_span_25 : decode cX10_span 25 = .ok (.invokestatic 177, 3) := by decide +kernel
theorem dX10_span_28 : decode cX10_span 28 = .ok (.ifCond .eq 22, 3) := by decide +kernel
theorem dX10_span_31 : decode cX10_span 31 = .ok (.aload_n 0, 1) := by decide +kernel
theorem dX10_span_32 : decode cX10_span 32 = .ok (.getfield 27, 3) := by decide +kernel
theorem dX10_span_35 : decode cX10_span 35 = .ok (.getfield 54, 3) := by decide +kernel
theorem dX10_span_38 : decode cX10_span 38 = .ok (.iload 5, 2) := by decide +kernel
theorem dX10_span_40 : decode cX10_span 40 = .ok (.invokevirtual 236, 3) := by decide +kernel
theorem dX10_span_43 : decode cX10_span 43 = .ok (.ifCond .eq 7, 3) := by decide +kernel
theorem dX10_span_46 : decode cX10_span 46 = .ok (.iconst 1, 1) := by decide +kernel
theorem dX10_span_47 : decode cX10_span 47 = .ok (.goto 4, 3) := by decide +kernel
theorem dX10_span_50 : decode cX10_span 50 = .ok (.iconst 0, 1) := by decide +kernel
theorem dX10_span_51 : decode cX10_span 51 = .ok (.invokevirtual 181, 3) := by decide +kernel
theorem dX10_span_54 : decode cX10_span 54 = .ok (.bipush 8, 2) := by decide +kernel
theorem dX10_span_56 : decode cX10_span 56 = .ok (.istore 6, 2) := by decide +kernel
theorem dX10_span_58 : decode cX10_span 58 = .ok (.iconst 0, 1) := by decide +kernel
theorem dX10_span_59 : decode cX10_span 59 = .ok (.istore 7, 2) := by decide +kernel
theorem dX10_span_61 : decode cX10_span 61 = .ok (.iconst 0, 1) := by decide +kernel
theorem dX10_span_62 : decode cX10_span 62 = .ok (.istore 8, 2) := by decide +kernel
theorem dX10_span_64 : decode cX10_span 64 = .ok (.iconst 0, 1) := by decide +kernel
theorem dX10_span_65 : decode cX10_span 65 = .ok (.istore 9, 2) := by decide +kernel
theorem dX10_span_67 : decode cX10_span 67 = .ok (.iload 9, 2) := by decide +kernel
theorem dX10_span_69 : decode cX10_span 69 = .ok (.iload_n 2, 1) := by decide +kernel
theorem dX10_span_70 : decode cX10_span 70 = .ok (.if_icmp .ge 71, 3) := by decide +kernel
theorem dX10_span_73 : decode cX10_span 73 = .ok (.aload_n 0, 1) := by decide +kernel
theorem dX10_span_74 : decode cX10_span 74 = .ok (.getfield 63, 3) := by decide +kernel
theorem dX10_span_77 : decode cX10_span 77 = .ok (.aload_n 0, 1) := by decide +kernel
theorem dX10_span_78 : decode cX10_span 78 = .ok (.getfield 27, 3) := by decide +kernel
theorem dX10_span_81 : decode cX10_span 81 = .ok (.iload_n 1, 1) := by decide +kernel
theorem dX10_span_82 : decode cX10_span 82 = .ok (.iload 9, 2) := by decide +kernel
theorem dX10_span_84 : decode cX10_span 84 = .ok (.iadd, 1) := by decide +kernel
theorem dX10_span_85 : decode cX10_span 85 = .ok (.iload_n 3, 1) := by decide +kernel
theorem dX10_span_86 : decode cX10_span 86 = .ok (.invokevirtual 331, 3) := by decide +kernel
theorem dX10_span_89 : decode cX10_span 89 = .ok (.iload 6, 2) := by decide +kernel
theorem dX10_span_91 : decode cX10_span 91 = .ok (.aload_n 0, 1) := by decide +kernel
theorem dX10_span_92 : decode cX10_span 92 = .ok (.getfield 63, 3) := by decide +kernel
theorem dX10_span_95 : decode cX10_span 95 = .ok (.getfield 335, 3) := by decide +kernel
theorem dX10_span_98 : decode cX10_span 98 = .ok (.invokestatic 323, 3) := by decide +kernel
theorem dX10_span_101 : decode cX10_span 101 = .ok (.istore 6, 2) := by decide +kernel
theorem dX10_span_103 : decode cX10_span 103 = .ok (.iload 7, 2) := by decide +kernel
theorem dX10_span_105 : decode cX10_span 105 = .ok (.aload_n 0, 1) := by decide +kernel
theorem dX10_span_106 : decode cX10_span 106 = .ok (.getfield 63, 3) := by decide +kernel
theorem dX10_span_109 : decode cX10_span 109 = .ok (.getfield 335, 3) := by decide +kernel
theorem dX10_span_112 : decode cX10_span 112 = .ok (.invokestatic 344, 3) := by decide +kernel
theorem dX10_span_115 : decode cX10_span 115 = .ok (.istore 7, 2) := by decide +kernel
theorem dX10_span_117 : decode cX10_span 117 = .ok (.aload_n 0, 1) := by decide +kernel
theorem dX10_span_118 : decode cX10_span 118 = .ok (.getfield 63, 3) := by decide +kernel
theorem dX10_span_121 : decode cX10_span 121 = .ok (.getfield 341, 3) := by decide +kernel
theorem dX10_span_124 : decode cX10_span 124 = .ok (.iload 5, 2) := by decide +kernel
theorem dX10_span_126 : decode cX10_span 126 = .ok (.invokevirtual 256, 3) := by decide +kernel
theorem dX10_span_129 : decode cX10_span 129 = .ok (.ifCond .eq 6, 3) := by decide +kernel
theorem dX10_span_132 : decode cX10_span 132 = .ok (.iinc 8 1, 3) := by decide +kernel
theorem dX10_span_135 : decode cX10_span 135 = .ok (.iinc 9 1, 3) := by decide +kernel
theorem dX10_span_138 : decode cX10_span 138 = .ok (.goto (-71), 3) := by decide +kernel
theorem dX10_span_141 : decode cX10_span 141 = .ok (.iload 4, 2) := by decide +kernel
theorem dX10_span_143 : decode cX10_span 143 = .ok (.lookupswitch 31 #[(0, 25), (1, 28)], 25) := by decide +kernel
theorem dX10_span_168 : decode cX10_span 168 = .ok (.iload 6, 2) := by decide +kernel
theorem dX10_span_170 : decode cX10_span 170 = .ok (.ireturn, 1) := by decide +kernel
theorem dX10_span_171 : decode cX10_span 171 = .ok (.iload 7, 2) := by decide +kernel
theorem dX10_span_173 : decode cX10_span 173 = .ok (.ireturn, 1) := by decide +kernel
theorem dX10_span_174 : decode cX10_span 174 = .ok (.iload 8, 2) := by decide +kernel
theorem dX10_span_176 : decode cX10_span 176 = .ok (.ireturn, 1) := by decide +kernel
theorem dX10_image_0 : decode cX10_image 0 = .ok (.aload_n 0, 1) := by decide +kernel
theorem dX10_image_1 : decode cX10_image 1 = .ok (.getfield 76, 3) := by decide +kernel
theorem dX10_image_4 : decode cX10_image 4 = .ok (.invokevirtual 140, 3) := by decide +kernel
theorem dX10_image_7 : decode cX10_image 7 = .ok (.ifCond .eq 5, 3) := by decide +kernel
theorem dX10_image_10 : decode cX10_image 10 = .ok (.iconst (-1), 1) := by decide +kernel
theorem dX10_image_11 : decode cX10_image 11 = .ok (.ireturn, 1) := by decide +kernel
theorem dX10_image_12 : decode cX10_image 12 = .ok (.aload_n 0, 1) := by decide +kernel
theorem dX10_image_13 : decode cX10_image 13 = .ok (.getfield 79, 3) := by decide +kernel
theorem dX10_image_16 : decode cX10_image 16 = .ok (.aload_n 0, 1) := by decide +kernel
theorem dX10_image_17 : decode cX10_image 17 = .ok (.getfield 76, 3) := by decide +kernel
theorem dX10_image_20 : decode cX10_image 20 = .ok (.getfield 130, 3) := by decide +kernel
theorem dX10_image_23 : decode cX10_image 23 = .ok (.aaload, 1) := by decide +kernel
theorem dX10_image_24 : decode cX10_image 24 = .ok (.aload_n 0, 1) := by decide +kernel
theorem dX10_image_25 : decode cX10_image 25 = .ok (.getfield 72, 3) := by decide +kernel
theorem dX10_image_28 : decode cX10_image 28 = .ok (.invokevirtual 347, 3) := by decide +kernel
theorem dX10_image_31 : decode cX10_image 31 = .ok (.aload_n 0, 1) := by decide +kernel
theorem dX10_image_32 : decode cX10_image 32 = .ok (.getfield 76, 3) := by decide +kernel
theorem dX10_image_35 : decode cX10_image 35 = .ok (.aload_n 0, 1) := by decide +kernel
theorem dX10_image_36 : decode cX10_image 36 = .ok (.getfield 27, 3) := by decide +kernel
theorem dX10_image_39 : decode cX10_image 39 = .ok (.getfield 146, 3) := by decide +kernel
theorem dX10_image_42 : decode cX10_image 42 = .ok (.invokevirtual 150, 3) := by decide +kernel
theorem dX10_image_45 : decode cX10_image 45 = .ok (.aload_n 0, 1) := by decide +kernel
theorem dX10_image_46 : decode cX10_image 46 = .ok (.getfield 76, 3) := by decide +kernel
theorem dX10_image_49 : decode cX10_image 49 = .ok (.getfield 130, 3) := by decide +kernel
theorem dX10_image_52 : decode cX10_image 52 = .ok (.ireturn, 1) := by decide +kernel
theorem dX10_restore_0 : decode cX10_restore 0 = .ok (.aload_n 0, 1) := by decide +kernel
theorem dX10_restore_1 : decode cX10_restore 1 = .ok (.getfield 76, 3) := by decide +kernel
theorem dX10_restore_4 : decode cX10_restore 4 = .ok (.getfield 130, 3) := by decide +kernel
theorem dX10_restore_7 : decode cX10_restore 7 = .ok (.ifCond .ne 5, 3) := by decide +kernel
theorem dX10_restore_10 : decode cX10_restore 10 = .ok (.iconst (-1), 1) := by decide +kernel
theorem dX10_restore_11 : decode cX10_restore 11 = .ok (.ireturn, 1) := by decide +kernel
theorem dX10_restore_12 : decode cX10_restore 12 = .ok (.aload_n 0, 1) := by decide +kernel
theorem dX10_restore_13 : decode cX10_restore 13 = .ok (.getfield 76, 3) := by decide +kernel
theorem dX10_restore_16 : decode cX10_restore 16 = .ok (.aload_n 0, 1) := by decide +kernel
theorem dX10_restore_17 : decode cX10_restore 17 = .ok (.getfield 27, 3) := by decide +kernel
theorem dX10_restore_20 : decode cX10_restore 20 = .ok (.getfield 146, 3) := by decide +kernel
theorem dX10_restore_23 : decode cX10_restore 23 = .ok (.invokevirtual 174, 3) := by decide +kernel
theorem dX10_restore_26 : decode cX10_restore 26 = .ok (.aload_n 0, 1) := by decide +kernel
theorem dX10_restore_27 : decode cX10_restore 27 = .ok (.getfield 72, 3) := by decide +kernel
theorem dX10_restore_30 : decode cX10_restore 30 = .ok (.aload_n 0, 1) := by decide +kernel
theorem dX10_restore_31 : decode cX10_restore 31 = .ok (.getfield 79, 3) := by decide +kernel
theorem dX10_restore_34 : decode cX10_restore 34 = .ok (.aload_n 0, 1) := by decide +kernel
theorem dX10_restore_35 : decode cX10_restore 35 = .ok (.getfield 76, 3) := by decide +kernel
theorem dX10_restore_38 : decode cX10_restore 38 = .ok (.getfield 130, 3) := by decide +kernel
theorem dX10_restore_41 : decode cX10_restore 41 = .ok (.aaload, 1) := by decide +kernel
theorem dX10_restore_42 : decode cX10_restore 42 = .ok (.invokevirtual 347, 3) := by decide +kernel
theorem dX10_restore_45 : decode cX10_restore 45 = .ok (.aload_n 0, 1) := by decide +kernel
theorem dX10_restore_46 : decode cX10_restore 46 = .ok (.iconst 0, 1) := by decide +kernel
theorem dX10_restore_47 : decode cX10_restore 47 = .ok (.putfield 133, 3) := by decide +kernel
theorem dX10_restore_50 : decode cX10_restore 50 = .ok (.aload_n 0, 1) := by decide +kernel
theorem dX10_restore_51 : decode cX10_restore 51 = .ok (.getfield 76, 3) := by decide +kernel
theorem dX10_restore_54 : decode cX10_restore 54 = .ok (.getfield 130, 3) := by decide +kernel
theorem dX10_restore_57 : decode cX10_restore 57 = .ok (.ireturn, 1) := by decide +kernel
theorem dX10_status_0 : decode cX10_status 0 = .ok (.iload_n 1, 1) := by decide +kernel
theorem dX10_status_1 : decode cX10_status 1 = .ok (.lookupswitch 37 #[(0, 27), (1, 32)], 27) := by decide +kernel
theorem dX10_status_28 : decode cX10_status 28 = .ok (.aload_n 0, 1) := by decide +kernel
theorem dX10_status_29 : decode cX10_status 29 = .ok (.getfield 351, 3) := by decide +kernel
theorem dX10_status_32 : decode cX10_status 32 = .ok (.ireturn, 1) := by decide +kernel
theorem dX10_status_33 : decode cX10_status 33 = .ok (.aload_n 0, 1) := by decide +kernel
theorem dX10_status_34 : decode cX10_status 34 = .ok (.getfield 354, 3) := by decide +kernel
theorem dX10_status_37 : decode cX10_status 37 = .ok (.ireturn, 1) := by decide +kernel
theorem dX10_status_38 : decode cX10_status 38 = .ok (.iconst (-1), 1) := by decide +kernel
theorem dX10_status_39 : decode cX10_status 39 = .ok (.ireturn, 1) := by decide +kernel
theorem dX10_count_0 : decode cX10_count 0 = .ok (.iload_n 1, 1) := by decide +kernel
theorem dX10_count_1 : decode cX10_count 1 = .ok (.tableswitch 51 0 2 #[27, 35, 43], 27) := by decide +kernel
theorem dX10_count_28 : decode cX10_count 28 = .ok (.aload_n 0, 1) := by decide +kernel
theorem dX10_count_29 : decode cX10_count 29 = .ok (.getfield 76, 3) := by decide +kernel
theorem dX10_count_32 : decode cX10_count 32 = .ok (.getfield 130, 3) := by decide +kernel
theorem dX10_count_35 : decode cX10_count 35 = .ok (.ireturn, 1) := by decide +kernel
theorem dX10_count_36 : decode cX10_count 36 = .ok (.aload_n 0, 1) := by decide +kernel
theorem dX10_count_37 : decode cX10_count 37 = .ok (.getfield 10, 3) := by decide +kernel
theorem dX10_count_40 : decode cX10_count 40 = .ok (.getfield 107, 3) := by decide +kernel
theorem dX10_count_43 : decode cX10_count 43 = .ok (.ireturn, 1) := by decide +kernel
theorem dX10_count_44 : decode cX10_count 44 = .ok (.aload_n 0, 1) := by decide +kernel
theorem dX10_count_45 : decode cX10_count 45 = .ok (.getfield 72, 3) := by decide +kernel
theorem dX10_count_48 : decode cX10_count 48 = .ok (.getfield 130, 3) := by decide +kernel
theorem dX10_count_51 : decode cX10_count 51 = .ok (.ireturn, 1) := by decide +kernel
theorem dX10_count_52 : decode cX10_count 52 = .ok (.iconst (-1), 1) := by decide +kernel
theorem dX10_count_53 : decode cX10_count 53 = .ok (.ireturn, 1) := by decide +kernel
theorem dX10_needElement_0 : decode cX10_needElement 0 = .ok (.iload_n 1, 1) := by decide +kernel
theorem dX10_needElement_1 : decode cX10_needElement 1 = .ok (.ifCond .ne 24, 3) := by decide +kernel
theorem dX10_needElement_4 : decode cX10_needElement 4 = .ok (.aload_n 0, 1) := by decide +kernel
theorem dX10_needElement_5 : decode cX10_needElement 5 = .ok (.dup, 1) := by decide +kernel
theorem dX10_needElement_6 : decode cX10_needElement 6 = .ok (.getfield 351, 3) := by decide +kernel
theorem dX10_needElement_9 : decode cX10_needElement 9 = .ok (.iconst 1, 1) := by decide +kernel
theorem dX10_needElement_10 : decode cX10_needElement 10 = .ok (.iadd, 1) := by decide +kernel
theorem dX10_needElement_11 : decode cX10_needElement 11 = .ok (.putfield 351, 3) := by decide +kernel
theorem dX10_needElement_14 : decode cX10_needElement 14 = .ok (.new 357, 3) := by decide +kernel
theorem dX10_needElement_17 : decode cX10_needElement 17 = .ok (.dup, 1) := by decide +kernel
theorem dX10_needElement_18 : decode cX10_needElement 18 = .ok (.ldc_w 359, 3) := by decide +kernel
theorem dX10_needElement_21 : decode cX10_needElement 21 = .ok (.invokespecial 361, 3) := by decide +kernel
theorem dX10_needElement_24 : decode cX10_needElement 24 = .ok (.athrow, 1) := by decide +kernel
theorem dX10_needElement_25 : decode cX10_needElement 25 = .ok (.return_, 1) := by decide +kernel
theorem dX10_needArgument_0 : decode cX10_needArgument 0 = .ok (.iload_n 1, 1) := by decide +kernel
theorem dX10_needArgument_1 : decode cX10_needArgument 1 = .ok (.ifCond .ne 24, 3) := by decide +kernel
theorem dX10_needArgument_4 : decode cX10_needArgument 4 = .ok (.aload_n 0, 1) := by decide +kernel
theorem dX10_needArgument_5 : decode cX10_needArgument 5 = .ok (.dup, 1) := by decide +kernel
theorem dX10_needArgument_6 : decode cX10_needArgument 6 = .ok (.getfield 354, 3) := by decide +kernel
theorem dX10_needArgument_9 : decode cX10_needArgument 9 = .ok (.iconst 1, 1) := by decide +kernel
theorem dX10_needArgument_10 : decode cX10_needArgument 10 = .ok (.iadd, 1) := by decide +kernel
theorem dX10_needArgument_11 : decode cX10_needArgument 11 = .ok (.putfield 354, 3) := by decide +kernel
theorem dX10_needArgument_14 : decode cX10_needArgument 14 = .ok (.new 364, 3) := by decide +kernel
theorem dX10_needArgument_17 : decode cX10_needArgument 17 = .ok (.dup, 1) := by decide +kernel
theorem dX10_needArgument_18 : decode cX10_needArgument 18 = .ok (.ldc_w 366, 3) := by decide +kernel
theorem dX10_needArgument_21 : decode cX10_needArgument 21 = .ok (.invokespecial 368, 3) := by decide +kernel
theorem dX10_needArgument_24 : decode cX10_needArgument 24 = .ok (.athrow, 1) := by decide +kernel
theorem dX10_needArgument_25 : decode cX10_needArgument 25 = .ok (.return_, 1) := by decide +kernel
theorem dX10_isWithin_0 : decode cX10_isWithin 0 = .ok (.iload_n 0, 1) := by decide +kernel
theorem dX10_isWithin_1 : decode cX10_isWithin 1 = .ok (.iload_n 1, 1) := by decide +kernel
theorem dX10_isWithin_2 : decode cX10_isWithin 2 = .ok (.if_icmp .lt 12, 3) := by decide +kernel
theorem dX10_isWithin_5 : decode cX10_isWithin 5 = .ok (.iload_n 0, 1) := by decide +kernel
theorem dX10_isWithin_6 : decode cX10_isWithin 6 = .ok (.iload_n 2, 1) := by decide +kernel
theorem dX10_isWithin_7 : decode cX10_isWithin 7 = .ok (.if_icmp .gt 7, 3) := by decide +kernel
theorem dX10_isWithin_10 : decode cX10_isWithin 10 = .ok (.iconst 1, 1) := by decide +kernel
theorem dX10_isWithin_11 : decode cX10_isWithin 11 = .ok (.goto 4, 3) := by decide +kernel
theorem dX10_isWithin_14 : decode cX10_isWithin 14 = .ok (.iconst 0, 1) := by decide +kernel
theorem dX10_isWithin_15 : decode cX10_isWithin 15 = .ok (.ireturn, 1) := by decide +kernel
theorem dX10_openText_0 : decode cX10_openText 0 = .ok (.aload_n 0, 1) := by decide +kernel
theorem dX10_openText_1 : decode cX10_openText 1 = .ok (.iload_n 1, 1) := by decide +kernel
theorem dX10_openText_2 : decode cX10_openText 2 = .ok (.iconst 0, 1) := by decide +kernel
theorem dX10_openText_3 : decode cX10_openText 3 = .ok (.iload_n 2, 1) := by decide +kernel
theorem dX10_openText_4 : decode cX10_openText 4 = .ok (.aload_n 0, 1) := by decide +kernel
theorem dX10_openText_5 : decode cX10_openText 5 = .ok (.getfield 10, 3) := by decide +kernel
theorem dX10_openText_8 : decode cX10_openText 8 = .ok (.getfield 107, 3) := by decide +kernel
theorem dX10_openText_11 : decode cX10_openText 11 = .ok (.invokestatic 323, 3) := by decide +kernel
theorem dX10_openText_14 : decode cX10_openText 14 = .ok (.invokestatic 177, 3) := by decide +kernel
theorem dX10_openText_17 : decode cX10_openText 17 = .ok (.invokevirtual 181, 3) := by decide +kernel
theorem dX10_openText_20 : decode cX10_openText 20 = .ok (.aload_n 0, 1) := by decide +kernel
theorem dX10_openText_21 : decode cX10_openText 21 = .ok (.getfield 10, 3) := by decide +kernel
theorem dX10_openText_24 : decode cX10_openText 24 = .ok (.iload_n 1, 1) := by decide +kernel
theorem dX10_openText_25 : decode cX10_openText 25 = .ok (.invokevirtual 369, 3) := by decide +kernel
theorem dX10_openText_28 : decode cX10_openText 28 = .ok (.return_, 1) := by decide +kernel
theorem dX10_openPilgrimsOf_0 : decode cX10_openPilgrimsOf 0 = .ok (.iconst 0, 1) := by decide +kernel
theorem dX10_openPilgrimsOf_1 : decode cX10_openPilgrimsOf 1 = .ok (.istore_n 2, 1) := by decide +kernel
theorem dX10_openPilgrimsOf_2 : decode cX10_openPilgrimsOf 2 = .ok (.iconst 0, 1) := by decide +kernel
theorem dX10_openPilgrimsOf_3 : decode cX10_openPilgrimsOf 3 = .ok (.istore_n 3, 1) := by decide +kernel
theorem dX10_openPilgrimsOf_4 : decode cX10_openPilgrimsOf 4 = .ok (.iload_n 3, 1) := by decide +kernel
theorem dX10_openPilgrimsOf_5 : decode cX10_openPilgrimsOf 5 = .ok (.aload_n 0, 1) := by decide +kernel
theorem dX10_openPilgrimsOf_6 : decode cX10_openPilgrimsOf 6 = .ok (.getfield 27, 3) := by decide +kernel
theorem dX10_openPilgrimsOf_9 : decode cX10_openPilgrimsOf 9 = .ok (.getfield 54, 3) := by decide +kernel
theorem dX10_openPilgrimsOf_12 : decode cX10_openPilgrimsOf 12 = .ok (.getfield 188, 3) := by decide +kernel
theorem dX10_openPilgrimsOf_15 : decode cX10_openPilgrimsOf 15 = .ok (.if_icmp .ge 39, 3) := by decide +kernel
theorem dX10_openPilgrimsOf_18 : decode cX10_openPilgrimsOf 18 = .ok (.aload_n 0, 1) := by decide +kernel
theorem dX10_openPilgrimsOf_19 : decode cX10_openPilgrimsOf 19 = .ok (.getfield 27, 3) := by decide +kernel
theorem dX10_openPilgrimsOf_22 : decode cX10_openPilgrimsOf 22 = .ok (.iload_n 3, 1) := by decide +kernel
theorem dX10_openPilgrimsOf_23 : decode cX10_openPilgrimsOf 23 = .ok (.invokevirtual 256, 3) := by decide +kernel
theorem dX10_openPilgrimsOf_26 : decode cX10_openPilgrimsOf 26 = .ok (.ifCond .ne 22, 3) := by decide +kernel
theorem dX10_openPilgrimsOf_29 : decode cX10_openPilgrimsOf 29 = .ok (.aload_n 0, 1) := by decide +kernel
theorem dX10_openPilgrimsOf_30 : decode cX10_openPilgrimsOf 30 = .ok (.getfield 27, 3) := by decide +kernel
theorem dX10_openPilgrimsOf_33 : decode cX10_openPilgrimsOf 33 = .ok (.iload_n 1, 1) := by decide +kernel
theorem dX10_openPilgrimsOf_34 : decode cX10_openPilgrimsOf 34 = .ok (.iload_n 3, 1) := by decide +kernel
theorem dX10_openPilgrimsOf_35 : decode cX10_openPilgrimsOf 35 = .ok (.iconst 0, 1) := by decide +kernel
theorem dX10_openPilgrimsOf_36 : decode cX10_openPilgrimsOf 36 = .ok (.invokevirtual 262, 3) := by decide +kernel
theorem dX10_openPilgrimsOf_39 : decode cX10_openPilgrimsOf 39 = .ok (.ifCond .eq 9, 3) := by decide +kernel
theorem dX10_openPilgrimsOf_42 : decode cX10_openPilgrimsOf 42 = .ok (.iload_n 2, 1) := by decide +kernel
theorem dX10_openPilgrimsOf_43 : decode cX10_openPilgrimsOf 43 = .ok (.iconst 1, 1) := by decide +kernel
theorem dX10_openPilgrimsOf_44 : decode cX10_openPilgrimsOf 44 = .ok (.iload_n 3, 1) := by decide +kernel
theorem dX10_openPilgrimsOf_45 : decode cX10_openPilgrimsOf 45 = .ok (.ishl, 1) := by decide +kernel
theorem dX10_openPilgrimsOf_46 : decode cX10_openPilgrimsOf 46 = .ok (.ior, 1) := by decide +kernel
theorem dX10_openPilgrimsOf_47 : decode cX10_openPilgrimsOf 47 = .ok (.istore_n 2, 1) := by decide +kernel
theorem dX10_openPilgrimsOf_48 : decode cX10_openPilgrimsOf 48 = .ok (.iinc 3 1, 3) := by decide +kernel
theorem dX10_openPilgrimsOf_51 : decode cX10_openPilgrimsOf 51 = .ok (.goto (-47), 3) := by decide +kernel
theorem dX10_openPilgrimsOf_54 : decode cX10_openPilgrimsOf 54 = .ok (.iload_n 2, 1) := by decide +kernel
theorem dX10_openPilgrimsOf_55 : decode cX10_openPilgrimsOf 55 = .ok (.ireturn, 1) := by decide +kernel
theorem dX10_bestMean_0 : decode cX10_bestMean 0 = .ok (.aload_n 0, 1) := by decide +kernel
theorem dX10_bestMean_1 : decode cX10_bestMean 1 = .ok (.getfield 27, 3) := by decide +kernel
theorem dX10_bestMean_4 : decode cX10_bestMean 4 = .ok (.iload_n 1, 1) := by decide +kernel
theorem dX10_bestMean_5 : decode cX10_bestMean 5 = .ok (.iload_n 2, 1) := by decide +kernel
theorem dX10_bestMean_6 : decode cX10_bestMean 6 = .ok (.iload_n 3, 1) := by decide +kernel
theorem dX10_bestMean_7 : decode cX10_bestMean 7 = .ok (.iload 4, 2) := by decide +kernel
theorem dX10_bestMean_9 : decode cX10_bestMean 9 = .ok (.invokevirtual 372, 3) := by decide +kernel
theorem dX10_bestMean_12 : decode cX10_bestMean 12 = .ok (.i2l, 1) := by decide +kernel
theorem dX10_bestMean_13 : decode cX10_bestMean 13 = .ok (.iconst 4, 1) := by decide +kernel
theorem dX10_bestMean_14 : decode cX10_bestMean 14 = .ok (.iload 5, 2) := by decide +kernel
theorem dX10_bestMean_16 : decode cX10_bestMean 16 = .ok (.imul, 1) := by decide +kernel
theorem dX10_bestMean_17 : decode cX10_bestMean 17 = .ok (.lshl, 1) := by decide +kernel
theorem dX10_bestMean_18 : decode cX10_bestMean 18 = .ok (.lstore 6, 2) := by decide +kernel
theorem dX10_bestMean_20 : decode cX10_bestMean 20 = .ok (.iload 5, 2) := by decide +kernel
theorem dX10_bestMean_22 : decode cX10_bestMean 22 = .ok (.ifCond .gt 6, 3) := by decide +kernel
theorem dX10_bestMean_25 : decode cX10_bestMean 25 = .ok (.lload 6, 2) := by decide +kernel
theorem dX10_bestMean_27 : decode cX10_bestMean 27 = .ok (.lreturn, 1) := by decide +kernel
theorem dX10_bestMean_28 : decode cX10_bestMean 28 = .ok (.aload_n 0, 1) := by decide +kernel
theorem dX10_bestMean_29 : decode cX10_bestMean 29 = .ok (.getfield 27, 3) := by decide +kernel
theorem dX10_bestMean_32 : decode cX10_bestMean 32 = .ok (.getfield 54, 3) := by decide +kernel
theorem dX10_bestMean_35 : decode cX10_bestMean 35 = .ok (.getfield 202, 3) := by decide +kernel
theorem dX10_bestMean_38 : decode cX10_bestMean 38 = .ok (.aload_n 0, 1) := by decide +kernel
theorem dX10_bestMean_39 : decode cX10_bestMean 39 = .ok (.getfield 27, 3) := by decide +kernel
theorem dX10_bestMean_42 : decode cX10_bestMean 42 = .ok (.getfield 54, 3) := by decide +kernel
theorem dX10_bestMean_45 : decode cX10_bestMean 45 = .ok (.getfield 218, 3) := by decide +kernel
theorem dX10_bestMean_48 : decode cX10_bestMean 48 = .ok (.iload_n 1, 1) := by decide +kernel
theorem dX10_bestMean_49 : decode cX10_bestMean 49 = .ok (.iaload, 1) := by decide +kernel
theorem dX10_bestMean_50 : decode cX10_bestMean 50 = .ok (.iaload, 1) := by decide +kernel
theorem dX10_bestMean_51 : decode cX10_bestMean 51 = .ok (.istore 8, 2) := by decide +kernel
theorem dX10_bestMean_53 : decode cX10_bestMean 53 = .ok (.iload 8, 2) := by decide +kernel
theorem dX10_bestMean_55 : decode cX10_bestMean 55 = .ok (.i2l, 1) := by decide +kernel
theorem dX10_bestMean_56 : decode cX10_bestMean 56 = .ok (.aload_n 0, 1) := by decide +kernel
theorem dX10_bestMean_57 : decode cX10_bestMean 57 = .ok (.iload_n 1, 1) := by decide +kernel
theorem dX10_bestMean_58 : decode cX10_bestMean 58 = .ok (.iload_n 2, 1) := by decide +kernel
theorem dX10_bestMean_59 : decode cX10_bestMean 59 = .ok (.iconst 2, 1) := by decide +kernel
theorem dX10_bestMean_60 : decode cX10_bestMean 60 = .ok (.idiv, 1) := by decide +kernel
theorem dX10_bestMean_61 : decode cX10_bestMean 61 = .ok (.iconst 1, 1) := by decide +kernel
theorem dX10_bestMean_62 : decode cX10_bestMean 62 = .ok (.iadd, 1) := by decide +kernel
theorem dX10_bestMean_63 : decode cX10_bestMean 63 = .ok (.iload_n 3, 1) := by decide +kernel
theorem dX10_bestMean_64 : decode cX10_bestMean 64 = .ok (.iconst 1, 1) := by decide +kernel
theorem dX10_bestMean_65 : decode cX10_bestMean 65 = .ok (.iadd, 1) := by decide +kernel
theorem dX10_bestMean_66 : decode cX10_bestMean 66 = .ok (.iload 4, 2) := by decide +kernel
theorem dX10_bestMean_68 : decode cX10_bestMean 68 = .ok (.iconst 1, 1) := by decide +kernel
theorem dX10_bestMean_69 : decode cX10_bestMean 69 = .ok (.iadd, 1) := by decide +kernel
theorem dX10_bestMean_70 : decode cX10_bestMean 70 = .ok (.iload 5, 2) := by decide +kernel
theorem dX10_bestMean_72 : decode cX10_bestMean 72 = .ok (.iconst 1, 1) := by decide +kernel
theorem dX10_bestMean_73 : decode cX10_bestMean 73 = .ok (.isub, 1) := by decide +kernel
theorem dX10_bestMean_74 : decode cX10_bestMean 74 = .ok (.invokevirtual 297, 3) := by decide +kernel
theorem dX10_bestMean_77 : decode cX10_bestMean 77 = .ok (.lmul, 1) := by decide +kernel
theorem dX10_bestMean_78 : decode cX10_bestMean 78 = .ok (.bipush 16, 2) := by decide +kernel
theorem dX10_bestMean_80 : decode cX10_bestMean 80 = .ok (.iload 8, 2) := by decide +kernel
theorem dX10_bestMean_82 : decode cX10_bestMean 82 = .ok (.isub, 1) := by decide +kernel
theorem dX10_bestMean_83 : decode cX10_bestMean 83 = .ok (.i2l, 1) := by decide +kernel
theorem dX10_bestMean_84 : decode cX10_bestMean 84 = .ok (.aload_n 0, 1) := by decide +kernel
theorem dX10_bestMean_85 : decode cX10_bestMean 85 = .ok (.iload_n 1, 1) := by decide +kernel
theorem dX10_bestMean_86 : decode cX10_bestMean 86 = .ok (.iload_n 2, 1) := by decide +kernel
theorem dX10_bestMean_87 : decode cX10_bestMean 87 = .ok (.iconst 1, 1) := by decide +kernel
theorem dX10_bestMean_88 : decode cX10_bestMean 88 = .ok (.iadd, 1) := by decide +kernel
theorem dX10_bestMean_89 : decode cX10_bestMean 89 = .ok (.iload_n 3, 1) := by decide +kernel
theorem dX10_bestMean_90 : decode cX10_bestMean 90 = .ok (.iload 4, 2) := by decide +kernel
theorem dX10_bestMean_92 : decode cX10_bestMean 92 = .ok (.iconst 1, 1) := by decide +kernel
theorem dX10_bestMean_93 : decode cX10_bestMean 93 = .ok (.iadd, 1) := by decide +kernel
theorem dX10_bestMean_94 : decode cX10_bestMean 94 = .ok (.iload 5, 2) := by decide +kernel
theorem dX10_bestMean_96 : decode cX10_bestMean 96 = .ok (.iconst 1, 1) := by decide +kernel
theorem dX10_bestMean_97 : decode cX10_bestMean 97 = .ok (.isub, 1) := by decide +kernel
theorem dX10_bestMean_98 : decode cX10_bestMean 98 = .ok (.invokevirtual 297, 3) := by decide +kernel
theorem dX10_bestMean_101 : decode cX10_bestMean 101 = .ok (.lmul, 1) := by decide +kernel
theorem dX10_bestMean_102 : decode cX10_bestMean 102 = .ok (.ladd, 1) := by decide +kernel
theorem dX10_bestMean_103 : decode cX10_bestMean 103 = .ok (.lstore 9, 2) := by decide +kernel
theorem dX10_bestMean_105 : decode cX10_bestMean 105 = .ok (.lload 6, 2) := by decide +kernel
theorem dX10_bestMean_107 : decode cX10_bestMean 107 = .ok (.lload 9, 2) := by decide +kernel
theorem dX10_bestMean_109 : decode cX10_bestMean 109 = .ok (.invokestatic 375, 3) := by decide +kernel
theorem dX10_bestMean_112 : decode cX10_bestMean 112 = .ok (.lreturn, 1) := by decide +kernel
theorem dX10_leastTerms_0 : decode cX10_leastTerms 0 = .ok (.iconst 4, 1) := by decide +kernel
theorem dX10_leastTerms_1 : decode cX10_leastTerms 1 = .ok (.iload_n 2, 1) := by decide +kernel
theorem dX10_leastTerms_2 : decode cX10_leastTerms 2 = .ok (.imul, 1) := by decide +kernel
theorem dX10_leastTerms_3 : decode cX10_leastTerms 3 = .ok (.istore 4, 2) := by decide +kernel
theorem dX10_leastTerms_5 : decode cX10_leastTerms 5 = .ok (.lload_n 0, 1) := by decide +kernel
theorem dX10_leastTerms_6 : decode cX10_leastTerms 6 = .ok (.lstore 5, 2) := by decide +kernel
theorem dX10_leastTerms_8 : decode cX10_leastTerms 8 = .ok (.iload 4, 2) := by decide +kernel
theorem dX10_leastTerms_10 : decode cX10_leastTerms 10 = .ok (.ifCond .le 26, 3) := by decide +kernel
theorem dX10_leastTerms_13 : decode cX10_leastTerms 13 = .ok (.lload 5, 2) := by decide +kernel
theorem dX10_leastTerms_15 : decode cX10_leastTerms 15 = .ok (.lconst 1, 1) := by decide +kernel
theorem dX10_leastTerms_16 : decode cX10_leastTerms 16 = .ok (.land, 1) := by decide +kernel
theorem dX10_leastTerms_17 : decode cX10_leastTerms 17 = .ok (.lconst 0, 1) := by decide +kernel
theorem dX10_leastTerms_18 : decode cX10_leastTerms 18 = .ok (.lcmp, 1) := by decide +kernel
theorem dX10_leastTerms_19 : decode cX10_leastTerms 19 = .ok (.ifCond .ne 17, 3) := by decide +kernel
theorem dX10_leastTerms_22 : decode cX10_leastTerms 22 = .ok (.lload 5, 2) := by decide +kernel
theorem dX10_leastTerms_24 : decode cX10_leastTerms 24 = .ok (.ldc2_w 378, 3) := by decide +kernel
theorem dX10_leastTerms_27 : decode cX10_leastTerms 27 = .ok (.ldiv, 1) := by decide +kernel
theorem dX10_leastTerms_28 : decode cX10_leastTerms 28 = .ok (.lstore 5, 2) := by decide +kernel
theorem dX10_leastTerms_30 : decode cX10_leastTerms 30 = .ok (.iinc 4 (-1), 3) := by decide +kernel
theorem dX10_leastTerms_33 : decode cX10_leastTerms 33 = .ok (.goto (-25), 3) := by decide +kernel
theorem dX10_leastTerms_36 : decode cX10_leastTerms 36 = .ok (.iload_n 3, 1) := by decide +kernel
theorem dX10_leastTerms_37 : decode cX10_leastTerms 37 = .ok (.ifCond .ne 8, 3) := by decide +kernel
theorem dX10_leastTerms_40 : decode cX10_leastTerms 40 = .ok (.lload 5, 2) := by decide +kernel
theorem dX10_leastTerms_42 : decode cX10_leastTerms 42 = .ok (.goto 7, 3) := by decide +kernel
theorem dX10_leastTerms_45 : decode cX10_leastTerms 45 = .ok (.lconst 1, 1) := by decide +kernel
theorem dX10_leastTerms_46 : decode cX10_leastTerms 46 = .ok (.iload 4, 2) := by decide +kernel
theorem dX10_leastTerms_48 : decode cX10_leastTerms 48 = .ok (.lshl, 1) := by decide +kernel
theorem dX10_leastTerms_49 : decode cX10_leastTerms 49 = .ok (.lreturn, 1) := by decide +kernel
theorem dX10_isRest_0 : decode cX10_isRest 0 = .ok (.iload_n 0, 1) := by decide +kernel
theorem dX10_isRest_1 : decode cX10_isRest 1 = .ok (.iload_n 1, 1) := by decide +kernel
theorem dX10_isRest_2 : decode cX10_isRest 2 = .ok (.iload_n 2, 1) := by decide +kernel
theorem dX10_isRest_3 : decode cX10_isRest 3 = .ok (.iload_n 3, 1) := by decide +kernel
theorem dX10_isRest_4 : decode cX10_isRest 4 = .ok (.invokestatic 316, 3) := by decide +kernel
theorem dX10_isRest_7 : decode cX10_isRest 7 = .ok (.iconst 1, 1) := by decide +kernel
theorem dX10_isRest_8 : decode cX10_isRest 8 = .ok (.iload_n 0, 1) := by decide +kernel
theorem dX10_isRest_9 : decode cX10_isRest 9 = .ok (.isub, 1) := by decide +kernel
theorem dX10_isRest_10 : decode cX10_isRest 10 = .ok (.iload_n 1, 1) := by decide +kernel
theorem dX10_isRest_11 : decode cX10_isRest 11 = .ok (.iload_n 2, 1) := by decide +kernel
theorem dX10_isRest_12 : decode cX10_isRest 12 = .ok (.iload_n 3, 1) := by decide +kernel
theorem dX10_isRest_13 : decode cX10_isRest 13 = .ok (.invokestatic 316, 3) := by decide +kernel
theorem dX10_isRest_16 : decode cX10_isRest 16 = .ok (.if_icmp .lt 26, 3) := by decide +kernel
theorem dX10_isRest_19 : decode cX10_isRest 19 = .ok (.iload_n 1, 1) := by decide +kernel
theorem dX10_isRest_20 : decode cX10_isRest 20 = .ok (.iload_n 0, 1) := by decide +kernel
theorem dX10_isRest_21 : decode cX10_isRest 21 = .ok (.iload_n 2, 1) := by decide +kernel
theorem dX10_isRest_22 : decode cX10_isRest 22 = .ok (.iload_n 3, 1) := by decide +kernel
theorem dX10_isRest_23 : decode cX10_isRest 23 = .ok (.invokestatic 316, 3) := by decide +kernel
theorem dX10_isRest_26 : decode cX10_isRest 26 = .ok (.iconst 1, 1) := by decide +kernel
theorem dX10_isRest_27 : decode cX10_isRest 27 = .ok (.iload_n 1, 1) := by decide +kernel
theorem dX10_isRest_28 : decode cX10_isRest 28 = .ok (.isub, 1) := by decide +kernel
theorem dX10_isRest_29 : decode cX10_isRest 29 = .ok (.iload_n 0, 1) := by decide +kernel
theorem dX10_isRest_30 : decode cX10_isRest 30 = .ok (.iload_n 2, 1) := by decide +kernel
theorem dX10_isRest_31 : decode cX10_isRest 31 = .ok (.iload_n 3, 1) := by decide +kernel
theorem dX10_isRest_32 : decode cX10_isRest 32 = .ok (.invokestatic 316, 3) := by decide +kernel
theorem dX10_isRest_35 : decode cX10_isRest 35 = .ok (.if_icmp .lt 7, 3) := by decide +kernel
theorem dX10_isRest_38 : decode cX10_isRest 38 = .ok (.iconst 1, 1) := by decide +kernel
theorem dX10_isRest_39 : decode cX10_isRest 39 = .ok (.goto 4, 3) := by decide +kernel
theorem dX10_isRest_42 : decode cX10_isRest 42 = .ok (.iconst 0, 1) := by decide +kernel
theorem dX10_isRest_43 : decode cX10_isRest 43 = .ok (.ireturn, 1) := by decide +kernel
theorem dX10_has_0 : decode cX10_has 0 = .ok (.iload_n 0, 1) := by decide +kernel
theorem dX10_has_1 : decode cX10_has 1 = .ok (.iload_n 1, 1) := by decide +kernel
theorem dX10_has_2 : decode cX10_has 2 = .ok (.if_icmp .ne 13, 3) := by decide +kernel
theorem dX10_has_5 : decode cX10_has 5 = .ok (.iload_n 0, 1) := by decide +kernel
theorem dX10_has_6 : decode cX10_has 6 = .ok (.ifCond .ne 7, 3) := by decide +kernel
theorem dX10_has_9 : decode cX10_has 9 = .ok (.iload_n 2, 1) := by decide +kernel
theorem dX10_has_10 : decode cX10_has 10 = .ok (.goto 4, 3) := by decide +kernel
theorem dX10_has_13 : decode cX10_has 13 = .ok (.iconst 0, 1) := by decide +kernel
theorem dX10_has_14 : decode cX10_has 14 = .ok (.ireturn, 1) := by decide +kernel
theorem dX10_has_15 : decode cX10_has 15 = .ok (.iload_n 0, 1) := by decide +kernel
theorem dX10_has_16 : decode cX10_has 16 = .ok (.iconst 1, 1) := by decide +kernel
theorem dX10_has_17 : decode cX10_has 17 = .ok (.if_icmp .ne 7, 3) := by decide +kernel
theorem dX10_has_20 : decode cX10_has 20 = .ok (.iload_n 3, 1) := by decide +kernel
theorem dX10_has_21 : decode cX10_has 21 = .ok (.goto 4, 3) := by decide +kernel
theorem dX10_has_24 : decode cX10_has 24 = .ok (.iconst (-1), 1) := by decide +kernel
theorem dX10_has_25 : decode cX10_has 25 = .ok (.ireturn, 1) := by decide +kernel
theorem dX10_almsUpTo_0 : decode cX10_almsUpTo 0 = .ok (.iconst 0, 1) := by decide +kernel
theorem dX10_almsUpTo_1 : decode cX10_almsUpTo 1 = .ok (.istore_n 3, 1) := by decide +kernel
theorem dX10_almsUpTo_2 : decode cX10_almsUpTo 2 = .ok (.iconst 0, 1) := by decide +kernel
theorem dX10_almsUpTo_3 : decode cX10_almsUpTo 3 = .ok (.istore 4, 2) := by decide +kernel
theorem dX10_almsUpTo_5 : decode cX10_almsUpTo 5 = .ok (.iload 4, 2) := by decide +kernel
theorem dX10_almsUpTo_7 : decode cX10_almsUpTo 7 = .ok (.aload_n 0, 1) := by decide +kernel
theorem dX10_almsUpTo_8 : decode cX10_almsUpTo 8 = .ok (.getfield 27, 3) := by decide +kernel
theorem dX10_almsUpTo_11 : decode cX10_almsUpTo 11 = .ok (.getfield 54, 3) := by decide +kernel
theorem dX10_almsUpTo_14 : decode cX10_almsUpTo 14 = .ok (.getfield 188, 3) := by decide +kernel
theorem dX10_almsUpTo_17 : decode cX10_almsUpTo 17 = .ok (.if_icmp .ge 38, 3) := by decide +kernel
theorem dX10_almsUpTo_20 : decode cX10_almsUpTo 20 = .ok (.iload_n 2, 1) := by decide +kernel
theorem dX10_almsUpTo_21 : decode cX10_almsUpTo 21 = .ok (.iload 4, 2) := by decide +kernel
theorem dX10_almsUpTo_23 : decode cX10_almsUpTo 23 = .ok (.ishr, 1) := by decide +kernel
theorem dX10_almsUpTo_24 : decode cX10_almsUpTo 24 = .ok (.iconst 1, 1) := by decide +kernel
theorem dX10_almsUpTo_25 : decode cX10_almsUpTo 25 = .ok (.iand, 1) := by decide +kernel
theorem dX10_almsUpTo_26 : decode cX10_almsUpTo 26 = .ok (.ifCond .eq 23, 3) := by decide +kernel
theorem dX10_almsUpTo_29 : decode cX10_almsUpTo 29 = .ok (.iload_n 3, 1) := by decide +kernel
theorem dX10_almsUpTo_30 : decode cX10_almsUpTo 30 = .ok (.iload_n 1, 1) := by decide +kernel
theorem dX10_almsUpTo_31 : decode cX10_almsUpTo 31 = .ok (.aload_n 0, 1) := by decide +kernel
theorem dX10_almsUpTo_32 : decode cX10_almsUpTo 32 = .ok (.getfield 27, 3) := by decide +kernel
theorem dX10_almsUpTo_35 : decode cX10_almsUpTo 35 = .ok (.getfield 54, 3) := by decide +kernel
theorem dX10_almsUpTo_38 : decode cX10_almsUpTo 38 = .ok (.getfield 242, 3) := by decide +kernel
theorem dX10_almsUpTo_41 : decode cX10_almsUpTo 41 = .ok (.iload 4, 2) := by decide +kernel
theorem dX10_almsUpTo_43 : decode cX10_almsUpTo 43 = .ok (.iaload, 1) := by decide +kernel
theorem dX10_almsUpTo_44 : decode cX10_almsUpTo 44 = .ok (.invokestatic 323, 3) := by decide +kernel
theorem dX10_almsUpTo_47 : decode cX10_almsUpTo 47 = .ok (.iadd, 1) := by decide +kernel
theorem dX10_almsUpTo_48 : decode cX10_almsUpTo 48 = .ok (.istore_n 3, 1) := by decide +kernel
theorem dX10_almsUpTo_49 : decode cX10_almsUpTo 49 = .ok (.iinc 4 1, 3) := by decide +kernel
theorem dX10_almsUpTo_52 : decode cX10_almsUpTo 52 = .ok (.goto (-47), 3) := by decide +kernel
theorem dX10_almsUpTo_55 : decode cX10_almsUpTo 55 = .ok (.iload_n 3, 1) := by decide +kernel
theorem dX10_almsUpTo_56 : decode cX10_almsUpTo 56 = .ok (.ireturn, 1) := by decide +kernel
theorem dX11_init_0 : decode cX11_init 0 = .ok (.aload_n 0, 1) := by decide +kernel
theorem dX11_init_1 : decode cX11_init 1 = .ok (.invokespecial 1, 3) := by decide +kernel
theorem dX11_init_4 : decode cX11_init 4 = .ok (.aload_n 0, 1) := by decide +kernel
theorem dX11_init_5 : decode cX11_init 5 = .ok (.iconst (-1), 1) := by decide +kernel
theorem dX11_init_6 : decode cX11_init 6 = .ok (.putfield 9, 3) := by decide +kernel
theorem dX11_init_9 : decode cX11_init 9 = .ok (.aload_n 0, 1) := by decide +kernel
theorem dX11_init_10 : decode cX11_init 10 = .ok (.sipush 600, 3) := by decide +kernel
theorem dX11_init_13 : decode cX11_init 13 = .ok (.newarray .int, 2) := by decide +kernel
theorem dX11_init_15 : decode cX11_init 15 = .ok (.putfield 13, 3) := by decide +kernel
theorem dX11_init_18 : decode cX11_init 18 = .ok (.aload_n 0, 1) := by decide +kernel
theorem dX11_init_19 : decode cX11_init 19 = .ok (.iconst 2, 1) := by decide +kernel
theorem dX11_init_20 : decode cX11_init 20 = .ok (.newarray .int, 2) := by decide +kernel
theorem dX11_init_22 : decode cX11_init 22 = .ok (.putfield 17, 3) := by decide +kernel
theorem dX11_init_25 : decode cX11_init 25 = .ok (.aload_n 0, 1) := by decide +kernel
theorem dX11_init_26 : decode cX11_init 26 = .ok (.iconst 3, 1) := by decide +kernel
theorem dX11_init_27 : decode cX11_init 27 = .ok (.newarray .int, 2) := by decide +kernel
theorem dX11_init_29 : decode cX11_init 29 = .ok (.putfield 20, 3) := by decide +kernel
theorem dX11_init_32 : decode cX11_init 32 = .ok (.aload_n 0, 1) := by decide +kernel
theorem dX11_init_33 : decode cX11_init 33 = .ok (.iconst 3, 1) := by decide +kernel
theorem dX11_init_34 : decode cX11_init 34 = .ok (.newarray .int, 2) := by decide +kernel
theorem dX11_init_36 : decode cX11_init 36 = .ok (.putfield 23, 3) := by decide +kernel
theorem dX11_init_39 : decode cX11_init 39 = .ok (.aload_n 0, 1) := by decide +kernel
theorem dX11_init_40 : decode cX11_init 40 = .ok (.bipush 8, 2) := by decide +kernel
theorem dX11_init_42 : decode cX11_init 42 = .ok (.newarray .int, 2) := by decide +kernel
theorem dX11_init_44 : decode cX11_init 44 = .ok (.putfield 26, 3) := by decide +kernel
theorem dX11_init_47 : decode cX11_init 47 = .ok (.aload_n 0, 1) := by decide +kernel
theorem dX11_init_48 : decode cX11_init 48 = .ok (.bipush 8, 2) := by decide +kernel
theorem dX11_init_50 : decode cX11_init 50 = .ok (.newarray .int, 2) := by decide +kernel
theorem dX11_init_52 : decode cX11_init 52 = .ok (.putfield 29, 3) := by decide +kernel
theorem dX11_init_55 : decode cX11_init 55 = .ok (.aload_n 0, 1) := by decide +kernel
theorem dX11_init_56 : decode cX11_init 56 = .ok (.bipush 8, 2) := by decide +kernel
theorem dX11_init_58 : decode cX11_init 58 = .ok (.newarray .int, 2) := by decide +kernel
theorem dX11_init_60 : decode cX11_init 60 = .ok (.putfield 32, 3) := by decide +kernel
theorem dX11_init_63 : decode cX11_init 63 = .ok (.aload_n 0, 1) := by decide +kernel
theorem dX11_init_64 : decode cX11_init 64 = .ok (.bipush 8, 2) := by decide +kernel
theorem dX11_init_66 : decode cX11_init 66 = .ok (.newarray .int, 2) := by decide +kernel
theorem dX11_init_68 : decode cX11_init 68 = .ok (.putfield 35, 3) := by decide +kernel
theorem dX11_init_71 : decode cX11_init 71 = .ok (.aload_n 0, 1) := by decide +kernel
theorem dX11_init_72 : decode cX11_init 72 = .ok (.bipush 10, 2) := by decide +kernel
theorem dX11_init_74 : decode cX11_init 74 = .ok (.iconst 3, 1) := by decide +kernel
theorem dX11_init_75 : decode cX11_init 75 = .ok (.multianewarray 38 2, 4) := by decide +kernel
theorem dX11_init_79 : decode cX11_init 79 = .ok (.putfield 40, 3) := by decide +kernel
theorem dX11_init_82 : decode cX11_init 82 = .ok (.aload_n 0, 1) := by decide +kernel
theorem dX11_init_83 : decode cX11_init 83 = .ok (.bipush 10, 2) := by decide +kernel
theorem dX11_init_85 : decode cX11_init 85 = .ok (.iconst 3, 1) := by decide +kernel
theorem dX11_init_86 : decode cX11_init 86 = .ok (.multianewarray 38 2, 4) := by decide +kernel
theorem dX11_init_90 : decode cX11_init 90 = .ok (.putfield 43, 3) := by decide +kernel
theorem dX11_init_93 : decode cX11_init 93 = .ok (.aload_n 0, 1) := by decide +kernel
theorem dX11_init_94 : decode cX11_init 94 = .ok (.bipush 8, 2) := by decide +kernel
theorem dX11_init_96 : decode cX11_init 96 = .ok (.iconst 2, 1) := by decide +kernel
theorem dX11_init_97 : decode cX11_init 97 = .ok (.multianewarray 38 2, 4) := by decide +kernel
theorem dX11_init_101 : decode cX11_init 101 = .ok (.putfield 46, 3) := by decide +kernel
theorem dX11_init_104 : decode cX11_init 104 = .ok (.aload_n 0, 1) := by decide +kernel
theorem dX11_init_105 : decode cX11_init 105 = .ok (.bipush 8, 2) := by decide +kernel
theorem dX11_init_107 : decode cX11_init 107 = .ok (.iconst 2, 1) := by decide +kernel
theorem dX11_init_108 : decode cX11_init 108 = .ok (.multianewarray 38 2, 4) := by decide +kernel
theorem dX11_init_112 : decode cX11_init 112 = .ok (.putfield 49, 3) := by decide +kernel
theorem dX11_init_115 : decode cX11_init 115 = .ok (.aload_n 0, 1) := by decide +kernel
theorem dX11_init_116 : decode cX11_init 116 = .ok (.sipush 160, 3) := by decide +kernel
theorem dX11_init_119 : decode cX11_init 119 = .ok (.iconst 2, 1) := by decide +kernel
theorem dX11_init_120 : decode cX11_init 120 = .ok (.multianewarray 38 2, 4) := by decide +kernel
theorem dX11_init_124 : decode cX11_init 124 = .ok (.putfield 52, 3) := by decide +kernel
theorem dX11_init_127 : decode cX11_init 127 = .ok (.aload_n 0, 1) := by decide +kernel
theorem dX11_init_128 : decode cX11_init 128 = .ok (.sipush 160, 3) := by decide +kernel
theorem dX11_init_131 : decode cX11_init 131 = .ok (.iconst 2, 1) := by decide +kernel
theorem dX11_init_132 : decode cX11_init 132 = .ok (.multianewarray 38 2, 4) := by decide +kernel
theorem dX11_init_136 : decode cX11_init 136 = .ok (.putfield 55, 3) := by decide +kernel
theorem dX11_init_139 : decode cX11_init 139 = .ok (.aload_n 0, 1) := by decide +kernel
theorem dX11_init_140 : decode cX11_init 140 = .ok (.bipush 10, 2) := by decide +kernel
theorem dX11_init_142 : decode cX11_init 142 = .ok (.iconst 2, 1) := by decide +kernel
theorem dX11_init_143 : decode cX11_init 143 = .ok (.multianewarray 38 2, 4) := by decide +kernel
theorem dX11_init_147 : decode cX11_init 147 = .ok (.putfield 58, 3) := by decide +kernel
theorem dX11_init_150 : decode cX11_init 150 = .ok (.aload_n 0, 1) := by decide +kernel
theorem dX11_init_151 : decode cX11_init 151 = .ok (.bipush 10, 2) := by decide +kernel
theorem dX11_init_153 : decode cX11_init 153 = .ok (.iconst 2, 1) := by decide +kernel
theorem dX11_init_154 : decode cX11_init 154 = .ok (.multianewarray 38 2, 4) := by decide +kernel
theorem dX11_init_158 : decode cX11_init 158 = .ok (.putfield 61, 3) := by decide +kernel
theorem dX11_init_161 : decode cX11_init 161 = .ok (.aload_n 0, 1) := by decide +kernel
theorem dX11_init_162 : decode cX11_init 162 = .ok (.sipush 160, 3) := by decide +kernel
theorem dX11_init_165 : decode cX11_init 165 = .ok (.newarray .int, 2) := by decide +kernel
theorem dX11_init_167 : decode cX11_init 167 = .ok (.putfield 64, 3) := by decide +kernel
theorem dX11_init_170 : decode cX11_init 170 = .ok (.aload_n 0, 1) := by decide +kernel
theorem dX11_init_171 : decode cX11_init 171 = .ok (.bipush 8, 2) := by decide +kernel
theorem dX11_init_173 : decode cX11_init 173 = .ok (.newarray .int, 2) := by decide +kernel
theorem dX11_init_175 : decode cX11_init 175 = .ok (.putfield 67, 3) := by decide +kernel
theorem dX11_init_178 : decode cX11_init 178 = .ok (.aload_n 0, 1) := by decide +kernel
theorem dX11_init_179 : decode cX11_init 179 = .ok (.bipush 80, 2) := by decide +kernel
theorem dX11_init_181 : decode cX11_init 181 = .ok (.iconst 4, 1) := by decide +kernel
theorem dX11_init_182 : decode cX11_init 182 = .ok (.multianewarray 38 2, 4) := by decide +kernel
theorem dX11_init_186 : decode cX11_init 186 = .ok (.putfield 70, 3) := by decide +kernel
theorem dX11_init_189 : decode cX11_init 189 = .ok (.aload_n 0, 1) := by decide +kernel
theorem dX11_init_190 : decode cX11_init 190 = .ok (.bipush 45, 2) := by decide +kernel
theorem dX11_init_192 : decode cX11_init 192 = .ok (.newarray .int, 2) := by decide +kernel
theorem dX11_init_194 : decode cX11_init 194 = .ok (.putfield 73, 3) := by decide +kernel
theorem dX11_init_197 : decode cX11_init 197 = .ok (.aload_n 0, 1) := by decide +kernel
theorem dX11_init_198 : decode cX11_init 198 = .ok (.bipush 45, 2) := by decide +kernel
theorem dX11_init_200 : decode cX11_init 200 = .ok (.newarray .int, 2) := by decide +kernel
theorem dX11_init_202 : decode cX11_init 202 = .ok (.putfield 76, 3) := by decide +kernel
theorem dX11_init_205 : decode cX11_init 205 = .ok (.aload_n 0, 1) := by decide +kernel
theorem dX11_init_206 : decode cX11_init 206 = .ok (.bipush 16, 2) := by decide +kernel
theorem dX11_init_208 : decode cX11_init 208 = .ok (.bipush 45, 2) := by decide +kernel
theorem dX11_init_210 : decode cX11_init 210 = .ok (.multianewarray 38 2, 4) := by decide +kernel
theorem dX11_init_214 : decode cX11_init 214 = .ok (.putfield 79, 3) := by decide +kernel
theorem dX11_init_217 : decode cX11_init 217 = .ok (.aload_n 0, 1) := by decide +kernel
theorem dX11_init_218 : decode cX11_init 218 = .ok (.iconst 3, 1) := by decide +kernel
theorem dX11_init_219 : decode cX11_init 219 = .ok (.sipush 766, 3) := by decide +kernel
theorem dX11_init_222 : decode cX11_init 222 = .ok (.multianewarray 38 2, 4) := by decide +kernel
theorem dX11_init_226 : decode cX11_init 226 = .ok (.putfield 82, 3) := by decide +kernel
theorem dX11_init_229 : decode cX11_init 229 = .ok (.aload_n 0, 1) := by decide +kernel
theorem dX11_init_230 : decode cX11_init 230 = .ok (.bipush 8, 2) := by decide +kernel
theorem dX11_init_232 : decode cX11_init 232 = .ok (.newarray .int, 2) := by decide +kernel
theorem dX11_init_234 : decode cX11_init 234 = .ok (.putfield 85, 3) := by decide +kernel
theorem dX11_init_237 : decode cX11_init 237 = .ok (.aload_n 0, 1) := by decide +kernel
theorem dX11_init_238 : decode cX11_init 238 = .ok (.bipush 8, 2) := by decide +kernel
theorem dX11_init_240 : decode cX11_init 240 = .ok (.newarray .int, 2) := by decide +kernel
theorem dX11_init_242 : decode cX11_init 242 = .ok (.putfield 88, 3) := by decide +kernel
theorem dX11_init_245 : decode cX11_init 245 = .ok (.aload_n 0, 1) := by decide +kernel
theorem dX11_init_246 : decode cX11_init 246 = .ok (.bipush 8, 2) := by decide +kernel
theorem dX11_init_248 : decode cX11_init 248 = .ok (.newarray .int, 2) := by decide +kernel
theorem dX11_init_250 : decode cX11_init 250 = .ok (.putfield 91, 3) := by decide +kernel
theorem dX11_init_253 : decode cX11_init 253 = .ok (.aload_n 0, 1) := by decide +kernel
theorem dX11_init_254 : decode cX11_init 254 = .ok (.bipush 9, 2) := by decide +kernel
theorem dX11_init_256 : decode cX11_init 256 = .ok (.newarray .int, 2) := by decide +kernel
theorem dX11_init_258 : decode cX11_init 258 = .ok (.putfield 94, 3) := by decide +kernel
theorem dX11_init_261 : decode cX11_init 261 = .ok (.aload_n 0, 1) := by decide +kernel
theorem dX11_init_262 : decode cX11_init 262 = .ok (.invokevirtual 97, 3) := by decide +kernel
theorem dX11_init_265 : decode cX11_init 265 = .ok (.aload_n 0, 1) := by decide +kernel
theorem dX11_init_266 : decode cX11_init 266 = .ok (.invokevirtual 100, 3) := by decide +kernel
theorem dX11_init_269 : decode cX11_init 269 = .ok (.return_, 1) := by decide +kernel
theorem dX11_tellsNothing_0 : decode cX11_tellsNothing 0 = .ok (.iconst 0, 1) := by decide +kernel
theorem dX11_tellsNothing_1 : decode cX11_tellsNothing 1 = .ok (.istore_n 1, 1) := by decide +kernel
theorem dX11_tellsNothing_2 : decode cX11_tellsNothing 2 = .ok (.iload_n 1, 1) := by decide +kernel
theorem dX11_tellsNothing_3 : decode cX11_tellsNothing 3 = .ok (.iconst 3, 1) := by decide +kernel
theorem dX11_tellsNothing_4 : decode cX11_tellsNothing 4 = .ok (.if_icmp .ge 16, 3) := by decide +kernel
theorem dX11_tellsNothing_7 : decode cX11_tellsNothing 7 = .ok (.aload_n 0, 1) := by decide +kernel
theorem dX11_tellsNothing_8 : decode cX11_tellsNothing 8 = .ok (.getfield 20, 3) := by decide +kernel
theorem dX11_tellsNothing_11 : decode cX11_tellsNothing 11 = .ok (.iload_n 1, 1) := by decide +kernel
theorem dX11_tellsNothing_12 : decode cX11_tellsNothing 12 = .ok (.iconst 0, 1) := by decide +kernel
theorem dX11_tellsNothing_13 : decode cX11_tellsNothing 13 = .ok (.iastore, 1) := by decide +kernel
theorem dX11_tellsNothing_14 : decode cX11_tellsNothing 14 = .ok (.iinc 1 1, 3) := by decide +kernel
theorem dX11_tellsNothing_17 : decode cX11_tellsNothing 17 = .ok (.goto (-15), 3) := by decide +kernel
theorem dX11_tellsNothing_20 : decode cX11_tellsNothing 20 = .ok (.iconst 0, 1) := by decide +kernel
theorem dX11_tellsNothing_21 : decode cX11_tellsNothing 21 = .ok (.istore_n 1, 1) := by decide +kernel
theorem dX11_tellsNothing_22 : decode cX11_tellsNothing 22 = .ok (.iload_n 1, 1) := by decide +kernel
theorem dX11_tellsNothing_23 : decode cX11_tellsNothing 23 = .ok (.bipush 8, 2) := by decide +kernel
theorem dX11_tellsNothing_25 : decode cX11_tellsNothing 25 = .ok (.if_icmp .ge 16, 3) := by decide +kernel
theorem dX11_tellsNothing_28 : decode cX11_tellsNothing 28 = .ok (.aload_n 0, 1) := by decide +kernel
theorem dX11_tellsNothing_29 : decode cX11_tellsNothing 29 = .ok (.getfield 32, 3) := by decide +kernel
theorem dX11_tellsNothing_32 : decode cX11_tellsNothing 32 = .ok (.iload_n 1, 1) := by decide +kernel
theorem dX11_tellsNothing_33 : decode cX11_tellsNothing 33 = .ok (.iconst (-1), 1) := by decide +kernel
theorem dX11_tellsNothing_34 : decode cX11_tellsNothing 34 = .ok (.iastore, 1) := by decide +kernel
theorem dX11_tellsNothing_35 : decode cX11_tellsNothing 35 = .ok (.iinc 1 1, 3) := by decide +kernel
theorem dX11_tellsNothing_38 : decode cX11_tellsNothing 38 = .ok (.goto (-16), 3) := by decide +kernel
theorem dX11_tellsNothing_41 : decode cX11_tellsNothing 41 = .ok (.return_, 1) := by decide +kernel
theorem dX11_thrown_0 : decode cX11_thrown 0 = .ok (.aload_n 0, 1) := by decide +kernel
theorem dX11_thrown_1 : decode cX11_thrown 1 = .ok (.getfield 103, 3) := by decide +kernel
theorem dX11_thrown_4 : decode cX11_thrown 4 = .ok (.ireturn, 1) := by decide +kernel
theorem dX11_bad_0 : decode cX11_bad 0 = .ok (.iload_n 1, 1) := by decide +kernel
theorem dX11_bad_1 : decode cX11_bad 1 = .ok (.ifCond .eq 25, 3) := by decide +kernel
theorem dX11_bad_4 : decode cX11_bad 4 = .ok (.aload_n 0, 1) := by decide +kernel
theorem dX11_bad_5 : decode cX11_bad 5 = .ok (.getfield 103, 3) := by decide +kernel
theorem dX11_bad_8 : decode cX11_bad 8 = .ok (.ifCond .ne 18, 3) := by decide +kernel
theorem dX11_bad_11 : decode cX11_bad 11 = .ok (.aload_n 0, 1) := by decide +kernel
theorem dX11_bad_12 : decode cX11_bad 12 = .ok (.iload_n 2, 1) := by decide +kernel
theorem dX11_bad_13 : decode cX11_bad 13 = .ok (.putfield 103, 3) := by decide +kernel
theorem dX11_bad_16 : decode cX11_bad 16 = .ok (.aload_n 0, 1) := by decide +kernel
theorem dX11_bad_17 : decode cX11_bad 17 = .ok (.getfield 17, 3) := by decide +kernel
theorem dX11_bad_20 : decode cX11_bad 20 = .ok (.iload_n 3, 1) := by decide +kernel
theorem dX11_bad_21 : decode cX11_bad 21 = .ok (.dup2, 1) := by decide +kernel
theorem dX11_bad_22 : decode cX11_bad 22 = .ok (.iaload, 1) := by decide +kernel
theorem dX11_bad_23 : decode cX11_bad 23 = .ok (.iconst 1, 1) := by decide +kernel
theorem dX11_bad_24 : decode cX11_bad 24 = .ok (.iadd, 1) := by decide +kernel
theorem dX11_bad_25 : decode cX11_bad 25 = .ok (.iastore, 1) := by decide +kernel
theorem dX11_bad_26 : decode cX11_bad 26 = .ok (.aload_n 0, 1) := by decide +kernel
theorem dX11_bad_27 : decode cX11_bad 27 = .ok (.getfield 103, 3) := by decide +kernel
theorem dX11_bad_30 : decode cX11_bad 30 = .ok (.ifCond .eq 7, 3) := by decide +kernel
theorem dX11_bad_33 : decode cX11_bad 33 = .ok (.iconst 1, 1) := by decide +kernel
theorem dX11_bad_34 : decode cX11_bad 34 = .ok (.goto 4, 3) := by decide +kernel
theorem dX11_bad_37 : decode cX11_bad 37 = .ok (.iconst 0, 1) := by decide +kernel
theorem dX11_bad_38 : decode cX11_bad 38 = .ok (.ireturn, 1) := by decide +kernel
theorem dX11_in_0 : decode cX11_in 0 = .ok (.iload_n 0, 1) := by decide +kernel
theorem dX11_in_1 : decode cX11_in 1 = .ok (.iload_n 1, 1) := by decide +kernel
theorem dX11_in_2 : decode cX11_in 2 = .ok (.if_icmp .lt 12, 3) := by decide +kernel
theorem dX11_in_5 : decode cX11_in 5 = .ok (.iload_n 0, 1) := by decide +kernel
theorem dX11_in_6 : decode cX11_in 6 = .ok (.iload_n 2, 1) := by decide +kernel
theorem dX11_in_7 : decode cX11_in 7 = .ok (.if_icmp .gt 7, 3) := by decide +kernel
theorem dX11_in_10 : decode cX11_in 10 = .ok (.iconst 1, 1) := by decide +kernel
theorem dX11_in_11 : decode cX11_in 11 = .ok (.goto 4, 3) := by decide +kernel
theorem dX11_in_14 : decode cX11_in 14 = .ok (.iconst 0, 1) := by decide +kernel
theorem dX11_in_15 : decode cX11_in 15 = .ok (.ireturn, 1) := by decide +kernel
theorem dX11_less_0 : decode cX11_less 0 = .ok (.iload_n 0, 1) := by decide +kernel
theorem dX11_less_1 : decode cX11_less 1 = .ok (.iload_n 1, 1) := by decide +kernel
theorem dX11_less_2 : decode cX11_less 2 = .ok (.if_icmp .ge 7, 3) := by decide +kernel
theorem dX11_less_5 : decode cX11_less 5 = .ok (.iload_n 0, 1) := by decide +kernel
theorem dX11_less_6 : decode cX11_less 6 = .ok (.goto 4, 3) := by decide +kernel
theorem dX11_less_9 : decode cX11_less 9 = .ok (.iload_n 1, 1) := by decide +kernel
theorem dX11_less_10 : decode cX11_less 10 = .ok (.ireturn, 1) := by decide +kernel
theorem dX11_more_0 : decode cX11_more 0 = .ok (.iload_n 0, 1) := by decide +kernel
theorem dX11_more_1 : decode cX11_more 1 = .ok (.iload_n 1, 1) := by decide +kernel
theorem dX11_more_2 : decode cX11_more 2 = .ok (.if_icmp .le 7, 3) := by decide +kernel
theorem dX11_more_5 : decode cX11_more 5 = .ok (.iload_n 0, 1) := by decide +kernel
theorem dX11_more_6 : decode cX11_more 6 = .ok (.goto 4, 3) := by decide +kernel
theorem dX11_more_9 : decode cX11_more 9 = .ok (.iload_n 1, 1) := by decide +kernel
theorem dX11_more_10 : decode cX11_more 10 = .ok (.ireturn, 1) := by decide +kernel
theorem dX11_has_0 : decode cX11_has 0 = .ok (.iload_n 0, 1) := by decide +kernel
theorem dX11_has_1 : decode cX11_has 1 = .ok (.iload_n 1, 1) := by decide +kernel
theorem dX11_has_2 : decode cX11_has 2 = .ok (.ishr, 1) := by decide +kernel
theorem dX11_has_3 : decode cX11_has 3 = .ok (.iconst 1, 1) := by decide +kernel
theorem dX11_has_4 : decode cX11_has 4 = .ok (.iand, 1) := by decide +kernel
theorem dX11_has_5 : decode cX11_has 5 = .ok (.iconst 1, 1) := by decide +kernel
theorem dX11_has_6 : decode cX11_has 6 = .ok (.if_icmp .ne 7, 3) := by decide +kernel
theorem dX11_has_9 : decode cX11_has 9 = .ok (.iconst 1, 1) := by decide +kernel
theorem dX11_has_10 : decode cX11_has 10 = .ok (.goto 4, 3) := by decide +kernel
theorem dX11_has_13 : decode cX11_has 13 = .ok (.iconst 0, 1) := by decide +kernel
theorem dX11_has_14 : decode cX11_has 14 = .ok (.ireturn, 1) := by decide +kernel
theorem dX11_feed_0 : decode cX11_feed 0 = .ok (.aload_n 0, 1) := by decide +kernel
theorem dX11_feed_1 : decode cX11_feed 1 = .ok (.iconst 0, 1) := by decide +kernel
theorem dX11_feed_2 : decode cX11_feed 2 = .ok (.putfield 103, 3) := by decide +kernel
theorem dX11_feed_5 : decode cX11_feed 5 = .ok (.aload_n 0, 1) := by decide +kernel
theorem dX11_feed_6 : decode cX11_feed 6 = .ok (.getfield 106, 3) := by decide +kernel
theorem dX11_feed_9 : decode cX11_feed 9 = .ok (.bipush 20, 2) := by decide +kernel
theorem dX11_feed_11 : decode cX11_feed 11 = .ok (.iadd, 1) := by decide +kernel
theorem dX11_feed_12 : decode cX11_feed 12 = .ok (.sipush 600, 3) := by decide +kernel
theorem dX11_feed_15 : decode cX11_feed 15 = .ok (.if_icmp .le 5, 3) := by decide +kernel
theorem dX11_feed_18 : decode cX11_feed 18 = .ok (.iconst (-1), 1) := by decide +kernel
theorem dX11_feed_19 : decode cX11_feed 19 = .ok (.ireturn, 1) := by decide +kernel
theorem dX11_feed_20 : decode cX11_feed 20 = .ok (.iconst 0, 1) := by decide +kernel
theorem dX11_feed_21 : decode cX11_feed 21 = .ok (.istore 6, 2) := by decide +kernel
theorem dX11_feed_23 : decode cX11_feed 23 = .ok (.iload 6, 2) := by decide +kernel
theorem dX11_feed_25 : decode cX11_feed 25 = .ok (.bipush 20, 2) := by decide +kernel
theorem dX11_feed_27 : decode cX11_feed 27 = .ok (.if_icmp .ge 93, 3) := by decide +kernel
theorem dX11_feed_30 : decode cX11_feed 30 = .ok (.iload 6, 2) := by decide +kernel
theorem dX11_feed_32 : decode cX11_feed 32 = .ok (.iconst 4, 1) := by decide +kernel
theorem dX11_feed_33 : decode cX11_feed 33 = .ok (.if_icmp .ge 7, 3) := by decide +kernel
theorem dX11_feed_36 : decode cX11_feed 36 = .ok (.iload_n 1, 1) := by decide +kernel
theorem dX11_feed_37 : decode cX11_feed 37 = .ok (.goto 39, 3) := by decide +kernel
theorem dX11_feed_40 : decode cX11_feed 40 = .ok (.iload 6, 2) := by decide +kernel
theorem dX11_feed_42 : decode cX11_feed 42 = .ok (.bipush 8, 2) := by decide +kernel
theorem dX11_feed_44 : decode cX11_feed 44 = .ok (.if_icmp .ge 7, 3) := by decide +kernel
theorem dX11_feed_47 : decode cX11_feed 47 = .ok (.iload_n 2, 1) := by decide +kernel
theorem dX11_feed_48 : decode cX11_feed 48 = .ok (.goto 28, 3) := by decide +kernel
theorem dX11_feed_51 : decode cX11_feed 51 = .ok (.iload 6, 2) := by decide +kernel
theorem dX11_feed_53 : decode cX11_feed 53 = .ok (.bipush 12, 2) := by decide +kernel
theorem dX11_feed_55 : decode cX11_feed 55 = .ok (.if_icmp .ge 7, 3) := by decide +kernel
theorem dX11_feed_58 : decode cX11_feed 58 = .ok (.iload_n 3, 1) := by decide +kernel
theorem dX11_feed_59 : decode cX11_feed 59 = .ok (.goto 17, 3) := by decide +kernel
theorem dX11_feed_62 : decode cX11_feed 62 = .ok (.iload 6, 2) := by decide +kernel
theorem dX11_feed_64 : decode cX11_feed 64 = .ok (.bipush 16, 2) := by decide +kernel
theorem dX11_feed_66 : decode cX11_feed 66 = .ok (.if_icmp .ge 8, 3) := by decide +kernel
theorem dX11_feed_69 : decode cX11_feed 69 = .ok (.iload 4, 2) := by decide +kernel
theorem dX11_feed_71 : decode cX11_feed 71 = .ok (.goto 5, 3) := by decide +kernel
theorem dX11_feed_74 : decode cX11_feed 74 = .ok (.iload 5, 2) := by decide +kernel
theorem dX11_feed_76 : decode cX11_feed 76 = .ok (.istore 7, 2) := by decide +kernel
theorem dX11_feed_78 : decode cX11_feed 78 = .ok (.aload_n 0, 1) := by decide +kernel
theorem dX11_feed_79 : decode cX11_feed 79 = .ok (.getfield 13, 3) := by decide +kernel
theorem dX11_feed_82 : decode cX11_feed 82 = .ok (.aload_n 0, 1) := by decide +kernel
theorem dX11_feed_83 : decode cX11_feed 83 = .ok (.getfield 106, 3) := by decide +kernel
theorem dX11_feed_86 : decode cX11_feed 86 = .ok (.iload 7, 2) := by decide +kernel
theorem dX11_feed_88 : decode cX11_feed 88 = .ok (.bipush 24, 2) := by decide +kernel
theorem dX11_feed_90 : decode cX11_feed 90 = .ok (.bipush 8, 2) := by decide +kernel
theorem dX11_feed_92 : decode cX11_feed 92 = .ok (.iload 6, 2) := by decide +kernel
theorem dX11_feed_94 : decode cX11_feed 94 = .ok (.iconst 4, 1) := by decide +kernel
theorem dX11_feed_95 : decode cX11_feed 95 = .ok (.irem, 1) := by decide +kernel
theorem dX11_feed_96 : decode cX11_feed 96 = .ok (.imul, 1) := by decide +kernel
theorem dX11_feed_97 : decode cX11_feed 97 = .ok (.isub, 1) := by decide +kernel
theorem dX11_feed_98 : decode cX11_feed 98 = .ok (.ishr, 1) := by decide +kernel
theorem dX11_feed_99 : decode cX11_feed 99 = .ok (.sipush 255, 3) := by decide +kernel
theorem dX11_feed_102 : decode cX11_feed 102 = .ok (.iand, 1) := by decide +kernel
theorem dX11_feed_103 : decode cX11_feed 103 = .ok (.iastore, 1) := by decide +kernel
theorem dX11_feed_104 : decode cX11_feed 104 = .ok (.aload_n 0, 1) := by decide +kernel
theorem dX11_feed_105 : decode cX11_feed 105 = .ok (.dup, 1) := by decide +kernel
theorem dX11_feed_106 : decode cX11_feed 106 = .ok (.getfield 106, 3) := by decide +kernel
theorem dX11_feed_109 : decode cX11_feed 109 = .ok (.iconst 1, 1) := by decide +kernel
theorem dX11_feed_110 : decode cX11_feed 110 = .ok (.iadd, 1) := by decide +kernel
theorem dX11_feed_111 : decode cX11_feed 111 = .ok (.putfield 106, 3) := by decide +kernel
theorem dX11_feed_114 : decode cX11_feed 114 = .ok (.iinc 6 1, 3) := by decide +kernel
theorem dX11_feed_117 : decode cX11_feed 117 = .ok (.goto (-94), 3) := by decide +kernel
theorem dX11_feed_120 : decode cX11_feed 120 = .ok (.aload_n 0, 1) := by decide +kernel
theorem dX11_feed_121 : decode cX11_feed 121 = .ok (.getfield 106, 3) := by decide +kernel
theorem dX11_feed_124 : decode cX11_feed 124 = .ok (.ireturn, 1) := by decide +kernel
theorem dX11_byteAt_0 : decode cX11_byteAt 0 = .ok (.iload_n 1, 1) := by decide +kernel
theorem dX11_byteAt_1 : decode cX11_byteAt 1 = .ok (.aload_n 0, 1) := by decide +kernel
theorem dX11_byteAt_2 : decode cX11_byteAt 2 = .ok (.getfield 109, 3) := by decide +kernel
theorem dX11_byteAt_5 : decode cX11_byteAt 5 = .ok (.if_icmp .lt 7, 3) := by decide +kernel
theorem dX11_byteAt_8 : decode cX11_byteAt 8 = .ok (.iconst (-1), 1) := by decide +kernel
theorem dX11_byteAt_9 : decode cX11_byteAt 9 = .ok (.goto 9, 3) := by decide +kernel
theorem dX11_byteAt_12 : decode cX11_byteAt 12 = .ok (.aload_n 0, 1) := by decide +kernel
theorem dX11_byteAt_13 : decode cX11_byteAt 13 = .ok (.getfield 13, 3) := by decide +kernel
theorem dX11_byteAt_16 : decode cX11_byteAt 16 = .ok (.iload_n 1, 1) := by decide +kernel
theorem dX11_byteAt_17 : decode cX11_byteAt 17 = .ok (.iaload, 1) := by decide +kernel
theorem dX11_byteAt_18 : decode cX11_byteAt 18 = .ok (.ireturn, 1) := by decide +kernel
theorem dX11_blanks_0 : decode cX11_blanks 0 = .ok (.aload_n 0, 1) := by decide +kernel
theorem dX11_blanks_1 : decode cX11_blanks 1 = .ok (.aload_n 0, 1) := by decide +kernel
theorem dX11_blanks_2 : decode cX11_blanks 2 = .ok (.getfield 112, 3) := by decide +kernel
theorem dX11_blanks_5 : decode cX11_blanks 5 = .ok (.invokevirtual 115, 3) := by decide +kernel
theorem dX11_blanks_8 : decode cX11_blanks 8 = .ok (.bipush 32, 2) := by decide +kernel
theorem dX11_blanks_10 : decode cX11_blanks 10 = .ok (.if_icmp .ne 16, 3) := by decide +kernel
theorem dX11_blanks_13 : decode cX11_blanks 13 = .ok (.aload_n 0, 1) := by decide +kernel
theorem dX11_blanks_14 : decode cX11_blanks 14 = .ok (.dup, 1) := by decide +kernel
theorem dX11_blanks_15 : decode cX11_blanks 15 = .ok (.getfield 112, 3) := by decide +kernel
theorem dX11_blanks_18 : decode cX11_blanks 18 = .ok (.iconst 1, 1) := by decide +kernel
theorem dX11_blanks_19 : decode cX11_blanks 19 = .ok (.iadd, 1) := by decide +kernel
theorem dX11_blanks_20 : decode cX11_blanks 20 = .ok (.putfield 112, 3) := by decide +kernel
theorem dX11_blanks_23 : decode cX11_blanks 23 = .ok (.goto (-23), 3) := by decide +kernel
theorem dX11_blanks_26 : decode cX11_blanks 26 = .ok (.return_, 1) := by decide +kernel
theorem dX11_wrong_0 : decode cX11_wrong 0 = .ok (.aload_n 0, 1) := by decide +kernel
theorem dX11_wrong_1 : decode cX11_wrong 1 = .ok (.getfield 119, 3) := by decide +kernel
theorem dX11_wrong_4 : decode cX11_wrong 4 = .ok (.ifCond .ne 13, 3) := by decide +kernel
theorem dX11_wrong_7 : decode cX11_wrong 7 = .ok (.aload_n 0, 1) := by decide +kernel
theorem dX11_wrong_8 : decode cX11_wrong 8 = .ok (.iload_n 1, 1) := by decide +kernel
theorem dX11_wrong_9 : decode cX11_wrong 9 = .ok (.putfield 119, 3) := by decide +kernel
theorem dX11_wrong_12 : decode cX11_wrong 12 = .ok (.aload_n 0, 1) := by decide +kernel
theorem dX11_wrong_13 : decode cX11_wrong 13 = .ok (.iload_n 2, 1) := by decide +kernel
theorem dX11_wrong_14 : decode cX11_wrong 14 = .ok (.putfield 122, 3) := by decide +kernel
theorem dX11_wrong_17 : decode cX11_wrong 17 = .ok (.return_, 1) := by decide +kernel
theorem dX11_isDigit_0 : decode cX11_isDigit 0 = .ok (.iload_n 0, 1) := by decide +kernel
theorem dX11_isDigit_1 : decode cX11_isDigit 1 = .ok (.bipush 48, 2) := by decide +kernel
theorem dX11_isDigit_3 : decode cX11_isDigit 3 = .ok (.if_icmp .lt 13, 3) := by decide +kernel
theorem dX11_isDigit_6 : decode cX11_isDigit 6 = .ok (.iload_n 0, 1) := by decide +kernel
theorem dX11_isDigit_7 : decode cX11_isDigit 7 = .ok (.bipush 57, 2) := by decide +kernel
theorem dX11_isDigit_9 : decode cX11_isDigit 9 = .ok (.if_icmp .gt 7, 3) := by decide +kernel
theorem dX11_isDigit_12 : decode cX11_isDigit 12 = .ok (.iconst 1, 1) := by decide +kernel
theorem dX11_isDigit_13 : decode cX11_isDigit 13 = .ok (.goto 4, 3) := by decide +kernel
theorem dX11_isDigit_16 : decode cX11_isDigit 16 = .ok (.iconst 0, 1) := by decide +kernel
theorem dX11_isDigit_17 : decode cX11_isDigit 17 = .ok (.ireturn, 1) := by decide +kernel
theorem dX11_isSmall_0 : decode cX11_isSmall 0 = .ok (.iload_n 0, 1) := by decide +kernel
theorem dX11_isSmall_1 : decode cX11_isSmall 1 = .ok (.bipush 97, 2) := by decide +kernel
theorem dX11_isSmall_3 : decode cX11_isSmall 3 = .ok (.if_icmp .lt 13, 3) := by decide +kernel
theorem dX11_isSmall_6 : decode cX11_isSmall 6 = .ok (.iload_n 0, 1) := by decide +kernel
theorem dX11_isSmall_7 : decode cX11_isSmall 7 = .ok (.bipush 122, 2) := by decide +kernel
theorem dX11_isSmall_9 : decode cX11_isSmall 9 = .ok (.if_icmp .gt 7, 3) := by decide +kernel
theorem dX11_isSmall_12 : decode cX11_isSmall 12 = .ok (.iconst 1, 1) := by decide +kernel
theorem dX11_isSmall_13 : decode cX11_isSmall 13 = .ok (.goto 4, 3) := by decide +kernel
theorem dX11_isSmall_16 : decode cX11_isSmall 16 = .ok (.iconst 0, 1) := by decide +kernel
theorem dX11_isSmall_17 : decode cX11_isSmall 17 = .ok (.ireturn, 1) := by decide +kernel
theorem dX11_number_0 : decode cX11_number 0 = .ok (.aload_n 0, 1) := by decide +kernel
theorem dX11_number_1 : decode cX11_number 1 = .ok (.getfield 119, 3) := by decide +kernel
theorem dX11_number_4 : decode cX11_number 4 = .ok (.ifCond .eq 5, 3) := by decide +kernel
theorem dX11_number_7 : decode cX11_number 7 = .ok (.iconst 0, 1) := by decide +kernel
theorem dX11_number_8 : decode cX11_number 8 = .ok (.ireturn, 1) := by decide +kernel
theorem dX11_number_9 : decode cX11_number 9 = .ok (.aload_n 0, 1) := by decide +kernel
theorem dX11_number_10 : decode cX11_number 10 = .ok (.invokevirtual 125, 3) := by decide +kernel
theorem dX11_number_13 : decode cX11_number 13 = .ok (.aload_n 0, 1) := by decide +kernel
theorem dX11_number_14 : decode cX11_number 14 = .ok (.getfield 112, 3) := by decide +kernel
theorem dX11_number_17 : decode cX11_number 17 = .ok (.istore_n 3, 1) := by decide +kernel
theorem dX11_number_18 : decode cX11_number 18 = .ok (.iconst 0, 1) := by decide +kernel
theorem dX11_number_19 : decode cX11_number 19 = .ok (.istore 4, 2) := by decide +kernel
theorem dX11_number_21 : decode cX11_number 21 = .ok (.aload_n 0, 1) := by decide +kernel
theorem dX11_number_22 : decode cX11_number 22 = .ok (.aload_n 0, 1) := by decide +kernel
