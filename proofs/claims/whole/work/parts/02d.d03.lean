theorem dX11_number_23 : decode cX11_number 23 = .ok (.getfield 112, 3) := by decide +kernel
theorem dX11_number_26 : decode cX11_number 26 = .ok (.invokevirtual 115, 3) := by decide +kernel
theorem dX11_number_29 : decode cX11_number 29 = .ok (.invokestatic 128, 3) := by decide +kernel
theorem dX11_number_32 : decode cX11_number 32 = .ok (.ifCond .ne 12, 3) := by decide +kernel
theorem dX11_number_35 : decode cX11_number 35 = .ok (.aload_n 0, 1) := by decide +kernel
theorem dX11_number_36 : decode cX11_number 36 = .ok (.iconst 1, 1) := by decide +kernel
theorem dX11_number_37 : decode cX11_number 37 = .ok (.aload_n 0, 1) := by decide +kernel
theorem dX11_number_38 : decode cX11_number 38 = .ok (.getfield 112, 3) := by decide +kernel
theorem dX11_number_41 : decode cX11_number 41 = .ok (.invokevirtual 132, 3) := by decide +kernel
theorem dX11_number_44 : decode cX11_number 44 = .ok (.aload_n 0, 1) := by decide +kernel
theorem dX11_number_45 : decode cX11_number 45 = .ok (.aload_n 0, 1) := by decide +kernel
theorem dX11_number_46 : decode cX11_number 46 = .ok (.getfield 112, 3) := by decide +kernel
theorem dX11_number_49 : decode cX11_number 49 = .ok (.invokevirtual 115, 3) := by decide +kernel
theorem dX11_number_52 : decode cX11_number 52 = .ok (.invokestatic 128, 3) := by decide +kernel
theorem dX11_number_55 : decode cX11_number 55 = .ok (.ifCond .eq 51, 3) := by decide +kernel
theorem dX11_number_58 : decode cX11_number 58 = .ok (.bipush 10, 2) := by decide +kernel
theorem dX11_number_60 : decode cX11_number 60 = .ok (.iload 4, 2) := by decide +kernel
theorem dX11_number_62 : decode cX11_number 62 = .ok (.imul, 1) := by decide +kernel
theorem dX11_number_63 : decode cX11_number 63 = .ok (.aload_n 0, 1) := by decide +kernel
theorem dX11_number_64 : decode cX11_number 64 = .ok (.aload_n 0, 1) := by decide +kernel
theorem dX11_number_65 : decode cX11_number 65 = .ok (.getfield 112, 3) := by decide +kernel
theorem dX11_number_68 : decode cX11_number 68 = .ok (.invokevirtual 115, 3) := by decide +kernel
theorem dX11_number_71 : decode cX11_number 71 = .ok (.iadd, 1) := by decide +kernel
theorem dX11_number_72 : decode cX11_number 72 = .ok (.bipush 48, 2) := by decide +kernel
theorem dX11_number_74 : decode cX11_number 74 = .ok (.isub, 1) := by decide +kernel
theorem dX11_number_75 : decode cX11_number 75 = .ok (.istore 4, 2) := by decide +kernel
theorem dX11_number_77 : decode cX11_number 77 = .ok (.iload 4, 2) := by decide +kernel
theorem dX11_number_79 : decode cX11_number 79 = .ok (.ldc 136, 2) := by decide +kernel
theorem dX11_number_81 : decode cX11_number 81 = .ok (.if_icmp .le 8, 3) := by decide +kernel
theorem dX11_number_84 : decode cX11_number 84 = .ok (.ldc 136, 2) := by decide +kernel
theorem dX11_number_86 : decode cX11_number 86 = .ok (.goto 5, 3) := by decide +kernel
theorem dX11_number_89 : decode cX11_number 89 = .ok (.iload 4, 2) := by decide +kernel
theorem dX11_number_91 : decode cX11_number 91 = .ok (.istore 4, 2) := by decide +kernel
theorem dX11_number_93 : decode cX11_number 93 = .ok (.aload_n 0, 1) := by decide +kernel
theorem dX11_number_94 : decode cX11_number 94 = .ok (.dup, 1) := by decide +kernel
theorem dX11_number_95 : decode cX11_number 95 = .ok (.getfield 112, 3) := by decide +kernel
theorem dX11_number_98 : decode cX11_number 98 = .ok (.iconst 1, 1) := by decide +kernel
theorem dX11_number_99 : decode cX11_number 99 = .ok (.iadd, 1) := by decide +kernel
theorem dX11_number_100 : decode cX11_number 100 = .ok (.putfield 112, 3) := by decide +kernel
theorem dX11_number_103 : decode cX11_number 103 = .ok (.goto (-59), 3) := by decide +kernel
theorem dX11_number_106 : decode cX11_number 106 = .ok (.iload 4, 2) := by decide +kernel
theorem dX11_number_108 : decode cX11_number 108 = .ok (.iload_n 1, 1) := by decide +kernel
theorem dX11_number_109 : decode cX11_number 109 = .ok (.iload_n 2, 1) := by decide +kernel
theorem dX11_number_110 : decode cX11_number 110 = .ok (.invokestatic 137, 3) := by decide +kernel
theorem dX11_number_113 : decode cX11_number 113 = .ok (.ifCond .ne 9, 3) := by decide +kernel
theorem dX11_number_116 : decode cX11_number 116 = .ok (.aload_n 0, 1) := by decide +kernel
theorem dX11_number_117 : decode cX11_number 117 = .ok (.iconst 2, 1) := by decide +kernel
theorem dX11_number_118 : decode cX11_number 118 = .ok (.iload_n 3, 1) := by decide +kernel
theorem dX11_number_119 : decode cX11_number 119 = .ok (.invokevirtual 132, 3) := by decide +kernel
theorem dX11_number_122 : decode cX11_number 122 = .ok (.aload_n 0, 1) := by decide +kernel
theorem dX11_number_123 : decode cX11_number 123 = .ok (.getfield 119, 3) := by decide +kernel
theorem dX11_number_126 : decode cX11_number 126 = .ok (.ifCond .ne 8, 3) := by decide +kernel
theorem dX11_number_129 : decode cX11_number 129 = .ok (.iload 4, 2) := by decide +kernel
theorem dX11_number_131 : decode cX11_number 131 = .ok (.goto 4, 3) := by decide +kernel
theorem dX11_number_134 : decode cX11_number 134 = .ok (.iconst 0, 1) := by decide +kernel
theorem dX11_number_135 : decode cX11_number 135 = .ok (.ireturn, 1) := by decide +kernel
theorem dX11_wordHere_0 : decode cX11_wordHere 0 = .ok (.aload_n 0, 1) := by decide +kernel
theorem dX11_wordHere_1 : decode cX11_wordHere 1 = .ok (.invokevirtual 125, 3) := by decide +kernel
theorem dX11_wordHere_4 : decode cX11_wordHere 4 = .ok (.iconst 0, 1) := by decide +kernel
theorem dX11_wordHere_5 : decode cX11_wordHere 5 = .ok (.istore_n 1, 1) := by decide +kernel
theorem dX11_wordHere_6 : decode cX11_wordHere 6 = .ok (.iconst 0, 1) := by decide +kernel
theorem dX11_wordHere_7 : decode cX11_wordHere 7 = .ok (.istore_n 2, 1) := by decide +kernel
theorem dX11_wordHere_8 : decode cX11_wordHere 8 = .ok (.aload_n 0, 1) := by decide +kernel
theorem dX11_wordHere_9 : decode cX11_wordHere 9 = .ok (.aload_n 0, 1) := by decide +kernel
theorem dX11_wordHere_10 : decode cX11_wordHere 10 = .ok (.getfield 112, 3) := by decide +kernel
theorem dX11_wordHere_13 : decode cX11_wordHere 13 = .ok (.iload_n 2, 1) := by decide +kernel
theorem dX11_wordHere_14 : decode cX11_wordHere 14 = .ok (.iadd, 1) := by decide +kernel
theorem dX11_wordHere_15 : decode cX11_wordHere 15 = .ok (.invokevirtual 115, 3) := by decide +kernel
theorem dX11_wordHere_18 : decode cX11_wordHere 18 = .ok (.invokestatic 141, 3) := by decide +kernel
theorem dX11_wordHere_21 : decode cX11_wordHere 21 = .ok (.ifCond .eq 40, 3) := by decide +kernel
theorem dX11_wordHere_24 : decode cX11_wordHere 24 = .ok (.iload_n 2, 1) := by decide +kernel
theorem dX11_wordHere_25 : decode cX11_wordHere 25 = .ok (.bipush 6, 2) := by decide +kernel
theorem dX11_wordHere_27 : decode cX11_wordHere 27 = .ok (.if_icmp .ge 26, 3) := by decide +kernel
theorem dX11_wordHere_30 : decode cX11_wordHere 30 = .ok (.bipush 27, 2) := by decide +kernel
theorem dX11_wordHere_32 : decode cX11_wordHere 32 = .ok (.iload_n 1, 1) := by decide +kernel
theorem dX11_wordHere_33 : decode cX11_wordHere 33 = .ok (.imul, 1) := by decide +kernel
theorem dX11_wordHere_34 : decode cX11_wordHere 34 = .ok (.aload_n 0, 1) := by decide +kernel
theorem dX11_wordHere_35 : decode cX11_wordHere 35 = .ok (.aload_n 0, 1) := by decide +kernel
theorem dX11_wordHere_36 : decode cX11_wordHere 36 = .ok (.getfield 112, 3) := by decide +kernel
theorem dX11_wordHere_39 : decode cX11_wordHere 39 = .ok (.iload_n 2, 1) := by decide +kernel
theorem dX11_wordHere_40 : decode cX11_wordHere 40 = .ok (.iadd, 1) := by decide +kernel
theorem dX11_wordHere_41 : decode cX11_wordHere 41 = .ok (.invokevirtual 115, 3) := by decide +kernel
theorem dX11_wordHere_44 : decode cX11_wordHere 44 = .ok (.iadd, 1) := by decide +kernel
theorem dX11_wordHere_45 : decode cX11_wordHere 45 = .ok (.bipush 97, 2) := by decide +kernel
theorem dX11_wordHere_47 : decode cX11_wordHere 47 = .ok (.isub, 1) := by decide +kernel
theorem dX11_wordHere_48 : decode cX11_wordHere 48 = .ok (.iconst 1, 1) := by decide +kernel
theorem dX11_wordHere_49 : decode cX11_wordHere 49 = .ok (.iadd, 1) := by decide +kernel
theorem dX11_wordHere_50 : decode cX11_wordHere 50 = .ok (.goto 4, 3) := by decide +kernel
theorem dX11_wordHere_53 : decode cX11_wordHere 53 = .ok (.iload_n 1, 1) := by decide +kernel
theorem dX11_wordHere_54 : decode cX11_wordHere 54 = .ok (.istore_n 1, 1) := by decide +kernel
theorem dX11_wordHere_55 : decode cX11_wordHere 55 = .ok (.iinc 2 1, 3) := by decide +kernel
theorem dX11_wordHere_58 : decode cX11_wordHere 58 = .ok (.goto (-50), 3) := by decide +kernel
theorem dX11_wordHere_61 : decode cX11_wordHere 61 = .ok (.iload_n 2, 1) := by decide +kernel
theorem dX11_wordHere_62 : decode cX11_wordHere 62 = .ok (.bipush 6, 2) := by decide +kernel
theorem dX11_wordHere_64 : decode cX11_wordHere 64 = .ok (.if_icmp .le 7, 3) := by decide +kernel
theorem dX11_wordHere_67 : decode cX11_wordHere 67 = .ok (.iconst (-1), 1) := by decide +kernel
theorem dX11_wordHere_68 : decode cX11_wordHere 68 = .ok (.goto 4, 3) := by decide +kernel
theorem dX11_wordHere_71 : decode cX11_wordHere 71 = .ok (.iload_n 1, 1) := by decide +kernel
theorem dX11_wordHere_72 : decode cX11_wordHere 72 = .ok (.ireturn, 1) := by decide +kernel
theorem dX11_six_0 : decode cX11_six 0 = .ok (.bipush 27, 2) := by decide +kernel
theorem dX11_six_2 : decode cX11_six 2 = .ok (.bipush 27, 2) := by decide +kernel
theorem dX11_six_4 : decode cX11_six 4 = .ok (.iload_n 0, 1) := by decide +kernel
theorem dX11_six_5 : decode cX11_six 5 = .ok (.imul, 1) := by decide +kernel
theorem dX11_six_6 : decode cX11_six 6 = .ok (.iload_n 1, 1) := by decide +kernel
theorem dX11_six_7 : decode cX11_six 7 = .ok (.iadd, 1) := by decide +kernel
theorem dX11_six_8 : decode cX11_six 8 = .ok (.imul, 1) := by decide +kernel
theorem dX11_six_9 : decode cX11_six 9 = .ok (.iload_n 2, 1) := by decide +kernel
theorem dX11_six_10 : decode cX11_six 10 = .ok (.iadd, 1) := by decide +kernel
theorem dX11_six_11 : decode cX11_six 11 = .ok (.istore 6, 2) := by decide +kernel
theorem dX11_six_13 : decode cX11_six 13 = .ok (.iload_n 3, 1) := by decide +kernel
theorem dX11_six_14 : decode cX11_six 14 = .ok (.ifCond .ne 8, 3) := by decide +kernel
theorem dX11_six_17 : decode cX11_six 17 = .ok (.iload 6, 2) := by decide +kernel
theorem dX11_six_19 : decode cX11_six 19 = .ok (.goto 10, 3) := by decide +kernel
theorem dX11_six_22 : decode cX11_six 22 = .ok (.bipush 27, 2) := by decide +kernel
theorem dX11_six_24 : decode cX11_six 24 = .ok (.iload 6, 2) := by decide +kernel
theorem dX11_six_26 : decode cX11_six 26 = .ok (.imul, 1) := by decide +kernel
theorem dX11_six_27 : decode cX11_six 27 = .ok (.iload_n 3, 1) := by decide +kernel
theorem dX11_six_28 : decode cX11_six 28 = .ok (.iadd, 1) := by decide +kernel
theorem dX11_six_29 : decode cX11_six 29 = .ok (.istore 6, 2) := by decide +kernel
theorem dX11_six_31 : decode cX11_six 31 = .ok (.iload 4, 2) := by decide +kernel
theorem dX11_six_33 : decode cX11_six 33 = .ok (.ifCond .ne 8, 3) := by decide +kernel
theorem dX11_six_36 : decode cX11_six 36 = .ok (.iload 6, 2) := by decide +kernel
theorem dX11_six_38 : decode cX11_six 38 = .ok (.goto 11, 3) := by decide +kernel
theorem dX11_six_41 : decode cX11_six 41 = .ok (.bipush 27, 2) := by decide +kernel
theorem dX11_six_43 : decode cX11_six 43 = .ok (.iload 6, 2) := by decide +kernel
theorem dX11_six_45 : decode cX11_six 45 = .ok (.imul, 1) := by decide +kernel
theorem dX11_six_46 : decode cX11_six 46 = .ok (.iload 4, 2) := by decide +kernel
theorem dX11_six_48 : decode cX11_six 48 = .ok (.iadd, 1) := by decide +kernel
theorem dX11_six_49 : decode cX11_six 49 = .ok (.istore 6, 2) := by decide +kernel
theorem dX11_six_51 : decode cX11_six 51 = .ok (.iload 5, 2) := by decide +kernel
theorem dX11_six_53 : decode cX11_six 53 = .ok (.ifCond .ne 8, 3) := by decide +kernel
theorem dX11_six_56 : decode cX11_six 56 = .ok (.iload 6, 2) := by decide +kernel
theorem dX11_six_58 : decode cX11_six 58 = .ok (.goto 11, 3) := by decide +kernel
theorem dX11_six_61 : decode cX11_six 61 = .ok (.bipush 27, 2) := by decide +kernel
theorem dX11_six_63 : decode cX11_six 63 = .ok (.iload 6, 2) := by decide +kernel
theorem dX11_six_65 : decode cX11_six 65 = .ok (.imul, 1) := by decide +kernel
theorem dX11_six_66 : decode cX11_six 66 = .ok (.iload 5, 2) := by decide +kernel
theorem dX11_six_68 : decode cX11_six 68 = .ok (.iadd, 1) := by decide +kernel
theorem dX11_six_69 : decode cX11_six 69 = .ok (.ireturn, 1) := by decide +kernel
theorem dX11_isWord_0 : decode cX11_isWord 0 = .ok (.aload_n 0, 1) := by decide +kernel
theorem dX11_isWord_1 : decode cX11_isWord 1 = .ok (.getfield 119, 3) := by decide +kernel
theorem dX11_isWord_4 : decode cX11_isWord 4 = .ok (.ifCond .ne 26, 3) := by decide +kernel
theorem dX11_isWord_7 : decode cX11_isWord 7 = .ok (.aload_n 0, 1) := by decide +kernel
theorem dX11_isWord_8 : decode cX11_isWord 8 = .ok (.invokevirtual 144, 3) := by decide +kernel
theorem dX11_isWord_11 : decode cX11_isWord 11 = .ok (.iload_n 1, 1) := by decide +kernel
theorem dX11_isWord_12 : decode cX11_isWord 12 = .ok (.iload_n 2, 1) := by decide +kernel
theorem dX11_isWord_13 : decode cX11_isWord 13 = .ok (.iload_n 3, 1) := by decide +kernel
theorem dX11_isWord_14 : decode cX11_isWord 14 = .ok (.iload 4, 2) := by decide +kernel
theorem dX11_isWord_16 : decode cX11_isWord 16 = .ok (.iload 5, 2) := by decide +kernel
theorem dX11_isWord_18 : decode cX11_isWord 18 = .ok (.iload 6, 2) := by decide +kernel
theorem dX11_isWord_20 : decode cX11_isWord 20 = .ok (.invokestatic 148, 3) := by decide +kernel
theorem dX11_isWord_23 : decode cX11_isWord 23 = .ok (.if_icmp .ne 7, 3) := by decide +kernel
theorem dX11_isWord_26 : decode cX11_isWord 26 = .ok (.iconst 1, 1) := by decide +kernel
theorem dX11_isWord_27 : decode cX11_isWord 27 = .ok (.goto 4, 3) := by decide +kernel
theorem dX11_isWord_30 : decode cX11_isWord 30 = .ok (.iconst 0, 1) := by decide +kernel
theorem dX11_isWord_31 : decode cX11_isWord 31 = .ok (.ireturn, 1) := by decide +kernel
theorem dX11_skipWord_0 : decode cX11_skipWord 0 = .ok (.aload_n 0, 1) := by decide +kernel
theorem dX11_skipWord_1 : decode cX11_skipWord 1 = .ok (.aload_n 0, 1) := by decide +kernel
theorem dX11_skipWord_2 : decode cX11_skipWord 2 = .ok (.getfield 112, 3) := by decide +kernel
theorem dX11_skipWord_5 : decode cX11_skipWord 5 = .ok (.invokevirtual 115, 3) := by decide +kernel
theorem dX11_skipWord_8 : decode cX11_skipWord 8 = .ok (.invokestatic 141, 3) := by decide +kernel
theorem dX11_skipWord_11 : decode cX11_skipWord 11 = .ok (.ifCond .eq 16, 3) := by decide +kernel
theorem dX11_skipWord_14 : decode cX11_skipWord 14 = .ok (.aload_n 0, 1) := by decide +kernel
theorem dX11_skipWord_15 : decode cX11_skipWord 15 = .ok (.dup, 1) := by decide +kernel
theorem dX11_skipWord_16 : decode cX11_skipWord 16 = .ok (.getfield 112, 3) := by decide +kernel
theorem dX11_skipWord_19 : decode cX11_skipWord 19 = .ok (.iconst 1, 1) := by decide +kernel
theorem dX11_skipWord_20 : decode cX11_skipWord 20 = .ok (.iadd, 1) := by decide +kernel
theorem dX11_skipWord_21 : decode cX11_skipWord 21 = .ok (.putfield 112, 3) := by decide +kernel
theorem dX11_skipWord_24 : decode cX11_skipWord 24 = .ok (.goto (-24), 3) := by decide +kernel
theorem dX11_skipWord_27 : decode cX11_skipWord 27 = .ok (.return_, 1) := by decide +kernel
theorem dX11_takes_0 : decode cX11_takes 0 = .ok (.aload_n 0, 1) := by decide +kernel
theorem dX11_takes_1 : decode cX11_takes 1 = .ok (.iload_n 1, 1) := by decide +kernel
theorem dX11_takes_2 : decode cX11_takes 2 = .ok (.iload_n 2, 1) := by decide +kernel
theorem dX11_takes_3 : decode cX11_takes 3 = .ok (.iload_n 3, 1) := by decide +kernel
theorem dX11_takes_4 : decode cX11_takes 4 = .ok (.iload 4, 2) := by decide +kernel
theorem dX11_takes_6 : decode cX11_takes 6 = .ok (.iload 5, 2) := by decide +kernel
theorem dX11_takes_8 : decode cX11_takes 8 = .ok (.iload 6, 2) := by decide +kernel
theorem dX11_takes_10 : decode cX11_takes 10 = .ok (.invokevirtual 152, 3) := by decide +kernel
theorem dX11_takes_13 : decode cX11_takes 13 = .ok (.istore 7, 2) := by decide +kernel
theorem dX11_takes_15 : decode cX11_takes 15 = .ok (.iload 7, 2) := by decide +kernel
theorem dX11_takes_17 : decode cX11_takes 17 = .ok (.ifCond .eq 7, 3) := by decide +kernel
theorem dX11_takes_20 : decode cX11_takes 20 = .ok (.aload_n 0, 1) := by decide +kernel
theorem dX11_takes_21 : decode cX11_takes 21 = .ok (.invokevirtual 156, 3) := by decide +kernel
theorem dX11_takes_24 : decode cX11_takes 24 = .ok (.iload 7, 2) := by decide +kernel
theorem dX11_takes_26 : decode cX11_takes 26 = .ok (.ireturn, 1) := by decide +kernel
theorem dX11_sign_0 : decode cX11_sign 0 = .ok (.aload_n 0, 1) := by decide +kernel
theorem dX11_sign_1 : decode cX11_sign 1 = .ok (.getfield 119, 3) := by decide +kernel
theorem dX11_sign_4 : decode cX11_sign 4 = .ok (.ifCond .eq 4, 3) := by decide +kernel
theorem dX11_sign_7 : decode cX11_sign 7 = .ok (.return_, 1) := by decide +kernel
theorem dX11_sign_8 : decode cX11_sign 8 = .ok (.aload_n 0, 1) := by decide +kernel
theorem dX11_sign_9 : decode cX11_sign 9 = .ok (.invokevirtual 125, 3) := by decide +kernel
theorem dX11_sign_12 : decode cX11_sign 12 = .ok (.aload_n 0, 1) := by decide +kernel
theorem dX11_sign_13 : decode cX11_sign 13 = .ok (.aload_n 0, 1) := by decide +kernel
theorem dX11_sign_14 : decode cX11_sign 14 = .ok (.getfield 112, 3) := by decide +kernel
theorem dX11_sign_17 : decode cX11_sign 17 = .ok (.invokevirtual 115, 3) := by decide +kernel
theorem dX11_sign_20 : decode cX11_sign 20 = .ok (.iload_n 1, 1) := by decide +kernel
theorem dX11_sign_21 : decode cX11_sign 21 = .ok (.if_icmp .ne 16, 3) := by decide +kernel
theorem dX11_sign_24 : decode cX11_sign 24 = .ok (.aload_n 0, 1) := by decide +kernel
theorem dX11_sign_25 : decode cX11_sign 25 = .ok (.dup, 1) := by decide +kernel
theorem dX11_sign_26 : decode cX11_sign 26 = .ok (.getfield 112, 3) := by decide +kernel
theorem dX11_sign_29 : decode cX11_sign 29 = .ok (.iconst 1, 1) := by decide +kernel
theorem dX11_sign_30 : decode cX11_sign 30 = .ok (.iadd, 1) := by decide +kernel
theorem dX11_sign_31 : decode cX11_sign 31 = .ok (.putfield 112, 3) := by decide +kernel
theorem dX11_sign_34 : decode cX11_sign 34 = .ok (.goto 12, 3) := by decide +kernel
theorem dX11_sign_37 : decode cX11_sign 37 = .ok (.aload_n 0, 1) := by decide +kernel
theorem dX11_sign_38 : decode cX11_sign 38 = .ok (.iconst 1, 1) := by decide +kernel
theorem dX11_sign_39 : decode cX11_sign 39 = .ok (.aload_n 0, 1) := by decide +kernel
theorem dX11_sign_40 : decode cX11_sign 40 = .ok (.getfield 112, 3) := by decide +kernel
theorem dX11_sign_43 : decode cX11_sign 43 = .ok (.invokevirtual 132, 3) := by decide +kernel
theorem dX11_sign_46 : decode cX11_sign 46 = .ok (.return_, 1) := by decide +kernel
theorem dX11_takesSign_0 : decode cX11_takesSign 0 = .ok (.aload_n 0, 1) := by decide +kernel
theorem dX11_takesSign_1 : decode cX11_takesSign 1 = .ok (.getfield 119, 3) := by decide +kernel
theorem dX11_takesSign_4 : decode cX11_takesSign 4 = .ok (.ifCond .eq 5, 3) := by decide +kernel
theorem dX11_takesSign_7 : decode cX11_takesSign 7 = .ok (.iconst 0, 1) := by decide +kernel
theorem dX11_takesSign_8 : decode cX11_takesSign 8 = .ok (.ireturn, 1) := by decide +kernel
theorem dX11_takesSign_9 : decode cX11_takesSign 9 = .ok (.aload_n 0, 1) := by decide +kernel
theorem dX11_takesSign_10 : decode cX11_takesSign 10 = .ok (.invokevirtual 125, 3) := by decide +kernel
theorem dX11_takesSign_13 : decode cX11_takesSign 13 = .ok (.aload_n 0, 1) := by decide +kernel
theorem dX11_takesSign_14 : decode cX11_takesSign 14 = .ok (.aload_n 0, 1) := by decide +kernel
theorem dX11_takesSign_15 : decode cX11_takesSign 15 = .ok (.getfield 112, 3) := by decide +kernel
theorem dX11_takesSign_18 : decode cX11_takesSign 18 = .ok (.invokevirtual 115, 3) := by decide +kernel
theorem dX11_takesSign_21 : decode cX11_takesSign 21 = .ok (.iload_n 1, 1) := by decide +kernel
theorem dX11_takesSign_22 : decode cX11_takesSign 22 = .ok (.if_icmp .ne 7, 3) := by decide +kernel
theorem dX11_takesSign_25 : decode cX11_takesSign 25 = .ok (.iconst 1, 1) := by decide +kernel
theorem dX11_takesSign_26 : decode cX11_takesSign 26 = .ok (.goto 4, 3) := by decide +kernel
theorem dX11_takesSign_29 : decode cX11_takesSign 29 = .ok (.iconst 0, 1) := by decide +kernel
theorem dX11_takesSign_30 : decode cX11_takesSign 30 = .ok (.istore_n 2, 1) := by decide +kernel
theorem dX11_takesSign_31 : decode cX11_takesSign 31 = .ok (.iload_n 2, 1) := by decide +kernel
theorem dX11_takesSign_32 : decode cX11_takesSign 32 = .ok (.ifCond .eq 13, 3) := by decide +kernel
theorem dX11_takesSign_35 : decode cX11_takesSign 35 = .ok (.aload_n 0, 1) := by decide +kernel
theorem dX11_takesSign_36 : decode cX11_takesSign 36 = .ok (.dup, 1) := by decide +kernel
theorem dX11_takesSign_37 : decode cX11_takesSign 37 = .ok (.getfield 112, 3) := by decide +kernel
theorem dX11_takesSign_40 : decode cX11_takesSign 40 = .ok (.iconst 1, 1) := by decide +kernel
theorem dX11_takesSign_41 : decode cX11_takesSign 41 = .ok (.iadd, 1) := by decide +kernel
theorem dX11_takesSign_42 : decode cX11_takesSign 42 = .ok (.putfield 112, 3) := by decide +kernel
theorem dX11_takesSign_45 : decode cX11_takesSign 45 = .ok (.iload_n 2, 1) := by decide +kernel
theorem dX11_takesSign_46 : decode cX11_takesSign 46 = .ok (.ireturn, 1) := by decide +kernel
theorem dX11_starts_0 : decode cX11_starts 0 = .ok (.aload_n 0, 1) := by decide +kernel
theorem dX11_starts_1 : decode cX11_starts 1 = .ok (.iconst 0, 1) := by decide +kernel
theorem dX11_starts_2 : decode cX11_starts 2 = .ok (.putfield 106, 3) := by decide +kernel
theorem dX11_starts_5 : decode cX11_starts 5 = .ok (.aload_n 0, 1) := by decide +kernel
theorem dX11_starts_6 : decode cX11_starts 6 = .ok (.iload_n 1, 1) := by decide +kernel
theorem dX11_starts_7 : decode cX11_starts 7 = .ok (.putfield 109, 3) := by decide +kernel
theorem dX11_starts_10 : decode cX11_starts 10 = .ok (.aload_n 0, 1) := by decide +kernel
theorem dX11_starts_11 : decode cX11_starts 11 = .ok (.iconst 0, 1) := by decide +kernel
theorem dX11_starts_12 : decode cX11_starts 12 = .ok (.putfield 112, 3) := by decide +kernel
theorem dX11_starts_15 : decode cX11_starts 15 = .ok (.aload_n 0, 1) := by decide +kernel
theorem dX11_starts_16 : decode cX11_starts 16 = .ok (.iconst 0, 1) := by decide +kernel
theorem dX11_starts_17 : decode cX11_starts 17 = .ok (.putfield 119, 3) := by decide +kernel
theorem dX11_starts_20 : decode cX11_starts 20 = .ok (.aload_n 0, 1) := by decide +kernel
theorem dX11_starts_21 : decode cX11_starts 21 = .ok (.iconst (-1), 1) := by decide +kernel
theorem dX11_starts_22 : decode cX11_starts 22 = .ok (.putfield 122, 3) := by decide +kernel
theorem dX11_starts_25 : decode cX11_starts 25 = .ok (.aload_n 0, 1) := by decide +kernel
theorem dX11_starts_26 : decode cX11_starts 26 = .ok (.iconst 0, 1) := by decide +kernel
theorem dX11_starts_27 : decode cX11_starts 27 = .ok (.putfield 159, 3) := by decide +kernel
theorem dX11_starts_30 : decode cX11_starts 30 = .ok (.aload_n 0, 1) := by decide +kernel
theorem dX11_starts_31 : decode cX11_starts 31 = .ok (.iconst 0, 1) := by decide +kernel
theorem dX11_starts_32 : decode cX11_starts 32 = .ok (.putfield 162, 3) := by decide +kernel
theorem dX11_starts_35 : decode cX11_starts 35 = .ok (.aload_n 0, 1) := by decide +kernel
theorem dX11_starts_36 : decode cX11_starts 36 = .ok (.invokevirtual 125, 3) := by decide +kernel
theorem dX11_starts_39 : decode cX11_starts 39 = .ok (.return_, 1) := by decide +kernel
theorem dX11_ends_0 : decode cX11_ends 0 = .ok (.aload_n 0, 1) := by decide +kernel
theorem dX11_ends_1 : decode cX11_ends 1 = .ok (.aload_n 0, 1) := by decide +kernel
theorem dX11_ends_2 : decode cX11_ends 2 = .ok (.getfield 122, 3) := by decide +kernel
theorem dX11_ends_5 : decode cX11_ends 5 = .ok (.putfield 9, 3) := by decide +kernel
theorem dX11_ends_8 : decode cX11_ends 8 = .ok (.aload_n 0, 1) := by decide +kernel
theorem dX11_ends_9 : decode cX11_ends 9 = .ok (.getfield 119, 3) := by decide +kernel
theorem dX11_ends_12 : decode cX11_ends 12 = .ok (.bipush 10, 2) := by decide +kernel
theorem dX11_ends_14 : decode cX11_ends 14 = .ok (.isub, 1) := by decide +kernel
theorem dX11_ends_15 : decode cX11_ends 15 = .ok (.ireturn, 1) := by decide +kernel
theorem dX11_isPilgrim_0 : decode cX11_isPilgrim 0 = .ok (.aload_n 0, 1) := by decide +kernel
theorem dX11_isPilgrim_1 : decode cX11_isPilgrim 1 = .ok (.invokevirtual 125, 3) := by decide +kernel
theorem dX11_isPilgrim_4 : decode cX11_isPilgrim 4 = .ok (.iconst 0, 1) := by decide +kernel
theorem dX11_isPilgrim_5 : decode cX11_isPilgrim 5 = .ok (.istore_n 1, 1) := by decide +kernel
theorem dX11_isPilgrim_6 : decode cX11_isPilgrim 6 = .ok (.iconst 0, 1) := by decide +kernel
theorem dX11_isPilgrim_7 : decode cX11_isPilgrim 7 = .ok (.istore_n 2, 1) := by decide +kernel
theorem dX11_isPilgrim_8 : decode cX11_isPilgrim 8 = .ok (.aload_n 0, 1) := by decide +kernel
theorem dX11_isPilgrim_9 : decode cX11_isPilgrim 9 = .ok (.aload_n 0, 1) := by decide +kernel
theorem dX11_isPilgrim_10 : decode cX11_isPilgrim 10 = .ok (.getfield 112, 3) := by decide +kernel
theorem dX11_isPilgrim_13 : decode cX11_isPilgrim 13 = .ok (.iload_n 2, 1) := by decide +kernel
theorem dX11_isPilgrim_14 : decode cX11_isPilgrim 14 = .ok (.iadd, 1) := by decide +kernel
theorem dX11_isPilgrim_15 : decode cX11_isPilgrim 15 = .ok (.invokevirtual 115, 3) := by decide +kernel
theorem dX11_isPilgrim_18 : decode cX11_isPilgrim 18 = .ok (.invokestatic 141, 3) := by decide +kernel
theorem dX11_isPilgrim_21 : decode cX11_isPilgrim 21 = .ok (.ifCond .eq 40, 3) := by decide +kernel
theorem dX11_isPilgrim_24 : decode cX11_isPilgrim 24 = .ok (.iload_n 2, 1) := by decide +kernel
theorem dX11_isPilgrim_25 : decode cX11_isPilgrim 25 = .ok (.bipush 6, 2) := by decide +kernel
theorem dX11_isPilgrim_27 : decode cX11_isPilgrim 27 = .ok (.if_icmp .ge 26, 3) := by decide +kernel
theorem dX11_isPilgrim_30 : decode cX11_isPilgrim 30 = .ok (.bipush 27, 2) := by decide +kernel
theorem dX11_isPilgrim_32 : decode cX11_isPilgrim 32 = .ok (.iload_n 1, 1) := by decide +kernel
theorem dX11_isPilgrim_33 : decode cX11_isPilgrim 33 = .ok (.imul, 1) := by decide +kernel
theorem dX11_isPilgrim_34 : decode cX11_isPilgrim 34 = .ok (.aload_n 0, 1) := by decide +kernel
theorem dX11_isPilgrim_35 : decode cX11_isPilgrim 35 = .ok (.aload_n 0, 1) := by decide +kernel
theorem dX11_isPilgrim_36 : decode cX11_isPilgrim 36 = .ok (.getfield 112, 3) := by decide +kernel
theorem dX11_isPilgrim_39 : decode cX11_isPilgrim 39 = .ok (.iload_n 2, 1) := by decide +kernel
theorem dX11_isPilgrim_40 : decode cX11_isPilgrim 40 = .ok (.iadd, 1) := by decide +kernel
theorem dX11_isPilgrim_41 : decode cX11_isPilgrim 41 = .ok (.invokevirtual 115, 3) := by decide +kernel
theorem dX11_isPilgrim_44 : decode cX11_isPilgrim 44 = .ok (.iadd, 1) := by decide +kernel
theorem dX11_isPilgrim_45 : decode cX11_isPilgrim 45 = .ok (.bipush 97, 2) := by decide +kernel
theorem dX11_isPilgrim_47 : decode cX11_isPilgrim 47 = .ok (.isub, 1) := by decide +kernel
theorem dX11_isPilgrim_48 : decode cX11_isPilgrim 48 = .ok (.iconst 1, 1) := by decide +kernel
theorem dX11_isPilgrim_49 : decode cX11_isPilgrim 49 = .ok (.iadd, 1) := by decide +kernel
theorem dX11_isPilgrim_50 : decode cX11_isPilgrim 50 = .ok (.goto 4, 3) := by decide +kernel
theorem dX11_isPilgrim_53 : decode cX11_isPilgrim 53 = .ok (.iload_n 1, 1) := by decide +kernel
theorem dX11_isPilgrim_54 : decode cX11_isPilgrim 54 = .ok (.istore_n 1, 1) := by decide +kernel
theorem dX11_isPilgrim_55 : decode cX11_isPilgrim 55 = .ok (.iinc 2 1, 3) := by decide +kernel
theorem dX11_isPilgrim_58 : decode cX11_isPilgrim 58 = .ok (.goto (-50), 3) := by decide +kernel
theorem dX11_isPilgrim_61 : decode cX11_isPilgrim 61 = .ok (.iload_n 2, 1) := by decide +kernel
theorem dX11_isPilgrim_62 : decode cX11_isPilgrim 62 = .ok (.bipush 7, 2) := by decide +kernel
theorem dX11_isPilgrim_64 : decode cX11_isPilgrim 64 = .ok (.if_icmp .ne 42, 3) := by decide +kernel
theorem dX11_isPilgrim_67 : decode cX11_isPilgrim 67 = .ok (.iload_n 1, 1) := by decide +kernel
theorem dX11_isPilgrim_68 : decode cX11_isPilgrim 68 = .ok (.bipush 16, 2) := by decide +kernel
theorem dX11_isPilgrim_70 : decode cX11_isPilgrim 70 = .ok (.bipush 9, 2) := by decide +kernel
theorem dX11_isPilgrim_72 : decode cX11_isPilgrim 72 = .ok (.bipush 12, 2) := by decide +kernel
theorem dX11_isPilgrim_74 : decode cX11_isPilgrim 74 = .ok (.bipush 7, 2) := by decide +kernel
theorem dX11_isPilgrim_76 : decode cX11_isPilgrim 76 = .ok (.bipush 18, 2) := by decide +kernel
theorem dX11_isPilgrim_78 : decode cX11_isPilgrim 78 = .ok (.bipush 9, 2) := by decide +kernel
theorem dX11_isPilgrim_80 : decode cX11_isPilgrim 80 = .ok (.invokestatic 148, 3) := by decide +kernel
theorem dX11_isPilgrim_83 : decode cX11_isPilgrim 83 = .ok (.if_icmp .ne 23, 3) := by decide +kernel
theorem dX11_isPilgrim_86 : decode cX11_isPilgrim 86 = .ok (.aload_n 0, 1) := by decide +kernel
theorem dX11_isPilgrim_87 : decode cX11_isPilgrim 87 = .ok (.aload_n 0, 1) := by decide +kernel
theorem dX11_isPilgrim_88 : decode cX11_isPilgrim 88 = .ok (.getfield 112, 3) := by decide +kernel
theorem dX11_isPilgrim_91 : decode cX11_isPilgrim 91 = .ok (.bipush 6, 2) := by decide +kernel
theorem dX11_isPilgrim_93 : decode cX11_isPilgrim 93 = .ok (.iadd, 1) := by decide +kernel
theorem dX11_isPilgrim_94 : decode cX11_isPilgrim 94 = .ok (.invokevirtual 115, 3) := by decide +kernel
theorem dX11_isPilgrim_97 : decode cX11_isPilgrim 97 = .ok (.bipush 109, 2) := by decide +kernel
theorem dX11_isPilgrim_99 : decode cX11_isPilgrim 99 = .ok (.if_icmp .ne 7, 3) := by decide +kernel
theorem dX11_isPilgrim_102 : decode cX11_isPilgrim 102 = .ok (.iconst 1, 1) := by decide +kernel
theorem dX11_isPilgrim_103 : decode cX11_isPilgrim 103 = .ok (.goto 4, 3) := by decide +kernel
theorem dX11_isPilgrim_106 : decode cX11_isPilgrim 106 = .ok (.iconst 0, 1) := by decide +kernel
theorem dX11_isPilgrim_107 : decode cX11_isPilgrim 107 = .ok (.ireturn, 1) := by decide +kernel
theorem dX11_isTempted_0 : decode cX11_isTempted 0 = .ok (.aload_n 0, 1) := by decide +kernel
theorem dX11_isTempted_1 : decode cX11_isTempted 1 = .ok (.getfield 119, 3) := by decide +kernel
theorem dX11_isTempted_4 : decode cX11_isTempted 4 = .ok (.ifCond .eq 5, 3) := by decide +kernel
theorem dX11_isTempted_7 : decode cX11_isTempted 7 = .ok (.iconst 0, 1) := by decide +kernel
theorem dX11_isTempted_8 : decode cX11_isTempted 8 = .ok (.ireturn, 1) := by decide +kernel
theorem dX11_isTempted_9 : decode cX11_isTempted 9 = .ok (.aload_n 0, 1) := by decide +kernel
theorem dX11_isTempted_10 : decode cX11_isTempted 10 = .ok (.invokevirtual 125, 3) := by decide +kernel
theorem dX11_isTempted_13 : decode cX11_isTempted 13 = .ok (.iconst 0, 1) := by decide +kernel
theorem dX11_isTempted_14 : decode cX11_isTempted 14 = .ok (.istore_n 1, 1) := by decide +kernel
theorem dX11_isTempted_15 : decode cX11_isTempted 15 = .ok (.iconst 0, 1) := by decide +kernel
theorem dX11_isTempted_16 : decode cX11_isTempted 16 = .ok (.istore_n 2, 1) := by decide +kernel
theorem dX11_isTempted_17 : decode cX11_isTempted 17 = .ok (.aload_n 0, 1) := by decide +kernel
theorem dX11_isTempted_18 : decode cX11_isTempted 18 = .ok (.aload_n 0, 1) := by decide +kernel
theorem dX11_isTempted_19 : decode cX11_isTempted 19 = .ok (.getfield 112, 3) := by decide +kernel
theorem dX11_isTempted_22 : decode cX11_isTempted 22 = .ok (.iload_n 2, 1) := by decide +kernel
theorem dX11_isTempted_23 : decode cX11_isTempted 23 = .ok (.iadd, 1) := by decide +kernel
theorem dX11_isTempted_24 : decode cX11_isTempted 24 = .ok (.invokevirtual 115, 3) := by decide +kernel
theorem dX11_isTempted_27 : decode cX11_isTempted 27 = .ok (.invokestatic 141, 3) := by decide +kernel
theorem dX11_isTempted_30 : decode cX11_isTempted 30 = .ok (.ifCond .eq 40, 3) := by decide +kernel
theorem dX11_isTempted_33 : decode cX11_isTempted 33 = .ok (.iload_n 2, 1) := by decide +kernel
theorem dX11_isTempted_34 : decode cX11_isTempted 34 = .ok (.bipush 6, 2) := by decide +kernel
theorem dX11_isTempted_36 : decode cX11_isTempted 36 = .ok (.if_icmp .ge 26, 3) := by decide +kernel
theorem dX11_isTempted_39 : decode cX11_isTempted 39 = .ok (.bipush 27, 2) := by decide +kernel
theorem dX11_isTempted_41 : decode cX11_isTempted 41 = .ok (.iload_n 1, 1) := by decide +kernel
theorem dX11_isTempted_42 : decode cX11_isTempted 42 = .ok (.imul, 1) := by decide +kernel
theorem dX11_isTempted_43 : decode cX11_isTempted 43 = .ok (.aload_n 0, 1) := by decide +kernel
theorem dX11_isTempted_44 : decode cX11_isTempted 44 = .ok (.aload_n 0, 1) := by decide +kernel
theorem dX11_isTempted_45 : decode cX11_isTempted 45 = .ok (.getfield 112, 3) := by decide +kernel
theorem dX11_isTempted_48 : decode cX11_isTempted 48 = .ok (.iload_n 2, 1) := by decide +kernel
theorem dX11_isTempted_49 : decode cX11_isTempted 49 = .ok (.iadd, 1) := by decide +kernel
theorem dX11_isTempted_50 : decode cX11_isTempted 50 = .ok (.invokevirtual 115, 3) := by decide +kernel
theorem dX11_isTempted_53 : decode cX11_isTempted 53 = .ok (.iadd, 1) := by decide +kernel
theorem dX11_isTempted_54 : decode cX11_isTempted 54 = .ok (.bipush 97, 2) := by decide +kernel
theorem dX11_isTempted_56 : decode cX11_isTempted 56 = .ok (.isub, 1) := by decide +kernel
theorem dX11_isTempted_57 : decode cX11_isTempted 57 = .ok (.iconst 1, 1) := by decide +kernel
theorem dX11_isTempted_58 : decode cX11_isTempted 58 = .ok (.iadd, 1) := by decide +kernel
theorem dX11_isTempted_59 : decode cX11_isTempted 59 = .ok (.goto 4, 3) := by decide +kernel
theorem dX11_isTempted_62 : decode cX11_isTempted 62 = .ok (.iload_n 1, 1) := by decide +kernel
theorem dX11_isTempted_63 : decode cX11_isTempted 63 = .ok (.istore_n 1, 1) := by decide +kernel
theorem dX11_isTempted_64 : decode cX11_isTempted 64 = .ok (.iinc 2 1, 3) := by decide +kernel
theorem dX11_isTempted_67 : decode cX11_isTempted 67 = .ok (.goto (-50), 3) := by decide +kernel
theorem dX11_isTempted_70 : decode cX11_isTempted 70 = .ok (.iload_n 2, 1) := by decide +kernel
theorem dX11_isTempted_71 : decode cX11_isTempted 71 = .ok (.bipush 7, 2) := by decide +kernel
theorem dX11_isTempted_73 : decode cX11_isTempted 73 = .ok (.if_icmp .ne 40, 3) := by decide +kernel
theorem dX11_isTempted_76 : decode cX11_isTempted 76 = .ok (.iload_n 1, 1) := by decide +kernel
theorem dX11_isTempted_77 : decode cX11_isTempted 77 = .ok (.bipush 20, 2) := by decide +kernel
theorem dX11_isTempted_79 : decode cX11_isTempted 79 = .ok (.iconst 5, 1) := by decide +kernel
theorem dX11_isTempted_80 : decode cX11_isTempted 80 = .ok (.bipush 13, 2) := by decide +kernel
theorem dX11_isTempted_82 : decode cX11_isTempted 82 = .ok (.bipush 16, 2) := by decide +kernel
theorem dX11_isTempted_84 : decode cX11_isTempted 84 = .ok (.bipush 20, 2) := by decide +kernel
theorem dX11_isTempted_86 : decode cX11_isTempted 86 = .ok (.iconst 5, 1) := by decide +kernel
theorem dX11_isTempted_87 : decode cX11_isTempted 87 = .ok (.invokestatic 148, 3) := by decide +kernel
theorem dX11_isTempted_90 : decode cX11_isTempted 90 = .ok (.if_icmp .ne 23, 3) := by decide +kernel
theorem dX11_isTempted_93 : decode cX11_isTempted 93 = .ok (.aload_n 0, 1) := by decide +kernel
theorem dX11_isTempted_94 : decode cX11_isTempted 94 = .ok (.aload_n 0, 1) := by decide +kernel
theorem dX11_isTempted_95 : decode cX11_isTempted 95 = .ok (.getfield 112, 3) := by decide +kernel
theorem dX11_isTempted_98 : decode cX11_isTempted 98 = .ok (.bipush 6, 2) := by decide +kernel
theorem dX11_isTempted_100 : decode cX11_isTempted 100 = .ok (.iadd, 1) := by decide +kernel
theorem dX11_isTempted_101 : decode cX11_isTempted 101 = .ok (.invokevirtual 115, 3) := by decide +kernel
theorem dX11_isTempted_104 : decode cX11_isTempted 104 = .ok (.bipush 100, 2) := by decide +kernel
theorem dX11_isTempted_106 : decode cX11_isTempted 106 = .ok (.if_icmp .ne 7, 3) := by decide +kernel
theorem dX11_isTempted_109 : decode cX11_isTempted 109 = .ok (.iconst 1, 1) := by decide +kernel
theorem dX11_isTempted_110 : decode cX11_isTempted 110 = .ok (.goto 4, 3) := by decide +kernel
theorem dX11_isTempted_113 : decode cX11_isTempted 113 = .ok (.iconst 0, 1) := by decide +kernel
theorem dX11_isTempted_114 : decode cX11_isTempted 114 = .ok (.istore_n 3, 1) := by decide +kernel
theorem dX11_isTempted_115 : decode cX11_isTempted 115 = .ok (.iload_n 3, 1) := by decide +kernel
theorem dX11_isTempted_116 : decode cX11_isTempted 116 = .ok (.ifCond .eq 7, 3) := by decide +kernel
theorem dX11_isTempted_119 : decode cX11_isTempted 119 = .ok (.aload_n 0, 1) := by decide +kernel
theorem dX11_isTempted_120 : decode cX11_isTempted 120 = .ok (.invokevirtual 156, 3) := by decide +kernel
theorem dX11_isTempted_123 : decode cX11_isTempted 123 = .ok (.iload_n 3, 1) := by decide +kernel
theorem dX11_isTempted_124 : decode cX11_isTempted 124 = .ok (.ireturn, 1) := by decide +kernel
theorem dX11_kindHere_0 : decode cX11_kindHere 0 = .ok (.aload_n 0, 1) := by decide +kernel
theorem dX11_kindHere_1 : decode cX11_kindHere 1 = .ok (.bipush 19, 2) := by decide +kernel
theorem dX11_kindHere_3 : decode cX11_kindHere 3 = .ok (.bipush 9, 2) := by decide +kernel
theorem dX11_kindHere_5 : decode cX11_kindHere 5 = .ok (.bipush 19, 2) := by decide +kernel
theorem dX11_kindHere_7 : decode cX11_kindHere 7 = .ok (.bipush 20, 2) := by decide +kernel
theorem dX11_kindHere_9 : decode cX11_kindHere 9 = .ok (.iconst 5, 1) := by decide +kernel
theorem dX11_kindHere_10 : decode cX11_kindHere 10 = .ok (.bipush 18, 2) := by decide +kernel
theorem dX11_kindHere_12 : decode cX11_kindHere 12 = .ok (.invokevirtual 152, 3) := by decide +kernel
theorem dX11_kindHere_15 : decode cX11_kindHere 15 = .ok (.ifCond .eq 5, 3) := by decide +kernel
theorem dX11_kindHere_18 : decode cX11_kindHere 18 = .ok (.iconst 0, 1) := by decide +kernel
theorem dX11_kindHere_19 : decode cX11_kindHere 19 = .ok (.ireturn, 1) := by decide +kernel
theorem dX11_kindHere_20 : decode cX11_kindHere 20 = .ok (.aload_n 0, 1) := by decide +kernel
theorem dX11_kindHere_21 : decode cX11_kindHere 21 = .ok (.bipush 18, 2) := by decide +kernel
theorem dX11_kindHere_23 : decode cX11_kindHere 23 = .ok (.iconst 5, 1) := by decide +kernel
theorem dX11_kindHere_24 : decode cX11_kindHere 24 = .ok (.bipush 12, 2) := by decide +kernel
theorem dX11_kindHere_26 : decode cX11_kindHere 26 = .ok (.bipush 9, 2) := by decide +kernel
theorem dX11_kindHere_28 : decode cX11_kindHere 28 = .ok (.iconst 3, 1) := by decide +kernel
theorem dX11_kindHere_29 : decode cX11_kindHere 29 = .ok (.iconst 0, 1) := by decide +kernel
theorem dX11_kindHere_30 : decode cX11_kindHere 30 = .ok (.invokevirtual 152, 3) := by decide +kernel
theorem dX11_kindHere_33 : decode cX11_kindHere 33 = .ok (.ifCond .eq 5, 3) := by decide +kernel
theorem dX11_kindHere_36 : decode cX11_kindHere 36 = .ok (.iconst 1, 1) := by decide +kernel
theorem dX11_kindHere_37 : decode cX11_kindHere 37 = .ok (.ireturn, 1) := by decide +kernel
theorem dX11_kindHere_38 : decode cX11_kindHere 38 = .ok (.aload_n 0, 1) := by decide +kernel
theorem dX11_kindHere_39 : decode cX11_kindHere 39 = .ok (.getfield 119, 3) := by decide +kernel
theorem dX11_kindHere_42 : decode cX11_kindHere 42 = .ok (.ifCond .ne 12, 3) := by decide +kernel
theorem dX11_kindHere_45 : decode cX11_kindHere 45 = .ok (.aload_n 0, 1) := by decide +kernel
theorem dX11_kindHere_46 : decode cX11_kindHere 46 = .ok (.invokevirtual 165, 3) := by decide +kernel
theorem dX11_kindHere_49 : decode cX11_kindHere 49 = .ok (.ifCond .eq 5, 3) := by decide +kernel
theorem dX11_kindHere_52 : decode cX11_kindHere 52 = .ok (.iconst 2, 1) := by decide +kernel
theorem dX11_kindHere_53 : decode cX11_kindHere 53 = .ok (.ireturn, 1) := by decide +kernel
theorem dX11_kindHere_54 : decode cX11_kindHere 54 = .ok (.aload_n 0, 1) := by decide +kernel
theorem dX11_kindHere_55 : decode cX11_kindHere 55 = .ok (.bipush 22, 2) := by decide +kernel
theorem dX11_kindHere_57 : decode cX11_kindHere 57 = .ok (.bipush 15, 2) := by decide +kernel
theorem dX11_kindHere_59 : decode cX11_kindHere 59 = .ok (.bipush 23, 2) := by decide +kernel
theorem dX11_kindHere_61 : decode cX11_kindHere 61 = .ok (.iconst 0, 1) := by decide +kernel
theorem dX11_kindHere_62 : decode cX11_kindHere 62 = .ok (.iconst 0, 1) := by decide +kernel
theorem dX11_kindHere_63 : decode cX11_kindHere 63 = .ok (.iconst 0, 1) := by decide +kernel
theorem dX11_kindHere_64 : decode cX11_kindHere 64 = .ok (.invokevirtual 152, 3) := by decide +kernel
theorem dX11_kindHere_67 : decode cX11_kindHere 67 = .ok (.ifCond .eq 7, 3) := by decide +kernel
theorem dX11_kindHere_70 : decode cX11_kindHere 70 = .ok (.iconst 3, 1) := by decide +kernel
theorem dX11_kindHere_71 : decode cX11_kindHere 71 = .ok (.goto 4, 3) := by decide +kernel
theorem dX11_kindHere_74 : decode cX11_kindHere 74 = .ok (.iconst (-1), 1) := by decide +kernel
theorem dX11_kindHere_75 : decode cX11_kindHere 75 = .ok (.ireturn, 1) := by decide +kernel
theorem dX11_mostOf_0 : decode cX11_mostOf 0 = .ok (.iload_n 0, 1) := by decide +kernel
theorem dX11_mostOf_1 : decode cX11_mostOf 1 = .ok (.iconst 1, 1) := by decide +kernel
theorem dX11_mostOf_2 : decode cX11_mostOf 2 = .ok (.if_icmp .ne 8, 3) := by decide +kernel
theorem dX11_mostOf_5 : decode cX11_mostOf 5 = .ok (.bipush 10, 2) := by decide +kernel
theorem dX11_mostOf_7 : decode cX11_mostOf 7 = .ok (.goto 5, 3) := by decide +kernel
theorem dX11_mostOf_10 : decode cX11_mostOf 10 = .ok (.bipush 8, 2) := by decide +kernel
theorem dX11_mostOf_12 : decode cX11_mostOf 12 = .ok (.ireturn, 1) := by decide +kernel
theorem dX11_clause_0 : decode cX11_clause 0 = .ok (.aload_n 0, 1) := by decide +kernel
theorem dX11_clause_1 : decode cX11_clause 1 = .ok (.invokevirtual 169, 3) := by decide +kernel
theorem dX11_clause_4 : decode cX11_clause 4 = .ok (.istore_n 1, 1) := by decide +kernel
theorem dX11_clause_5 : decode cX11_clause 5 = .ok (.iload_n 1, 1) := by decide +kernel
theorem dX11_clause_6 : decode cX11_clause 6 = .ok (.iconst (-1), 1) := by decide +kernel
theorem dX11_clause_7 : decode cX11_clause 7 = .ok (.if_icmp .ne 15, 3) := by decide +kernel
theorem dX11_clause_10 : decode cX11_clause 10 = .ok (.aload_n 0, 1) := by decide +kernel
theorem dX11_clause_11 : decode cX11_clause 11 = .ok (.iconst 1, 1) := by decide +kernel
theorem dX11_clause_12 : decode cX11_clause 12 = .ok (.aload_n 0, 1) := by decide +kernel
theorem dX11_clause_13 : decode cX11_clause 13 = .ok (.getfield 112, 3) := by decide +kernel
theorem dX11_clause_16 : decode cX11_clause 16 = .ok (.invokevirtual 132, 3) := by decide +kernel
theorem dX11_clause_19 : decode cX11_clause 19 = .ok (.goto 39, 3) := by decide +kernel
theorem dX11_clause_22 : decode cX11_clause 22 = .ok (.aload_n 0, 1) := by decide +kernel
theorem dX11_clause_23 : decode cX11_clause 23 = .ok (.getfield 159, 3) := by decide +kernel
theorem dX11_clause_26 : decode cX11_clause 26 = .ok (.bipush 60, 2) := by decide +kernel
theorem dX11_clause_28 : decode cX11_clause 28 = .ok (.if_icmp .eq 21, 3) := by decide +kernel
theorem dX11_clause_31 : decode cX11_clause 31 = .ok (.iload_n 1, 1) := by decide +kernel
theorem dX11_clause_32 : decode cX11_clause 32 = .ok (.iconst 3, 1) := by decide +kernel
theorem dX11_clause_33 : decode cX11_clause 33 = .ok (.if_icmp .ge 25, 3) := by decide +kernel
theorem dX11_clause_36 : decode cX11_clause 36 = .ok (.aload_n 0, 1) := by decide +kernel
theorem dX11_clause_37 : decode cX11_clause 37 = .ok (.getfield 20, 3) := by decide +kernel
theorem dX11_clause_40 : decode cX11_clause 40 = .ok (.iload_n 1, 1) := by decide +kernel
theorem dX11_clause_41 : decode cX11_clause 41 = .ok (.iaload, 1) := by decide +kernel
theorem dX11_clause_42 : decode cX11_clause 42 = .ok (.iload_n 1, 1) := by decide +kernel
theorem dX11_clause_43 : decode cX11_clause 43 = .ok (.invokestatic 172, 3) := by decide +kernel
theorem dX11_clause_46 : decode cX11_clause 46 = .ok (.if_icmp .ne 12, 3) := by decide +kernel
theorem dX11_clause_49 : decode cX11_clause 49 = .ok (.aload_n 0, 1) := by decide +kernel
theorem dX11_clause_50 : decode cX11_clause 50 = .ok (.iconst 3, 1) := by decide +kernel
theorem dX11_clause_51 : decode cX11_clause 51 = .ok (.aload_n 0, 1) := by decide +kernel
theorem dX11_clause_52 : decode cX11_clause 52 = .ok (.getfield 112, 3) := by decide +kernel
theorem dX11_clause_55 : decode cX11_clause 55 = .ok (.invokevirtual 132, 3) := by decide +kernel
theorem dX11_clause_58 : decode cX11_clause 58 = .ok (.aload_n 0, 1) := by decide +kernel
theorem dX11_clause_59 : decode cX11_clause 59 = .ok (.getfield 119, 3) := by decide +kernel
theorem dX11_clause_62 : decode cX11_clause 62 = .ok (.ifCond .eq 4, 3) := by decide +kernel
theorem dX11_clause_65 : decode cX11_clause 65 = .ok (.return_, 1) := by decide +kernel
theorem dX11_clause_66 : decode cX11_clause 66 = .ok (.aload_n 0, 1) := by decide +kernel
theorem dX11_clause_67 : decode cX11_clause 67 = .ok (.invokevirtual 156, 3) := by decide +kernel
theorem dX11_clause_70 : decode cX11_clause 70 = .ok (.aload_n 0, 1) := by decide +kernel
theorem dX11_clause_71 : decode cX11_clause 71 = .ok (.dup, 1) := by decide +kernel
theorem dX11_clause_72 : decode cX11_clause 72 = .ok (.getfield 159, 3) := by decide +kernel
theorem dX11_clause_75 : decode cX11_clause 75 = .ok (.iconst 1, 1) := by decide +kernel
theorem dX11_clause_76 : decode cX11_clause 76 = .ok (.iadd, 1) := by decide +kernel
theorem dX11_clause_77 : decode cX11_clause 77 = .ok (.putfield 159, 3) := by decide +kernel
theorem dX11_clause_80 : decode cX11_clause 80 = .ok (.iload_n 1, 1) := by decide +kernel
theorem dX11_clause_81 : decode cX11_clause 81 = .ok (.iconst 3, 1) := by decide +kernel
theorem dX11_clause_82 : decode cX11_clause 82 = .ok (.if_icmp .ge 12, 3) := by decide +kernel
theorem dX11_clause_85 : decode cX11_clause 85 = .ok (.aload_n 0, 1) := by decide +kernel
theorem dX11_clause_86 : decode cX11_clause 86 = .ok (.getfield 20, 3) := by decide +kernel
theorem dX11_clause_89 : decode cX11_clause 89 = .ok (.iload_n 1, 1) := by decide +kernel
theorem dX11_clause_90 : decode cX11_clause 90 = .ok (.iaload, 1) := by decide +kernel
theorem dX11_clause_91 : decode cX11_clause 91 = .ok (.goto 4, 3) := by decide +kernel
theorem dX11_clause_94 : decode cX11_clause 94 = .ok (.iconst 0, 1) := by decide +kernel
theorem dX11_clause_95 : decode cX11_clause 95 = .ok (.istore_n 2, 1) := by decide +kernel
theorem dX11_clause_96 : decode cX11_clause 96 = .ok (.iload_n 1, 1) := by decide +kernel
theorem dX11_clause_97 : decode cX11_clause 97 = .ok (.tableswitch 128 0 2 #[27, 43, 96], 27) := by decide +kernel
theorem dX11_clause_124 : decode cX11_clause 124 = .ok (.aload_n 0, 1) := by decide +kernel
theorem dX11_clause_125 : decode cX11_clause 125 = .ok (.getfield 26, 3) := by decide +kernel
theorem dX11_clause_128 : decode cX11_clause 128 = .ok (.iload_n 2, 1) := by decide +kernel
theorem dX11_clause_129 : decode cX11_clause 129 = .ok (.aload_n 0, 1) := by decide +kernel
theorem dX11_clause_130 : decode cX11_clause 130 = .ok (.iconst 0, 1) := by decide +kernel
theorem dX11_clause_131 : decode cX11_clause 131 = .ok (.bipush 15, 2) := by decide +kernel
theorem dX11_clause_133 : decode cX11_clause 133 = .ok (.invokevirtual 175, 3) := by decide +kernel
theorem dX11_clause_136 : decode cX11_clause 136 = .ok (.iastore, 1) := by decide +kernel
theorem dX11_clause_137 : decode cX11_clause 137 = .ok (.goto 135, 3) := by decide +kernel
theorem dX11_clause_140 : decode cX11_clause 140 = .ok (.aload_n 0, 1) := by decide +kernel
theorem dX11_clause_141 : decode cX11_clause 141 = .ok (.getfield 40, 3) := by decide +kernel
theorem dX11_clause_144 : decode cX11_clause 144 = .ok (.iload_n 2, 1) := by decide +kernel
theorem dX11_clause_145 : decode cX11_clause 145 = .ok (.aaload, 1) := by decide +kernel
theorem dX11_clause_146 : decode cX11_clause 146 = .ok (.iconst 0, 1) := by decide +kernel
theorem dX11_clause_147 : decode cX11_clause 147 = .ok (.aload_n 0, 1) := by decide +kernel
theorem dX11_clause_148 : decode cX11_clause 148 = .ok (.iconst 0, 1) := by decide +kernel
theorem dX11_clause_149 : decode cX11_clause 149 = .ok (.aload_n 0, 1) := by decide +kernel
theorem dX11_clause_150 : decode cX11_clause 150 = .ok (.getfield 20, 3) := by decide +kernel
theorem dX11_clause_153 : decode cX11_clause 153 = .ok (.iconst 0, 1) := by decide +kernel
theorem dX11_clause_154 : decode cX11_clause 154 = .ok (.iaload, 1) := by decide +kernel
theorem dX11_clause_155 : decode cX11_clause 155 = .ok (.iconst 1, 1) := by decide +kernel
theorem dX11_clause_156 : decode cX11_clause 156 = .ok (.isub, 1) := by decide +kernel
theorem dX11_clause_157 : decode cX11_clause 157 = .ok (.invokevirtual 175, 3) := by decide +kernel
theorem dX11_clause_160 : decode cX11_clause 160 = .ok (.iastore, 1) := by decide +kernel
theorem dX11_clause_161 : decode cX11_clause 161 = .ok (.aload_n 0, 1) := by decide +kernel
theorem dX11_clause_162 : decode cX11_clause 162 = .ok (.getfield 40, 3) := by decide +kernel
theorem dX11_clause_165 : decode cX11_clause 165 = .ok (.iload_n 2, 1) := by decide +kernel
theorem dX11_clause_166 : decode cX11_clause 166 = .ok (.aaload, 1) := by decide +kernel
theorem dX11_clause_167 : decode cX11_clause 167 = .ok (.iconst 1, 1) := by decide +kernel
theorem dX11_clause_168 : decode cX11_clause 168 = .ok (.aload_n 0, 1) := by decide +kernel
theorem dX11_clause_169 : decode cX11_clause 169 = .ok (.iconst 0, 1) := by decide +kernel
theorem dX11_clause_170 : decode cX11_clause 170 = .ok (.iconst 5, 1) := by decide +kernel
theorem dX11_clause_171 : decode cX11_clause 171 = .ok (.invokevirtual 175, 3) := by decide +kernel
theorem dX11_clause_174 : decode cX11_clause 174 = .ok (.iastore, 1) := by decide +kernel
theorem dX11_clause_175 : decode cX11_clause 175 = .ok (.aload_n 0, 1) := by decide +kernel
theorem dX11_clause_176 : decode cX11_clause 176 = .ok (.getfield 40, 3) := by decide +kernel
theorem dX11_clause_179 : decode cX11_clause 179 = .ok (.iload_n 2, 1) := by decide +kernel
theorem dX11_clause_180 : decode cX11_clause 180 = .ok (.aaload, 1) := by decide +kernel
theorem dX11_clause_181 : decode cX11_clause 181 = .ok (.iconst 2, 1) := by decide +kernel
theorem dX11_clause_182 : decode cX11_clause 182 = .ok (.aload_n 0, 1) := by decide +kernel
theorem dX11_clause_183 : decode cX11_clause 183 = .ok (.iconst 1, 1) := by decide +kernel
theorem dX11_clause_184 : decode cX11_clause 184 = .ok (.bipush 30, 2) := by decide +kernel
theorem dX11_clause_186 : decode cX11_clause 186 = .ok (.invokevirtual 175, 3) := by decide +kernel
theorem dX11_clause_189 : decode cX11_clause 189 = .ok (.iastore, 1) := by decide +kernel
theorem dX11_clause_190 : decode cX11_clause 190 = .ok (.goto 82, 3) := by decide +kernel
theorem dX11_clause_193 : decode cX11_clause 193 = .ok (.aload_n 0, 1) := by decide +kernel
theorem dX11_clause_194 : decode cX11_clause 194 = .ok (.getfield 46, 3) := by decide +kernel
theorem dX11_clause_197 : decode cX11_clause 197 = .ok (.iload_n 2, 1) := by decide +kernel
theorem dX11_clause_198 : decode cX11_clause 198 = .ok (.aaload, 1) := by decide +kernel
theorem dX11_clause_199 : decode cX11_clause 199 = .ok (.iconst 0, 1) := by decide +kernel
theorem dX11_clause_200 : decode cX11_clause 200 = .ok (.aload_n 0, 1) := by decide +kernel
theorem dX11_clause_201 : decode cX11_clause 201 = .ok (.iconst 0, 1) := by decide +kernel
theorem dX11_clause_202 : decode cX11_clause 202 = .ok (.iconst 5, 1) := by decide +kernel
theorem dX11_clause_203 : decode cX11_clause 203 = .ok (.invokevirtual 175, 3) := by decide +kernel
theorem dX11_clause_206 : decode cX11_clause 206 = .ok (.iastore, 1) := by decide +kernel
theorem dX11_clause_207 : decode cX11_clause 207 = .ok (.aload_n 0, 1) := by decide +kernel
theorem dX11_clause_208 : decode cX11_clause 208 = .ok (.getfield 46, 3) := by decide +kernel
theorem dX11_clause_211 : decode cX11_clause 211 = .ok (.iload_n 2, 1) := by decide +kernel
theorem dX11_clause_212 : decode cX11_clause 212 = .ok (.aaload, 1) := by decide +kernel
theorem dX11_clause_213 : decode cX11_clause 213 = .ok (.iconst 1, 1) := by decide +kernel
theorem dX11_clause_214 : decode cX11_clause 214 = .ok (.aload_n 0, 1) := by decide +kernel
theorem dX11_clause_215 : decode cX11_clause 215 = .ok (.iconst 1, 1) := by decide +kernel
theorem dX11_clause_216 : decode cX11_clause 216 = .ok (.bipush 99, 2) := by decide +kernel
theorem dX11_clause_218 : decode cX11_clause 218 = .ok (.invokevirtual 175, 3) := by decide +kernel
theorem dX11_clause_221 : decode cX11_clause 221 = .ok (.iastore, 1) := by decide +kernel
theorem dX11_clause_222 : decode cX11_clause 222 = .ok (.goto 50, 3) := by decide +kernel
theorem dX11_clause_225 : decode cX11_clause 225 = .ok (.aload_n 0, 1) := by decide +kernel
theorem dX11_clause_226 : decode cX11_clause 226 = .ok (.iconst 0, 1) := by decide +kernel
theorem dX11_clause_227 : decode cX11_clause 227 = .ok (.aload_n 0, 1) := by decide +kernel
theorem dX11_clause_228 : decode cX11_clause 228 = .ok (.getfield 20, 3) := by decide +kernel
theorem dX11_clause_231 : decode cX11_clause 231 = .ok (.iconst 0, 1) := by decide +kernel
theorem dX11_clause_232 : decode cX11_clause 232 = .ok (.iaload, 1) := by decide +kernel
theorem dX11_clause_233 : decode cX11_clause 233 = .ok (.iconst 1, 1) := by decide +kernel
theorem dX11_clause_234 : decode cX11_clause 234 = .ok (.isub, 1) := by decide +kernel
theorem dX11_clause_235 : decode cX11_clause 235 = .ok (.invokevirtual 175, 3) := by decide +kernel
theorem dX11_clause_238 : decode cX11_clause 238 = .ok (.istore_n 3, 1) := by decide +kernel
theorem dX11_clause_239 : decode cX11_clause 239 = .ok (.aload_n 0, 1) := by decide +kernel
theorem dX11_clause_240 : decode cX11_clause 240 = .ok (.iconst 0, 1) := by decide +kernel
theorem dX11_clause_241 : decode cX11_clause 241 = .ok (.aload_n 0, 1) := by decide +kernel
theorem dX11_clause_242 : decode cX11_clause 242 = .ok (.getfield 20, 3) := by decide +kernel
theorem dX11_clause_245 : decode cX11_clause 245 = .ok (.iconst 0, 1) := by decide +kernel
theorem dX11_clause_246 : decode cX11_clause 246 = .ok (.iaload, 1) := by decide +kernel
theorem dX11_clause_247 : decode cX11_clause 247 = .ok (.iconst 1, 1) := by decide +kernel
theorem dX11_clause_248 : decode cX11_clause 248 = .ok (.isub, 1) := by decide +kernel
theorem dX11_clause_249 : decode cX11_clause 249 = .ok (.invokevirtual 175, 3) := by decide +kernel
theorem dX11_clause_252 : decode cX11_clause 252 = .ok (.istore 4, 2) := by decide +kernel
theorem dX11_clause_254 : decode cX11_clause 254 = .ok (.aload_n 0, 1) := by decide +kernel
theorem dX11_clause_255 : decode cX11_clause 255 = .ok (.getfield 119, 3) := by decide +kernel
theorem dX11_clause_258 : decode cX11_clause 258 = .ok (.ifCond .ne 14, 3) := by decide +kernel
theorem dX11_clause_261 : decode cX11_clause 261 = .ok (.aload_n 0, 1) := by decide +kernel
theorem dX11_clause_262 : decode cX11_clause 262 = .ok (.getfield 32, 3) := by decide +kernel
theorem dX11_clause_265 : decode cX11_clause 265 = .ok (.iload_n 3, 1) := by decide +kernel
theorem dX11_clause_266 : decode cX11_clause 266 = .ok (.iload 4, 2) := by decide +kernel
theorem dX11_clause_268 : decode cX11_clause 268 = .ok (.iastore, 1) := by decide +kernel
theorem dX11_clause_269 : decode cX11_clause 269 = .ok (.goto 3, 3) := by decide +kernel
theorem dX11_clause_272 : decode cX11_clause 272 = .ok (.iload_n 1, 1) := by decide +kernel
theorem dX11_clause_273 : decode cX11_clause 273 = .ok (.iconst 3, 1) := by decide +kernel
theorem dX11_clause_274 : decode cX11_clause 274 = .ok (.if_icmp .ge 24, 3) := by decide +kernel
theorem dX11_clause_277 : decode cX11_clause 277 = .ok (.aload_n 0, 1) := by decide +kernel
theorem dX11_clause_278 : decode cX11_clause 278 = .ok (.getfield 20, 3) := by decide +kernel
theorem dX11_clause_281 : decode cX11_clause 281 = .ok (.iload_n 1, 1) := by decide +kernel
theorem dX11_clause_282 : decode cX11_clause 282 = .ok (.dup2, 1) := by decide +kernel
theorem dX11_clause_283 : decode cX11_clause 283 = .ok (.iaload, 1) := by decide +kernel
theorem dX11_clause_284 : decode cX11_clause 284 = .ok (.aload_n 0, 1) := by decide +kernel
theorem dX11_clause_285 : decode cX11_clause 285 = .ok (.getfield 119, 3) := by decide +kernel
theorem dX11_clause_288 : decode cX11_clause 288 = .ok (.ifCond .ne 7, 3) := by decide +kernel
theorem dX11_clause_291 : decode cX11_clause 291 = .ok (.iconst 1, 1) := by decide +kernel
theorem dX11_clause_292 : decode cX11_clause 292 = .ok (.goto 4, 3) := by decide +kernel
theorem dX11_clause_295 : decode cX11_clause 295 = .ok (.iconst 0, 1) := by decide +kernel
theorem dX11_clause_296 : decode cX11_clause 296 = .ok (.iadd, 1) := by decide +kernel
theorem dX11_clause_297 : decode cX11_clause 297 = .ok (.iastore, 1) := by decide +kernel
theorem dX11_clause_298 : decode cX11_clause 298 = .ok (.aload_n 0, 1) := by decide +kernel
theorem dX11_clause_299 : decode cX11_clause 299 = .ok (.bipush 59, 2) := by decide +kernel
theorem dX11_clause_301 : decode cX11_clause 301 = .ok (.invokevirtual 179, 3) := by decide +kernel
theorem dX11_clause_304 : decode cX11_clause 304 = .ok (.return_, 1) := by decide +kernel
theorem dX11_house_0 : decode cX11_house 0 = .ok (.aload_n 0, 1) := by decide +kernel
theorem dX11_house_1 : decode cX11_house 1 = .ok (.iconst 0, 1) := by decide +kernel
theorem dX11_house_2 : decode cX11_house 2 = .ok (.putfield 103, 3) := by decide +kernel
theorem dX11_house_5 : decode cX11_house 5 = .ok (.aload_n 0, 1) := by decide +kernel
theorem dX11_house_6 : decode cX11_house 6 = .ok (.iload_n 1, 1) := by decide +kernel
theorem dX11_house_7 : decode cX11_house 7 = .ok (.iconst 0, 1) := by decide +kernel
theorem dX11_house_8 : decode cX11_house 8 = .ok (.aload_n 0, 1) := by decide +kernel
theorem dX11_house_9 : decode cX11_house 9 = .ok (.getfield 106, 3) := by decide +kernel
theorem dX11_house_12 : decode cX11_house 12 = .ok (.invokestatic 137, 3) := by decide +kernel
theorem dX11_house_15 : decode cX11_house 15 = .ok (.ifCond .ne 7, 3) := by decide +kernel
theorem dX11_house_18 : decode cX11_house 18 = .ok (.iconst 1, 1) := by decide +kernel
theorem dX11_house_19 : decode cX11_house 19 = .ok (.goto 4, 3) := by decide +kernel
theorem dX11_house_22 : decode cX11_house 22 = .ok (.iconst 0, 1) := by decide +kernel
theorem dX11_house_23 : decode cX11_house 23 = .ok (.iconst 1, 1) := by decide +kernel
theorem dX11_house_24 : decode cX11_house 24 = .ok (.iconst 1, 1) := by decide +kernel
theorem dX11_house_25 : decode cX11_house 25 = .ok (.invokevirtual 183, 3) := by decide +kernel
theorem dX11_house_28 : decode cX11_house 28 = .ok (.ifCond .eq 5, 3) := by decide +kernel
theorem dX11_house_31 : decode cX11_house 31 = .ok (.iconst 0, 1) := by decide +kernel
theorem dX11_house_32 : decode cX11_house 32 = .ok (.ireturn, 1) := by decide +kernel
theorem dX11_house_33 : decode cX11_house 33 = .ok (.aload_n 0, 1) := by decide +kernel
theorem dX11_house_34 : decode cX11_house 34 = .ok (.iload_n 1, 1) := by decide +kernel
theorem dX11_house_35 : decode cX11_house 35 = .ok (.invokevirtual 187, 3) := by decide +kernel
theorem dX11_house_38 : decode cX11_house 38 = .ok (.aload_n 0, 1) := by decide +kernel
theorem dX11_house_39 : decode cX11_house 39 = .ok (.invokevirtual 97, 3) := by decide +kernel
theorem dX11_house_42 : decode cX11_house 42 = .ok (.aload_n 0, 1) := by decide +kernel
theorem dX11_house_43 : decode cX11_house 43 = .ok (.getfield 119, 3) := by decide +kernel
theorem dX11_house_46 : decode cX11_house 46 = .ok (.ifCond .ne 25, 3) := by decide +kernel
theorem dX11_house_49 : decode cX11_house 49 = .ok (.aload_n 0, 1) := by decide +kernel
theorem dX11_house_50 : decode cX11_house 50 = .ok (.getfield 112, 3) := by decide +kernel
theorem dX11_house_53 : decode cX11_house 53 = .ok (.aload_n 0, 1) := by decide +kernel
theorem dX11_house_54 : decode cX11_house 54 = .ok (.getfield 109, 3) := by decide +kernel
theorem dX11_house_57 : decode cX11_house 57 = .ok (.if_icmp .ge 14, 3) := by decide +kernel
theorem dX11_house_60 : decode cX11_house 60 = .ok (.aload_n 0, 1) := by decide +kernel
theorem dX11_house_61 : decode cX11_house 61 = .ok (.invokevirtual 190, 3) := by decide +kernel
theorem dX11_house_64 : decode cX11_house 64 = .ok (.aload_n 0, 1) := by decide +kernel
theorem dX11_house_65 : decode cX11_house 65 = .ok (.invokevirtual 125, 3) := by decide +kernel
theorem dX11_house_68 : decode cX11_house 68 = .ok (.goto (-26), 3) := by decide +kernel
theorem dX11_house_71 : decode cX11_house 71 = .ok (.aload_n 0, 1) := by decide +kernel
theorem dX11_house_72 : decode cX11_house 72 = .ok (.getfield 119, 3) := by decide +kernel
theorem dX11_house_75 : decode cX11_house 75 = .ok (.ifCond .eq 8, 3) := by decide +kernel
theorem dX11_house_78 : decode cX11_house 78 = .ok (.aload_n 0, 1) := by decide +kernel
theorem dX11_house_79 : decode cX11_house 79 = .ok (.invokevirtual 193, 3) := by decide +kernel
theorem dX11_house_82 : decode cX11_house 82 = .ok (.ireturn, 1) := by decide +kernel
theorem dX11_house_83 : decode cX11_house 83 = .ok (.aload_n 0, 1) := by decide +kernel
theorem dX11_house_84 : decode cX11_house 84 = .ok (.iconst (-1), 1) := by decide +kernel
theorem dX11_house_85 : decode cX11_house 85 = .ok (.putfield 9, 3) := by decide +kernel
theorem dX11_house_88 : decode cX11_house 88 = .ok (.aload_n 0, 1) := by decide +kernel
theorem dX11_house_89 : decode cX11_house 89 = .ok (.invokevirtual 100, 3) := by decide +kernel
theorem dX11_house_92 : decode cX11_house 92 = .ok (.aload_n 0, 1) := by decide +kernel
theorem dX11_house_93 : decode cX11_house 93 = .ok (.getfield 23, 3) := by decide +kernel
theorem dX11_house_96 : decode cX11_house 96 = .ok (.iconst 1, 1) := by decide +kernel
theorem dX11_house_97 : decode cX11_house 97 = .ok (.iaload, 1) := by decide +kernel
theorem dX11_house_98 : decode cX11_house 98 = .ok (.ireturn, 1) := by decide +kernel
theorem dX11_lays_0 : decode cX11_lays 0 = .ok (.iconst 0, 1) := by decide +kernel
theorem dX11_lays_1 : decode cX11_lays 1 = .ok (.istore_n 3, 1) := by decide +kernel
theorem dX11_lays_2 : decode cX11_lays 2 = .ok (.iload_n 3, 1) := by decide +kernel
theorem dX11_lays_3 : decode cX11_lays 3 = .ok (.iload_n 2, 1) := by decide +kernel
theorem dX11_lays_4 : decode cX11_lays 4 = .ok (.if_icmp .ge 39, 3) := by decide +kernel
theorem dX11_lays_7 : decode cX11_lays 7 = .ok (.iconst 0, 1) := by decide +kernel
theorem dX11_lays_8 : decode cX11_lays 8 = .ok (.istore 4, 2) := by decide +kernel
theorem dX11_lays_10 : decode cX11_lays 10 = .ok (.iload 4, 2) := by decide +kernel
theorem dX11_lays_12 : decode cX11_lays 12 = .ok (.aload_n 1, 1) := by decide +kernel
theorem dX11_lays_13 : decode cX11_lays 13 = .ok (.iload_n 3, 1) := by decide +kernel
theorem dX11_lays_14 : decode cX11_lays 14 = .ok (.aaload, 1) := by decide +kernel
theorem dX11_lays_15 : decode cX11_lays 15 = .ok (.arraylength, 1) := by decide +kernel
theorem dX11_lays_16 : decode cX11_lays 16 = .ok (.if_icmp .ge 21, 3) := by decide +kernel
theorem dX11_lays_19 : decode cX11_lays 19 = .ok (.aload_n 1, 1) := by decide +kernel
theorem dX11_lays_20 : decode cX11_lays 20 = .ok (.iload_n 3, 1) := by decide +kernel
theorem dX11_lays_21 : decode cX11_lays 21 = .ok (.aaload, 1) := by decide +kernel
theorem dX11_lays_22 : decode cX11_lays 22 = .ok (.iload 4, 2) := by decide +kernel
theorem dX11_lays_24 : decode cX11_lays 24 = .ok (.aload_n 0, 1) := by decide +kernel
theorem dX11_lays_25 : decode cX11_lays 25 = .ok (.iload_n 3, 1) := by decide +kernel
theorem dX11_lays_26 : decode cX11_lays 26 = .ok (.aaload, 1) := by decide +kernel
theorem dX11_lays_27 : decode cX11_lays 27 = .ok (.iload 4, 2) := by decide +kernel
theorem dX11_lays_29 : decode cX11_lays 29 = .ok (.iaload, 1) := by decide +kernel
theorem dX11_lays_30 : decode cX11_lays 30 = .ok (.iastore, 1) := by decide +kernel
theorem dX11_lays_31 : decode cX11_lays 31 = .ok (.iinc 4 1, 3) := by decide +kernel
theorem dX11_lays_34 : decode cX11_lays 34 = .ok (.goto (-24), 3) := by decide +kernel
theorem dX11_lays_37 : decode cX11_lays 37 = .ok (.iinc 3 1, 3) := by decide +kernel
theorem dX11_lays_40 : decode cX11_lays 40 = .ok (.goto (-38), 3) := by decide +kernel
theorem dX11_lays_43 : decode cX11_lays 43 = .ok (.return_, 1) := by decide +kernel
theorem dX11_copies_0 : decode cX11_copies 0 = .ok (.iconst 0, 1) := by decide +kernel
theorem dX11_copies_1 : decode cX11_copies 1 = .ok (.istore_n 2, 1) := by decide +kernel
theorem dX11_copies_2 : decode cX11_copies 2 = .ok (.iload_n 2, 1) := by decide +kernel
theorem dX11_copies_3 : decode cX11_copies 3 = .ok (.bipush 45, 2) := by decide +kernel
theorem dX11_copies_5 : decode cX11_copies 5 = .ok (.if_icmp .ge 15, 3) := by decide +kernel
theorem dX11_copies_8 : decode cX11_copies 8 = .ok (.aload_n 1, 1) := by decide +kernel
theorem dX11_copies_9 : decode cX11_copies 9 = .ok (.iload_n 2, 1) := by decide +kernel
theorem dX11_copies_10 : decode cX11_copies 10 = .ok (.aload_n 0, 1) := by decide +kernel
theorem dX11_copies_11 : decode cX11_copies 11 = .ok (.iload_n 2, 1) := by decide +kernel
theorem dX11_copies_12 : decode cX11_copies 12 = .ok (.iaload, 1) := by decide +kernel
theorem dX11_copies_13 : decode cX11_copies 13 = .ok (.iastore, 1) := by decide +kernel
theorem dX11_copies_14 : decode cX11_copies 14 = .ok (.iinc 2 1, 3) := by decide +kernel
theorem dX11_copies_17 : decode cX11_copies 17 = .ok (.goto (-15), 3) := by decide +kernel
theorem dX11_copies_20 : decode cX11_copies 20 = .ok (.return_, 1) := by decide +kernel
theorem dX11_beginsAnew_0 : decode cX11_beginsAnew 0 = .ok (.iconst 0, 1) := by decide +kernel
theorem dX11_beginsAnew_1 : decode cX11_beginsAnew 1 = .ok (.istore_n 1, 1) := by decide +kernel
theorem dX11_beginsAnew_2 : decode cX11_beginsAnew 2 = .ok (.iload_n 1, 1) := by decide +kernel
theorem dX11_beginsAnew_3 : decode cX11_beginsAnew 3 = .ok (.iconst 3, 1) := by decide +kernel
theorem dX11_beginsAnew_4 : decode cX11_beginsAnew 4 = .ok (.if_icmp .ge 21, 3) := by decide +kernel
theorem dX11_beginsAnew_7 : decode cX11_beginsAnew 7 = .ok (.aload_n 0, 1) := by decide +kernel
theorem dX11_beginsAnew_8 : decode cX11_beginsAnew 8 = .ok (.getfield 23, 3) := by decide +kernel
theorem dX11_beginsAnew_11 : decode cX11_beginsAnew 11 = .ok (.iload_n 1, 1) := by decide +kernel
theorem dX11_beginsAnew_12 : decode cX11_beginsAnew 12 = .ok (.aload_n 0, 1) := by decide +kernel
theorem dX11_beginsAnew_13 : decode cX11_beginsAnew 13 = .ok (.getfield 20, 3) := by decide +kernel
theorem dX11_beginsAnew_16 : decode cX11_beginsAnew 16 = .ok (.iload_n 1, 1) := by decide +kernel
theorem dX11_beginsAnew_17 : decode cX11_beginsAnew 17 = .ok (.iaload, 1) := by decide +kernel
theorem dX11_beginsAnew_18 : decode cX11_beginsAnew 18 = .ok (.iastore, 1) := by decide +kernel
theorem dX11_beginsAnew_19 : decode cX11_beginsAnew 19 = .ok (.iinc 1 1, 3) := by decide +kernel
theorem dX11_beginsAnew_22 : decode cX11_beginsAnew 22 = .ok (.goto (-20), 3) := by decide +kernel
theorem dX11_beginsAnew_25 : decode cX11_beginsAnew 25 = .ok (.iconst 0, 1) := by decide +kernel
theorem dX11_beginsAnew_26 : decode cX11_beginsAnew 26 = .ok (.istore_n 1, 1) := by decide +kernel
theorem dX11_beginsAnew_27 : decode cX11_beginsAnew 27 = .ok (.iload_n 1, 1) := by decide +kernel
theorem dX11_beginsAnew_28 : decode cX11_beginsAnew 28 = .ok (.bipush 8, 2) := by decide +kernel
theorem dX11_beginsAnew_30 : decode cX11_beginsAnew 30 = .ok (.if_icmp .ge 33, 3) := by decide +kernel
theorem dX11_beginsAnew_33 : decode cX11_beginsAnew 33 = .ok (.aload_n 0, 1) := by decide +kernel
theorem dX11_beginsAnew_34 : decode cX11_beginsAnew 34 = .ok (.getfield 29, 3) := by decide +kernel
theorem dX11_beginsAnew_37 : decode cX11_beginsAnew 37 = .ok (.iload_n 1, 1) := by decide +kernel
theorem dX11_beginsAnew_38 : decode cX11_beginsAnew 38 = .ok (.aload_n 0, 1) := by decide +kernel
theorem dX11_beginsAnew_39 : decode cX11_beginsAnew 39 = .ok (.getfield 26, 3) := by decide +kernel
theorem dX11_beginsAnew_42 : decode cX11_beginsAnew 42 = .ok (.iload_n 1, 1) := by decide +kernel
theorem dX11_beginsAnew_43 : decode cX11_beginsAnew 43 = .ok (.iaload, 1) := by decide +kernel
theorem dX11_beginsAnew_44 : decode cX11_beginsAnew 44 = .ok (.iastore, 1) := by decide +kernel
theorem dX11_beginsAnew_45 : decode cX11_beginsAnew 45 = .ok (.aload_n 0, 1) := by decide +kernel
theorem dX11_beginsAnew_46 : decode cX11_beginsAnew 46 = .ok (.getfield 35, 3) := by decide +kernel
theorem dX11_beginsAnew_49 : decode cX11_beginsAnew 49 = .ok (.iload_n 1, 1) := by decide +kernel
theorem dX11_beginsAnew_50 : decode cX11_beginsAnew 50 = .ok (.aload_n 0, 1) := by decide +kernel
theorem dX11_beginsAnew_51 : decode cX11_beginsAnew 51 = .ok (.getfield 32, 3) := by decide +kernel
theorem dX11_beginsAnew_54 : decode cX11_beginsAnew 54 = .ok (.iload_n 1, 1) := by decide +kernel
theorem dX11_beginsAnew_55 : decode cX11_beginsAnew 55 = .ok (.iaload, 1) := by decide +kernel
theorem dX11_beginsAnew_56 : decode cX11_beginsAnew 56 = .ok (.iastore, 1) := by decide +kernel
theorem dX11_beginsAnew_57 : decode cX11_beginsAnew 57 = .ok (.iinc 1 1, 3) := by decide +kernel
theorem dX11_beginsAnew_60 : decode cX11_beginsAnew 60 = .ok (.goto (-33), 3) := by decide +kernel
theorem dX11_beginsAnew_63 : decode cX11_beginsAnew 63 = .ok (.aload_n 0, 1) := by decide +kernel
theorem dX11_beginsAnew_64 : decode cX11_beginsAnew 64 = .ok (.getfield 40, 3) := by decide +kernel
theorem dX11_beginsAnew_67 : decode cX11_beginsAnew 67 = .ok (.aload_n 0, 1) := by decide +kernel
theorem dX11_beginsAnew_68 : decode cX11_beginsAnew 68 = .ok (.getfield 43, 3) := by decide +kernel
theorem dX11_beginsAnew_71 : decode cX11_beginsAnew 71 = .ok (.aload_n 0, 1) := by decide +kernel
theorem dX11_beginsAnew_72 : decode cX11_beginsAnew 72 = .ok (.getfield 23, 3) := by decide +kernel
theorem dX11_beginsAnew_75 : decode cX11_beginsAnew 75 = .ok (.iconst 1, 1) := by decide +kernel
theorem dX11_beginsAnew_76 : decode cX11_beginsAnew 76 = .ok (.iaload, 1) := by decide +kernel
theorem dX11_beginsAnew_77 : decode cX11_beginsAnew 77 = .ok (.invokestatic 196, 3) := by decide +kernel
theorem dX11_beginsAnew_80 : decode cX11_beginsAnew 80 = .ok (.aload_n 0, 1) := by decide +kernel
theorem dX11_beginsAnew_81 : decode cX11_beginsAnew 81 = .ok (.getfield 46, 3) := by decide +kernel
theorem dX11_beginsAnew_84 : decode cX11_beginsAnew 84 = .ok (.aload_n 0, 1) := by decide +kernel
theorem dX11_beginsAnew_85 : decode cX11_beginsAnew 85 = .ok (.getfield 49, 3) := by decide +kernel
theorem dX11_beginsAnew_88 : decode cX11_beginsAnew 88 = .ok (.aload_n 0, 1) := by decide +kernel
theorem dX11_beginsAnew_89 : decode cX11_beginsAnew 89 = .ok (.getfield 23, 3) := by decide +kernel
theorem dX11_beginsAnew_92 : decode cX11_beginsAnew 92 = .ok (.iconst 2, 1) := by decide +kernel
theorem dX11_beginsAnew_93 : decode cX11_beginsAnew 93 = .ok (.iaload, 1) := by decide +kernel
theorem dX11_beginsAnew_94 : decode cX11_beginsAnew 94 = .ok (.invokestatic 196, 3) := by decide +kernel
theorem dX11_beginsAnew_97 : decode cX11_beginsAnew 97 = .ok (.iconst 0, 1) := by decide +kernel
theorem dX11_beginsAnew_98 : decode cX11_beginsAnew 98 = .ok (.istore_n 1, 1) := by decide +kernel
theorem dX11_beginsAnew_99 : decode cX11_beginsAnew 99 = .ok (.iload_n 1, 1) := by decide +kernel
theorem dX11_beginsAnew_100 : decode cX11_beginsAnew 100 = .ok (.bipush 45, 2) := by decide +kernel
theorem dX11_beginsAnew_102 : decode cX11_beginsAnew 102 = .ok (.if_icmp .ge 16, 3) := by decide +kernel
theorem dX11_beginsAnew_105 : decode cX11_beginsAnew 105 = .ok (.aload_n 0, 1) := by decide +kernel
theorem dX11_beginsAnew_106 : decode cX11_beginsAnew 106 = .ok (.getfield 73, 3) := by decide +kernel
theorem dX11_beginsAnew_109 : decode cX11_beginsAnew 109 = .ok (.iload_n 1, 1) := by decide +kernel
theorem dX11_beginsAnew_110 : decode cX11_beginsAnew 110 = .ok (.iconst 0, 1) := by decide +kernel
theorem dX11_beginsAnew_111 : decode cX11_beginsAnew 111 = .ok (.iastore, 1) := by decide +kernel
theorem dX11_beginsAnew_112 : decode cX11_beginsAnew 112 = .ok (.iinc 1 1, 3) := by decide +kernel
theorem dX11_beginsAnew_115 : decode cX11_beginsAnew 115 = .ok (.goto (-16), 3) := by decide +kernel
theorem dX11_beginsAnew_118 : decode cX11_beginsAnew 118 = .ok (.iconst 0, 1) := by decide +kernel
theorem dX11_beginsAnew_119 : decode cX11_beginsAnew 119 = .ok (.istore_n 1, 1) := by decide +kernel
theorem dX11_beginsAnew_120 : decode cX11_beginsAnew 120 = .ok (.iload_n 1, 1) := by decide +kernel
theorem dX11_beginsAnew_121 : decode cX11_beginsAnew 121 = .ok (.bipush 10, 2) := by decide +kernel
theorem dX11_beginsAnew_123 : decode cX11_beginsAnew 123 = .ok (.if_icmp .ge 19, 3) := by decide +kernel
theorem dX11_beginsAnew_126 : decode cX11_beginsAnew 126 = .ok (.aload_n 0, 1) := by decide +kernel
theorem dX11_beginsAnew_127 : decode cX11_beginsAnew 127 = .ok (.getfield 73, 3) := by decide +kernel
theorem dX11_beginsAnew_130 : decode cX11_beginsAnew 130 = .ok (.bipush 16, 2) := by decide +kernel
theorem dX11_beginsAnew_132 : decode cX11_beginsAnew 132 = .ok (.iload_n 1, 1) := by decide +kernel
theorem dX11_beginsAnew_133 : decode cX11_beginsAnew 133 = .ok (.iadd, 1) := by decide +kernel
theorem dX11_beginsAnew_134 : decode cX11_beginsAnew 134 = .ok (.iconst (-1), 1) := by decide +kernel
theorem dX11_beginsAnew_135 : decode cX11_beginsAnew 135 = .ok (.iastore, 1) := by decide +kernel
theorem dX11_beginsAnew_136 : decode cX11_beginsAnew 136 = .ok (.iinc 1 1, 3) := by decide +kernel
theorem dX11_beginsAnew_139 : decode cX11_beginsAnew 139 = .ok (.goto (-19), 3) := by decide +kernel
theorem dX11_beginsAnew_142 : decode cX11_beginsAnew 142 = .ok (.iconst 0, 1) := by decide +kernel
theorem dX11_beginsAnew_143 : decode cX11_beginsAnew 143 = .ok (.istore_n 1, 1) := by decide +kernel
theorem dX11_beginsAnew_144 : decode cX11_beginsAnew 144 = .ok (.iload_n 1, 1) := by decide +kernel
theorem dX11_beginsAnew_145 : decode cX11_beginsAnew 145 = .ok (.bipush 8, 2) := by decide +kernel
theorem dX11_beginsAnew_147 : decode cX11_beginsAnew 147 = .ok (.if_icmp .ge 19, 3) := by decide +kernel
theorem dX11_beginsAnew_150 : decode cX11_beginsAnew 150 = .ok (.aload_n 0, 1) := by decide +kernel
theorem dX11_beginsAnew_151 : decode cX11_beginsAnew 151 = .ok (.getfield 73, 3) := by decide +kernel
theorem dX11_beginsAnew_154 : decode cX11_beginsAnew 154 = .ok (.bipush 36, 2) := by decide +kernel
theorem dX11_beginsAnew_156 : decode cX11_beginsAnew 156 = .ok (.iload_n 1, 1) := by decide +kernel
theorem dX11_beginsAnew_157 : decode cX11_beginsAnew 157 = .ok (.iadd, 1) := by decide +kernel
theorem dX11_beginsAnew_158 : decode cX11_beginsAnew 158 = .ok (.iconst (-1), 1) := by decide +kernel
theorem dX11_beginsAnew_159 : decode cX11_beginsAnew 159 = .ok (.iastore, 1) := by decide +kernel
theorem dX11_beginsAnew_160 : decode cX11_beginsAnew 160 = .ok (.iinc 1 1, 3) := by decide +kernel
theorem dX11_beginsAnew_163 : decode cX11_beginsAnew 163 = .ok (.goto (-19), 3) := by decide +kernel
theorem dX11_beginsAnew_166 : decode cX11_beginsAnew 166 = .ok (.aload_n 0, 1) := by decide +kernel
theorem dX11_beginsAnew_167 : decode cX11_beginsAnew 167 = .ok (.iconst 0, 1) := by decide +kernel
theorem dX11_beginsAnew_168 : decode cX11_beginsAnew 168 = .ok (.putfield 200, 3) := by decide +kernel
theorem dX11_beginsAnew_171 : decode cX11_beginsAnew 171 = .ok (.aload_n 0, 1) := by decide +kernel
theorem dX11_beginsAnew_172 : decode cX11_beginsAnew 172 = .ok (.iconst 0, 1) := by decide +kernel
theorem dX11_beginsAnew_173 : decode cX11_beginsAnew 173 = .ok (.putfield 203, 3) := by decide +kernel
theorem dX11_beginsAnew_176 : decode cX11_beginsAnew 176 = .ok (.aload_n 0, 1) := by decide +kernel
theorem dX11_beginsAnew_177 : decode cX11_beginsAnew 177 = .ok (.iconst 0, 1) := by decide +kernel
theorem dX11_beginsAnew_178 : decode cX11_beginsAnew 178 = .ok (.putfield 206, 3) := by decide +kernel
theorem dX11_beginsAnew_181 : decode cX11_beginsAnew 181 = .ok (.aload_n 0, 1) := by decide +kernel
theorem dX11_beginsAnew_182 : decode cX11_beginsAnew 182 = .ok (.iconst 0, 1) := by decide +kernel
theorem dX11_beginsAnew_183 : decode cX11_beginsAnew 183 = .ok (.putfield 209, 3) := by decide +kernel
theorem dX11_beginsAnew_186 : decode cX11_beginsAnew 186 = .ok (.aload_n 0, 1) := by decide +kernel
theorem dX11_beginsAnew_187 : decode cX11_beginsAnew 187 = .ok (.iconst 0, 1) := by decide +kernel
theorem dX11_beginsAnew_188 : decode cX11_beginsAnew 188 = .ok (.putfield 212, 3) := by decide +kernel
theorem dX11_beginsAnew_191 : decode cX11_beginsAnew 191 = .ok (.return_, 1) := by decide +kernel
theorem dX11_notes_0 : decode cX11_notes 0 = .ok (.aload_n 0, 1) := by decide +kernel
theorem dX11_notes_1 : decode cX11_notes 1 = .ok (.getfield 119, 3) := by decide +kernel
theorem dX11_notes_4 : decode cX11_notes 4 = .ok (.ifCond .eq 4, 3) := by decide +kernel
theorem dX11_notes_7 : decode cX11_notes 7 = .ok (.return_, 1) := by decide +kernel
theorem dX11_notes_8 : decode cX11_notes 8 = .ok (.aload_n 0, 1) := by decide +kernel
theorem dX11_notes_9 : decode cX11_notes 9 = .ok (.getfield 55, 3) := by decide +kernel
theorem dX11_notes_12 : decode cX11_notes 12 = .ok (.aload_n 0, 1) := by decide +kernel
theorem dX11_notes_13 : decode cX11_notes 13 = .ok (.getfield 215, 3) := by decide +kernel
theorem dX11_notes_16 : decode cX11_notes 16 = .ok (.aaload, 1) := by decide +kernel
theorem dX11_notes_17 : decode cX11_notes 17 = .ok (.iconst 0, 1) := by decide +kernel
theorem dX11_notes_18 : decode cX11_notes 18 = .ok (.iload_n 1, 1) := by decide +kernel
theorem dX11_notes_19 : decode cX11_notes 19 = .ok (.iastore, 1) := by decide +kernel
theorem dX11_notes_20 : decode cX11_notes 20 = .ok (.aload_n 0, 1) := by decide +kernel
theorem dX11_notes_21 : decode cX11_notes 21 = .ok (.getfield 55, 3) := by decide +kernel
theorem dX11_notes_24 : decode cX11_notes 24 = .ok (.aload_n 0, 1) := by decide +kernel
theorem dX11_notes_25 : decode cX11_notes 25 = .ok (.getfield 215, 3) := by decide +kernel
theorem dX11_notes_28 : decode cX11_notes 28 = .ok (.aaload, 1) := by decide +kernel
theorem dX11_notes_29 : decode cX11_notes 29 = .ok (.iconst 1, 1) := by decide +kernel
theorem dX11_notes_30 : decode cX11_notes 30 = .ok (.iload_n 2, 1) := by decide +kernel
theorem dX11_notes_31 : decode cX11_notes 31 = .ok (.iastore, 1) := by decide +kernel
theorem dX11_notes_32 : decode cX11_notes 32 = .ok (.aload_n 0, 1) := by decide +kernel
theorem dX11_notes_33 : decode cX11_notes 33 = .ok (.dup, 1) := by decide +kernel
theorem dX11_notes_34 : decode cX11_notes 34 = .ok (.getfield 215, 3) := by decide +kernel
theorem dX11_notes_37 : decode cX11_notes 37 = .ok (.iconst 1, 1) := by decide +kernel
theorem dX11_notes_38 : decode cX11_notes 38 = .ok (.iadd, 1) := by decide +kernel
theorem dX11_notes_39 : decode cX11_notes 39 = .ok (.putfield 215, 3) := by decide +kernel
theorem dX11_notes_42 : decode cX11_notes 42 = .ok (.return_, 1) := by decide +kernel
theorem dX11_opensOne_0 : decode cX11_opensOne 0 = .ok (.aload_n 0, 1) := by decide +kernel
theorem dX11_opensOne_1 : decode cX11_opensOne 1 = .ok (.getfield 119, 3) := by decide +kernel
theorem dX11_opensOne_4 : decode cX11_opensOne 4 = .ok (.ifCond .ne 24, 3) := by decide +kernel
theorem dX11_opensOne_7 : decode cX11_opensOne 7 = .ok (.aload_n 0, 1) := by decide +kernel
theorem dX11_opensOne_8 : decode cX11_opensOne 8 = .ok (.getfield 162, 3) := by decide +kernel
theorem dX11_opensOne_11 : decode cX11_opensOne 11 = .ok (.bipush 6, 2) := by decide +kernel
theorem dX11_opensOne_13 : decode cX11_opensOne 13 = .ok (.if_icmp .ne 15, 3) := by decide +kernel
theorem dX11_opensOne_16 : decode cX11_opensOne 16 = .ok (.aload_n 0, 1) := by decide +kernel
theorem dX11_opensOne_17 : decode cX11_opensOne 17 = .ok (.iconst 3, 1) := by decide +kernel
theorem dX11_opensOne_18 : decode cX11_opensOne 18 = .ok (.aload_n 0, 1) := by decide +kernel
theorem dX11_opensOne_19 : decode cX11_opensOne 19 = .ok (.getfield 112, 3) := by decide +kernel
theorem dX11_opensOne_22 : decode cX11_opensOne 22 = .ok (.invokevirtual 132, 3) := by decide +kernel
theorem dX11_opensOne_25 : decode cX11_opensOne 25 = .ok (.goto 20, 3) := by decide +kernel
theorem dX11_opensOne_28 : decode cX11_opensOne 28 = .ok (.aload_n 0, 1) := by decide +kernel
theorem dX11_opensOne_29 : decode cX11_opensOne 29 = .ok (.getfield 119, 3) := by decide +kernel
theorem dX11_opensOne_32 : decode cX11_opensOne 32 = .ok (.ifCond .ne 13, 3) := by decide +kernel
theorem dX11_opensOne_35 : decode cX11_opensOne 35 = .ok (.aload_n 0, 1) := by decide +kernel
theorem dX11_opensOne_36 : decode cX11_opensOne 36 = .ok (.dup, 1) := by decide +kernel
theorem dX11_opensOne_37 : decode cX11_opensOne 37 = .ok (.getfield 162, 3) := by decide +kernel
theorem dX11_opensOne_40 : decode cX11_opensOne 40 = .ok (.iconst 1, 1) := by decide +kernel
theorem dX11_opensOne_41 : decode cX11_opensOne 41 = .ok (.iadd, 1) := by decide +kernel
theorem dX11_opensOne_42 : decode cX11_opensOne 42 = .ok (.putfield 162, 3) := by decide +kernel
theorem dX11_opensOne_45 : decode cX11_opensOne 45 = .ok (.aload_n 0, 1) := by decide +kernel
theorem dX11_opensOne_46 : decode cX11_opensOne 46 = .ok (.getfield 119, 3) := by decide +kernel
theorem dX11_opensOne_49 : decode cX11_opensOne 49 = .ok (.ifCond .ne 7, 3) := by decide +kernel
theorem dX11_opensOne_52 : decode cX11_opensOne 52 = .ok (.iconst 1, 1) := by decide +kernel
theorem dX11_opensOne_53 : decode cX11_opensOne 53 = .ok (.goto 4, 3) := by decide +kernel
theorem dX11_opensOne_56 : decode cX11_opensOne 56 = .ok (.iconst 0, 1) := by decide +kernel
theorem dX11_opensOne_57 : decode cX11_opensOne 57 = .ok (.ireturn, 1) := by decide +kernel
theorem dX11_sum_0 : decode cX11_sum 0 = .ok (.aload_n 0, 1) := by decide +kernel
theorem dX11_sum_1 : decode cX11_sum 1 = .ok (.invokevirtual 218, 3) := by decide +kernel
theorem dX11_sum_4 : decode cX11_sum 4 = .ok (.aload_n 0, 1) := by decide +kernel
theorem dX11_sum_5 : decode cX11_sum 5 = .ok (.getfield 119, 3) := by decide +kernel
theorem dX11_sum_8 : decode cX11_sum 8 = .ok (.ifCond .ne 50, 3) := by decide +kernel
theorem dX11_sum_11 : decode cX11_sum 11 = .ok (.aload_n 0, 1) := by decide +kernel
theorem dX11_sum_12 : decode cX11_sum 12 = .ok (.bipush 43, 2) := by decide +kernel
theorem dX11_sum_14 : decode cX11_sum 14 = .ok (.invokevirtual 221, 3) := by decide +kernel
theorem dX11_sum_17 : decode cX11_sum 17 = .ok (.ifCond .eq 7, 3) := by decide +kernel
theorem dX11_sum_20 : decode cX11_sum 20 = .ok (.iconst 2, 1) := by decide +kernel
theorem dX11_sum_21 : decode cX11_sum 21 = .ok (.goto 17, 3) := by decide +kernel
theorem dX11_sum_24 : decode cX11_sum 24 = .ok (.aload_n 0, 1) := by decide +kernel
theorem dX11_sum_25 : decode cX11_sum 25 = .ok (.bipush 45, 2) := by decide +kernel
theorem dX11_sum_27 : decode cX11_sum 27 = .ok (.invokevirtual 221, 3) := by decide +kernel
theorem dX11_sum_30 : decode cX11_sum 30 = .ok (.ifCond .eq 7, 3) := by decide +kernel
theorem dX11_sum_33 : decode cX11_sum 33 = .ok (.iconst 3, 1) := by decide +kernel
theorem dX11_sum_34 : decode cX11_sum 34 = .ok (.goto 4, 3) := by decide +kernel
theorem dX11_sum_37 : decode cX11_sum 37 = .ok (.iconst (-1), 1) := by decide +kernel
theorem dX11_sum_38 : decode cX11_sum 38 = .ok (.istore_n 1, 1) := by decide +kernel
theorem dX11_sum_39 : decode cX11_sum 39 = .ok (.iload_n 1, 1) := by decide +kernel
theorem dX11_sum_40 : decode cX11_sum 40 = .ok (.iconst (-1), 1) := by decide +kernel
theorem dX11_sum_41 : decode cX11_sum 41 = .ok (.if_icmp .ne 4, 3) := by decide +kernel
theorem dX11_sum_44 : decode cX11_sum 44 = .ok (.return_, 1) := by decide +kernel
theorem dX11_sum_45 : decode cX11_sum 45 = .ok (.aload_n 0, 1) := by decide +kernel
theorem dX11_sum_46 : decode cX11_sum 46 = .ok (.invokevirtual 218, 3) := by decide +kernel
theorem dX11_sum_49 : decode cX11_sum 49 = .ok (.aload_n 0, 1) := by decide +kernel
theorem dX11_sum_50 : decode cX11_sum 50 = .ok (.iload_n 1, 1) := by decide +kernel
theorem dX11_sum_51 : decode cX11_sum 51 = .ok (.iconst 0, 1) := by decide +kernel
theorem dX11_sum_52 : decode cX11_sum 52 = .ok (.invokevirtual 224, 3) := by decide +kernel
theorem dX11_sum_55 : decode cX11_sum 55 = .ok (.goto (-51), 3) := by decide +kernel
theorem dX11_sum_58 : decode cX11_sum 58 = .ok (.return_, 1) := by decide +kernel
theorem dX11_product_0 : decode cX11_product 0 = .ok (.aload_n 0, 1) := by decide +kernel
theorem dX11_product_1 : decode cX11_product 1 = .ok (.invokevirtual 227, 3) := by decide +kernel
theorem dX11_product_4 : decode cX11_product 4 = .ok (.aload_n 0, 1) := by decide +kernel
theorem dX11_product_5 : decode cX11_product 5 = .ok (.getfield 119, 3) := by decide +kernel
theorem dX11_product_8 : decode cX11_product 8 = .ok (.ifCond .ne 64, 3) := by decide +kernel
theorem dX11_product_11 : decode cX11_product 11 = .ok (.aload_n 0, 1) := by decide +kernel
theorem dX11_product_12 : decode cX11_product 12 = .ok (.bipush 42, 2) := by decide +kernel
theorem dX11_product_14 : decode cX11_product 14 = .ok (.invokevirtual 221, 3) := by decide +kernel
theorem dX11_product_17 : decode cX11_product 17 = .ok (.ifCond .eq 7, 3) := by decide +kernel
theorem dX11_product_20 : decode cX11_product 20 = .ok (.iconst 4, 1) := by decide +kernel
theorem dX11_product_21 : decode cX11_product 21 = .ok (.goto 31, 3) := by decide +kernel
theorem dX11_product_24 : decode cX11_product 24 = .ok (.aload_n 0, 1) := by decide +kernel
theorem dX11_product_25 : decode cX11_product 25 = .ok (.bipush 47, 2) := by decide +kernel
theorem dX11_product_27 : decode cX11_product 27 = .ok (.invokevirtual 221, 3) := by decide +kernel
theorem dX11_product_30 : decode cX11_product 30 = .ok (.ifCond .eq 7, 3) := by decide +kernel
theorem dX11_product_33 : decode cX11_product 33 = .ok (.iconst 5, 1) := by decide +kernel
theorem dX11_product_34 : decode cX11_product 34 = .ok (.goto 18, 3) := by decide +kernel
theorem dX11_product_37 : decode cX11_product 37 = .ok (.aload_n 0, 1) := by decide +kernel
theorem dX11_product_38 : decode cX11_product 38 = .ok (.bipush 37, 2) := by decide +kernel
theorem dX11_product_40 : decode cX11_product 40 = .ok (.invokevirtual 221, 3) := by decide +kernel
theorem dX11_product_43 : decode cX11_product 43 = .ok (.ifCond .eq 8, 3) := by decide +kernel
theorem dX11_product_46 : decode cX11_product 46 = .ok (.bipush 6, 2) := by decide +kernel
theorem dX11_product_48 : decode cX11_product 48 = .ok (.goto 4, 3) := by decide +kernel
theorem dX11_product_51 : decode cX11_product 51 = .ok (.iconst (-1), 1) := by decide +kernel
theorem dX11_product_52 : decode cX11_product 52 = .ok (.istore_n 1, 1) := by decide +kernel
theorem dX11_product_53 : decode cX11_product 53 = .ok (.iload_n 1, 1) := by decide +kernel
theorem dX11_product_54 : decode cX11_product 54 = .ok (.iconst (-1), 1) := by decide +kernel
theorem dX11_product_55 : decode cX11_product 55 = .ok (.if_icmp .ne 4, 3) := by decide +kernel
theorem dX11_product_58 : decode cX11_product 58 = .ok (.return_, 1) := by decide +kernel
theorem dX11_product_59 : decode cX11_product 59 = .ok (.aload_n 0, 1) := by decide +kernel
theorem dX11_product_60 : decode cX11_product 60 = .ok (.invokevirtual 227, 3) := by decide +kernel
theorem dX11_product_63 : decode cX11_product 63 = .ok (.aload_n 0, 1) := by decide +kernel
theorem dX11_product_64 : decode cX11_product 64 = .ok (.iload_n 1, 1) := by decide +kernel
theorem dX11_product_65 : decode cX11_product 65 = .ok (.iconst 0, 1) := by decide +kernel
theorem dX11_product_66 : decode cX11_product 66 = .ok (.invokevirtual 224, 3) := by decide +kernel
theorem dX11_product_69 : decode cX11_product 69 = .ok (.goto (-65), 3) := by decide +kernel
theorem dX11_product_72 : decode cX11_product 72 = .ok (.return_, 1) := by decide +kernel
theorem dX11_knownHere_0 : decode cX11_knownHere 0 = .ok (.aload_n 0, 1) := by decide +kernel
theorem dX11_knownHere_1 : decode cX11_knownHere 1 = .ok (.bipush 23, 2) := by decide +kernel
theorem dX11_knownHere_3 : decode cX11_knownHere 3 = .ok (.bipush 15, 2) := by decide +kernel
theorem dX11_knownHere_5 : decode cX11_knownHere 5 = .ok (.bipush 18, 2) := by decide +kernel
theorem dX11_knownHere_7 : decode cX11_knownHere 7 = .ok (.bipush 20, 2) := by decide +kernel
theorem dX11_knownHere_9 : decode cX11_knownHere 9 = .ok (.bipush 8, 2) := by decide +kernel
theorem dX11_knownHere_11 : decode cX11_knownHere 11 = .ok (.iconst 0, 1) := by decide +kernel
theorem dX11_knownHere_12 : decode cX11_knownHere 12 = .ok (.invokevirtual 230, 3) := by decide +kernel
theorem dX11_knownHere_15 : decode cX11_knownHere 15 = .ok (.ifCond .eq 5, 3) := by decide +kernel
theorem dX11_knownHere_18 : decode cX11_knownHere 18 = .ok (.iconst 0, 1) := by decide +kernel
theorem dX11_knownHere_19 : decode cX11_knownHere 19 = .ok (.ireturn, 1) := by decide +kernel
theorem dX11_knownHere_20 : decode cX11_knownHere 20 = .ok (.aload_n 0, 1) := by decide +kernel
theorem dX11_knownHere_21 : decode cX11_knownHere 21 = .ok (.iconst 4, 1) := by decide +kernel
theorem dX11_knownHere_22 : decode cX11_knownHere 22 = .ok (.iconst 1, 1) := by decide +kernel
theorem dX11_knownHere_23 : decode cX11_knownHere 23 = .ok (.bipush 25, 2) := by decide +kernel
theorem dX11_knownHere_25 : decode cX11_knownHere 25 = .ok (.bipush 19, 2) := by decide +kernel
theorem dX11_knownHere_27 : decode cX11_knownHere 27 = .ok (.iconst 0, 1) := by decide +kernel
theorem dX11_knownHere_28 : decode cX11_knownHere 28 = .ok (.iconst 0, 1) := by decide +kernel
theorem dX11_knownHere_29 : decode cX11_knownHere 29 = .ok (.invokevirtual 230, 3) := by decide +kernel
theorem dX11_knownHere_32 : decode cX11_knownHere 32 = .ok (.ifCond .eq 5, 3) := by decide +kernel
theorem dX11_knownHere_35 : decode cX11_knownHere 35 = .ok (.iconst 1, 1) := by decide +kernel
theorem dX11_knownHere_36 : decode cX11_knownHere 36 = .ok (.ireturn, 1) := by decide +kernel
theorem dX11_knownHere_37 : decode cX11_knownHere 37 = .ok (.aload_n 0, 1) := by decide +kernel
theorem dX11_knownHere_38 : decode cX11_knownHere 38 = .ok (.bipush 12, 2) := by decide +kernel
theorem dX11_knownHere_40 : decode cX11_knownHere 40 = .ok (.iconst 1, 1) := by decide +kernel
theorem dX11_knownHere_41 : decode cX11_knownHere 41 = .ok (.bipush 16, 2) := by decide +kernel
theorem dX11_knownHere_43 : decode cX11_knownHere 43 = .ok (.bipush 19, 2) := by decide +kernel
theorem dX11_knownHere_45 : decode cX11_knownHere 45 = .ok (.iconst 5, 1) := by decide +kernel
theorem dX11_knownHere_46 : decode cX11_knownHere 46 = .ok (.bipush 19, 2) := by decide +kernel
theorem dX11_knownHere_48 : decode cX11_knownHere 48 = .ok (.invokevirtual 230, 3) := by decide +kernel
theorem dX11_knownHere_51 : decode cX11_knownHere 51 = .ok (.ifCond .eq 5, 3) := by decide +kernel
theorem dX11_knownHere_54 : decode cX11_knownHere 54 = .ok (.iconst 2, 1) := by decide +kernel
theorem dX11_knownHere_55 : decode cX11_knownHere 55 = .ok (.ireturn, 1) := by decide +kernel
theorem dX11_knownHere_56 : decode cX11_knownHere 56 = .ok (.aload_n 0, 1) := by decide +kernel
theorem dX11_knownHere_57 : decode cX11_knownHere 57 = .ok (.invokevirtual 233, 3) := by decide +kernel
theorem dX11_knownHere_60 : decode cX11_knownHere 60 = .ok (.ifCond .eq 5, 3) := by decide +kernel
theorem dX11_knownHere_63 : decode cX11_knownHere 63 = .ok (.iconst 3, 1) := by decide +kernel
theorem dX11_knownHere_64 : decode cX11_knownHere 64 = .ok (.ireturn, 1) := by decide +kernel
theorem dX11_knownHere_65 : decode cX11_knownHere 65 = .ok (.aload_n 0, 1) := by decide +kernel
theorem dX11_knownHere_66 : decode cX11_knownHere 66 = .ok (.bipush 9, 2) := by decide +kernel
theorem dX11_knownHere_68 : decode cX11_knownHere 68 = .ok (.bipush 12, 2) := by decide +kernel
theorem dX11_knownHere_70 : decode cX11_knownHere 70 = .ok (.bipush 12, 2) := by decide +kernel
theorem dX11_knownHere_72 : decode cX11_knownHere 72 = .ok (.iconst 0, 1) := by decide +kernel
theorem dX11_knownHere_73 : decode cX11_knownHere 73 = .ok (.iconst 0, 1) := by decide +kernel
theorem dX11_knownHere_74 : decode cX11_knownHere 74 = .ok (.iconst 0, 1) := by decide +kernel
theorem dX11_knownHere_75 : decode cX11_knownHere 75 = .ok (.invokevirtual 230, 3) := by decide +kernel
theorem dX11_knownHere_78 : decode cX11_knownHere 78 = .ok (.ifCond .eq 5, 3) := by decide +kernel
theorem dX11_knownHere_81 : decode cX11_knownHere 81 = .ok (.iconst 4, 1) := by decide +kernel
theorem dX11_knownHere_82 : decode cX11_knownHere 82 = .ok (.ireturn, 1) := by decide +kernel
theorem dX11_knownHere_83 : decode cX11_knownHere 83 = .ok (.aload_n 0, 1) := by decide +kernel
theorem dX11_knownHere_84 : decode cX11_knownHere 84 = .ok (.bipush 15, 2) := by decide +kernel
theorem dX11_knownHere_86 : decode cX11_knownHere 86 = .ok (.bipush 20, 2) := by decide +kernel
theorem dX11_knownHere_88 : decode cX11_knownHere 88 = .ok (.bipush 8, 2) := by decide +kernel
theorem dX11_knownHere_90 : decode cX11_knownHere 90 = .ok (.iconst 5, 1) := by decide +kernel
theorem dX11_knownHere_91 : decode cX11_knownHere 91 = .ok (.bipush 18, 2) := by decide +kernel
theorem dX11_knownHere_93 : decode cX11_knownHere 93 = .ok (.bipush 19, 2) := by decide +kernel
theorem dX11_knownHere_95 : decode cX11_knownHere 95 = .ok (.invokevirtual 230, 3) := by decide +kernel
theorem dX11_knownHere_98 : decode cX11_knownHere 98 = .ok (.ifCond .eq 5, 3) := by decide +kernel
theorem dX11_knownHere_101 : decode cX11_knownHere 101 = .ok (.iconst 5, 1) := by decide +kernel
theorem dX11_knownHere_102 : decode cX11_knownHere 102 = .ok (.ireturn, 1) := by decide +kernel
theorem dX11_knownHere_103 : decode cX11_knownHere 103 = .ok (.aload_n 0, 1) := by decide +kernel
theorem dX11_knownHere_104 : decode cX11_knownHere 104 = .ok (.bipush 19, 2) := by decide +kernel
theorem dX11_knownHere_106 : decode cX11_knownHere 106 = .ok (.bipush 9, 2) := by decide +kernel
theorem dX11_knownHere_108 : decode cX11_knownHere 108 = .ok (.bipush 19, 2) := by decide +kernel
theorem dX11_knownHere_110 : decode cX11_knownHere 110 = .ok (.bipush 20, 2) := by decide +kernel
theorem dX11_knownHere_112 : decode cX11_knownHere 112 = .ok (.iconst 5, 1) := by decide +kernel
theorem dX11_knownHere_113 : decode cX11_knownHere 113 = .ok (.bipush 18, 2) := by decide +kernel
theorem dX11_knownHere_115 : decode cX11_knownHere 115 = .ok (.invokevirtual 230, 3) := by decide +kernel
theorem dX11_knownHere_118 : decode cX11_knownHere 118 = .ok (.ifCond .eq 6, 3) := by decide +kernel
theorem dX11_knownHere_121 : decode cX11_knownHere 121 = .ok (.bipush 6, 2) := by decide +kernel
theorem dX11_knownHere_123 : decode cX11_knownHere 123 = .ok (.ireturn, 1) := by decide +kernel
theorem dX11_knownHere_124 : decode cX11_knownHere 124 = .ok (.aload_n 0, 1) := by decide +kernel
theorem dX11_knownHere_125 : decode cX11_knownHere 125 = .ok (.iconst 4, 1) := by decide +kernel
theorem dX11_knownHere_126 : decode cX11_knownHere 126 = .ok (.iconst 1, 1) := by decide +kernel
theorem dX11_knownHere_127 : decode cX11_knownHere 127 = .ok (.bipush 25, 2) := by decide +kernel
theorem dX11_knownHere_129 : decode cX11_knownHere 129 = .ok (.iconst 0, 1) := by decide +kernel
theorem dX11_knownHere_130 : decode cX11_knownHere 130 = .ok (.iconst 0, 1) := by decide +kernel
theorem dX11_knownHere_131 : decode cX11_knownHere 131 = .ok (.iconst 0, 1) := by decide +kernel
theorem dX11_knownHere_132 : decode cX11_knownHere 132 = .ok (.invokevirtual 230, 3) := by decide +kernel
theorem dX11_knownHere_135 : decode cX11_knownHere 135 = .ok (.ifCond .eq 8, 3) := by decide +kernel
theorem dX11_knownHere_138 : decode cX11_knownHere 138 = .ok (.bipush 7, 2) := by decide +kernel
theorem dX11_knownHere_140 : decode cX11_knownHere 140 = .ok (.goto 4, 3) := by decide +kernel
theorem dX11_knownHere_143 : decode cX11_knownHere 143 = .ok (.iconst (-1), 1) := by decide +kernel
theorem dX11_knownHere_144 : decode cX11_knownHere 144 = .ok (.ireturn, 1) := by decide +kernel
theorem dX11_one_0 : decode cX11_one 0 = .ok (.aload_n 0, 1) := by decide +kernel
theorem dX11_one_1 : decode cX11_one 1 = .ok (.getfield 119, 3) := by decide +kernel
theorem dX11_one_4 : decode cX11_one 4 = .ok (.ifCond .eq 4, 3) := by decide +kernel
theorem dX11_one_7 : decode cX11_one 7 = .ok (.return_, 1) := by decide +kernel
theorem dX11_one_8 : decode cX11_one 8 = .ok (.aload_n 0, 1) := by decide +kernel
theorem dX11_one_9 : decode cX11_one 9 = .ok (.invokevirtual 125, 3) := by decide +kernel
theorem dX11_one_12 : decode cX11_one 12 = .ok (.aload_n 0, 1) := by decide +kernel
theorem dX11_one_13 : decode cX11_one 13 = .ok (.bipush 12, 2) := by decide +kernel
theorem dX11_one_15 : decode cX11_one 15 = .ok (.iconst 5, 1) := by decide +kernel
theorem dX11_one_16 : decode cX11_one 16 = .ok (.iconst 1, 1) := by decide +kernel
theorem dX11_one_17 : decode cX11_one 17 = .ok (.bipush 19, 2) := by decide +kernel
theorem dX11_one_19 : decode cX11_one 19 = .ok (.bipush 20, 2) := by decide +kernel
theorem dX11_one_21 : decode cX11_one 21 = .ok (.iconst 0, 1) := by decide +kernel
theorem dX11_one_22 : decode cX11_one 22 = .ok (.invokevirtual 152, 3) := by decide +kernel
theorem dX11_one_25 : decode cX11_one 25 = .ok (.ifCond .eq 8, 3) := by decide +kernel
theorem dX11_one_28 : decode cX11_one 28 = .ok (.bipush 7, 2) := by decide +kernel
theorem dX11_one_30 : decode cX11_one 30 = .ok (.goto 26, 3) := by decide +kernel
theorem dX11_one_33 : decode cX11_one 33 = .ok (.aload_n 0, 1) := by decide +kernel
theorem dX11_one_34 : decode cX11_one 34 = .ok (.bipush 13, 2) := by decide +kernel
theorem dX11_one_36 : decode cX11_one 36 = .ok (.bipush 15, 2) := by decide +kernel
theorem dX11_one_38 : decode cX11_one 38 = .ok (.bipush 19, 2) := by decide +kernel
theorem dX11_one_40 : decode cX11_one 40 = .ok (.bipush 20, 2) := by decide +kernel
theorem dX11_one_42 : decode cX11_one 42 = .ok (.iconst 0, 1) := by decide +kernel
theorem dX11_one_43 : decode cX11_one 43 = .ok (.iconst 0, 1) := by decide +kernel
theorem dX11_one_44 : decode cX11_one 44 = .ok (.invokevirtual 152, 3) := by decide +kernel
theorem dX11_one_47 : decode cX11_one 47 = .ok (.ifCond .eq 8, 3) := by decide +kernel
theorem dX11_one_50 : decode cX11_one 50 = .ok (.bipush 8, 2) := by decide +kernel
theorem dX11_one_52 : decode cX11_one 52 = .ok (.goto 4, 3) := by decide +kernel
theorem dX11_one_55 : decode cX11_one 55 = .ok (.iconst (-1), 1) := by decide +kernel
theorem dX11_one_56 : decode cX11_one 56 = .ok (.istore_n 1, 1) := by decide +kernel
theorem dX11_one_57 : decode cX11_one 57 = .ok (.iload_n 1, 1) := by decide +kernel
theorem dX11_one_58 : decode cX11_one 58 = .ok (.iconst (-1), 1) := by decide +kernel
theorem dX11_one_59 : decode cX11_one 59 = .ok (.if_icmp .eq 58, 3) := by decide +kernel
theorem dX11_one_62 : decode cX11_one 62 = .ok (.aload_n 0, 1) := by decide +kernel
theorem dX11_one_63 : decode cX11_one 63 = .ok (.invokevirtual 236, 3) := by decide +kernel
theorem dX11_one_66 : decode cX11_one 66 = .ok (.ifCond .ne 4, 3) := by decide +kernel
theorem dX11_one_69 : decode cX11_one 69 = .ok (.return_, 1) := by decide +kernel
theorem dX11_one_70 : decode cX11_one 70 = .ok (.aload_n 0, 1) := by decide +kernel
theorem dX11_one_71 : decode cX11_one 71 = .ok (.invokevirtual 156, 3) := by decide +kernel
theorem dX11_one_74 : decode cX11_one 74 = .ok (.aload_n 0, 1) := by decide +kernel
theorem dX11_one_75 : decode cX11_one 75 = .ok (.bipush 91, 2) := by decide +kernel
theorem dX11_one_77 : decode cX11_one 77 = .ok (.invokevirtual 179, 3) := by decide +kernel
theorem dX11_one_80 : decode cX11_one 80 = .ok (.aload_n 0, 1) := by decide +kernel
theorem dX11_one_81 : decode cX11_one 81 = .ok (.invokevirtual 239, 3) := by decide +kernel
theorem dX11_one_84 : decode cX11_one 84 = .ok (.aload_n 0, 1) := by decide +kernel
theorem dX11_one_85 : decode cX11_one 85 = .ok (.bipush 44, 2) := by decide +kernel
theorem dX11_one_87 : decode cX11_one 87 = .ok (.invokevirtual 179, 3) := by decide +kernel
theorem dX11_one_90 : decode cX11_one 90 = .ok (.aload_n 0, 1) := by decide +kernel
theorem dX11_one_91 : decode cX11_one 91 = .ok (.invokevirtual 239, 3) := by decide +kernel
theorem dX11_one_94 : decode cX11_one 94 = .ok (.aload_n 0, 1) := by decide +kernel
theorem dX11_one_95 : decode cX11_one 95 = .ok (.bipush 93, 2) := by decide +kernel
theorem dX11_one_97 : decode cX11_one 97 = .ok (.invokevirtual 179, 3) := by decide +kernel
theorem dX11_one_100 : decode cX11_one 100 = .ok (.aload_n 0, 1) := by decide +kernel
theorem dX11_one_101 : decode cX11_one 101 = .ok (.iload_n 1, 1) := by decide +kernel
theorem dX11_one_102 : decode cX11_one 102 = .ok (.iconst 0, 1) := by decide +kernel
theorem dX11_one_103 : decode cX11_one 103 = .ok (.invokevirtual 224, 3) := by decide +kernel
theorem dX11_one_106 : decode cX11_one 106 = .ok (.aload_n 0, 1) := by decide +kernel
theorem dX11_one_107 : decode cX11_one 107 = .ok (.dup, 1) := by decide +kernel
theorem dX11_one_108 : decode cX11_one 108 = .ok (.getfield 162, 3) := by decide +kernel
theorem dX11_one_111 : decode cX11_one 111 = .ok (.iconst 1, 1) := by decide +kernel
theorem dX11_one_112 : decode cX11_one 112 = .ok (.isub, 1) := by decide +kernel
theorem dX11_one_113 : decode cX11_one 113 = .ok (.putfield 162, 3) := by decide +kernel
theorem dX11_one_116 : decode cX11_one 116 = .ok (.return_, 1) := by decide +kernel
theorem dX11_one_117 : decode cX11_one 117 = .ok (.aload_n 0, 1) := by decide +kernel
