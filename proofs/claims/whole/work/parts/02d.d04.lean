theorem dX11_one_118 : decode cX11_one 118 = .ok (.aload_n 0, 1) := by decide +kernel
theorem dX11_one_119 : decode cX11_one 119 = .ok (.getfield 112, 3) := by decide +kernel
theorem dX11_one_122 : decode cX11_one 122 = .ok (.invokevirtual 115, 3) := by decide +kernel
theorem dX11_one_125 : decode cX11_one 125 = .ok (.bipush 40, 2) := by decide +kernel
theorem dX11_one_127 : decode cX11_one 127 = .ok (.if_icmp .ne 42, 3) := by decide +kernel
theorem dX11_one_130 : decode cX11_one 130 = .ok (.aload_n 0, 1) := by decide +kernel
theorem dX11_one_131 : decode cX11_one 131 = .ok (.invokevirtual 236, 3) := by decide +kernel
theorem dX11_one_134 : decode cX11_one 134 = .ok (.ifCond .ne 4, 3) := by decide +kernel
theorem dX11_one_137 : decode cX11_one 137 = .ok (.return_, 1) := by decide +kernel
theorem dX11_one_138 : decode cX11_one 138 = .ok (.aload_n 0, 1) := by decide +kernel
theorem dX11_one_139 : decode cX11_one 139 = .ok (.dup, 1) := by decide +kernel
theorem dX11_one_140 : decode cX11_one 140 = .ok (.getfield 112, 3) := by decide +kernel
theorem dX11_one_143 : decode cX11_one 143 = .ok (.iconst 1, 1) := by decide +kernel
theorem dX11_one_144 : decode cX11_one 144 = .ok (.iadd, 1) := by decide +kernel
theorem dX11_one_145 : decode cX11_one 145 = .ok (.putfield 112, 3) := by decide +kernel
theorem dX11_one_148 : decode cX11_one 148 = .ok (.aload_n 0, 1) := by decide +kernel
theorem dX11_one_149 : decode cX11_one 149 = .ok (.invokevirtual 239, 3) := by decide +kernel
theorem dX11_one_152 : decode cX11_one 152 = .ok (.aload_n 0, 1) := by decide +kernel
theorem dX11_one_153 : decode cX11_one 153 = .ok (.bipush 41, 2) := by decide +kernel
theorem dX11_one_155 : decode cX11_one 155 = .ok (.invokevirtual 179, 3) := by decide +kernel
theorem dX11_one_158 : decode cX11_one 158 = .ok (.aload_n 0, 1) := by decide +kernel
theorem dX11_one_159 : decode cX11_one 159 = .ok (.dup, 1) := by decide +kernel
theorem dX11_one_160 : decode cX11_one 160 = .ok (.getfield 162, 3) := by decide +kernel
theorem dX11_one_163 : decode cX11_one 163 = .ok (.iconst 1, 1) := by decide +kernel
theorem dX11_one_164 : decode cX11_one 164 = .ok (.isub, 1) := by decide +kernel
theorem dX11_one_165 : decode cX11_one 165 = .ok (.putfield 162, 3) := by decide +kernel
theorem dX11_one_168 : decode cX11_one 168 = .ok (.return_, 1) := by decide +kernel
theorem dX11_one_169 : decode cX11_one 169 = .ok (.aload_n 0, 1) := by decide +kernel
theorem dX11_one_170 : decode cX11_one 170 = .ok (.invokevirtual 242, 3) := by decide +kernel
theorem dX11_one_173 : decode cX11_one 173 = .ok (.istore_n 2, 1) := by decide +kernel
theorem dX11_one_174 : decode cX11_one 174 = .ok (.iload_n 2, 1) := by decide +kernel
theorem dX11_one_175 : decode cX11_one 175 = .ok (.iconst (-1), 1) := by decide +kernel
theorem dX11_one_176 : decode cX11_one 176 = .ok (.if_icmp .eq 12, 3) := by decide +kernel
theorem dX11_one_179 : decode cX11_one 179 = .ok (.aload_n 0, 1) := by decide +kernel
theorem dX11_one_180 : decode cX11_one 180 = .ok (.iconst 1, 1) := by decide +kernel
theorem dX11_one_181 : decode cX11_one 181 = .ok (.iload_n 2, 1) := by decide +kernel
theorem dX11_one_182 : decode cX11_one 182 = .ok (.invokevirtual 224, 3) := by decide +kernel
theorem dX11_one_185 : decode cX11_one 185 = .ok (.goto 16, 3) := by decide +kernel
theorem dX11_one_188 : decode cX11_one 188 = .ok (.aload_n 0, 1) := by decide +kernel
theorem dX11_one_189 : decode cX11_one 189 = .ok (.iconst 0, 1) := by decide +kernel
theorem dX11_one_190 : decode cX11_one 190 = .ok (.aload_n 0, 1) := by decide +kernel
theorem dX11_one_191 : decode cX11_one 191 = .ok (.iconst 0, 1) := by decide +kernel
theorem dX11_one_192 : decode cX11_one 192 = .ok (.sipush 999, 3) := by decide +kernel
theorem dX11_one_195 : decode cX11_one 195 = .ok (.invokevirtual 175, 3) := by decide +kernel
theorem dX11_one_198 : decode cX11_one 198 = .ok (.invokevirtual 224, 3) := by decide +kernel
theorem dX11_one_201 : decode cX11_one 201 = .ok (.return_, 1) := by decide +kernel
theorem dX11_law_0 : decode cX11_law 0 = .ok (.aload_n 0, 1) := by decide +kernel
theorem dX11_law_1 : decode cX11_law 1 = .ok (.iconst 0, 1) := by decide +kernel
theorem dX11_law_2 : decode cX11_law 2 = .ok (.putfield 103, 3) := by decide +kernel
theorem dX11_law_5 : decode cX11_law 5 = .ok (.aload_n 0, 1) := by decide +kernel
theorem dX11_law_6 : decode cX11_law 6 = .ok (.iload_n 1, 1) := by decide +kernel
theorem dX11_law_7 : decode cX11_law 7 = .ok (.iconst 0, 1) := by decide +kernel
theorem dX11_law_8 : decode cX11_law 8 = .ok (.aload_n 0, 1) := by decide +kernel
theorem dX11_law_9 : decode cX11_law 9 = .ok (.getfield 106, 3) := by decide +kernel
theorem dX11_law_12 : decode cX11_law 12 = .ok (.invokestatic 137, 3) := by decide +kernel
theorem dX11_law_15 : decode cX11_law 15 = .ok (.ifCond .eq 10, 3) := by decide +kernel
theorem dX11_law_18 : decode cX11_law 18 = .ok (.iload_n 1, 1) := by decide +kernel
theorem dX11_law_19 : decode cX11_law 19 = .ok (.sipush 150, 3) := by decide +kernel
theorem dX11_law_22 : decode cX11_law 22 = .ok (.if_icmp .le 7, 3) := by decide +kernel
theorem dX11_law_25 : decode cX11_law 25 = .ok (.iconst 1, 1) := by decide +kernel
theorem dX11_law_26 : decode cX11_law 26 = .ok (.goto 4, 3) := by decide +kernel
theorem dX11_law_29 : decode cX11_law 29 = .ok (.iconst 0, 1) := by decide +kernel
theorem dX11_law_30 : decode cX11_law 30 = .ok (.iconst 1, 1) := by decide +kernel
theorem dX11_law_31 : decode cX11_law 31 = .ok (.iconst 1, 1) := by decide +kernel
theorem dX11_law_32 : decode cX11_law 32 = .ok (.invokevirtual 183, 3) := by decide +kernel
theorem dX11_law_35 : decode cX11_law 35 = .ok (.ifCond .eq 5, 3) := by decide +kernel
theorem dX11_law_38 : decode cX11_law 38 = .ok (.iconst 0, 1) := by decide +kernel
theorem dX11_law_39 : decode cX11_law 39 = .ok (.ireturn, 1) := by decide +kernel
theorem dX11_law_40 : decode cX11_law 40 = .ok (.aload_n 0, 1) := by decide +kernel
theorem dX11_law_41 : decode cX11_law 41 = .ok (.iload_n 1, 1) := by decide +kernel
theorem dX11_law_42 : decode cX11_law 42 = .ok (.invokevirtual 187, 3) := by decide +kernel
theorem dX11_law_45 : decode cX11_law 45 = .ok (.aload_n 0, 1) := by decide +kernel
theorem dX11_law_46 : decode cX11_law 46 = .ok (.iconst 0, 1) := by decide +kernel
theorem dX11_law_47 : decode cX11_law 47 = .ok (.putfield 215, 3) := by decide +kernel
theorem dX11_law_50 : decode cX11_law 50 = .ok (.aload_n 0, 1) := by decide +kernel
theorem dX11_law_51 : decode cX11_law 51 = .ok (.invokevirtual 239, 3) := by decide +kernel
theorem dX11_law_54 : decode cX11_law 54 = .ok (.aload_n 0, 1) := by decide +kernel
theorem dX11_law_55 : decode cX11_law 55 = .ok (.invokevirtual 125, 3) := by decide +kernel
theorem dX11_law_58 : decode cX11_law 58 = .ok (.aload_n 0, 1) := by decide +kernel
theorem dX11_law_59 : decode cX11_law 59 = .ok (.getfield 119, 3) := by decide +kernel
theorem dX11_law_62 : decode cX11_law 62 = .ok (.ifCond .ne 23, 3) := by decide +kernel
theorem dX11_law_65 : decode cX11_law 65 = .ok (.aload_n 0, 1) := by decide +kernel
theorem dX11_law_66 : decode cX11_law 66 = .ok (.getfield 112, 3) := by decide +kernel
theorem dX11_law_69 : decode cX11_law 69 = .ok (.aload_n 0, 1) := by decide +kernel
theorem dX11_law_70 : decode cX11_law 70 = .ok (.getfield 109, 3) := by decide +kernel
theorem dX11_law_73 : decode cX11_law 73 = .ok (.if_icmp .ge 12, 3) := by decide +kernel
theorem dX11_law_76 : decode cX11_law 76 = .ok (.aload_n 0, 1) := by decide +kernel
theorem dX11_law_77 : decode cX11_law 77 = .ok (.iconst 1, 1) := by decide +kernel
theorem dX11_law_78 : decode cX11_law 78 = .ok (.aload_n 0, 1) := by decide +kernel
theorem dX11_law_79 : decode cX11_law 79 = .ok (.getfield 112, 3) := by decide +kernel
theorem dX11_law_82 : decode cX11_law 82 = .ok (.invokevirtual 132, 3) := by decide +kernel
theorem dX11_law_85 : decode cX11_law 85 = .ok (.aload_n 0, 1) := by decide +kernel
theorem dX11_law_86 : decode cX11_law 86 = .ok (.getfield 119, 3) := by decide +kernel
theorem dX11_law_89 : decode cX11_law 89 = .ok (.ifCond .eq 8, 3) := by decide +kernel
theorem dX11_law_92 : decode cX11_law 92 = .ok (.aload_n 0, 1) := by decide +kernel
theorem dX11_law_93 : decode cX11_law 93 = .ok (.invokevirtual 193, 3) := by decide +kernel
theorem dX11_law_96 : decode cX11_law 96 = .ok (.ireturn, 1) := by decide +kernel
theorem dX11_law_97 : decode cX11_law 97 = .ok (.aload_n 0, 1) := by decide +kernel
theorem dX11_law_98 : decode cX11_law 98 = .ok (.iconst (-1), 1) := by decide +kernel
theorem dX11_law_99 : decode cX11_law 99 = .ok (.putfield 9, 3) := by decide +kernel
theorem dX11_law_102 : decode cX11_law 102 = .ok (.aload_n 0, 1) := by decide +kernel
theorem dX11_law_103 : decode cX11_law 103 = .ok (.aload_n 0, 1) := by decide +kernel
theorem dX11_law_104 : decode cX11_law 104 = .ok (.getfield 215, 3) := by decide +kernel
theorem dX11_law_107 : decode cX11_law 107 = .ok (.putfield 200, 3) := by decide +kernel
theorem dX11_law_110 : decode cX11_law 110 = .ok (.aload_n 0, 1) := by decide +kernel
theorem dX11_law_111 : decode cX11_law 111 = .ok (.getfield 55, 3) := by decide +kernel
theorem dX11_law_114 : decode cX11_law 114 = .ok (.aload_n 0, 1) := by decide +kernel
theorem dX11_law_115 : decode cX11_law 115 = .ok (.getfield 52, 3) := by decide +kernel
theorem dX11_law_118 : decode cX11_law 118 = .ok (.aload_n 0, 1) := by decide +kernel
theorem dX11_law_119 : decode cX11_law 119 = .ok (.getfield 200, 3) := by decide +kernel
theorem dX11_law_122 : decode cX11_law 122 = .ok (.invokestatic 196, 3) := by decide +kernel
theorem dX11_law_125 : decode cX11_law 125 = .ok (.iconst 1, 1) := by decide +kernel
theorem dX11_law_126 : decode cX11_law 126 = .ok (.ireturn, 1) := by decide +kernel
theorem dX11_by_0 : decode cX11_by 0 = .ok (.iload_n 0, 1) := by decide +kernel
theorem dX11_by_1 : decode cX11_by 1 = .ok (.tableswitch 96 2 7 #[39, 43, 47, 51, 73, 90], 39) := by decide +kernel
theorem dX11_by_40 : decode cX11_by 40 = .ok (.iload_n 1, 1) := by decide +kernel
theorem dX11_by_41 : decode cX11_by 41 = .ok (.iload_n 2, 1) := by decide +kernel
theorem dX11_by_42 : decode cX11_by 42 = .ok (.iadd, 1) := by decide +kernel
theorem dX11_by_43 : decode cX11_by 43 = .ok (.ireturn, 1) := by decide +kernel
theorem dX11_by_44 : decode cX11_by 44 = .ok (.iload_n 1, 1) := by decide +kernel
theorem dX11_by_45 : decode cX11_by 45 = .ok (.iload_n 2, 1) := by decide +kernel
theorem dX11_by_46 : decode cX11_by 46 = .ok (.isub, 1) := by decide +kernel
theorem dX11_by_47 : decode cX11_by 47 = .ok (.ireturn, 1) := by decide +kernel
theorem dX11_by_48 : decode cX11_by 48 = .ok (.iload_n 1, 1) := by decide +kernel
theorem dX11_by_49 : decode cX11_by 49 = .ok (.iload_n 2, 1) := by decide +kernel
theorem dX11_by_50 : decode cX11_by 50 = .ok (.imul, 1) := by decide +kernel
theorem dX11_by_51 : decode cX11_by 51 = .ok (.ireturn, 1) := by decide +kernel
theorem dX11_by_52 : decode cX11_by 52 = .ok (.iload_n 2, 1) := by decide +kernel
theorem dX11_by_53 : decode cX11_by 53 = .ok (.ifCond .ne 7, 3) := by decide +kernel
theorem dX11_by_56 : decode cX11_by 56 = .ok (.iconst 0, 1) := by decide +kernel
theorem dX11_by_57 : decode cX11_by 57 = .ok (.goto 16, 3) := by decide +kernel
theorem dX11_by_60 : decode cX11_by 60 = .ok (.iload_n 2, 1) := by decide +kernel
theorem dX11_by_61 : decode cX11_by 61 = .ok (.iconst (-1), 1) := by decide +kernel
theorem dX11_by_62 : decode cX11_by 62 = .ok (.if_icmp .ne 8, 3) := by decide +kernel
theorem dX11_by_65 : decode cX11_by 65 = .ok (.iload_n 1, 1) := by decide +kernel
theorem dX11_by_66 : decode cX11_by 66 = .ok (.ineg, 1) := by decide +kernel
theorem dX11_by_67 : decode cX11_by 67 = .ok (.goto 6, 3) := by decide +kernel
theorem dX11_by_70 : decode cX11_by 70 = .ok (.iload_n 1, 1) := by decide +kernel
theorem dX11_by_71 : decode cX11_by 71 = .ok (.iload_n 2, 1) := by decide +kernel
theorem dX11_by_72 : decode cX11_by 72 = .ok (.idiv, 1) := by decide +kernel
theorem dX11_by_73 : decode cX11_by 73 = .ok (.ireturn, 1) := by decide +kernel
theorem dX11_by_74 : decode cX11_by 74 = .ok (.iload_n 2, 1) := by decide +kernel
theorem dX11_by_75 : decode cX11_by 75 = .ok (.ifCond .eq 8, 3) := by decide +kernel
theorem dX11_by_78 : decode cX11_by 78 = .ok (.iload_n 2, 1) := by decide +kernel
theorem dX11_by_79 : decode cX11_by 79 = .ok (.iconst (-1), 1) := by decide +kernel
theorem dX11_by_80 : decode cX11_by 80 = .ok (.if_icmp .ne 7, 3) := by decide +kernel
theorem dX11_by_83 : decode cX11_by 83 = .ok (.iconst 0, 1) := by decide +kernel
theorem dX11_by_84 : decode cX11_by 84 = .ok (.goto 6, 3) := by decide +kernel
theorem dX11_by_87 : decode cX11_by 87 = .ok (.iload_n 1, 1) := by decide +kernel
theorem dX11_by_88 : decode cX11_by 88 = .ok (.iload_n 2, 1) := by decide +kernel
theorem dX11_by_89 : decode cX11_by 89 = .ok (.irem, 1) := by decide +kernel
theorem dX11_by_90 : decode cX11_by 90 = .ok (.ireturn, 1) := by decide +kernel
theorem dX11_by_91 : decode cX11_by 91 = .ok (.iload_n 1, 1) := by decide +kernel
theorem dX11_by_92 : decode cX11_by 92 = .ok (.iload_n 2, 1) := by decide +kernel
theorem dX11_by_93 : decode cX11_by 93 = .ok (.invokestatic 245, 3) := by decide +kernel
theorem dX11_by_96 : decode cX11_by 96 = .ok (.ireturn, 1) := by decide +kernel
theorem dX11_by_97 : decode cX11_by 97 = .ok (.iload_n 1, 1) := by decide +kernel
theorem dX11_by_98 : decode cX11_by 98 = .ok (.iload_n 2, 1) := by decide +kernel
theorem dX11_by_99 : decode cX11_by 99 = .ok (.invokestatic 248, 3) := by decide +kernel
theorem dX11_by_102 : decode cX11_by 102 = .ok (.ireturn, 1) := by decide +kernel
theorem dX11_byLaw_0 : decode cX11_byLaw 0 = .ok (.iconst 0, 1) := by decide +kernel
theorem dX11_byLaw_1 : decode cX11_byLaw 1 = .ok (.istore_n 1, 1) := by decide +kernel
theorem dX11_byLaw_2 : decode cX11_byLaw 2 = .ok (.aload_n 0, 1) := by decide +kernel
theorem dX11_byLaw_3 : decode cX11_byLaw 3 = .ok (.getfield 64, 3) := by decide +kernel
theorem dX11_byLaw_6 : decode cX11_byLaw 6 = .ok (.iconst 0, 1) := by decide +kernel
theorem dX11_byLaw_7 : decode cX11_byLaw 7 = .ok (.aload_n 0, 1) := by decide +kernel
theorem dX11_byLaw_8 : decode cX11_byLaw 8 = .ok (.getfield 67, 3) := by decide +kernel
theorem dX11_byLaw_11 : decode cX11_byLaw 11 = .ok (.iconst 0, 1) := by decide +kernel
theorem dX11_byLaw_12 : decode cX11_byLaw 12 = .ok (.iaload, 1) := by decide +kernel
theorem dX11_byLaw_13 : decode cX11_byLaw 13 = .ok (.aload_n 0, 1) := by decide +kernel
theorem dX11_byLaw_14 : decode cX11_byLaw 14 = .ok (.getfield 67, 3) := by decide +kernel
theorem dX11_byLaw_17 : decode cX11_byLaw 17 = .ok (.iconst 1, 1) := by decide +kernel
theorem dX11_byLaw_18 : decode cX11_byLaw 18 = .ok (.iaload, 1) := by decide +kernel
theorem dX11_byLaw_19 : decode cX11_byLaw 19 = .ok (.iadd, 1) := by decide +kernel
theorem dX11_byLaw_20 : decode cX11_byLaw 20 = .ok (.iconst 2, 1) := by decide +kernel
theorem dX11_byLaw_21 : decode cX11_byLaw 21 = .ok (.aload_n 0, 1) := by decide +kernel
theorem dX11_byLaw_22 : decode cX11_byLaw 22 = .ok (.getfield 67, 3) := by decide +kernel
theorem dX11_byLaw_25 : decode cX11_byLaw 25 = .ok (.iconst 2, 1) := by decide +kernel
theorem dX11_byLaw_26 : decode cX11_byLaw 26 = .ok (.iaload, 1) := by decide +kernel
theorem dX11_byLaw_27 : decode cX11_byLaw 27 = .ok (.imul, 1) := by decide +kernel
theorem dX11_byLaw_28 : decode cX11_byLaw 28 = .ok (.isub, 1) := by decide +kernel
theorem dX11_byLaw_29 : decode cX11_byLaw 29 = .ok (.iastore, 1) := by decide +kernel
theorem dX11_byLaw_30 : decode cX11_byLaw 30 = .ok (.iconst 0, 1) := by decide +kernel
theorem dX11_byLaw_31 : decode cX11_byLaw 31 = .ok (.istore_n 2, 1) := by decide +kernel
theorem dX11_byLaw_32 : decode cX11_byLaw 32 = .ok (.iload_n 2, 1) := by decide +kernel
theorem dX11_byLaw_33 : decode cX11_byLaw 33 = .ok (.aload_n 0, 1) := by decide +kernel
theorem dX11_byLaw_34 : decode cX11_byLaw 34 = .ok (.getfield 200, 3) := by decide +kernel
theorem dX11_byLaw_37 : decode cX11_byLaw 37 = .ok (.if_icmp .ge 104, 3) := by decide +kernel
theorem dX11_byLaw_40 : decode cX11_byLaw 40 = .ok (.aload_n 0, 1) := by decide +kernel
theorem dX11_byLaw_41 : decode cX11_byLaw 41 = .ok (.getfield 52, 3) := by decide +kernel
theorem dX11_byLaw_44 : decode cX11_byLaw 44 = .ok (.iload_n 2, 1) := by decide +kernel
theorem dX11_byLaw_45 : decode cX11_byLaw 45 = .ok (.aaload, 1) := by decide +kernel
theorem dX11_byLaw_46 : decode cX11_byLaw 46 = .ok (.iconst 0, 1) := by decide +kernel
theorem dX11_byLaw_47 : decode cX11_byLaw 47 = .ok (.iaload, 1) := by decide +kernel
theorem dX11_byLaw_48 : decode cX11_byLaw 48 = .ok (.iconst 2, 1) := by decide +kernel
theorem dX11_byLaw_49 : decode cX11_byLaw 49 = .ok (.if_icmp .ge 50, 3) := by decide +kernel
theorem dX11_byLaw_52 : decode cX11_byLaw 52 = .ok (.aload_n 0, 1) := by decide +kernel
theorem dX11_byLaw_53 : decode cX11_byLaw 53 = .ok (.getfield 64, 3) := by decide +kernel
theorem dX11_byLaw_56 : decode cX11_byLaw 56 = .ok (.iload_n 1, 1) := by decide +kernel
theorem dX11_byLaw_57 : decode cX11_byLaw 57 = .ok (.aload_n 0, 1) := by decide +kernel
theorem dX11_byLaw_58 : decode cX11_byLaw 58 = .ok (.getfield 52, 3) := by decide +kernel
theorem dX11_byLaw_61 : decode cX11_byLaw 61 = .ok (.iload_n 2, 1) := by decide +kernel
theorem dX11_byLaw_62 : decode cX11_byLaw 62 = .ok (.aaload, 1) := by decide +kernel
theorem dX11_byLaw_63 : decode cX11_byLaw 63 = .ok (.iconst 0, 1) := by decide +kernel
theorem dX11_byLaw_64 : decode cX11_byLaw 64 = .ok (.iaload, 1) := by decide +kernel
theorem dX11_byLaw_65 : decode cX11_byLaw 65 = .ok (.ifCond .ne 14, 3) := by decide +kernel
theorem dX11_byLaw_68 : decode cX11_byLaw 68 = .ok (.aload_n 0, 1) := by decide +kernel
theorem dX11_byLaw_69 : decode cX11_byLaw 69 = .ok (.getfield 52, 3) := by decide +kernel
theorem dX11_byLaw_72 : decode cX11_byLaw 72 = .ok (.iload_n 2, 1) := by decide +kernel
theorem dX11_byLaw_73 : decode cX11_byLaw 73 = .ok (.aaload, 1) := by decide +kernel
theorem dX11_byLaw_74 : decode cX11_byLaw 74 = .ok (.iconst 1, 1) := by decide +kernel
theorem dX11_byLaw_75 : decode cX11_byLaw 75 = .ok (.iaload, 1) := by decide +kernel
theorem dX11_byLaw_76 : decode cX11_byLaw 76 = .ok (.goto 16, 3) := by decide +kernel
theorem dX11_byLaw_79 : decode cX11_byLaw 79 = .ok (.aload_n 0, 1) := by decide +kernel
theorem dX11_byLaw_80 : decode cX11_byLaw 80 = .ok (.getfield 67, 3) := by decide +kernel
theorem dX11_byLaw_83 : decode cX11_byLaw 83 = .ok (.aload_n 0, 1) := by decide +kernel
theorem dX11_byLaw_84 : decode cX11_byLaw 84 = .ok (.getfield 52, 3) := by decide +kernel
theorem dX11_byLaw_87 : decode cX11_byLaw 87 = .ok (.iload_n 2, 1) := by decide +kernel
theorem dX11_byLaw_88 : decode cX11_byLaw 88 = .ok (.aaload, 1) := by decide +kernel
theorem dX11_byLaw_89 : decode cX11_byLaw 89 = .ok (.iconst 1, 1) := by decide +kernel
theorem dX11_byLaw_90 : decode cX11_byLaw 90 = .ok (.iaload, 1) := by decide +kernel
theorem dX11_byLaw_91 : decode cX11_byLaw 91 = .ok (.iaload, 1) := by decide +kernel
theorem dX11_byLaw_92 : decode cX11_byLaw 92 = .ok (.iastore, 1) := by decide +kernel
theorem dX11_byLaw_93 : decode cX11_byLaw 93 = .ok (.iinc 1 1, 3) := by decide +kernel
theorem dX11_byLaw_96 : decode cX11_byLaw 96 = .ok (.goto 39, 3) := by decide +kernel
theorem dX11_byLaw_99 : decode cX11_byLaw 99 = .ok (.iinc 1 (-1), 3) := by decide +kernel
theorem dX11_byLaw_102 : decode cX11_byLaw 102 = .ok (.aload_n 0, 1) := by decide +kernel
theorem dX11_byLaw_103 : decode cX11_byLaw 103 = .ok (.getfield 64, 3) := by decide +kernel
theorem dX11_byLaw_106 : decode cX11_byLaw 106 = .ok (.iload_n 1, 1) := by decide +kernel
theorem dX11_byLaw_107 : decode cX11_byLaw 107 = .ok (.iconst 1, 1) := by decide +kernel
theorem dX11_byLaw_108 : decode cX11_byLaw 108 = .ok (.isub, 1) := by decide +kernel
theorem dX11_byLaw_109 : decode cX11_byLaw 109 = .ok (.aload_n 0, 1) := by decide +kernel
theorem dX11_byLaw_110 : decode cX11_byLaw 110 = .ok (.getfield 52, 3) := by decide +kernel
theorem dX11_byLaw_113 : decode cX11_byLaw 113 = .ok (.iload_n 2, 1) := by decide +kernel
theorem dX11_byLaw_114 : decode cX11_byLaw 114 = .ok (.aaload, 1) := by decide +kernel
theorem dX11_byLaw_115 : decode cX11_byLaw 115 = .ok (.iconst 0, 1) := by decide +kernel
theorem dX11_byLaw_116 : decode cX11_byLaw 116 = .ok (.iaload, 1) := by decide +kernel
theorem dX11_byLaw_117 : decode cX11_byLaw 117 = .ok (.aload_n 0, 1) := by decide +kernel
theorem dX11_byLaw_118 : decode cX11_byLaw 118 = .ok (.getfield 64, 3) := by decide +kernel
theorem dX11_byLaw_121 : decode cX11_byLaw 121 = .ok (.iload_n 1, 1) := by decide +kernel
theorem dX11_byLaw_122 : decode cX11_byLaw 122 = .ok (.iconst 1, 1) := by decide +kernel
theorem dX11_byLaw_123 : decode cX11_byLaw 123 = .ok (.isub, 1) := by decide +kernel
theorem dX11_byLaw_124 : decode cX11_byLaw 124 = .ok (.iaload, 1) := by decide +kernel
theorem dX11_byLaw_125 : decode cX11_byLaw 125 = .ok (.aload_n 0, 1) := by decide +kernel
theorem dX11_byLaw_126 : decode cX11_byLaw 126 = .ok (.getfield 64, 3) := by decide +kernel
theorem dX11_byLaw_129 : decode cX11_byLaw 129 = .ok (.iload_n 1, 1) := by decide +kernel
theorem dX11_byLaw_130 : decode cX11_byLaw 130 = .ok (.iaload, 1) := by decide +kernel
theorem dX11_byLaw_131 : decode cX11_byLaw 131 = .ok (.invokestatic 251, 3) := by decide +kernel
theorem dX11_byLaw_134 : decode cX11_byLaw 134 = .ok (.iastore, 1) := by decide +kernel
theorem dX11_byLaw_135 : decode cX11_byLaw 135 = .ok (.iinc 2 1, 3) := by decide +kernel
theorem dX11_byLaw_138 : decode cX11_byLaw 138 = .ok (.goto (-106), 3) := by decide +kernel
theorem dX11_byLaw_141 : decode cX11_byLaw 141 = .ok (.bipush 99, 2) := by decide +kernel
theorem dX11_byLaw_143 : decode cX11_byLaw 143 = .ok (.iconst 0, 1) := by decide +kernel
theorem dX11_byLaw_144 : decode cX11_byLaw 144 = .ok (.aload_n 0, 1) := by decide +kernel
theorem dX11_byLaw_145 : decode cX11_byLaw 145 = .ok (.getfield 64, 3) := by decide +kernel
theorem dX11_byLaw_148 : decode cX11_byLaw 148 = .ok (.iconst 0, 1) := by decide +kernel
theorem dX11_byLaw_149 : decode cX11_byLaw 149 = .ok (.iaload, 1) := by decide +kernel
theorem dX11_byLaw_150 : decode cX11_byLaw 150 = .ok (.invokestatic 248, 3) := by decide +kernel
theorem dX11_byLaw_153 : decode cX11_byLaw 153 = .ok (.invokestatic 245, 3) := by decide +kernel
theorem dX11_byLaw_156 : decode cX11_byLaw 156 = .ok (.ireturn, 1) := by decide +kernel
theorem dX11_stepHere_0 : decode cX11_stepHere 0 = .ok (.aload_n 0, 1) := by decide +kernel
theorem dX11_stepHere_1 : decode cX11_stepHere 1 = .ok (.bipush 7, 2) := by decide +kernel
theorem dX11_stepHere_3 : decode cX11_stepHere 3 = .ok (.bipush 9, 2) := by decide +kernel
theorem dX11_stepHere_5 : decode cX11_stepHere 5 = .ok (.bipush 22, 2) := by decide +kernel
theorem dX11_stepHere_7 : decode cX11_stepHere 7 = .ok (.iconst 5, 1) := by decide +kernel
theorem dX11_stepHere_8 : decode cX11_stepHere 8 = .ok (.iconst 0, 1) := by decide +kernel
theorem dX11_stepHere_9 : decode cX11_stepHere 9 = .ok (.iconst 0, 1) := by decide +kernel
theorem dX11_stepHere_10 : decode cX11_stepHere 10 = .ok (.invokevirtual 152, 3) := by decide +kernel
theorem dX11_stepHere_13 : decode cX11_stepHere 13 = .ok (.ifCond .eq 5, 3) := by decide +kernel
theorem dX11_stepHere_16 : decode cX11_stepHere 16 = .ok (.iconst 0, 1) := by decide +kernel
theorem dX11_stepHere_17 : decode cX11_stepHere 17 = .ok (.ireturn, 1) := by decide +kernel
theorem dX11_stepHere_18 : decode cX11_stepHere 18 = .ok (.aload_n 0, 1) := by decide +kernel
theorem dX11_stepHere_19 : decode cX11_stepHere 19 = .ok (.iconst 2, 1) := by decide +kernel
theorem dX11_stepHere_20 : decode cX11_stepHere 20 = .ok (.iconst 1, 1) := by decide +kernel
theorem dX11_stepHere_21 : decode cX11_stepHere 21 = .ok (.iconst 3, 1) := by decide +kernel
theorem dX11_stepHere_22 : decode cX11_stepHere 22 = .ok (.bipush 11, 2) := by decide +kernel
theorem dX11_stepHere_24 : decode cX11_stepHere 24 = .ok (.iconst 0, 1) := by decide +kernel
theorem dX11_stepHere_25 : decode cX11_stepHere 25 = .ok (.iconst 0, 1) := by decide +kernel
theorem dX11_stepHere_26 : decode cX11_stepHere 26 = .ok (.invokevirtual 152, 3) := by decide +kernel
theorem dX11_stepHere_29 : decode cX11_stepHere 29 = .ok (.ifCond .eq 5, 3) := by decide +kernel
theorem dX11_stepHere_32 : decode cX11_stepHere 32 = .ok (.iconst 1, 1) := by decide +kernel
theorem dX11_stepHere_33 : decode cX11_stepHere 33 = .ok (.ireturn, 1) := by decide +kernel
theorem dX11_stepHere_34 : decode cX11_stepHere 34 = .ok (.aload_n 0, 1) := by decide +kernel
theorem dX11_stepHere_35 : decode cX11_stepHere 35 = .ok (.bipush 12, 2) := by decide +kernel
theorem dX11_stepHere_37 : decode cX11_stepHere 37 = .ok (.iconst 1, 1) := by decide +kernel
theorem dX11_stepHere_38 : decode cX11_stepHere 38 = .ok (.bipush 16, 2) := by decide +kernel
theorem dX11_stepHere_40 : decode cX11_stepHere 40 = .ok (.bipush 19, 2) := by decide +kernel
theorem dX11_stepHere_42 : decode cX11_stepHere 42 = .ok (.iconst 5, 1) := by decide +kernel
theorem dX11_stepHere_43 : decode cX11_stepHere 43 = .ok (.iconst 0, 1) := by decide +kernel
theorem dX11_stepHere_44 : decode cX11_stepHere 44 = .ok (.invokevirtual 152, 3) := by decide +kernel
theorem dX11_stepHere_47 : decode cX11_stepHere 47 = .ok (.ifCond .eq 5, 3) := by decide +kernel
theorem dX11_stepHere_50 : decode cX11_stepHere 50 = .ok (.iconst 2, 1) := by decide +kernel
theorem dX11_stepHere_51 : decode cX11_stepHere 51 = .ok (.ireturn, 1) := by decide +kernel
theorem dX11_stepHere_52 : decode cX11_stepHere 52 = .ok (.aload_n 0, 1) := by decide +kernel
theorem dX11_stepHere_53 : decode cX11_stepHere 53 = .ok (.iconst 3, 1) := by decide +kernel
theorem dX11_stepHere_54 : decode cX11_stepHere 54 = .ok (.bipush 21, 2) := by decide +kernel
theorem dX11_stepHere_56 : decode cX11_stepHere 56 = .ok (.bipush 18, 2) := by decide +kernel
theorem dX11_stepHere_58 : decode cX11_stepHere 58 = .ok (.iconst 5, 1) := by decide +kernel
theorem dX11_stepHere_59 : decode cX11_stepHere 59 = .ok (.iconst 0, 1) := by decide +kernel
theorem dX11_stepHere_60 : decode cX11_stepHere 60 = .ok (.iconst 0, 1) := by decide +kernel
theorem dX11_stepHere_61 : decode cX11_stepHere 61 = .ok (.invokevirtual 152, 3) := by decide +kernel
theorem dX11_stepHere_64 : decode cX11_stepHere 64 = .ok (.ifCond .eq 5, 3) := by decide +kernel
theorem dX11_stepHere_67 : decode cX11_stepHere 67 = .ok (.iconst 3, 1) := by decide +kernel
theorem dX11_stepHere_68 : decode cX11_stepHere 68 = .ok (.ireturn, 1) := by decide +kernel
theorem dX11_stepHere_69 : decode cX11_stepHere 69 = .ok (.aload_n 0, 1) := by decide +kernel
theorem dX11_stepHere_70 : decode cX11_stepHere 70 = .ok (.iconst 4, 1) := by decide +kernel
theorem dX11_stepHere_71 : decode cX11_stepHere 71 = .ok (.bipush 9, 2) := by decide +kernel
theorem dX11_stepHere_73 : decode cX11_stepHere 73 = .ok (.iconst 5, 1) := by decide +kernel
theorem dX11_stepHere_74 : decode cX11_stepHere 74 = .ok (.iconst 0, 1) := by decide +kernel
theorem dX11_stepHere_75 : decode cX11_stepHere 75 = .ok (.iconst 0, 1) := by decide +kernel
theorem dX11_stepHere_76 : decode cX11_stepHere 76 = .ok (.iconst 0, 1) := by decide +kernel
theorem dX11_stepHere_77 : decode cX11_stepHere 77 = .ok (.invokevirtual 152, 3) := by decide +kernel
theorem dX11_stepHere_80 : decode cX11_stepHere 80 = .ok (.ifCond .eq 5, 3) := by decide +kernel
theorem dX11_stepHere_83 : decode cX11_stepHere 83 = .ok (.iconst 4, 1) := by decide +kernel
theorem dX11_stepHere_84 : decode cX11_stepHere 84 = .ok (.ireturn, 1) := by decide +kernel
theorem dX11_stepHere_85 : decode cX11_stepHere 85 = .ok (.aload_n 0, 1) := by decide +kernel
theorem dX11_stepHere_86 : decode cX11_stepHere 86 = .ok (.iconst 4, 1) := by decide +kernel
theorem dX11_stepHere_87 : decode cX11_stepHere 87 = .ok (.iconst 1, 1) := by decide +kernel
theorem dX11_stepHere_88 : decode cX11_stepHere 88 = .ok (.bipush 25, 2) := by decide +kernel
theorem dX11_stepHere_90 : decode cX11_stepHere 90 = .ok (.iconst 0, 1) := by decide +kernel
theorem dX11_stepHere_91 : decode cX11_stepHere 91 = .ok (.iconst 0, 1) := by decide +kernel
theorem dX11_stepHere_92 : decode cX11_stepHere 92 = .ok (.iconst 0, 1) := by decide +kernel
theorem dX11_stepHere_93 : decode cX11_stepHere 93 = .ok (.invokevirtual 152, 3) := by decide +kernel
theorem dX11_stepHere_96 : decode cX11_stepHere 96 = .ok (.ifCond .eq 5, 3) := by decide +kernel
theorem dX11_stepHere_99 : decode cX11_stepHere 99 = .ok (.iconst 5, 1) := by decide +kernel
theorem dX11_stepHere_100 : decode cX11_stepHere 100 = .ok (.ireturn, 1) := by decide +kernel
theorem dX11_stepHere_101 : decode cX11_stepHere 101 = .ok (.aload_n 0, 1) := by decide +kernel
theorem dX11_stepHere_102 : decode cX11_stepHere 102 = .ok (.iconst 1, 1) := by decide +kernel
theorem dX11_stepHere_103 : decode cX11_stepHere 103 = .ok (.bipush 7, 2) := by decide +kernel
theorem dX11_stepHere_105 : decode cX11_stepHere 105 = .ok (.iconst 1, 1) := by decide +kernel
theorem dX11_stepHere_106 : decode cX11_stepHere 106 = .ok (.bipush 9, 2) := by decide +kernel
theorem dX11_stepHere_108 : decode cX11_stepHere 108 = .ok (.bipush 14, 2) := by decide +kernel
theorem dX11_stepHere_110 : decode cX11_stepHere 110 = .ok (.iconst 0, 1) := by decide +kernel
theorem dX11_stepHere_111 : decode cX11_stepHere 111 = .ok (.invokevirtual 152, 3) := by decide +kernel
theorem dX11_stepHere_114 : decode cX11_stepHere 114 = .ok (.ifCond .eq 8, 3) := by decide +kernel
theorem dX11_stepHere_117 : decode cX11_stepHere 117 = .ok (.bipush 6, 2) := by decide +kernel
theorem dX11_stepHere_119 : decode cX11_stepHere 119 = .ok (.goto 4, 3) := by decide +kernel
theorem dX11_stepHere_122 : decode cX11_stepHere 122 = .ok (.iconst (-1), 1) := by decide +kernel
theorem dX11_stepHere_123 : decode cX11_stepHere 123 = .ok (.ireturn, 1) := by decide +kernel
theorem dX11_readsStep_0 : decode cX11_readsStep 0 = .ok (.aload_n 0, 1) := by decide +kernel
theorem dX11_readsStep_1 : decode cX11_readsStep 1 = .ok (.invokevirtual 254, 3) := by decide +kernel
theorem dX11_readsStep_4 : decode cX11_readsStep 4 = .ok (.istore_n 1, 1) := by decide +kernel
theorem dX11_readsStep_5 : decode cX11_readsStep 5 = .ok (.iload_n 1, 1) := by decide +kernel
theorem dX11_readsStep_6 : decode cX11_readsStep 6 = .ok (.iconst (-1), 1) := by decide +kernel
theorem dX11_readsStep_7 : decode cX11_readsStep 7 = .ok (.if_icmp .ne 12, 3) := by decide +kernel
theorem dX11_readsStep_10 : decode cX11_readsStep 10 = .ok (.aload_n 0, 1) := by decide +kernel
theorem dX11_readsStep_11 : decode cX11_readsStep 11 = .ok (.iconst 1, 1) := by decide +kernel
theorem dX11_readsStep_12 : decode cX11_readsStep 12 = .ok (.aload_n 0, 1) := by decide +kernel
theorem dX11_readsStep_13 : decode cX11_readsStep 13 = .ok (.getfield 112, 3) := by decide +kernel
theorem dX11_readsStep_16 : decode cX11_readsStep 16 = .ok (.invokevirtual 132, 3) := by decide +kernel
theorem dX11_readsStep_19 : decode cX11_readsStep 19 = .ok (.iload_n 1, 1) := by decide +kernel
theorem dX11_readsStep_20 : decode cX11_readsStep 20 = .ok (.bipush 6, 2) := by decide +kernel
theorem dX11_readsStep_22 : decode cX11_readsStep 22 = .ok (.if_icmp .ne 11, 3) := by decide +kernel
theorem dX11_readsStep_25 : decode cX11_readsStep 25 = .ok (.aload_n 0, 1) := by decide +kernel
theorem dX11_readsStep_26 : decode cX11_readsStep 26 = .ok (.invokevirtual 236, 3) := by decide +kernel
theorem dX11_readsStep_29 : decode cX11_readsStep 29 = .ok (.ifCond .ne 4, 3) := by decide +kernel
theorem dX11_readsStep_32 : decode cX11_readsStep 32 = .ok (.return_, 1) := by decide +kernel
theorem dX11_readsStep_33 : decode cX11_readsStep 33 = .ok (.aload_n 0, 1) := by decide +kernel
theorem dX11_readsStep_34 : decode cX11_readsStep 34 = .ok (.getfield 119, 3) := by decide +kernel
theorem dX11_readsStep_37 : decode cX11_readsStep 37 = .ok (.ifCond .eq 4, 3) := by decide +kernel
theorem dX11_readsStep_40 : decode cX11_readsStep 40 = .ok (.return_, 1) := by decide +kernel
theorem dX11_readsStep_41 : decode cX11_readsStep 41 = .ok (.aload_n 0, 1) := by decide +kernel
theorem dX11_readsStep_42 : decode cX11_readsStep 42 = .ok (.invokevirtual 156, 3) := by decide +kernel
theorem dX11_readsStep_45 : decode cX11_readsStep 45 = .ok (.aload_n 0, 1) := by decide +kernel
theorem dX11_readsStep_46 : decode cX11_readsStep 46 = .ok (.getfield 70, 3) := by decide +kernel
theorem dX11_readsStep_49 : decode cX11_readsStep 49 = .ok (.aload_n 0, 1) := by decide +kernel
theorem dX11_readsStep_50 : decode cX11_readsStep 50 = .ok (.getfield 257, 3) := by decide +kernel
theorem dX11_readsStep_53 : decode cX11_readsStep 53 = .ok (.aaload, 1) := by decide +kernel
theorem dX11_readsStep_54 : decode cX11_readsStep 54 = .ok (.astore_n 2, 1) := by decide +kernel
theorem dX11_readsStep_55 : decode cX11_readsStep 55 = .ok (.aload_n 0, 1) := by decide +kernel
theorem dX11_readsStep_56 : decode cX11_readsStep 56 = .ok (.dup, 1) := by decide +kernel
theorem dX11_readsStep_57 : decode cX11_readsStep 57 = .ok (.getfield 257, 3) := by decide +kernel
theorem dX11_readsStep_60 : decode cX11_readsStep 60 = .ok (.iconst 1, 1) := by decide +kernel
theorem dX11_readsStep_61 : decode cX11_readsStep 61 = .ok (.iadd, 1) := by decide +kernel
theorem dX11_readsStep_62 : decode cX11_readsStep 62 = .ok (.putfield 257, 3) := by decide +kernel
theorem dX11_readsStep_65 : decode cX11_readsStep 65 = .ok (.aload_n 2, 1) := by decide +kernel
theorem dX11_readsStep_66 : decode cX11_readsStep 66 = .ok (.iconst 0, 1) := by decide +kernel
theorem dX11_readsStep_67 : decode cX11_readsStep 67 = .ok (.iload_n 1, 1) := by decide +kernel
theorem dX11_readsStep_68 : decode cX11_readsStep 68 = .ok (.iastore, 1) := by decide +kernel
theorem dX11_readsStep_69 : decode cX11_readsStep 69 = .ok (.iload_n 1, 1) := by decide +kernel
theorem dX11_readsStep_70 : decode cX11_readsStep 70 = .ok (.iconst 2, 1) := by decide +kernel
theorem dX11_readsStep_71 : decode cX11_readsStep 71 = .ok (.if_icmp .lt 8, 3) := by decide +kernel
theorem dX11_readsStep_74 : decode cX11_readsStep 74 = .ok (.iload_n 1, 1) := by decide +kernel
theorem dX11_readsStep_75 : decode cX11_readsStep 75 = .ok (.iconst 3, 1) := by decide +kernel
theorem dX11_readsStep_76 : decode cX11_readsStep 76 = .ok (.if_icmp .ne 19, 3) := by decide +kernel
theorem dX11_readsStep_79 : decode cX11_readsStep 79 = .ok (.aload_n 2, 1) := by decide +kernel
theorem dX11_readsStep_80 : decode cX11_readsStep 80 = .ok (.iconst 1, 1) := by decide +kernel
theorem dX11_readsStep_81 : decode cX11_readsStep 81 = .ok (.aload_n 0, 1) := by decide +kernel
theorem dX11_readsStep_82 : decode cX11_readsStep 82 = .ok (.iconst 0, 1) := by decide +kernel
theorem dX11_readsStep_83 : decode cX11_readsStep 83 = .ok (.aload_n 0, 1) := by decide +kernel
theorem dX11_readsStep_84 : decode cX11_readsStep 84 = .ok (.getfield 23, 3) := by decide +kernel
theorem dX11_readsStep_87 : decode cX11_readsStep 87 = .ok (.iconst 1, 1) := by decide +kernel
theorem dX11_readsStep_88 : decode cX11_readsStep 88 = .ok (.iaload, 1) := by decide +kernel
theorem dX11_readsStep_89 : decode cX11_readsStep 89 = .ok (.iconst 1, 1) := by decide +kernel
theorem dX11_readsStep_90 : decode cX11_readsStep 90 = .ok (.isub, 1) := by decide +kernel
theorem dX11_readsStep_91 : decode cX11_readsStep 91 = .ok (.invokevirtual 175, 3) := by decide +kernel
theorem dX11_readsStep_94 : decode cX11_readsStep 94 = .ok (.iastore, 1) := by decide +kernel
theorem dX11_readsStep_95 : decode cX11_readsStep 95 = .ok (.iload_n 1, 1) := by decide +kernel
theorem dX11_readsStep_96 : decode cX11_readsStep 96 = .ok (.iconst 2, 1) := by decide +kernel
theorem dX11_readsStep_97 : decode cX11_readsStep 97 = .ok (.if_icmp .eq 8, 3) := by decide +kernel
theorem dX11_readsStep_100 : decode cX11_readsStep 100 = .ok (.iload_n 1, 1) := by decide +kernel
theorem dX11_readsStep_101 : decode cX11_readsStep 101 = .ok (.iconst 4, 1) := by decide +kernel
theorem dX11_readsStep_102 : decode cX11_readsStep 102 = .ok (.if_icmp .ne 19, 3) := by decide +kernel
theorem dX11_readsStep_105 : decode cX11_readsStep 105 = .ok (.aload_n 2, 1) := by decide +kernel
theorem dX11_readsStep_106 : decode cX11_readsStep 106 = .ok (.iconst 1, 1) := by decide +kernel
theorem dX11_readsStep_107 : decode cX11_readsStep 107 = .ok (.aload_n 0, 1) := by decide +kernel
theorem dX11_readsStep_108 : decode cX11_readsStep 108 = .ok (.iconst 0, 1) := by decide +kernel
theorem dX11_readsStep_109 : decode cX11_readsStep 109 = .ok (.aload_n 0, 1) := by decide +kernel
theorem dX11_readsStep_110 : decode cX11_readsStep 110 = .ok (.getfield 23, 3) := by decide +kernel
theorem dX11_readsStep_113 : decode cX11_readsStep 113 = .ok (.iconst 0, 1) := by decide +kernel
theorem dX11_readsStep_114 : decode cX11_readsStep 114 = .ok (.iaload, 1) := by decide +kernel
theorem dX11_readsStep_115 : decode cX11_readsStep 115 = .ok (.iconst 1, 1) := by decide +kernel
theorem dX11_readsStep_116 : decode cX11_readsStep 116 = .ok (.isub, 1) := by decide +kernel
theorem dX11_readsStep_117 : decode cX11_readsStep 117 = .ok (.invokevirtual 175, 3) := by decide +kernel
theorem dX11_readsStep_120 : decode cX11_readsStep 120 = .ok (.iastore, 1) := by decide +kernel
theorem dX11_readsStep_121 : decode cX11_readsStep 121 = .ok (.iload_n 1, 1) := by decide +kernel
theorem dX11_readsStep_122 : decode cX11_readsStep 122 = .ok (.iconst 3, 1) := by decide +kernel
theorem dX11_readsStep_123 : decode cX11_readsStep 123 = .ok (.if_icmp .ne 19, 3) := by decide +kernel
theorem dX11_readsStep_126 : decode cX11_readsStep 126 = .ok (.aload_n 2, 1) := by decide +kernel
theorem dX11_readsStep_127 : decode cX11_readsStep 127 = .ok (.iconst 2, 1) := by decide +kernel
theorem dX11_readsStep_128 : decode cX11_readsStep 128 = .ok (.aload_n 0, 1) := by decide +kernel
theorem dX11_readsStep_129 : decode cX11_readsStep 129 = .ok (.iconst 0, 1) := by decide +kernel
theorem dX11_readsStep_130 : decode cX11_readsStep 130 = .ok (.aload_n 0, 1) := by decide +kernel
theorem dX11_readsStep_131 : decode cX11_readsStep 131 = .ok (.getfield 23, 3) := by decide +kernel
theorem dX11_readsStep_134 : decode cX11_readsStep 134 = .ok (.iconst 2, 1) := by decide +kernel
theorem dX11_readsStep_135 : decode cX11_readsStep 135 = .ok (.iaload, 1) := by decide +kernel
theorem dX11_readsStep_136 : decode cX11_readsStep 136 = .ok (.iconst 1, 1) := by decide +kernel
theorem dX11_readsStep_137 : decode cX11_readsStep 137 = .ok (.isub, 1) := by decide +kernel
theorem dX11_readsStep_138 : decode cX11_readsStep 138 = .ok (.invokevirtual 175, 3) := by decide +kernel
theorem dX11_readsStep_141 : decode cX11_readsStep 141 = .ok (.iastore, 1) := by decide +kernel
theorem dX11_readsStep_142 : decode cX11_readsStep 142 = .ok (.iload_n 1, 1) := by decide +kernel
theorem dX11_readsStep_143 : decode cX11_readsStep 143 = .ok (.bipush 6, 2) := by decide +kernel
theorem dX11_readsStep_145 : decode cX11_readsStep 145 = .ok (.if_icmp .ne 70, 3) := by decide +kernel
theorem dX11_readsStep_148 : decode cX11_readsStep 148 = .ok (.aload_n 2, 1) := by decide +kernel
theorem dX11_readsStep_149 : decode cX11_readsStep 149 = .ok (.iconst 1, 1) := by decide +kernel
theorem dX11_readsStep_150 : decode cX11_readsStep 150 = .ok (.aload_n 0, 1) := by decide +kernel
theorem dX11_readsStep_151 : decode cX11_readsStep 151 = .ok (.iconst 0, 1) := by decide +kernel
theorem dX11_readsStep_152 : decode cX11_readsStep 152 = .ok (.bipush 40, 2) := by decide +kernel
theorem dX11_readsStep_154 : decode cX11_readsStep 154 = .ok (.invokevirtual 175, 3) := by decide +kernel
theorem dX11_readsStep_157 : decode cX11_readsStep 157 = .ok (.iastore, 1) := by decide +kernel
theorem dX11_readsStep_158 : decode cX11_readsStep 158 = .ok (.aload_n 0, 1) := by decide +kernel
theorem dX11_readsStep_159 : decode cX11_readsStep 159 = .ok (.bipush 91, 2) := by decide +kernel
theorem dX11_readsStep_161 : decode cX11_readsStep 161 = .ok (.invokevirtual 179, 3) := by decide +kernel
theorem dX11_readsStep_164 : decode cX11_readsStep 164 = .ok (.aload_n 0, 1) := by decide +kernel
theorem dX11_readsStep_165 : decode cX11_readsStep 165 = .ok (.invokevirtual 125, 3) := by decide +kernel
theorem dX11_readsStep_168 : decode cX11_readsStep 168 = .ok (.aload_n 0, 1) := by decide +kernel
theorem dX11_readsStep_169 : decode cX11_readsStep 169 = .ok (.getfield 119, 3) := by decide +kernel
theorem dX11_readsStep_172 : decode cX11_readsStep 172 = .ok (.ifCond .ne 27, 3) := by decide +kernel
theorem dX11_readsStep_175 : decode cX11_readsStep 175 = .ok (.aload_n 0, 1) := by decide +kernel
theorem dX11_readsStep_176 : decode cX11_readsStep 176 = .ok (.aload_n 0, 1) := by decide +kernel
theorem dX11_readsStep_177 : decode cX11_readsStep 177 = .ok (.getfield 112, 3) := by decide +kernel
theorem dX11_readsStep_180 : decode cX11_readsStep 180 = .ok (.invokevirtual 115, 3) := by decide +kernel
theorem dX11_readsStep_183 : decode cX11_readsStep 183 = .ok (.bipush 93, 2) := by decide +kernel
theorem dX11_readsStep_185 : decode cX11_readsStep 185 = .ok (.if_icmp .eq 14, 3) := by decide +kernel
theorem dX11_readsStep_188 : decode cX11_readsStep 188 = .ok (.aload_n 0, 1) := by decide +kernel
theorem dX11_readsStep_189 : decode cX11_readsStep 189 = .ok (.invokevirtual 260, 3) := by decide +kernel
theorem dX11_readsStep_192 : decode cX11_readsStep 192 = .ok (.aload_n 0, 1) := by decide +kernel
theorem dX11_readsStep_193 : decode cX11_readsStep 193 = .ok (.invokevirtual 125, 3) := by decide +kernel
theorem dX11_readsStep_196 : decode cX11_readsStep 196 = .ok (.goto (-28), 3) := by decide +kernel
theorem dX11_readsStep_199 : decode cX11_readsStep 199 = .ok (.aload_n 0, 1) := by decide +kernel
theorem dX11_readsStep_200 : decode cX11_readsStep 200 = .ok (.bipush 93, 2) := by decide +kernel
theorem dX11_readsStep_202 : decode cX11_readsStep 202 = .ok (.invokevirtual 179, 3) := by decide +kernel
theorem dX11_readsStep_205 : decode cX11_readsStep 205 = .ok (.aload_n 0, 1) := by decide +kernel
theorem dX11_readsStep_206 : decode cX11_readsStep 206 = .ok (.dup, 1) := by decide +kernel
theorem dX11_readsStep_207 : decode cX11_readsStep 207 = .ok (.getfield 162, 3) := by decide +kernel
theorem dX11_readsStep_210 : decode cX11_readsStep 210 = .ok (.iconst 1, 1) := by decide +kernel
theorem dX11_readsStep_211 : decode cX11_readsStep 211 = .ok (.isub, 1) := by decide +kernel
theorem dX11_readsStep_212 : decode cX11_readsStep 212 = .ok (.putfield 162, 3) := by decide +kernel
theorem dX11_readsStep_215 : decode cX11_readsStep 215 = .ok (.aload_n 2, 1) := by decide +kernel
theorem dX11_readsStep_216 : decode cX11_readsStep 216 = .ok (.iconst 3, 1) := by decide +kernel
theorem dX11_readsStep_217 : decode cX11_readsStep 217 = .ok (.aload_n 0, 1) := by decide +kernel
theorem dX11_readsStep_218 : decode cX11_readsStep 218 = .ok (.getfield 257, 3) := by decide +kernel
theorem dX11_readsStep_221 : decode cX11_readsStep 221 = .ok (.iastore, 1) := by decide +kernel
theorem dX11_readsStep_222 : decode cX11_readsStep 222 = .ok (.aload_n 0, 1) := by decide +kernel
theorem dX11_readsStep_223 : decode cX11_readsStep 223 = .ok (.bipush 59, 2) := by decide +kernel
theorem dX11_readsStep_225 : decode cX11_readsStep 225 = .ok (.invokevirtual 179, 3) := by decide +kernel
theorem dX11_readsStep_228 : decode cX11_readsStep 228 = .ok (.return_, 1) := by decide +kernel
theorem dX11_seen_0 : decode cX11_seen 0 = .ok (.aload_n 0, 1) := by decide +kernel
theorem dX11_seen_1 : decode cX11_seen 1 = .ok (.iconst 0, 1) := by decide +kernel
theorem dX11_seen_2 : decode cX11_seen 2 = .ok (.putfield 103, 3) := by decide +kernel
theorem dX11_seen_5 : decode cX11_seen 5 = .ok (.aload_n 0, 1) := by decide +kernel
theorem dX11_seen_6 : decode cX11_seen 6 = .ok (.iload_n 1, 1) := by decide +kernel
theorem dX11_seen_7 : decode cX11_seen 7 = .ok (.iconst 0, 1) := by decide +kernel
theorem dX11_seen_8 : decode cX11_seen 8 = .ok (.aload_n 0, 1) := by decide +kernel
theorem dX11_seen_9 : decode cX11_seen 9 = .ok (.getfield 106, 3) := by decide +kernel
theorem dX11_seen_12 : decode cX11_seen 12 = .ok (.invokestatic 137, 3) := by decide +kernel
theorem dX11_seen_15 : decode cX11_seen 15 = .ok (.ifCond .eq 9, 3) := by decide +kernel
theorem dX11_seen_18 : decode cX11_seen 18 = .ok (.iload_n 1, 1) := by decide +kernel
theorem dX11_seen_19 : decode cX11_seen 19 = .ok (.bipush 60, 2) := by decide +kernel
theorem dX11_seen_21 : decode cX11_seen 21 = .ok (.if_icmp .le 7, 3) := by decide +kernel
theorem dX11_seen_24 : decode cX11_seen 24 = .ok (.iconst 1, 1) := by decide +kernel
theorem dX11_seen_25 : decode cX11_seen 25 = .ok (.goto 4, 3) := by decide +kernel
theorem dX11_seen_28 : decode cX11_seen 28 = .ok (.iconst 0, 1) := by decide +kernel
theorem dX11_seen_29 : decode cX11_seen 29 = .ok (.iconst 1, 1) := by decide +kernel
theorem dX11_seen_30 : decode cX11_seen 30 = .ok (.iconst 1, 1) := by decide +kernel
theorem dX11_seen_31 : decode cX11_seen 31 = .ok (.invokevirtual 183, 3) := by decide +kernel
theorem dX11_seen_34 : decode cX11_seen 34 = .ok (.ifCond .eq 5, 3) := by decide +kernel
theorem dX11_seen_37 : decode cX11_seen 37 = .ok (.iconst 0, 1) := by decide +kernel
theorem dX11_seen_38 : decode cX11_seen 38 = .ok (.ireturn, 1) := by decide +kernel
theorem dX11_seen_39 : decode cX11_seen 39 = .ok (.aload_n 0, 1) := by decide +kernel
theorem dX11_seen_40 : decode cX11_seen 40 = .ok (.iload_n 1, 1) := by decide +kernel
theorem dX11_seen_41 : decode cX11_seen 41 = .ok (.invokevirtual 187, 3) := by decide +kernel
theorem dX11_seen_44 : decode cX11_seen 44 = .ok (.iconst 0, 1) := by decide +kernel
theorem dX11_seen_45 : decode cX11_seen 45 = .ok (.istore_n 2, 1) := by decide +kernel
theorem dX11_seen_46 : decode cX11_seen 46 = .ok (.iconst 0, 1) := by decide +kernel
theorem dX11_seen_47 : decode cX11_seen 47 = .ok (.istore_n 3, 1) := by decide +kernel
theorem dX11_seen_48 : decode cX11_seen 48 = .ok (.aload_n 0, 1) := by decide +kernel
theorem dX11_seen_49 : decode cX11_seen 49 = .ok (.getfield 119, 3) := by decide +kernel
theorem dX11_seen_52 : decode cX11_seen 52 = .ok (.ifCond .ne 117, 3) := by decide +kernel
theorem dX11_seen_55 : decode cX11_seen 55 = .ok (.aload_n 0, 1) := by decide +kernel
theorem dX11_seen_56 : decode cX11_seen 56 = .ok (.getfield 112, 3) := by decide +kernel
theorem dX11_seen_59 : decode cX11_seen 59 = .ok (.aload_n 0, 1) := by decide +kernel
theorem dX11_seen_60 : decode cX11_seen 60 = .ok (.getfield 109, 3) := by decide +kernel
theorem dX11_seen_63 : decode cX11_seen 63 = .ok (.if_icmp .ge 106, 3) := by decide +kernel
theorem dX11_seen_66 : decode cX11_seen 66 = .ok (.aload_n 0, 1) := by decide +kernel
theorem dX11_seen_67 : decode cX11_seen 67 = .ok (.getfield 112, 3) := by decide +kernel
theorem dX11_seen_70 : decode cX11_seen 70 = .ok (.istore 4, 2) := by decide +kernel
theorem dX11_seen_72 : decode cX11_seen 72 = .ok (.aload_n 0, 1) := by decide +kernel
theorem dX11_seen_73 : decode cX11_seen 73 = .ok (.iconst 0, 1) := by decide +kernel
theorem dX11_seen_74 : decode cX11_seen 74 = .ok (.aload_n 0, 1) := by decide +kernel
theorem dX11_seen_75 : decode cX11_seen 75 = .ok (.getfield 23, 3) := by decide +kernel
theorem dX11_seen_78 : decode cX11_seen 78 = .ok (.iconst 1, 1) := by decide +kernel
theorem dX11_seen_79 : decode cX11_seen 79 = .ok (.iaload, 1) := by decide +kernel
theorem dX11_seen_80 : decode cX11_seen 80 = .ok (.iconst 1, 1) := by decide +kernel
theorem dX11_seen_81 : decode cX11_seen 81 = .ok (.isub, 1) := by decide +kernel
theorem dX11_seen_82 : decode cX11_seen 82 = .ok (.invokevirtual 175, 3) := by decide +kernel
theorem dX11_seen_85 : decode cX11_seen 85 = .ok (.istore 5, 2) := by decide +kernel
theorem dX11_seen_87 : decode cX11_seen 87 = .ok (.aload_n 0, 1) := by decide +kernel
theorem dX11_seen_88 : decode cX11_seen 88 = .ok (.getfield 119, 3) := by decide +kernel
theorem dX11_seen_91 : decode cX11_seen 91 = .ok (.ifCond .ne 19, 3) := by decide +kernel
theorem dX11_seen_94 : decode cX11_seen 94 = .ok (.iload_n 3, 1) := by decide +kernel
theorem dX11_seen_95 : decode cX11_seen 95 = .ok (.iload 5, 2) := by decide +kernel
theorem dX11_seen_97 : decode cX11_seen 97 = .ok (.invokestatic 263, 3) := by decide +kernel
theorem dX11_seen_100 : decode cX11_seen 100 = .ok (.ifCond .eq 10, 3) := by decide +kernel
theorem dX11_seen_103 : decode cX11_seen 103 = .ok (.aload_n 0, 1) := by decide +kernel
theorem dX11_seen_104 : decode cX11_seen 104 = .ok (.iconst 2, 1) := by decide +kernel
theorem dX11_seen_105 : decode cX11_seen 105 = .ok (.iload 4, 2) := by decide +kernel
theorem dX11_seen_107 : decode cX11_seen 107 = .ok (.invokevirtual 132, 3) := by decide +kernel
theorem dX11_seen_110 : decode cX11_seen 110 = .ok (.aload_n 0, 1) := by decide +kernel
theorem dX11_seen_111 : decode cX11_seen 111 = .ok (.iconst 0, 1) := by decide +kernel
theorem dX11_seen_112 : decode cX11_seen 112 = .ok (.bipush 99, 2) := by decide +kernel
theorem dX11_seen_114 : decode cX11_seen 114 = .ok (.invokevirtual 175, 3) := by decide +kernel
theorem dX11_seen_117 : decode cX11_seen 117 = .ok (.istore 6, 2) := by decide +kernel
theorem dX11_seen_119 : decode cX11_seen 119 = .ok (.aload_n 0, 1) := by decide +kernel
theorem dX11_seen_120 : decode cX11_seen 120 = .ok (.bipush 59, 2) := by decide +kernel
theorem dX11_seen_122 : decode cX11_seen 122 = .ok (.invokevirtual 179, 3) := by decide +kernel
theorem dX11_seen_125 : decode cX11_seen 125 = .ok (.aload_n 0, 1) := by decide +kernel
theorem dX11_seen_126 : decode cX11_seen 126 = .ok (.getfield 119, 3) := by decide +kernel
theorem dX11_seen_129 : decode cX11_seen 129 = .ok (.ifCond .ne 33, 3) := by decide +kernel
theorem dX11_seen_132 : decode cX11_seen 132 = .ok (.iload_n 3, 1) := by decide +kernel
theorem dX11_seen_133 : decode cX11_seen 133 = .ok (.iconst 1, 1) := by decide +kernel
theorem dX11_seen_134 : decode cX11_seen 134 = .ok (.iload 5, 2) := by decide +kernel
theorem dX11_seen_136 : decode cX11_seen 136 = .ok (.ishl, 1) := by decide +kernel
theorem dX11_seen_137 : decode cX11_seen 137 = .ok (.ior, 1) := by decide +kernel
theorem dX11_seen_138 : decode cX11_seen 138 = .ok (.istore_n 3, 1) := by decide +kernel
theorem dX11_seen_139 : decode cX11_seen 139 = .ok (.aload_n 0, 1) := by decide +kernel
theorem dX11_seen_140 : decode cX11_seen 140 = .ok (.getfield 61, 3) := by decide +kernel
theorem dX11_seen_143 : decode cX11_seen 143 = .ok (.iload_n 2, 1) := by decide +kernel
theorem dX11_seen_144 : decode cX11_seen 144 = .ok (.aaload, 1) := by decide +kernel
theorem dX11_seen_145 : decode cX11_seen 145 = .ok (.iconst 0, 1) := by decide +kernel
theorem dX11_seen_146 : decode cX11_seen 146 = .ok (.iload 5, 2) := by decide +kernel
theorem dX11_seen_148 : decode cX11_seen 148 = .ok (.iastore, 1) := by decide +kernel
theorem dX11_seen_149 : decode cX11_seen 149 = .ok (.aload_n 0, 1) := by decide +kernel
theorem dX11_seen_150 : decode cX11_seen 150 = .ok (.getfield 61, 3) := by decide +kernel
theorem dX11_seen_153 : decode cX11_seen 153 = .ok (.iload_n 2, 1) := by decide +kernel
theorem dX11_seen_154 : decode cX11_seen 154 = .ok (.aaload, 1) := by decide +kernel
theorem dX11_seen_155 : decode cX11_seen 155 = .ok (.iconst 1, 1) := by decide +kernel
theorem dX11_seen_156 : decode cX11_seen 156 = .ok (.iload 6, 2) := by decide +kernel
theorem dX11_seen_158 : decode cX11_seen 158 = .ok (.iastore, 1) := by decide +kernel
theorem dX11_seen_159 : decode cX11_seen 159 = .ok (.iinc 2 1, 3) := by decide +kernel
theorem dX11_seen_162 : decode cX11_seen 162 = .ok (.aload_n 0, 1) := by decide +kernel
theorem dX11_seen_163 : decode cX11_seen 163 = .ok (.invokevirtual 125, 3) := by decide +kernel
theorem dX11_seen_166 : decode cX11_seen 166 = .ok (.goto (-118), 3) := by decide +kernel
theorem dX11_seen_169 : decode cX11_seen 169 = .ok (.aload_n 0, 1) := by decide +kernel
theorem dX11_seen_170 : decode cX11_seen 170 = .ok (.getfield 119, 3) := by decide +kernel
theorem dX11_seen_173 : decode cX11_seen 173 = .ok (.ifCond .eq 8, 3) := by decide +kernel
theorem dX11_seen_176 : decode cX11_seen 176 = .ok (.aload_n 0, 1) := by decide +kernel
theorem dX11_seen_177 : decode cX11_seen 177 = .ok (.invokevirtual 193, 3) := by decide +kernel
theorem dX11_seen_180 : decode cX11_seen 180 = .ok (.ireturn, 1) := by decide +kernel
theorem dX11_seen_181 : decode cX11_seen 181 = .ok (.aload_n 0, 1) := by decide +kernel
theorem dX11_seen_182 : decode cX11_seen 182 = .ok (.iconst (-1), 1) := by decide +kernel
theorem dX11_seen_183 : decode cX11_seen 183 = .ok (.putfield 9, 3) := by decide +kernel
theorem dX11_seen_186 : decode cX11_seen 186 = .ok (.aload_n 0, 1) := by decide +kernel
theorem dX11_seen_187 : decode cX11_seen 187 = .ok (.iload_n 2, 1) := by decide +kernel
theorem dX11_seen_188 : decode cX11_seen 188 = .ok (.putfield 203, 3) := by decide +kernel
theorem dX11_seen_191 : decode cX11_seen 191 = .ok (.aload_n 0, 1) := by decide +kernel
theorem dX11_seen_192 : decode cX11_seen 192 = .ok (.getfield 61, 3) := by decide +kernel
theorem dX11_seen_195 : decode cX11_seen 195 = .ok (.aload_n 0, 1) := by decide +kernel
theorem dX11_seen_196 : decode cX11_seen 196 = .ok (.getfield 58, 3) := by decide +kernel
theorem dX11_seen_199 : decode cX11_seen 199 = .ok (.iload_n 2, 1) := by decide +kernel
theorem dX11_seen_200 : decode cX11_seen 200 = .ok (.invokestatic 196, 3) := by decide +kernel
theorem dX11_seen_203 : decode cX11_seen 203 = .ok (.iload_n 2, 1) := by decide +kernel
theorem dX11_seen_204 : decode cX11_seen 204 = .ok (.ireturn, 1) := by decide +kernel
theorem dX11_fault_0 : decode cX11_fault 0 = .ok (.aload_n 0, 1) := by decide +kernel
theorem dX11_fault_1 : decode cX11_fault 1 = .ok (.iconst 0, 1) := by decide +kernel
theorem dX11_fault_2 : decode cX11_fault 2 = .ok (.putfield 103, 3) := by decide +kernel
theorem dX11_fault_5 : decode cX11_fault 5 = .ok (.aload_n 0, 1) := by decide +kernel
theorem dX11_fault_6 : decode cX11_fault 6 = .ok (.getfield 9, 3) := by decide +kernel
theorem dX11_fault_9 : decode cX11_fault 9 = .ok (.ireturn, 1) := by decide +kernel
theorem dX11_isKept_0 : decode cX11_isKept 0 = .ok (.aload_n 0, 1) := by decide +kernel
theorem dX11_isKept_1 : decode cX11_isKept 1 = .ok (.bipush 16, 2) := by decide +kernel
theorem dX11_isKept_3 : decode cX11_isKept 3 = .ok (.iload_n 1, 1) := by decide +kernel
theorem dX11_isKept_4 : decode cX11_isKept 4 = .ok (.iadd, 1) := by decide +kernel
theorem dX11_isKept_5 : decode cX11_isKept 5 = .ok (.iaload, 1) := by decide +kernel
theorem dX11_isKept_6 : decode cX11_isKept 6 = .ok (.iconst (-1), 1) := by decide +kernel
theorem dX11_isKept_7 : decode cX11_isKept 7 = .ok (.if_icmp .eq 7, 3) := by decide +kernel
theorem dX11_isKept_10 : decode cX11_isKept 10 = .ok (.iconst 1, 1) := by decide +kernel
theorem dX11_isKept_11 : decode cX11_isKept 11 = .ok (.goto 4, 3) := by decide +kernel
theorem dX11_isKept_14 : decode cX11_isKept 14 = .ok (.iconst 0, 1) := by decide +kernel
theorem dX11_isKept_15 : decode cX11_isKept 15 = .ok (.ireturn, 1) := by decide +kernel
theorem dX11_keptOf_0 : decode cX11_keptOf 0 = .ok (.iconst 0, 1) := by decide +kernel
theorem dX11_keptOf_1 : decode cX11_keptOf 1 = .ok (.istore_n 3, 1) := by decide +kernel
theorem dX11_keptOf_2 : decode cX11_keptOf 2 = .ok (.iconst 0, 1) := by decide +kernel
theorem dX11_keptOf_3 : decode cX11_keptOf 3 = .ok (.istore 4, 2) := by decide +kernel
theorem dX11_keptOf_5 : decode cX11_keptOf 5 = .ok (.iload 4, 2) := by decide +kernel
theorem dX11_keptOf_7 : decode cX11_keptOf 7 = .ok (.aload_n 0, 1) := by decide +kernel
theorem dX11_keptOf_8 : decode cX11_keptOf 8 = .ok (.getfield 23, 3) := by decide +kernel
theorem dX11_keptOf_11 : decode cX11_keptOf 11 = .ok (.iconst 1, 1) := by decide +kernel
theorem dX11_keptOf_12 : decode cX11_keptOf 12 = .ok (.iaload, 1) := by decide +kernel
theorem dX11_keptOf_13 : decode cX11_keptOf 13 = .ok (.if_icmp .ge 42, 3) := by decide +kernel
theorem dX11_keptOf_16 : decode cX11_keptOf 16 = .ok (.iload_n 3, 1) := by decide +kernel
theorem dX11_keptOf_17 : decode cX11_keptOf 17 = .ok (.aload_n 0, 1) := by decide +kernel
theorem dX11_keptOf_18 : decode cX11_keptOf 18 = .ok (.getfield 43, 3) := by decide +kernel
theorem dX11_keptOf_21 : decode cX11_keptOf 21 = .ok (.iload 4, 2) := by decide +kernel
theorem dX11_keptOf_23 : decode cX11_keptOf 23 = .ok (.aaload, 1) := by decide +kernel
theorem dX11_keptOf_24 : decode cX11_keptOf 24 = .ok (.iconst 0, 1) := by decide +kernel
theorem dX11_keptOf_25 : decode cX11_keptOf 25 = .ok (.iaload, 1) := by decide +kernel
theorem dX11_keptOf_26 : decode cX11_keptOf 26 = .ok (.iload_n 2, 1) := by decide +kernel
theorem dX11_keptOf_27 : decode cX11_keptOf 27 = .ok (.if_icmp .ne 19, 3) := by decide +kernel
theorem dX11_keptOf_30 : decode cX11_keptOf 30 = .ok (.aload_n 1, 1) := by decide +kernel
theorem dX11_keptOf_31 : decode cX11_keptOf 31 = .ok (.iload 4, 2) := by decide +kernel
theorem dX11_keptOf_33 : decode cX11_keptOf 33 = .ok (.invokestatic 267, 3) := by decide +kernel
theorem dX11_keptOf_36 : decode cX11_keptOf 36 = .ok (.ifCond .eq 10, 3) := by decide +kernel
theorem dX11_keptOf_39 : decode cX11_keptOf 39 = .ok (.iconst 1, 1) := by decide +kernel
theorem dX11_keptOf_40 : decode cX11_keptOf 40 = .ok (.iload 4, 2) := by decide +kernel
theorem dX11_keptOf_42 : decode cX11_keptOf 42 = .ok (.ishl, 1) := by decide +kernel
theorem dX11_keptOf_43 : decode cX11_keptOf 43 = .ok (.goto 4, 3) := by decide +kernel
theorem dX11_keptOf_46 : decode cX11_keptOf 46 = .ok (.iconst 0, 1) := by decide +kernel
theorem dX11_keptOf_47 : decode cX11_keptOf 47 = .ok (.ior, 1) := by decide +kernel
theorem dX11_keptOf_48 : decode cX11_keptOf 48 = .ok (.istore_n 3, 1) := by decide +kernel
theorem dX11_keptOf_49 : decode cX11_keptOf 49 = .ok (.iinc 4 1, 3) := by decide +kernel
theorem dX11_keptOf_52 : decode cX11_keptOf 52 = .ok (.goto (-47), 3) := by decide +kernel
theorem dX11_keptOf_55 : decode cX11_keptOf 55 = .ok (.iload_n 3, 1) := by decide +kernel
theorem dX11_keptOf_56 : decode cX11_keptOf 56 = .ok (.ireturn, 1) := by decide +kernel
theorem dX11_ones_0 : decode cX11_ones 0 = .ok (.iconst 0, 1) := by decide +kernel
theorem dX11_ones_1 : decode cX11_ones 1 = .ok (.istore_n 1, 1) := by decide +kernel
theorem dX11_ones_2 : decode cX11_ones 2 = .ok (.iconst 0, 1) := by decide +kernel
theorem dX11_ones_3 : decode cX11_ones 3 = .ok (.istore_n 2, 1) := by decide +kernel
theorem dX11_ones_4 : decode cX11_ones 4 = .ok (.iload_n 2, 1) := by decide +kernel
theorem dX11_ones_5 : decode cX11_ones 5 = .ok (.bipush 10, 2) := by decide +kernel
theorem dX11_ones_7 : decode cX11_ones 7 = .ok (.if_icmp .ge 17, 3) := by decide +kernel
theorem dX11_ones_10 : decode cX11_ones 10 = .ok (.iload_n 1, 1) := by decide +kernel
theorem dX11_ones_11 : decode cX11_ones 11 = .ok (.iload_n 0, 1) := by decide +kernel
theorem dX11_ones_12 : decode cX11_ones 12 = .ok (.iload_n 2, 1) := by decide +kernel
theorem dX11_ones_13 : decode cX11_ones 13 = .ok (.ishr, 1) := by decide +kernel
theorem dX11_ones_14 : decode cX11_ones 14 = .ok (.iconst 1, 1) := by decide +kernel
theorem dX11_ones_15 : decode cX11_ones 15 = .ok (.iand, 1) := by decide +kernel
theorem dX11_ones_16 : decode cX11_ones 16 = .ok (.iadd, 1) := by decide +kernel
theorem dX11_ones_17 : decode cX11_ones 17 = .ok (.istore_n 1, 1) := by decide +kernel
theorem dX11_ones_18 : decode cX11_ones 18 = .ok (.iinc 2 1, 3) := by decide +kernel
theorem dX11_ones_21 : decode cX11_ones 21 = .ok (.goto (-17), 3) := by decide +kernel
theorem dX11_ones_24 : decode cX11_ones 24 = .ok (.iload_n 1, 1) := by decide +kernel
theorem dX11_ones_25 : decode cX11_ones 25 = .ok (.ireturn, 1) := by decide +kernel
theorem dX11_powerBy_0 : decode cX11_powerBy 0 = .ok (.aload_n 0, 1) := by decide +kernel
theorem dX11_powerBy_1 : decode cX11_powerBy 1 = .ok (.getfield 67, 3) := by decide +kernel
theorem dX11_powerBy_4 : decode cX11_powerBy 4 = .ok (.iconst 0, 1) := by decide +kernel
theorem dX11_powerBy_5 : decode cX11_powerBy 5 = .ok (.iload_n 1, 1) := by decide +kernel
theorem dX11_powerBy_6 : decode cX11_powerBy 6 = .ok (.iastore, 1) := by decide +kernel
theorem dX11_powerBy_7 : decode cX11_powerBy 7 = .ok (.aload_n 0, 1) := by decide +kernel
theorem dX11_powerBy_8 : decode cX11_powerBy 8 = .ok (.getfield 67, 3) := by decide +kernel
theorem dX11_powerBy_11 : decode cX11_powerBy 11 = .ok (.iconst 1, 1) := by decide +kernel
theorem dX11_powerBy_12 : decode cX11_powerBy 12 = .ok (.iload_n 2, 1) := by decide +kernel
theorem dX11_powerBy_13 : decode cX11_powerBy 13 = .ok (.iastore, 1) := by decide +kernel
theorem dX11_powerBy_14 : decode cX11_powerBy 14 = .ok (.aload_n 0, 1) := by decide +kernel
theorem dX11_powerBy_15 : decode cX11_powerBy 15 = .ok (.getfield 67, 3) := by decide +kernel
theorem dX11_powerBy_18 : decode cX11_powerBy 18 = .ok (.iconst 2, 1) := by decide +kernel
theorem dX11_powerBy_19 : decode cX11_powerBy 19 = .ok (.iload_n 3, 1) := by decide +kernel
theorem dX11_powerBy_20 : decode cX11_powerBy 20 = .ok (.iastore, 1) := by decide +kernel
theorem dX11_powerBy_21 : decode cX11_powerBy 21 = .ok (.aload_n 0, 1) := by decide +kernel
theorem dX11_powerBy_22 : decode cX11_powerBy 22 = .ok (.getfield 67, 3) := by decide +kernel
theorem dX11_powerBy_25 : decode cX11_powerBy 25 = .ok (.iconst 3, 1) := by decide +kernel
theorem dX11_powerBy_26 : decode cX11_powerBy 26 = .ok (.iload 4, 2) := by decide +kernel
theorem dX11_powerBy_28 : decode cX11_powerBy 28 = .ok (.iastore, 1) := by decide +kernel
theorem dX11_powerBy_29 : decode cX11_powerBy 29 = .ok (.aload_n 0, 1) := by decide +kernel
theorem dX11_powerBy_30 : decode cX11_powerBy 30 = .ok (.getfield 67, 3) := by decide +kernel
theorem dX11_powerBy_33 : decode cX11_powerBy 33 = .ok (.iconst 4, 1) := by decide +kernel
theorem dX11_powerBy_34 : decode cX11_powerBy 34 = .ok (.iload 5, 2) := by decide +kernel
theorem dX11_powerBy_36 : decode cX11_powerBy 36 = .ok (.iastore, 1) := by decide +kernel
theorem dX11_powerBy_37 : decode cX11_powerBy 37 = .ok (.aload_n 0, 1) := by decide +kernel
theorem dX11_powerBy_38 : decode cX11_powerBy 38 = .ok (.getfield 67, 3) := by decide +kernel
theorem dX11_powerBy_41 : decode cX11_powerBy 41 = .ok (.iconst 5, 1) := by decide +kernel
theorem dX11_powerBy_42 : decode cX11_powerBy 42 = .ok (.iload 6, 2) := by decide +kernel
theorem dX11_powerBy_44 : decode cX11_powerBy 44 = .ok (.iastore, 1) := by decide +kernel
theorem dX11_powerBy_45 : decode cX11_powerBy 45 = .ok (.aload_n 0, 1) := by decide +kernel
theorem dX11_powerBy_46 : decode cX11_powerBy 46 = .ok (.getfield 67, 3) := by decide +kernel
theorem dX11_powerBy_49 : decode cX11_powerBy 49 = .ok (.bipush 6, 2) := by decide +kernel
theorem dX11_powerBy_51 : decode cX11_powerBy 51 = .ok (.iload 7, 2) := by decide +kernel
theorem dX11_powerBy_53 : decode cX11_powerBy 53 = .ok (.iastore, 1) := by decide +kernel
theorem dX11_powerBy_54 : decode cX11_powerBy 54 = .ok (.aload_n 0, 1) := by decide +kernel
theorem dX11_powerBy_55 : decode cX11_powerBy 55 = .ok (.getfield 67, 3) := by decide +kernel
theorem dX11_powerBy_58 : decode cX11_powerBy 58 = .ok (.bipush 7, 2) := by decide +kernel
theorem dX11_powerBy_60 : decode cX11_powerBy 60 = .ok (.iload 8, 2) := by decide +kernel
theorem dX11_powerBy_62 : decode cX11_powerBy 62 = .ok (.iastore, 1) := by decide +kernel
theorem dX11_powerBy_63 : decode cX11_powerBy 63 = .ok (.aload_n 0, 1) := by decide +kernel
theorem dX11_powerBy_64 : decode cX11_powerBy 64 = .ok (.invokevirtual 271, 3) := by decide +kernel
theorem dX11_powerBy_67 : decode cX11_powerBy 67 = .ok (.ireturn, 1) := by decide +kernel
theorem dX11_powerOf_0 : decode cX11_powerOf 0 = .ok (.aload_n 0, 1) := by decide +kernel
theorem dX11_powerOf_1 : decode cX11_powerOf 1 = .ok (.getfield 43, 3) := by decide +kernel
theorem dX11_powerOf_4 : decode cX11_powerOf 4 = .ok (.iload_n 2, 1) := by decide +kernel
theorem dX11_powerOf_5 : decode cX11_powerOf 5 = .ok (.aaload, 1) := by decide +kernel
theorem dX11_powerOf_6 : decode cX11_powerOf 6 = .ok (.iconst 0, 1) := by decide +kernel
theorem dX11_powerOf_7 : decode cX11_powerOf 7 = .ok (.iaload, 1) := by decide +kernel
theorem dX11_powerOf_8 : decode cX11_powerOf 8 = .ok (.istore 6, 2) := by decide +kernel
theorem dX11_powerOf_10 : decode cX11_powerOf 10 = .ok (.aload_n 0, 1) := by decide +kernel
theorem dX11_powerOf_11 : decode cX11_powerOf 11 = .ok (.aload_n 0, 1) := by decide +kernel
theorem dX11_powerOf_12 : decode cX11_powerOf 12 = .ok (.getfield 43, 3) := by decide +kernel
theorem dX11_powerOf_15 : decode cX11_powerOf 15 = .ok (.iload_n 2, 1) := by decide +kernel
theorem dX11_powerOf_16 : decode cX11_powerOf 16 = .ok (.aaload, 1) := by decide +kernel
theorem dX11_powerOf_17 : decode cX11_powerOf 17 = .ok (.iconst 2, 1) := by decide +kernel
theorem dX11_powerOf_18 : decode cX11_powerOf 18 = .ok (.iaload, 1) := by decide +kernel
theorem dX11_powerOf_19 : decode cX11_powerOf 19 = .ok (.iload_n 3, 1) := by decide +kernel
theorem dX11_powerOf_20 : decode cX11_powerOf 20 = .ok (.iload 4, 2) := by decide +kernel
theorem dX11_powerOf_22 : decode cX11_powerOf 22 = .ok (.aload_n 0, 1) := by decide +kernel
theorem dX11_powerOf_23 : decode cX11_powerOf 23 = .ok (.getfield 29, 3) := by decide +kernel
theorem dX11_powerOf_26 : decode cX11_powerOf 26 = .ok (.iload 6, 2) := by decide +kernel
theorem dX11_powerOf_28 : decode cX11_powerOf 28 = .ok (.iaload, 1) := by decide +kernel
theorem dX11_powerOf_29 : decode cX11_powerOf 29 = .ok (.aload_n 0, 1) := by decide +kernel
theorem dX11_powerOf_30 : decode cX11_powerOf 30 = .ok (.getfield 43, 3) := by decide +kernel
theorem dX11_powerOf_33 : decode cX11_powerOf 33 = .ok (.iload_n 2, 1) := by decide +kernel
theorem dX11_powerOf_34 : decode cX11_powerOf 34 = .ok (.aaload, 1) := by decide +kernel
theorem dX11_powerOf_35 : decode cX11_powerOf 35 = .ok (.iconst 1, 1) := by decide +kernel
theorem dX11_powerOf_36 : decode cX11_powerOf 36 = .ok (.iaload, 1) := by decide +kernel
theorem dX11_powerOf_37 : decode cX11_powerOf 37 = .ok (.aload_n 0, 1) := by decide +kernel
theorem dX11_powerOf_38 : decode cX11_powerOf 38 = .ok (.aload_n 1, 1) := by decide +kernel
theorem dX11_powerOf_39 : decode cX11_powerOf 39 = .ok (.iload 6, 2) := by decide +kernel
theorem dX11_powerOf_41 : decode cX11_powerOf 41 = .ok (.invokevirtual 274, 3) := by decide +kernel
theorem dX11_powerOf_44 : decode cX11_powerOf 44 = .ok (.invokestatic 278, 3) := by decide +kernel
theorem dX11_powerOf_47 : decode cX11_powerOf 47 = .ok (.iconst 1, 1) := by decide +kernel
theorem dX11_powerOf_48 : decode cX11_powerOf 48 = .ok (.isub, 1) := by decide +kernel
theorem dX11_powerOf_49 : decode cX11_powerOf 49 = .ok (.iload 6, 2) := by decide +kernel
theorem dX11_powerOf_51 : decode cX11_powerOf 51 = .ok (.iload 5, 2) := by decide +kernel
theorem dX11_powerOf_53 : decode cX11_powerOf 53 = .ok (.invokevirtual 281, 3) := by decide +kernel
theorem dX11_powerOf_56 : decode cX11_powerOf 56 = .ok (.ireturn, 1) := by decide +kernel
theorem dX11_power_0 : decode cX11_power 0 = .ok (.aload_n 1, 1) := by decide +kernel
theorem dX11_power_1 : decode cX11_power 1 = .ok (.iload_n 2, 1) := by decide +kernel
theorem dX11_power_2 : decode cX11_power 2 = .ok (.invokestatic 267, 3) := by decide +kernel
theorem dX11_power_5 : decode cX11_power 5 = .ok (.ifCond .eq 35, 3) := by decide +kernel
theorem dX11_power_8 : decode cX11_power 8 = .ok (.aload_n 0, 1) := by decide +kernel
theorem dX11_power_9 : decode cX11_power 9 = .ok (.aload_n 1, 1) := by decide +kernel
theorem dX11_power_10 : decode cX11_power 10 = .ok (.iload_n 2, 1) := by decide +kernel
theorem dX11_power_11 : decode cX11_power 11 = .ok (.aload_n 1, 1) := by decide +kernel
theorem dX11_power_12 : decode cX11_power 12 = .ok (.bipush 16, 2) := by decide +kernel
theorem dX11_power_14 : decode cX11_power 14 = .ok (.iload_n 2, 1) := by decide +kernel
theorem dX11_power_15 : decode cX11_power 15 = .ok (.iadd, 1) := by decide +kernel
theorem dX11_power_16 : decode cX11_power 16 = .ok (.iaload, 1) := by decide +kernel
theorem dX11_power_17 : decode cX11_power 17 = .ok (.aload_n 1, 1) := by decide +kernel
theorem dX11_power_18 : decode cX11_power 18 = .ok (.bipush 8, 2) := by decide +kernel
theorem dX11_power_20 : decode cX11_power 20 = .ok (.aload_n 0, 1) := by decide +kernel
theorem dX11_power_21 : decode cX11_power 21 = .ok (.getfield 43, 3) := by decide +kernel
theorem dX11_power_24 : decode cX11_power 24 = .ok (.iload_n 2, 1) := by decide +kernel
theorem dX11_power_25 : decode cX11_power 25 = .ok (.aaload, 1) := by decide +kernel
theorem dX11_power_26 : decode cX11_power 26 = .ok (.iconst 0, 1) := by decide +kernel
theorem dX11_power_27 : decode cX11_power 27 = .ok (.iaload, 1) := by decide +kernel
theorem dX11_power_28 : decode cX11_power 28 = .ok (.iadd, 1) := by decide +kernel
theorem dX11_power_29 : decode cX11_power 29 = .ok (.iaload, 1) := by decide +kernel
theorem dX11_power_30 : decode cX11_power 30 = .ok (.aload_n 1, 1) := by decide +kernel
theorem dX11_power_31 : decode cX11_power 31 = .ok (.bipush 44, 2) := by decide +kernel
theorem dX11_power_33 : decode cX11_power 33 = .ok (.iaload, 1) := by decide +kernel
theorem dX11_power_34 : decode cX11_power 34 = .ok (.invokevirtual 285, 3) := by decide +kernel
theorem dX11_power_37 : decode cX11_power 37 = .ok (.goto 4, 3) := by decide +kernel
theorem dX11_power_40 : decode cX11_power 40 = .ok (.iconst 0, 1) := by decide +kernel
theorem dX11_power_41 : decode cX11_power 41 = .ok (.ireturn, 1) := by decide +kernel
theorem dX11_isAble_0 : decode cX11_isAble 0 = .ok (.aload_n 0, 1) := by decide +kernel
theorem dX11_isAble_1 : decode cX11_isAble 1 = .ok (.getfield 43, 3) := by decide +kernel
theorem dX11_isAble_4 : decode cX11_isAble 4 = .ok (.iload_n 2, 1) := by decide +kernel
theorem dX11_isAble_5 : decode cX11_isAble 5 = .ok (.aaload, 1) := by decide +kernel
theorem dX11_isAble_6 : decode cX11_isAble 6 = .ok (.iconst 1, 1) := by decide +kernel
theorem dX11_isAble_7 : decode cX11_isAble 7 = .ok (.iaload, 1) := by decide +kernel
theorem dX11_isAble_8 : decode cX11_isAble 8 = .ok (.aload_n 0, 1) := by decide +kernel
theorem dX11_isAble_9 : decode cX11_isAble 9 = .ok (.getfield 49, 3) := by decide +kernel
theorem dX11_isAble_12 : decode cX11_isAble 12 = .ok (.iload_n 3, 1) := by decide +kernel
theorem dX11_isAble_13 : decode cX11_isAble 13 = .ok (.aaload, 1) := by decide +kernel
theorem dX11_isAble_14 : decode cX11_isAble 14 = .ok (.iconst 0, 1) := by decide +kernel
theorem dX11_isAble_15 : decode cX11_isAble 15 = .ok (.iaload, 1) := by decide +kernel
theorem dX11_isAble_16 : decode cX11_isAble 16 = .ok (.if_icmp .ne 24, 3) := by decide +kernel
theorem dX11_isAble_19 : decode cX11_isAble 19 = .ok (.aload_n 0, 1) := by decide +kernel
theorem dX11_isAble_20 : decode cX11_isAble 20 = .ok (.aload_n 1, 1) := by decide +kernel
theorem dX11_isAble_21 : decode cX11_isAble 21 = .ok (.iload_n 2, 1) := by decide +kernel
theorem dX11_isAble_22 : decode cX11_isAble 22 = .ok (.invokevirtual 289, 3) := by decide +kernel
theorem dX11_isAble_25 : decode cX11_isAble 25 = .ok (.aload_n 0, 1) := by decide +kernel
theorem dX11_isAble_26 : decode cX11_isAble 26 = .ok (.getfield 49, 3) := by decide +kernel
theorem dX11_isAble_29 : decode cX11_isAble 29 = .ok (.iload_n 3, 1) := by decide +kernel
theorem dX11_isAble_30 : decode cX11_isAble 30 = .ok (.aaload, 1) := by decide +kernel
theorem dX11_isAble_31 : decode cX11_isAble 31 = .ok (.iconst 1, 1) := by decide +kernel
theorem dX11_isAble_32 : decode cX11_isAble 32 = .ok (.iaload, 1) := by decide +kernel
theorem dX11_isAble_33 : decode cX11_isAble 33 = .ok (.if_icmp .lt 7, 3) := by decide +kernel
theorem dX11_isAble_36 : decode cX11_isAble 36 = .ok (.iconst 1, 1) := by decide +kernel
theorem dX11_isAble_37 : decode cX11_isAble 37 = .ok (.goto 4, 3) := by decide +kernel
theorem dX11_isAble_40 : decode cX11_isAble 40 = .ok (.iconst 0, 1) := by decide +kernel
theorem dX11_isAble_41 : decode cX11_isAble 41 = .ok (.ireturn, 1) := by decide +kernel
theorem dX11_canCure_0 : decode cX11_canCure 0 = .ok (.aload_n 1, 1) := by decide +kernel
theorem dX11_canCure_1 : decode cX11_canCure 1 = .ok (.bipush 36, 2) := by decide +kernel
theorem dX11_canCure_3 : decode cX11_canCure 3 = .ok (.iload_n 3, 1) := by decide +kernel
theorem dX11_canCure_4 : decode cX11_canCure 4 = .ok (.iadd, 1) := by decide +kernel
theorem dX11_canCure_5 : decode cX11_canCure 5 = .ok (.iaload, 1) := by decide +kernel
theorem dX11_canCure_6 : decode cX11_canCure 6 = .ok (.iconst (-1), 1) := by decide +kernel
theorem dX11_canCure_7 : decode cX11_canCure 7 = .ok (.if_icmp .ne 26, 3) := by decide +kernel
theorem dX11_canCure_10 : decode cX11_canCure 10 = .ok (.aload_n 1, 1) := by decide +kernel
theorem dX11_canCure_11 : decode cX11_canCure 11 = .ok (.bipush 26, 2) := by decide +kernel
theorem dX11_canCure_13 : decode cX11_canCure 13 = .ok (.iload_n 2, 1) := by decide +kernel
theorem dX11_canCure_14 : decode cX11_canCure 14 = .ok (.iadd, 1) := by decide +kernel
theorem dX11_canCure_15 : decode cX11_canCure 15 = .ok (.iaload, 1) := by decide +kernel
theorem dX11_canCure_16 : decode cX11_canCure 16 = .ok (.ifCond .ne 17, 3) := by decide +kernel
theorem dX11_canCure_19 : decode cX11_canCure 19 = .ok (.aload_n 0, 1) := by decide +kernel
theorem dX11_canCure_20 : decode cX11_canCure 20 = .ok (.aload_n 1, 1) := by decide +kernel
theorem dX11_canCure_21 : decode cX11_canCure 21 = .ok (.iload_n 2, 1) := by decide +kernel
theorem dX11_canCure_22 : decode cX11_canCure 22 = .ok (.iload_n 3, 1) := by decide +kernel
theorem dX11_canCure_23 : decode cX11_canCure 23 = .ok (.invokevirtual 292, 3) := by decide +kernel
theorem dX11_canCure_26 : decode cX11_canCure 26 = .ok (.ifCond .eq 7, 3) := by decide +kernel
theorem dX11_canCure_29 : decode cX11_canCure 29 = .ok (.iconst 1, 1) := by decide +kernel
theorem dX11_canCure_30 : decode cX11_canCure 30 = .ok (.goto 4, 3) := by decide +kernel
theorem dX11_canCure_33 : decode cX11_canCure 33 = .ok (.iconst 0, 1) := by decide +kernel
theorem dX11_canCure_34 : decode cX11_canCure 34 = .ok (.ireturn, 1) := by decide +kernel
theorem dX11_canLapse_0 : decode cX11_canLapse 0 = .ok (.aload_n 1, 1) := by decide +kernel
theorem dX11_canLapse_1 : decode cX11_canLapse 1 = .ok (.iconst 0, 1) := by decide +kernel
theorem dX11_canLapse_2 : decode cX11_canLapse 2 = .ok (.iload_n 2, 1) := by decide +kernel
theorem dX11_canLapse_3 : decode cX11_canLapse 3 = .ok (.iadd, 1) := by decide +kernel
theorem dX11_canLapse_4 : decode cX11_canLapse 4 = .ok (.iaload, 1) := by decide +kernel
theorem dX11_canLapse_5 : decode cX11_canLapse 5 = .ok (.ifCond .ne 16, 3) := by decide +kernel
theorem dX11_canLapse_8 : decode cX11_canLapse 8 = .ok (.aload_n 0, 1) := by decide +kernel
theorem dX11_canLapse_9 : decode cX11_canLapse 9 = .ok (.aload_n 1, 1) := by decide +kernel
theorem dX11_canLapse_10 : decode cX11_canLapse 10 = .ok (.iload_n 2, 1) := by decide +kernel
theorem dX11_canLapse_11 : decode cX11_canLapse 11 = .ok (.invokevirtual 274, 3) := by decide +kernel
theorem dX11_canLapse_14 : decode cX11_canLapse 14 = .ok (.ifCond .eq 7, 3) := by decide +kernel
theorem dX11_canLapse_17 : decode cX11_canLapse 17 = .ok (.iconst 1, 1) := by decide +kernel
theorem dX11_canLapse_18 : decode cX11_canLapse 18 = .ok (.goto 4, 3) := by decide +kernel
theorem dX11_canLapse_21 : decode cX11_canLapse 21 = .ok (.iconst 0, 1) := by decide +kernel
theorem dX11_canLapse_22 : decode cX11_canLapse 22 = .ok (.ireturn, 1) := by decide +kernel
theorem dX11_lapses_0 : decode cX11_lapses 0 = .ok (.aload_n 0, 1) := by decide +kernel
theorem dX11_lapses_1 : decode cX11_lapses 1 = .ok (.aload_n 1, 1) := by decide +kernel
theorem dX11_lapses_2 : decode cX11_lapses 2 = .ok (.iload_n 2, 1) := by decide +kernel
theorem dX11_lapses_3 : decode cX11_lapses 3 = .ok (.invokevirtual 296, 3) := by decide +kernel
theorem dX11_lapses_6 : decode cX11_lapses 6 = .ok (.ifCond .ne 5, 3) := by decide +kernel
theorem dX11_lapses_9 : decode cX11_lapses 9 = .ok (.iconst 0, 1) := by decide +kernel
theorem dX11_lapses_10 : decode cX11_lapses 10 = .ok (.ireturn, 1) := by decide +kernel
theorem dX11_lapses_11 : decode cX11_lapses 11 = .ok (.iconst 0, 1) := by decide +kernel
theorem dX11_lapses_12 : decode cX11_lapses 12 = .ok (.istore_n 3, 1) := by decide +kernel
theorem dX11_lapses_13 : decode cX11_lapses 13 = .ok (.iload_n 3, 1) := by decide +kernel
theorem dX11_lapses_14 : decode cX11_lapses 14 = .ok (.aload_n 0, 1) := by decide +kernel
theorem dX11_lapses_15 : decode cX11_lapses 15 = .ok (.getfield 23, 3) := by decide +kernel
theorem dX11_lapses_18 : decode cX11_lapses 18 = .ok (.iconst 1, 1) := by decide +kernel
theorem dX11_lapses_19 : decode cX11_lapses 19 = .ok (.iaload, 1) := by decide +kernel
theorem dX11_lapses_20 : decode cX11_lapses 20 = .ok (.if_icmp .ge 45, 3) := by decide +kernel
theorem dX11_lapses_23 : decode cX11_lapses 23 = .ok (.aload_n 1, 1) := by decide +kernel
theorem dX11_lapses_24 : decode cX11_lapses 24 = .ok (.bipush 16, 2) := by decide +kernel
theorem dX11_lapses_26 : decode cX11_lapses 26 = .ok (.iload_n 3, 1) := by decide +kernel
theorem dX11_lapses_27 : decode cX11_lapses 27 = .ok (.iadd, 1) := by decide +kernel
theorem dX11_lapses_28 : decode cX11_lapses 28 = .ok (.aload_n 0, 1) := by decide +kernel
theorem dX11_lapses_29 : decode cX11_lapses 29 = .ok (.aload_n 1, 1) := by decide +kernel
theorem dX11_lapses_30 : decode cX11_lapses 30 = .ok (.iload_n 2, 1) := by decide +kernel
theorem dX11_lapses_31 : decode cX11_lapses 31 = .ok (.invokevirtual 274, 3) := by decide +kernel
theorem dX11_lapses_34 : decode cX11_lapses 34 = .ok (.iload_n 3, 1) := by decide +kernel
theorem dX11_lapses_35 : decode cX11_lapses 35 = .ok (.invokestatic 263, 3) := by decide +kernel
theorem dX11_lapses_38 : decode cX11_lapses 38 = .ok (.ifCond .eq 14, 3) := by decide +kernel
theorem dX11_lapses_41 : decode cX11_lapses 41 = .ok (.aload_n 1, 1) := by decide +kernel
theorem dX11_lapses_42 : decode cX11_lapses 42 = .ok (.bipush 16, 2) := by decide +kernel
theorem dX11_lapses_44 : decode cX11_lapses 44 = .ok (.iload_n 3, 1) := by decide +kernel
theorem dX11_lapses_45 : decode cX11_lapses 45 = .ok (.iadd, 1) := by decide +kernel
theorem dX11_lapses_46 : decode cX11_lapses 46 = .ok (.iaload, 1) := by decide +kernel
theorem dX11_lapses_47 : decode cX11_lapses 47 = .ok (.iconst 2, 1) := by decide +kernel
theorem dX11_lapses_48 : decode cX11_lapses 48 = .ok (.idiv, 1) := by decide +kernel
theorem dX11_lapses_49 : decode cX11_lapses 49 = .ok (.goto 9, 3) := by decide +kernel
theorem dX11_lapses_52 : decode cX11_lapses 52 = .ok (.aload_n 1, 1) := by decide +kernel
theorem dX11_lapses_53 : decode cX11_lapses 53 = .ok (.bipush 16, 2) := by decide +kernel
theorem dX11_lapses_55 : decode cX11_lapses 55 = .ok (.iload_n 3, 1) := by decide +kernel
theorem dX11_lapses_56 : decode cX11_lapses 56 = .ok (.iadd, 1) := by decide +kernel
theorem dX11_lapses_57 : decode cX11_lapses 57 = .ok (.iaload, 1) := by decide +kernel
theorem dX11_lapses_58 : decode cX11_lapses 58 = .ok (.iastore, 1) := by decide +kernel
theorem dX11_lapses_59 : decode cX11_lapses 59 = .ok (.iinc 3 1, 3) := by decide +kernel
theorem dX11_lapses_62 : decode cX11_lapses 62 = .ok (.goto (-49), 3) := by decide +kernel
theorem dX11_lapses_65 : decode cX11_lapses 65 = .ok (.aload_n 1, 1) := by decide +kernel
theorem dX11_lapses_66 : decode cX11_lapses 66 = .ok (.bipush 8, 2) := by decide +kernel
theorem dX11_lapses_68 : decode cX11_lapses 68 = .ok (.iload_n 2, 1) := by decide +kernel
theorem dX11_lapses_69 : decode cX11_lapses 69 = .ok (.iadd, 1) := by decide +kernel
theorem dX11_lapses_70 : decode cX11_lapses 70 = .ok (.dup2, 1) := by decide +kernel
theorem dX11_lapses_71 : decode cX11_lapses 71 = .ok (.iaload, 1) := by decide +kernel
theorem dX11_lapses_72 : decode cX11_lapses 72 = .ok (.iconst 1, 1) := by decide +kernel
theorem dX11_lapses_73 : decode cX11_lapses 73 = .ok (.iadd, 1) := by decide +kernel
theorem dX11_lapses_74 : decode cX11_lapses 74 = .ok (.iastore, 1) := by decide +kernel
theorem dX11_lapses_75 : decode cX11_lapses 75 = .ok (.iconst 1, 1) := by decide +kernel
theorem dX11_lapses_76 : decode cX11_lapses 76 = .ok (.ireturn, 1) := by decide +kernel
theorem dX11_cures_0 : decode cX11_cures 0 = .ok (.aload_n 0, 1) := by decide +kernel
theorem dX11_cures_1 : decode cX11_cures 1 = .ok (.aload_n 1, 1) := by decide +kernel
theorem dX11_cures_2 : decode cX11_cures 2 = .ok (.iload_n 2, 1) := by decide +kernel
theorem dX11_cures_3 : decode cX11_cures 3 = .ok (.iload_n 3, 1) := by decide +kernel
theorem dX11_cures_4 : decode cX11_cures 4 = .ok (.invokevirtual 299, 3) := by decide +kernel
theorem dX11_cures_7 : decode cX11_cures 7 = .ok (.ifCond .ne 5, 3) := by decide +kernel
theorem dX11_cures_10 : decode cX11_cures 10 = .ok (.iconst 0, 1) := by decide +kernel
theorem dX11_cures_11 : decode cX11_cures 11 = .ok (.ireturn, 1) := by decide +kernel
theorem dX11_cures_12 : decode cX11_cures 12 = .ok (.aload_n 1, 1) := by decide +kernel
theorem dX11_cures_13 : decode cX11_cures 13 = .ok (.bipush 36, 2) := by decide +kernel
theorem dX11_cures_15 : decode cX11_cures 15 = .ok (.iload_n 3, 1) := by decide +kernel
theorem dX11_cures_16 : decode cX11_cures 16 = .ok (.iadd, 1) := by decide +kernel
theorem dX11_cures_17 : decode cX11_cures 17 = .ok (.iload_n 2, 1) := by decide +kernel
theorem dX11_cures_18 : decode cX11_cures 18 = .ok (.iastore, 1) := by decide +kernel
theorem dX11_cures_19 : decode cX11_cures 19 = .ok (.aload_n 1, 1) := by decide +kernel
theorem dX11_cures_20 : decode cX11_cures 20 = .ok (.bipush 26, 2) := by decide +kernel
theorem dX11_cures_22 : decode cX11_cures 22 = .ok (.iload_n 2, 1) := by decide +kernel
theorem dX11_cures_23 : decode cX11_cures 23 = .ok (.iadd, 1) := by decide +kernel
theorem dX11_cures_24 : decode cX11_cures 24 = .ok (.iconst 1, 1) := by decide +kernel
theorem dX11_cures_25 : decode cX11_cures 25 = .ok (.iastore, 1) := by decide +kernel
theorem dX11_cures_26 : decode cX11_cures 26 = .ok (.iconst 1, 1) := by decide +kernel
theorem dX11_cures_27 : decode cX11_cures 27 = .ok (.ireturn, 1) := by decide +kernel
theorem dX11_dayEnds_0 : decode cX11_dayEnds 0 = .ok (.iconst 0, 1) := by decide +kernel
theorem dX11_dayEnds_1 : decode cX11_dayEnds 1 = .ok (.istore_n 2, 1) := by decide +kernel
theorem dX11_dayEnds_2 : decode cX11_dayEnds 2 = .ok (.iload_n 2, 1) := by decide +kernel
theorem dX11_dayEnds_3 : decode cX11_dayEnds 3 = .ok (.aload_n 0, 1) := by decide +kernel
theorem dX11_dayEnds_4 : decode cX11_dayEnds 4 = .ok (.getfield 23, 3) := by decide +kernel
theorem dX11_dayEnds_7 : decode cX11_dayEnds 7 = .ok (.iconst 1, 1) := by decide +kernel
theorem dX11_dayEnds_8 : decode cX11_dayEnds 8 = .ok (.iaload, 1) := by decide +kernel
theorem dX11_dayEnds_9 : decode cX11_dayEnds 9 = .ok (.if_icmp .ge 38, 3) := by decide +kernel
theorem dX11_dayEnds_12 : decode cX11_dayEnds 12 = .ok (.aload_n 1, 1) := by decide +kernel
theorem dX11_dayEnds_13 : decode cX11_dayEnds 13 = .ok (.bipush 16, 2) := by decide +kernel
theorem dX11_dayEnds_15 : decode cX11_dayEnds 15 = .ok (.iload_n 2, 1) := by decide +kernel
theorem dX11_dayEnds_16 : decode cX11_dayEnds 16 = .ok (.iadd, 1) := by decide +kernel
theorem dX11_dayEnds_17 : decode cX11_dayEnds 17 = .ok (.dup2, 1) := by decide +kernel
theorem dX11_dayEnds_18 : decode cX11_dayEnds 18 = .ok (.iaload, 1) := by decide +kernel
theorem dX11_dayEnds_19 : decode cX11_dayEnds 19 = .ok (.aload_n 1, 1) := by decide +kernel
theorem dX11_dayEnds_20 : decode cX11_dayEnds 20 = .ok (.iload_n 2, 1) := by decide +kernel
theorem dX11_dayEnds_21 : decode cX11_dayEnds 21 = .ok (.invokestatic 267, 3) := by decide +kernel
theorem dX11_dayEnds_24 : decode cX11_dayEnds 24 = .ok (.ifCond .eq 7, 3) := by decide +kernel
theorem dX11_dayEnds_27 : decode cX11_dayEnds 27 = .ok (.iconst 1, 1) := by decide +kernel
theorem dX11_dayEnds_28 : decode cX11_dayEnds 28 = .ok (.goto 4, 3) := by decide +kernel
theorem dX11_dayEnds_31 : decode cX11_dayEnds 31 = .ok (.iconst 0, 1) := by decide +kernel
theorem dX11_dayEnds_32 : decode cX11_dayEnds 32 = .ok (.iadd, 1) := by decide +kernel
theorem dX11_dayEnds_33 : decode cX11_dayEnds 33 = .ok (.iastore, 1) := by decide +kernel
theorem dX11_dayEnds_34 : decode cX11_dayEnds 34 = .ok (.aload_n 1, 1) := by decide +kernel
theorem dX11_dayEnds_35 : decode cX11_dayEnds 35 = .ok (.bipush 26, 2) := by decide +kernel
theorem dX11_dayEnds_37 : decode cX11_dayEnds 37 = .ok (.iload_n 2, 1) := by decide +kernel
theorem dX11_dayEnds_38 : decode cX11_dayEnds 38 = .ok (.iadd, 1) := by decide +kernel
theorem dX11_dayEnds_39 : decode cX11_dayEnds 39 = .ok (.iconst 0, 1) := by decide +kernel
theorem dX11_dayEnds_40 : decode cX11_dayEnds 40 = .ok (.iastore, 1) := by decide +kernel
theorem dX11_dayEnds_41 : decode cX11_dayEnds 41 = .ok (.iinc 2 1, 3) := by decide +kernel
theorem dX11_dayEnds_44 : decode cX11_dayEnds 44 = .ok (.goto (-42), 3) := by decide +kernel
theorem dX11_dayEnds_47 : decode cX11_dayEnds 47 = .ok (.aload_n 1, 1) := by decide +kernel
theorem dX11_dayEnds_48 : decode cX11_dayEnds 48 = .ok (.bipush 44, 2) := by decide +kernel
theorem dX11_dayEnds_50 : decode cX11_dayEnds 50 = .ok (.dup2, 1) := by decide +kernel
theorem dX11_dayEnds_51 : decode cX11_dayEnds 51 = .ok (.iaload, 1) := by decide +kernel
theorem dX11_dayEnds_52 : decode cX11_dayEnds 52 = .ok (.iconst 1, 1) := by decide +kernel
theorem dX11_dayEnds_53 : decode cX11_dayEnds 53 = .ok (.iadd, 1) := by decide +kernel
theorem dX11_dayEnds_54 : decode cX11_dayEnds 54 = .ok (.iastore, 1) := by decide +kernel
theorem dX11_dayEnds_55 : decode cX11_dayEnds 55 = .ok (.return_, 1) := by decide +kernel
theorem dX11_does_0 : decode cX11_does 0 = .ok (.aload_n 2, 1) := by decide +kernel
theorem dX11_does_1 : decode cX11_does 1 = .ok (.iconst 1, 1) := by decide +kernel
theorem dX11_does_2 : decode cX11_does 2 = .ok (.iaload, 1) := by decide +kernel
theorem dX11_does_3 : decode cX11_does 3 = .ok (.istore_n 3, 1) := by decide +kernel
theorem dX11_does_4 : decode cX11_does 4 = .ok (.aload_n 2, 1) := by decide +kernel
theorem dX11_does_5 : decode cX11_does 5 = .ok (.iconst 0, 1) := by decide +kernel
theorem dX11_does_6 : decode cX11_does 6 = .ok (.iaload, 1) := by decide +kernel
theorem dX11_does_7 : decode cX11_does 7 = .ok (.tableswitch 174 0 4 #[33, 68, 87, 94, 104], 33) := by decide +kernel
theorem dX11_does_40 : decode cX11_does 40 = .ok (.aload_n 1, 1) := by decide +kernel
theorem dX11_does_41 : decode cX11_does 41 = .ok (.iload_n 3, 1) := by decide +kernel
theorem dX11_does_42 : decode cX11_does 42 = .ok (.invokestatic 267, 3) := by decide +kernel
theorem dX11_does_45 : decode cX11_does 45 = .ok (.ifCond .ne 19, 3) := by decide +kernel
theorem dX11_does_48 : decode cX11_does 48 = .ok (.aload_n 1, 1) := by decide +kernel
theorem dX11_does_49 : decode cX11_does 49 = .ok (.iconst 0, 1) := by decide +kernel
theorem dX11_does_50 : decode cX11_does 50 = .ok (.aload_n 0, 1) := by decide +kernel
theorem dX11_does_51 : decode cX11_does 51 = .ok (.getfield 43, 3) := by decide +kernel
theorem dX11_does_54 : decode cX11_does 54 = .ok (.iload_n 3, 1) := by decide +kernel
theorem dX11_does_55 : decode cX11_does 55 = .ok (.aaload, 1) := by decide +kernel
theorem dX11_does_56 : decode cX11_does 56 = .ok (.iconst 0, 1) := by decide +kernel
theorem dX11_does_57 : decode cX11_does 57 = .ok (.iaload, 1) := by decide +kernel
theorem dX11_does_58 : decode cX11_does 58 = .ok (.iadd, 1) := by decide +kernel
theorem dX11_does_59 : decode cX11_does 59 = .ok (.iaload, 1) := by decide +kernel
theorem dX11_does_60 : decode cX11_does 60 = .ok (.iconst 1, 1) := by decide +kernel
theorem dX11_does_61 : decode cX11_does 61 = .ok (.if_icmp .ne 5, 3) := by decide +kernel
theorem dX11_does_64 : decode cX11_does 64 = .ok (.iconst 0, 1) := by decide +kernel
theorem dX11_does_65 : decode cX11_does 65 = .ok (.ireturn, 1) := by decide +kernel
theorem dX11_does_66 : decode cX11_does 66 = .ok (.aload_n 1, 1) := by decide +kernel
theorem dX11_does_67 : decode cX11_does 67 = .ok (.bipush 16, 2) := by decide +kernel
theorem dX11_does_69 : decode cX11_does 69 = .ok (.iload_n 3, 1) := by decide +kernel
theorem dX11_does_70 : decode cX11_does 70 = .ok (.iadd, 1) := by decide +kernel
theorem dX11_does_71 : decode cX11_does 71 = .ok (.iconst 0, 1) := by decide +kernel
theorem dX11_does_72 : decode cX11_does 72 = .ok (.iastore, 1) := by decide +kernel
theorem dX11_does_73 : decode cX11_does 73 = .ok (.iconst 1, 1) := by decide +kernel
theorem dX11_does_74 : decode cX11_does 74 = .ok (.ireturn, 1) := by decide +kernel
theorem dX11_does_75 : decode cX11_does 75 = .ok (.aload_n 1, 1) := by decide +kernel
theorem dX11_does_76 : decode cX11_does 76 = .ok (.iload_n 3, 1) := by decide +kernel
theorem dX11_does_77 : decode cX11_does 77 = .ok (.invokestatic 267, 3) := by decide +kernel
theorem dX11_does_80 : decode cX11_does 80 = .ok (.ifCond .ne 5, 3) := by decide +kernel
theorem dX11_does_83 : decode cX11_does 83 = .ok (.iconst 0, 1) := by decide +kernel
theorem dX11_does_84 : decode cX11_does 84 = .ok (.ireturn, 1) := by decide +kernel
theorem dX11_does_85 : decode cX11_does 85 = .ok (.aload_n 1, 1) := by decide +kernel
theorem dX11_does_86 : decode cX11_does 86 = .ok (.bipush 16, 2) := by decide +kernel
theorem dX11_does_88 : decode cX11_does 88 = .ok (.iload_n 3, 1) := by decide +kernel
theorem dX11_does_89 : decode cX11_does 89 = .ok (.iadd, 1) := by decide +kernel
theorem dX11_does_90 : decode cX11_does 90 = .ok (.iconst (-1), 1) := by decide +kernel
theorem dX11_does_91 : decode cX11_does 91 = .ok (.iastore, 1) := by decide +kernel
theorem dX11_does_92 : decode cX11_does 92 = .ok (.iconst 1, 1) := by decide +kernel
theorem dX11_does_93 : decode cX11_does 93 = .ok (.ireturn, 1) := by decide +kernel
theorem dX11_does_94 : decode cX11_does 94 = .ok (.aload_n 0, 1) := by decide +kernel
theorem dX11_does_95 : decode cX11_does 95 = .ok (.aload_n 1, 1) := by decide +kernel
theorem dX11_does_96 : decode cX11_does 96 = .ok (.iload_n 3, 1) := by decide +kernel
theorem dX11_does_97 : decode cX11_does 97 = .ok (.invokevirtual 302, 3) := by decide +kernel
theorem dX11_does_100 : decode cX11_does 100 = .ok (.ireturn, 1) := by decide +kernel
theorem dX11_does_101 : decode cX11_does 101 = .ok (.aload_n 0, 1) := by decide +kernel
theorem dX11_does_102 : decode cX11_does 102 = .ok (.aload_n 1, 1) := by decide +kernel
theorem dX11_does_103 : decode cX11_does 103 = .ok (.iload_n 3, 1) := by decide +kernel
theorem dX11_does_104 : decode cX11_does 104 = .ok (.aload_n 2, 1) := by decide +kernel
theorem dX11_does_105 : decode cX11_does 105 = .ok (.iconst 2, 1) := by decide +kernel
theorem dX11_does_106 : decode cX11_does 106 = .ok (.iaload, 1) := by decide +kernel
theorem dX11_does_107 : decode cX11_does 107 = .ok (.invokevirtual 305, 3) := by decide +kernel
theorem dX11_does_110 : decode cX11_does 110 = .ok (.ireturn, 1) := by decide +kernel
theorem dX11_does_111 : decode cX11_does 111 = .ok (.aload_n 1, 1) := by decide +kernel
theorem dX11_does_112 : decode cX11_does 112 = .ok (.iconst 0, 1) := by decide +kernel
theorem dX11_does_113 : decode cX11_does 113 = .ok (.iload_n 3, 1) := by decide +kernel
theorem dX11_does_114 : decode cX11_does 114 = .ok (.iadd, 1) := by decide +kernel
theorem dX11_does_115 : decode cX11_does 115 = .ok (.iaload, 1) := by decide +kernel
theorem dX11_does_116 : decode cX11_does 116 = .ok (.iconst 1, 1) := by decide +kernel
theorem dX11_does_117 : decode cX11_does 117 = .ok (.if_icmp .ne 5, 3) := by decide +kernel
theorem dX11_does_120 : decode cX11_does 120 = .ok (.iconst 0, 1) := by decide +kernel
theorem dX11_does_121 : decode cX11_does 121 = .ok (.ireturn, 1) := by decide +kernel
theorem dX11_does_122 : decode cX11_does 122 = .ok (.iconst 0, 1) := by decide +kernel
theorem dX11_does_123 : decode cX11_does 123 = .ok (.istore 4, 2) := by decide +kernel
theorem dX11_does_125 : decode cX11_does 125 = .ok (.iload 4, 2) := by decide +kernel
theorem dX11_does_127 : decode cX11_does 127 = .ok (.aload_n 0, 1) := by decide +kernel
theorem dX11_does_128 : decode cX11_does 128 = .ok (.getfield 23, 3) := by decide +kernel
theorem dX11_does_131 : decode cX11_does 131 = .ok (.iconst 1, 1) := by decide +kernel
theorem dX11_does_132 : decode cX11_does 132 = .ok (.iaload, 1) := by decide +kernel
theorem dX11_does_133 : decode cX11_does 133 = .ok (.if_icmp .ge 40, 3) := by decide +kernel
theorem dX11_does_136 : decode cX11_does 136 = .ok (.aload_n 1, 1) := by decide +kernel
theorem dX11_does_137 : decode cX11_does 137 = .ok (.bipush 16, 2) := by decide +kernel
theorem dX11_does_139 : decode cX11_does 139 = .ok (.iload 4, 2) := by decide +kernel
theorem dX11_does_141 : decode cX11_does 141 = .ok (.iadd, 1) := by decide +kernel
theorem dX11_does_142 : decode cX11_does 142 = .ok (.aload_n 0, 1) := by decide +kernel
theorem dX11_does_143 : decode cX11_does 143 = .ok (.getfield 43, 3) := by decide +kernel
theorem dX11_does_146 : decode cX11_does 146 = .ok (.iload 4, 2) := by decide +kernel
theorem dX11_does_148 : decode cX11_does 148 = .ok (.aaload, 1) := by decide +kernel
theorem dX11_does_149 : decode cX11_does 149 = .ok (.iconst 0, 1) := by decide +kernel
theorem dX11_does_150 : decode cX11_does 150 = .ok (.iaload, 1) := by decide +kernel
theorem dX11_does_151 : decode cX11_does 151 = .ok (.iload_n 3, 1) := by decide +kernel
theorem dX11_does_152 : decode cX11_does 152 = .ok (.if_icmp .ne 7, 3) := by decide +kernel
theorem dX11_does_155 : decode cX11_does 155 = .ok (.iconst (-1), 1) := by decide +kernel
theorem dX11_does_156 : decode cX11_does 156 = .ok (.goto 10, 3) := by decide +kernel
theorem dX11_does_159 : decode cX11_does 159 = .ok (.aload_n 1, 1) := by decide +kernel
theorem dX11_does_160 : decode cX11_does 160 = .ok (.bipush 16, 2) := by decide +kernel
theorem dX11_does_162 : decode cX11_does 162 = .ok (.iload 4, 2) := by decide +kernel
theorem dX11_does_164 : decode cX11_does 164 = .ok (.iadd, 1) := by decide +kernel
theorem dX11_does_165 : decode cX11_does 165 = .ok (.iaload, 1) := by decide +kernel
theorem dX11_does_166 : decode cX11_does 166 = .ok (.iastore, 1) := by decide +kernel
theorem dX11_does_167 : decode cX11_does 167 = .ok (.iinc 4 1, 3) := by decide +kernel
theorem dX11_does_170 : decode cX11_does 170 = .ok (.goto (-45), 3) := by decide +kernel
theorem dX11_does_173 : decode cX11_does 173 = .ok (.aload_n 1, 1) := by decide +kernel
theorem dX11_does_174 : decode cX11_does 174 = .ok (.iconst 0, 1) := by decide +kernel
theorem dX11_does_175 : decode cX11_does 175 = .ok (.iload_n 3, 1) := by decide +kernel
theorem dX11_does_176 : decode cX11_does 176 = .ok (.iadd, 1) := by decide +kernel
theorem dX11_does_177 : decode cX11_does 177 = .ok (.iconst 1, 1) := by decide +kernel
theorem dX11_does_178 : decode cX11_does 178 = .ok (.iastore, 1) := by decide +kernel
theorem dX11_does_179 : decode cX11_does 179 = .ok (.iconst 1, 1) := by decide +kernel
theorem dX11_does_180 : decode cX11_does 180 = .ok (.ireturn, 1) := by decide +kernel
theorem dX11_does_181 : decode cX11_does 181 = .ok (.aload_n 1, 1) := by decide +kernel
theorem dX11_does_182 : decode cX11_does 182 = .ok (.bipush 44, 2) := by decide +kernel
theorem dX11_does_184 : decode cX11_does 184 = .ok (.iaload, 1) := by decide +kernel
theorem dX11_does_185 : decode cX11_does 185 = .ok (.sipush 500, 3) := by decide +kernel
theorem dX11_does_188 : decode cX11_does 188 = .ok (.if_icmp .lt 5, 3) := by decide +kernel
theorem dX11_does_191 : decode cX11_does 191 = .ok (.iconst 0, 1) := by decide +kernel
theorem dX11_does_192 : decode cX11_does 192 = .ok (.ireturn, 1) := by decide +kernel
theorem dX11_does_193 : decode cX11_does 193 = .ok (.aload_n 0, 1) := by decide +kernel
theorem dX11_does_194 : decode cX11_does 194 = .ok (.aload_n 1, 1) := by decide +kernel
theorem dX11_does_195 : decode cX11_does 195 = .ok (.invokevirtual 308, 3) := by decide +kernel
theorem dX11_does_198 : decode cX11_does 198 = .ok (.iconst 1, 1) := by decide +kernel
theorem dX11_does_199 : decode cX11_does 199 = .ok (.ireturn, 1) := by decide +kernel
theorem dX11_goes_0 : decode cX11_goes 0 = .ok (.iload_n 1, 1) := by decide +kernel
theorem dX11_goes_1 : decode cX11_goes 1 = .ok (.istore_n 3, 1) := by decide +kernel
theorem dX11_goes_2 : decode cX11_goes 2 = .ok (.iload_n 3, 1) := by decide +kernel
theorem dX11_goes_3 : decode cX11_goes 3 = .ok (.iload_n 2, 1) := by decide +kernel
theorem dX11_goes_4 : decode cX11_goes 4 = .ok (.if_icmp .ge 152, 3) := by decide +kernel
theorem dX11_goes_7 : decode cX11_goes 7 = .ok (.aload_n 0, 1) := by decide +kernel
theorem dX11_goes_8 : decode cX11_goes 8 = .ok (.getfield 312, 3) := by decide +kernel
theorem dX11_goes_11 : decode cX11_goes 11 = .ok (.sipush 200, 3) := by decide +kernel
theorem dX11_goes_14 : decode cX11_goes 14 = .ok (.if_icmp .ge 142, 3) := by decide +kernel
theorem dX11_goes_17 : decode cX11_goes 17 = .ok (.aload_n 0, 1) := by decide +kernel
theorem dX11_goes_18 : decode cX11_goes 18 = .ok (.dup, 1) := by decide +kernel
theorem dX11_goes_19 : decode cX11_goes 19 = .ok (.getfield 312, 3) := by decide +kernel
theorem dX11_goes_22 : decode cX11_goes 22 = .ok (.iconst 1, 1) := by decide +kernel
theorem dX11_goes_23 : decode cX11_goes 23 = .ok (.iadd, 1) := by decide +kernel
theorem dX11_goes_24 : decode cX11_goes 24 = .ok (.putfield 312, 3) := by decide +kernel
theorem dX11_goes_27 : decode cX11_goes 27 = .ok (.aload_n 0, 1) := by decide +kernel
theorem dX11_goes_28 : decode cX11_goes 28 = .ok (.getfield 70, 3) := by decide +kernel
theorem dX11_goes_31 : decode cX11_goes 31 = .ok (.iload_n 3, 1) := by decide +kernel
theorem dX11_goes_32 : decode cX11_goes 32 = .ok (.aaload, 1) := by decide +kernel
theorem dX11_goes_33 : decode cX11_goes 33 = .ok (.iconst 0, 1) := by decide +kernel
theorem dX11_goes_34 : decode cX11_goes 34 = .ok (.iaload, 1) := by decide +kernel
theorem dX11_goes_35 : decode cX11_goes 35 = .ok (.bipush 6, 2) := by decide +kernel
theorem dX11_goes_37 : decode cX11_goes 37 = .ok (.if_icmp .ne 53, 3) := by decide +kernel
theorem dX11_goes_40 : decode cX11_goes 40 = .ok (.iconst 0, 1) := by decide +kernel
theorem dX11_goes_41 : decode cX11_goes 41 = .ok (.istore 4, 2) := by decide +kernel
theorem dX11_goes_43 : decode cX11_goes 43 = .ok (.iload 4, 2) := by decide +kernel
theorem dX11_goes_45 : decode cX11_goes 45 = .ok (.aload_n 0, 1) := by decide +kernel
theorem dX11_goes_46 : decode cX11_goes 46 = .ok (.getfield 70, 3) := by decide +kernel
