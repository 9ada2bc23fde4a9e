theorem dX11_goes_49 : decode cX11_goes 49 = .ok (.iload_n 3, 1) := by decide +kernel
theorem dX11_goes_50 : decode cX11_goes 50 = .ok (.aaload, 1) := by decide +kernel
theorem dX11_goes_51 : decode cX11_goes 51 = .ok (.iconst 1, 1) := by decide +kernel
theorem dX11_goes_52 : decode cX11_goes 52 = .ok (.iaload, 1) := by decide +kernel
theorem dX11_goes_53 : decode cX11_goes 53 = .ok (.if_icmp .ge 34, 3) := by decide +kernel
theorem dX11_goes_56 : decode cX11_goes 56 = .ok (.aload_n 0, 1) := by decide +kernel
theorem dX11_goes_57 : decode cX11_goes 57 = .ok (.getfield 312, 3) := by decide +kernel
theorem dX11_goes_60 : decode cX11_goes 60 = .ok (.sipush 200, 3) := by decide +kernel
theorem dX11_goes_63 : decode cX11_goes 63 = .ok (.if_icmp .ge 24, 3) := by decide +kernel
theorem dX11_goes_66 : decode cX11_goes 66 = .ok (.aload_n 0, 1) := by decide +kernel
theorem dX11_goes_67 : decode cX11_goes 67 = .ok (.iload_n 3, 1) := by decide +kernel
theorem dX11_goes_68 : decode cX11_goes 68 = .ok (.iconst 1, 1) := by decide +kernel
theorem dX11_goes_69 : decode cX11_goes 69 = .ok (.iadd, 1) := by decide +kernel
theorem dX11_goes_70 : decode cX11_goes 70 = .ok (.aload_n 0, 1) := by decide +kernel
theorem dX11_goes_71 : decode cX11_goes 71 = .ok (.getfield 70, 3) := by decide +kernel
theorem dX11_goes_74 : decode cX11_goes 74 = .ok (.iload_n 3, 1) := by decide +kernel
theorem dX11_goes_75 : decode cX11_goes 75 = .ok (.aaload, 1) := by decide +kernel
theorem dX11_goes_76 : decode cX11_goes 76 = .ok (.iconst 3, 1) := by decide +kernel
theorem dX11_goes_77 : decode cX11_goes 77 = .ok (.iaload, 1) := by decide +kernel
theorem dX11_goes_78 : decode cX11_goes 78 = .ok (.invokevirtual 315, 3) := by decide +kernel
theorem dX11_goes_81 : decode cX11_goes 81 = .ok (.iinc 4 1, 3) := by decide +kernel
theorem dX11_goes_84 : decode cX11_goes 84 = .ok (.goto (-41), 3) := by decide +kernel
theorem dX11_goes_87 : decode cX11_goes 87 = .ok (.goto 57, 3) := by decide +kernel
theorem dX11_goes_90 : decode cX11_goes 90 = .ok (.aload_n 0, 1) := by decide +kernel
theorem dX11_goes_91 : decode cX11_goes 91 = .ok (.aload_n 0, 1) := by decide +kernel
theorem dX11_goes_92 : decode cX11_goes 92 = .ok (.getfield 73, 3) := by decide +kernel
theorem dX11_goes_95 : decode cX11_goes 95 = .ok (.aload_n 0, 1) := by decide +kernel
theorem dX11_goes_96 : decode cX11_goes 96 = .ok (.getfield 70, 3) := by decide +kernel
theorem dX11_goes_99 : decode cX11_goes 99 = .ok (.iload_n 3, 1) := by decide +kernel
theorem dX11_goes_100 : decode cX11_goes 100 = .ok (.aaload, 1) := by decide +kernel
theorem dX11_goes_101 : decode cX11_goes 101 = .ok (.invokevirtual 318, 3) := by decide +kernel
theorem dX11_goes_104 : decode cX11_goes 104 = .ok (.istore 4, 2) := by decide +kernel
theorem dX11_goes_106 : decode cX11_goes 106 = .ok (.aload_n 0, 1) := by decide +kernel
theorem dX11_goes_107 : decode cX11_goes 107 = .ok (.dup, 1) := by decide +kernel
theorem dX11_goes_108 : decode cX11_goes 108 = .ok (.getfield 322, 3) := by decide +kernel
theorem dX11_goes_111 : decode cX11_goes 111 = .ok (.iload 4, 2) := by decide +kernel
theorem dX11_goes_113 : decode cX11_goes 113 = .ok (.ifCond .eq 7, 3) := by decide +kernel
theorem dX11_goes_116 : decode cX11_goes 116 = .ok (.iconst 1, 1) := by decide +kernel
theorem dX11_goes_117 : decode cX11_goes 117 = .ok (.goto 4, 3) := by decide +kernel
theorem dX11_goes_120 : decode cX11_goes 120 = .ok (.iconst 0, 1) := by decide +kernel
theorem dX11_goes_121 : decode cX11_goes 121 = .ok (.iadd, 1) := by decide +kernel
theorem dX11_goes_122 : decode cX11_goes 122 = .ok (.putfield 322, 3) := by decide +kernel
theorem dX11_goes_125 : decode cX11_goes 125 = .ok (.aload_n 0, 1) := by decide +kernel
theorem dX11_goes_126 : decode cX11_goes 126 = .ok (.dup, 1) := by decide +kernel
theorem dX11_goes_127 : decode cX11_goes 127 = .ok (.getfield 209, 3) := by decide +kernel
theorem dX11_goes_130 : decode cX11_goes 130 = .ok (.iload 4, 2) := by decide +kernel
theorem dX11_goes_132 : decode cX11_goes 132 = .ok (.ifCond .eq 7, 3) := by decide +kernel
theorem dX11_goes_135 : decode cX11_goes 135 = .ok (.iconst 0, 1) := by decide +kernel
theorem dX11_goes_136 : decode cX11_goes 136 = .ok (.goto 4, 3) := by decide +kernel
theorem dX11_goes_139 : decode cX11_goes 139 = .ok (.iconst 1, 1) := by decide +kernel
theorem dX11_goes_140 : decode cX11_goes 140 = .ok (.iadd, 1) := by decide +kernel
theorem dX11_goes_141 : decode cX11_goes 141 = .ok (.putfield 209, 3) := by decide +kernel
theorem dX11_goes_144 : decode cX11_goes 144 = .ok (.aload_n 0, 1) := by decide +kernel
theorem dX11_goes_145 : decode cX11_goes 145 = .ok (.getfield 70, 3) := by decide +kernel
theorem dX11_goes_148 : decode cX11_goes 148 = .ok (.iload_n 3, 1) := by decide +kernel
theorem dX11_goes_149 : decode cX11_goes 149 = .ok (.aaload, 1) := by decide +kernel
theorem dX11_goes_150 : decode cX11_goes 150 = .ok (.iconst 3, 1) := by decide +kernel
theorem dX11_goes_151 : decode cX11_goes 151 = .ok (.iaload, 1) := by decide +kernel
theorem dX11_goes_152 : decode cX11_goes 152 = .ok (.istore_n 3, 1) := by decide +kernel
theorem dX11_goes_153 : decode cX11_goes 153 = .ok (.goto (-151), 3) := by decide +kernel
theorem dX11_goes_156 : decode cX11_goes 156 = .ok (.return_, 1) := by decide +kernel
theorem dX11_work_0 : decode cX11_work 0 = .ok (.aload_n 0, 1) := by decide +kernel
theorem dX11_work_1 : decode cX11_work 1 = .ok (.iconst 0, 1) := by decide +kernel
theorem dX11_work_2 : decode cX11_work 2 = .ok (.putfield 103, 3) := by decide +kernel
theorem dX11_work_5 : decode cX11_work 5 = .ok (.aload_n 0, 1) := by decide +kernel
theorem dX11_work_6 : decode cX11_work 6 = .ok (.iload_n 1, 1) := by decide +kernel
theorem dX11_work_7 : decode cX11_work 7 = .ok (.iconst 0, 1) := by decide +kernel
theorem dX11_work_8 : decode cX11_work 8 = .ok (.aload_n 0, 1) := by decide +kernel
theorem dX11_work_9 : decode cX11_work 9 = .ok (.getfield 106, 3) := by decide +kernel
theorem dX11_work_12 : decode cX11_work 12 = .ok (.invokestatic 137, 3) := by decide +kernel
theorem dX11_work_15 : decode cX11_work 15 = .ok (.ifCond .eq 10, 3) := by decide +kernel
theorem dX11_work_18 : decode cX11_work 18 = .ok (.iload_n 1, 1) := by decide +kernel
theorem dX11_work_19 : decode cX11_work 19 = .ok (.sipush 150, 3) := by decide +kernel
theorem dX11_work_22 : decode cX11_work 22 = .ok (.if_icmp .le 7, 3) := by decide +kernel
theorem dX11_work_25 : decode cX11_work 25 = .ok (.iconst 1, 1) := by decide +kernel
theorem dX11_work_26 : decode cX11_work 26 = .ok (.goto 4, 3) := by decide +kernel
theorem dX11_work_29 : decode cX11_work 29 = .ok (.iconst 0, 1) := by decide +kernel
theorem dX11_work_30 : decode cX11_work 30 = .ok (.iconst 1, 1) := by decide +kernel
theorem dX11_work_31 : decode cX11_work 31 = .ok (.iconst 1, 1) := by decide +kernel
theorem dX11_work_32 : decode cX11_work 32 = .ok (.invokevirtual 183, 3) := by decide +kernel
theorem dX11_work_35 : decode cX11_work 35 = .ok (.ifCond .eq 5, 3) := by decide +kernel
theorem dX11_work_38 : decode cX11_work 38 = .ok (.iconst 0, 1) := by decide +kernel
theorem dX11_work_39 : decode cX11_work 39 = .ok (.ireturn, 1) := by decide +kernel
theorem dX11_work_40 : decode cX11_work 40 = .ok (.aload_n 0, 1) := by decide +kernel
theorem dX11_work_41 : decode cX11_work 41 = .ok (.getfield 206, 3) := by decide +kernel
theorem dX11_work_44 : decode cX11_work 44 = .ok (.bipush 16, 2) := by decide +kernel
theorem dX11_work_46 : decode cX11_work 46 = .ok (.if_icmp .ne 16, 3) := by decide +kernel
theorem dX11_work_49 : decode cX11_work 49 = .ok (.aload_n 0, 1) := by decide +kernel
theorem dX11_work_50 : decode cX11_work 50 = .ok (.iconst 0, 1) := by decide +kernel
theorem dX11_work_51 : decode cX11_work 51 = .ok (.putfield 106, 3) := by decide +kernel
theorem dX11_work_54 : decode cX11_work 54 = .ok (.aload_n 0, 1) := by decide +kernel
theorem dX11_work_55 : decode cX11_work 55 = .ok (.iconst (-1), 1) := by decide +kernel
theorem dX11_work_56 : decode cX11_work 56 = .ok (.putfield 9, 3) := by decide +kernel
theorem dX11_work_59 : decode cX11_work 59 = .ok (.bipush (-20), 2) := by decide +kernel
theorem dX11_work_61 : decode cX11_work 61 = .ok (.ireturn, 1) := by decide +kernel
theorem dX11_work_62 : decode cX11_work 62 = .ok (.aload_n 0, 1) := by decide +kernel
theorem dX11_work_63 : decode cX11_work 63 = .ok (.iload_n 1, 1) := by decide +kernel
theorem dX11_work_64 : decode cX11_work 64 = .ok (.invokevirtual 187, 3) := by decide +kernel
theorem dX11_work_67 : decode cX11_work 67 = .ok (.aload_n 0, 1) := by decide +kernel
theorem dX11_work_68 : decode cX11_work 68 = .ok (.iconst 0, 1) := by decide +kernel
theorem dX11_work_69 : decode cX11_work 69 = .ok (.putfield 257, 3) := by decide +kernel
theorem dX11_work_72 : decode cX11_work 72 = .ok (.aload_n 0, 1) := by decide +kernel
theorem dX11_work_73 : decode cX11_work 73 = .ok (.getfield 119, 3) := by decide +kernel
theorem dX11_work_76 : decode cX11_work 76 = .ok (.ifCond .ne 25, 3) := by decide +kernel
theorem dX11_work_79 : decode cX11_work 79 = .ok (.aload_n 0, 1) := by decide +kernel
theorem dX11_work_80 : decode cX11_work 80 = .ok (.getfield 112, 3) := by decide +kernel
theorem dX11_work_83 : decode cX11_work 83 = .ok (.aload_n 0, 1) := by decide +kernel
theorem dX11_work_84 : decode cX11_work 84 = .ok (.getfield 109, 3) := by decide +kernel
theorem dX11_work_87 : decode cX11_work 87 = .ok (.if_icmp .ge 14, 3) := by decide +kernel
theorem dX11_work_90 : decode cX11_work 90 = .ok (.aload_n 0, 1) := by decide +kernel
theorem dX11_work_91 : decode cX11_work 91 = .ok (.invokevirtual 260, 3) := by decide +kernel
theorem dX11_work_94 : decode cX11_work 94 = .ok (.aload_n 0, 1) := by decide +kernel
theorem dX11_work_95 : decode cX11_work 95 = .ok (.invokevirtual 125, 3) := by decide +kernel
theorem dX11_work_98 : decode cX11_work 98 = .ok (.goto (-26), 3) := by decide +kernel
theorem dX11_work_101 : decode cX11_work 101 = .ok (.aload_n 0, 1) := by decide +kernel
theorem dX11_work_102 : decode cX11_work 102 = .ok (.getfield 119, 3) := by decide +kernel
theorem dX11_work_105 : decode cX11_work 105 = .ok (.ifCond .eq 8, 3) := by decide +kernel
theorem dX11_work_108 : decode cX11_work 108 = .ok (.aload_n 0, 1) := by decide +kernel
theorem dX11_work_109 : decode cX11_work 109 = .ok (.invokevirtual 193, 3) := by decide +kernel
theorem dX11_work_112 : decode cX11_work 112 = .ok (.ireturn, 1) := by decide +kernel
theorem dX11_work_113 : decode cX11_work 113 = .ok (.aload_n 0, 1) := by decide +kernel
theorem dX11_work_114 : decode cX11_work 114 = .ok (.iconst (-1), 1) := by decide +kernel
theorem dX11_work_115 : decode cX11_work 115 = .ok (.putfield 9, 3) := by decide +kernel
theorem dX11_work_118 : decode cX11_work 118 = .ok (.aload_n 0, 1) := by decide +kernel
theorem dX11_work_119 : decode cX11_work 119 = .ok (.getfield 73, 3) := by decide +kernel
theorem dX11_work_122 : decode cX11_work 122 = .ok (.aload_n 0, 1) := by decide +kernel
theorem dX11_work_123 : decode cX11_work 123 = .ok (.getfield 79, 3) := by decide +kernel
theorem dX11_work_126 : decode cX11_work 126 = .ok (.aload_n 0, 1) := by decide +kernel
theorem dX11_work_127 : decode cX11_work 127 = .ok (.getfield 206, 3) := by decide +kernel
theorem dX11_work_130 : decode cX11_work 130 = .ok (.aaload, 1) := by decide +kernel
theorem dX11_work_131 : decode cX11_work 131 = .ok (.invokestatic 325, 3) := by decide +kernel
theorem dX11_work_134 : decode cX11_work 134 = .ok (.aload_n 0, 1) := by decide +kernel
theorem dX11_work_135 : decode cX11_work 135 = .ok (.dup, 1) := by decide +kernel
theorem dX11_work_136 : decode cX11_work 136 = .ok (.getfield 206, 3) := by decide +kernel
theorem dX11_work_139 : decode cX11_work 139 = .ok (.iconst 1, 1) := by decide +kernel
theorem dX11_work_140 : decode cX11_work 140 = .ok (.iadd, 1) := by decide +kernel
theorem dX11_work_141 : decode cX11_work 141 = .ok (.putfield 206, 3) := by decide +kernel
theorem dX11_work_144 : decode cX11_work 144 = .ok (.aload_n 0, 1) := by decide +kernel
theorem dX11_work_145 : decode cX11_work 145 = .ok (.iconst 0, 1) := by decide +kernel
theorem dX11_work_146 : decode cX11_work 146 = .ok (.putfield 312, 3) := by decide +kernel
theorem dX11_work_149 : decode cX11_work 149 = .ok (.aload_n 0, 1) := by decide +kernel
theorem dX11_work_150 : decode cX11_work 150 = .ok (.iconst 0, 1) := by decide +kernel
theorem dX11_work_151 : decode cX11_work 151 = .ok (.putfield 322, 3) := by decide +kernel
theorem dX11_work_154 : decode cX11_work 154 = .ok (.aload_n 0, 1) := by decide +kernel
theorem dX11_work_155 : decode cX11_work 155 = .ok (.iconst 0, 1) := by decide +kernel
theorem dX11_work_156 : decode cX11_work 156 = .ok (.putfield 209, 3) := by decide +kernel
theorem dX11_work_159 : decode cX11_work 159 = .ok (.aload_n 0, 1) := by decide +kernel
theorem dX11_work_160 : decode cX11_work 160 = .ok (.iconst 0, 1) := by decide +kernel
theorem dX11_work_161 : decode cX11_work 161 = .ok (.aload_n 0, 1) := by decide +kernel
theorem dX11_work_162 : decode cX11_work 162 = .ok (.getfield 257, 3) := by decide +kernel
theorem dX11_work_165 : decode cX11_work 165 = .ok (.invokevirtual 315, 3) := by decide +kernel
theorem dX11_work_168 : decode cX11_work 168 = .ok (.aload_n 0, 1) := by decide +kernel
theorem dX11_work_169 : decode cX11_work 169 = .ok (.getfield 322, 3) := by decide +kernel
theorem dX11_work_172 : decode cX11_work 172 = .ok (.ireturn, 1) := by decide +kernel
theorem dX11_undo_0 : decode cX11_undo 0 = .ok (.aload_n 0, 1) := by decide +kernel
theorem dX11_undo_1 : decode cX11_undo 1 = .ok (.iconst 0, 1) := by decide +kernel
theorem dX11_undo_2 : decode cX11_undo 2 = .ok (.putfield 103, 3) := by decide +kernel
theorem dX11_undo_5 : decode cX11_undo 5 = .ok (.aload_n 0, 1) := by decide +kernel
theorem dX11_undo_6 : decode cX11_undo 6 = .ok (.getfield 206, 3) := by decide +kernel
theorem dX11_undo_9 : decode cX11_undo 9 = .ok (.ifCond .ne 5, 3) := by decide +kernel
theorem dX11_undo_12 : decode cX11_undo 12 = .ok (.iconst (-1), 1) := by decide +kernel
theorem dX11_undo_13 : decode cX11_undo 13 = .ok (.ireturn, 1) := by decide +kernel
theorem dX11_undo_14 : decode cX11_undo 14 = .ok (.aload_n 0, 1) := by decide +kernel
theorem dX11_undo_15 : decode cX11_undo 15 = .ok (.dup, 1) := by decide +kernel
theorem dX11_undo_16 : decode cX11_undo 16 = .ok (.getfield 206, 3) := by decide +kernel
theorem dX11_undo_19 : decode cX11_undo 19 = .ok (.iconst 1, 1) := by decide +kernel
theorem dX11_undo_20 : decode cX11_undo 20 = .ok (.isub, 1) := by decide +kernel
theorem dX11_undo_21 : decode cX11_undo 21 = .ok (.putfield 206, 3) := by decide +kernel
theorem dX11_undo_24 : decode cX11_undo 24 = .ok (.aload_n 0, 1) := by decide +kernel
theorem dX11_undo_25 : decode cX11_undo 25 = .ok (.getfield 79, 3) := by decide +kernel
theorem dX11_undo_28 : decode cX11_undo 28 = .ok (.aload_n 0, 1) := by decide +kernel
theorem dX11_undo_29 : decode cX11_undo 29 = .ok (.getfield 206, 3) := by decide +kernel
theorem dX11_undo_32 : decode cX11_undo 32 = .ok (.aaload, 1) := by decide +kernel
theorem dX11_undo_33 : decode cX11_undo 33 = .ok (.aload_n 0, 1) := by decide +kernel
theorem dX11_undo_34 : decode cX11_undo 34 = .ok (.getfield 73, 3) := by decide +kernel
theorem dX11_undo_37 : decode cX11_undo 37 = .ok (.invokestatic 325, 3) := by decide +kernel
theorem dX11_undo_40 : decode cX11_undo 40 = .ok (.aload_n 0, 1) := by decide +kernel
theorem dX11_undo_41 : decode cX11_undo 41 = .ok (.iconst 0, 1) := by decide +kernel
theorem dX11_undo_42 : decode cX11_undo 42 = .ok (.putfield 209, 3) := by decide +kernel
theorem dX11_undo_45 : decode cX11_undo 45 = .ok (.aload_n 0, 1) := by decide +kernel
theorem dX11_undo_46 : decode cX11_undo 46 = .ok (.getfield 206, 3) := by decide +kernel
theorem dX11_undo_49 : decode cX11_undo 49 = .ok (.ireturn, 1) := by decide +kernel
theorem dX11_powersIn_0 : decode cX11_powersIn 0 = .ok (.iconst 0, 1) := by decide +kernel
theorem dX11_powersIn_1 : decode cX11_powersIn 1 = .ok (.istore_n 2, 1) := by decide +kernel
theorem dX11_powersIn_2 : decode cX11_powersIn 2 = .ok (.iconst 0, 1) := by decide +kernel
theorem dX11_powersIn_3 : decode cX11_powersIn 3 = .ok (.istore_n 3, 1) := by decide +kernel
theorem dX11_powersIn_4 : decode cX11_powersIn 4 = .ok (.iload_n 3, 1) := by decide +kernel
theorem dX11_powersIn_5 : decode cX11_powersIn 5 = .ok (.aload_n 0, 1) := by decide +kernel
theorem dX11_powersIn_6 : decode cX11_powersIn 6 = .ok (.getfield 23, 3) := by decide +kernel
theorem dX11_powersIn_9 : decode cX11_powersIn 9 = .ok (.iconst 1, 1) := by decide +kernel
theorem dX11_powersIn_10 : decode cX11_powersIn 10 = .ok (.iaload, 1) := by decide +kernel
theorem dX11_powersIn_11 : decode cX11_powersIn 11 = .ok (.if_icmp .ge 18, 3) := by decide +kernel
theorem dX11_powersIn_14 : decode cX11_powersIn 14 = .ok (.iload_n 2, 1) := by decide +kernel
theorem dX11_powersIn_15 : decode cX11_powersIn 15 = .ok (.aload_n 0, 1) := by decide +kernel
theorem dX11_powersIn_16 : decode cX11_powersIn 16 = .ok (.aload_n 1, 1) := by decide +kernel
theorem dX11_powersIn_17 : decode cX11_powersIn 17 = .ok (.iload_n 3, 1) := by decide +kernel
theorem dX11_powersIn_18 : decode cX11_powersIn 18 = .ok (.invokevirtual 289, 3) := by decide +kernel
theorem dX11_powersIn_21 : decode cX11_powersIn 21 = .ok (.iadd, 1) := by decide +kernel
theorem dX11_powersIn_22 : decode cX11_powersIn 22 = .ok (.istore_n 2, 1) := by decide +kernel
theorem dX11_powersIn_23 : decode cX11_powersIn 23 = .ok (.iinc 3 1, 3) := by decide +kernel
theorem dX11_powersIn_26 : decode cX11_powersIn 26 = .ok (.goto (-22), 3) := by decide +kernel
theorem dX11_powersIn_29 : decode cX11_powersIn 29 = .ok (.iload_n 2, 1) := by decide +kernel
theorem dX11_powersIn_30 : decode cX11_powersIn 30 = .ok (.ireturn, 1) := by decide +kernel
theorem dX11_curedIn_0 : decode cX11_curedIn 0 = .ok (.iconst 0, 1) := by decide +kernel
theorem dX11_curedIn_1 : decode cX11_curedIn 1 = .ok (.istore_n 2, 1) := by decide +kernel
theorem dX11_curedIn_2 : decode cX11_curedIn 2 = .ok (.iconst 0, 1) := by decide +kernel
theorem dX11_curedIn_3 : decode cX11_curedIn 3 = .ok (.istore_n 3, 1) := by decide +kernel
theorem dX11_curedIn_4 : decode cX11_curedIn 4 = .ok (.iload_n 3, 1) := by decide +kernel
theorem dX11_curedIn_5 : decode cX11_curedIn 5 = .ok (.aload_n 0, 1) := by decide +kernel
theorem dX11_curedIn_6 : decode cX11_curedIn 6 = .ok (.getfield 23, 3) := by decide +kernel
theorem dX11_curedIn_9 : decode cX11_curedIn 9 = .ok (.iconst 2, 1) := by decide +kernel
theorem dX11_curedIn_10 : decode cX11_curedIn 10 = .ok (.iaload, 1) := by decide +kernel
theorem dX11_curedIn_11 : decode cX11_curedIn 11 = .ok (.if_icmp .ge 29, 3) := by decide +kernel
theorem dX11_curedIn_14 : decode cX11_curedIn 14 = .ok (.iload_n 2, 1) := by decide +kernel
theorem dX11_curedIn_15 : decode cX11_curedIn 15 = .ok (.aload_n 1, 1) := by decide +kernel
theorem dX11_curedIn_16 : decode cX11_curedIn 16 = .ok (.bipush 36, 2) := by decide +kernel
theorem dX11_curedIn_18 : decode cX11_curedIn 18 = .ok (.iload_n 3, 1) := by decide +kernel
theorem dX11_curedIn_19 : decode cX11_curedIn 19 = .ok (.iadd, 1) := by decide +kernel
theorem dX11_curedIn_20 : decode cX11_curedIn 20 = .ok (.iaload, 1) := by decide +kernel
theorem dX11_curedIn_21 : decode cX11_curedIn 21 = .ok (.iconst (-1), 1) := by decide +kernel
theorem dX11_curedIn_22 : decode cX11_curedIn 22 = .ok (.if_icmp .ne 7, 3) := by decide +kernel
theorem dX11_curedIn_25 : decode cX11_curedIn 25 = .ok (.iconst 0, 1) := by decide +kernel
theorem dX11_curedIn_26 : decode cX11_curedIn 26 = .ok (.goto 6, 3) := by decide +kernel
theorem dX11_curedIn_29 : decode cX11_curedIn 29 = .ok (.iconst 1, 1) := by decide +kernel
theorem dX11_curedIn_30 : decode cX11_curedIn 30 = .ok (.iload_n 3, 1) := by decide +kernel
theorem dX11_curedIn_31 : decode cX11_curedIn 31 = .ok (.ishl, 1) := by decide +kernel
theorem dX11_curedIn_32 : decode cX11_curedIn 32 = .ok (.ior, 1) := by decide +kernel
theorem dX11_curedIn_33 : decode cX11_curedIn 33 = .ok (.istore_n 2, 1) := by decide +kernel
theorem dX11_curedIn_34 : decode cX11_curedIn 34 = .ok (.iinc 3 1, 3) := by decide +kernel
theorem dX11_curedIn_37 : decode cX11_curedIn 37 = .ok (.goto (-33), 3) := by decide +kernel
theorem dX11_curedIn_40 : decode cX11_curedIn 40 = .ok (.iload_n 2, 1) := by decide +kernel
theorem dX11_curedIn_41 : decode cX11_curedIn 41 = .ok (.ireturn, 1) := by decide +kernel
theorem dX11_told_0 : decode cX11_told 0 = .ok (.aload_n 0, 1) := by decide +kernel
theorem dX11_told_1 : decode cX11_told 1 = .ok (.iconst 0, 1) := by decide +kernel
theorem dX11_told_2 : decode cX11_told 2 = .ok (.putfield 103, 3) := by decide +kernel
theorem dX11_told_5 : decode cX11_told 5 = .ok (.aload_n 0, 1) := by decide +kernel
theorem dX11_told_6 : decode cX11_told 6 = .ok (.iload_n 1, 1) := by decide +kernel
theorem dX11_told_7 : decode cX11_told 7 = .ok (.iconst 0, 1) := by decide +kernel
theorem dX11_told_8 : decode cX11_told 8 = .ok (.bipush 10, 2) := by decide +kernel
theorem dX11_told_10 : decode cX11_told 10 = .ok (.invokestatic 137, 3) := by decide +kernel
theorem dX11_told_13 : decode cX11_told 13 = .ok (.ifCond .ne 7, 3) := by decide +kernel
theorem dX11_told_16 : decode cX11_told 16 = .ok (.iconst 1, 1) := by decide +kernel
theorem dX11_told_17 : decode cX11_told 17 = .ok (.goto 4, 3) := by decide +kernel
theorem dX11_told_20 : decode cX11_told 20 = .ok (.iconst 0, 1) := by decide +kernel
theorem dX11_told_21 : decode cX11_told 21 = .ok (.iconst 1, 1) := by decide +kernel
theorem dX11_told_22 : decode cX11_told 22 = .ok (.iconst 1, 1) := by decide +kernel
theorem dX11_told_23 : decode cX11_told 23 = .ok (.invokevirtual 183, 3) := by decide +kernel
theorem dX11_told_26 : decode cX11_told 26 = .ok (.ifCond .eq 5, 3) := by decide +kernel
theorem dX11_told_29 : decode cX11_told 29 = .ok (.iconst 0, 1) := by decide +kernel
theorem dX11_told_30 : decode cX11_told 30 = .ok (.ireturn, 1) := by decide +kernel
theorem dX11_told_31 : decode cX11_told 31 = .ok (.iconst 0, 1) := by decide +kernel
theorem dX11_told_32 : decode cX11_told 32 = .ok (.istore_n 2, 1) := by decide +kernel
theorem dX11_told_33 : decode cX11_told 33 = .ok (.iconst 0, 1) := by decide +kernel
theorem dX11_told_34 : decode cX11_told 34 = .ok (.istore_n 3, 1) := by decide +kernel
theorem dX11_told_35 : decode cX11_told 35 = .ok (.iconst 0, 1) := by decide +kernel
theorem dX11_told_36 : decode cX11_told 36 = .ok (.istore 4, 2) := by decide +kernel
theorem dX11_told_38 : decode cX11_told 38 = .ok (.iconst 0, 1) := by decide +kernel
theorem dX11_told_39 : decode cX11_told 39 = .ok (.istore 5, 2) := by decide +kernel
theorem dX11_told_41 : decode cX11_told 41 = .ok (.iload 5, 2) := by decide +kernel
theorem dX11_told_43 : decode cX11_told 43 = .ok (.aload_n 0, 1) := by decide +kernel
theorem dX11_told_44 : decode cX11_told 44 = .ok (.getfield 23, 3) := by decide +kernel
theorem dX11_told_47 : decode cX11_told 47 = .ok (.iconst 0, 1) := by decide +kernel
theorem dX11_told_48 : decode cX11_told 48 = .ok (.iaload, 1) := by decide +kernel
theorem dX11_told_49 : decode cX11_told 49 = .ok (.if_icmp .ge 32, 3) := by decide +kernel
theorem dX11_told_52 : decode cX11_told 52 = .ok (.iload_n 2, 1) := by decide +kernel
theorem dX11_told_53 : decode cX11_told 53 = .ok (.aload_n 0, 1) := by decide +kernel
theorem dX11_told_54 : decode cX11_told 54 = .ok (.getfield 73, 3) := by decide +kernel
theorem dX11_told_57 : decode cX11_told 57 = .ok (.iconst 0, 1) := by decide +kernel
theorem dX11_told_58 : decode cX11_told 58 = .ok (.iload 5, 2) := by decide +kernel
theorem dX11_told_60 : decode cX11_told 60 = .ok (.iadd, 1) := by decide +kernel
theorem dX11_told_61 : decode cX11_told 61 = .ok (.iaload, 1) := by decide +kernel
theorem dX11_told_62 : decode cX11_told 62 = .ok (.ifCond .ne 10, 3) := by decide +kernel
theorem dX11_told_65 : decode cX11_told 65 = .ok (.iconst 1, 1) := by decide +kernel
theorem dX11_told_66 : decode cX11_told 66 = .ok (.iload 5, 2) := by decide +kernel
theorem dX11_told_68 : decode cX11_told 68 = .ok (.ishl, 1) := by decide +kernel
theorem dX11_told_69 : decode cX11_told 69 = .ok (.goto 4, 3) := by decide +kernel
theorem dX11_told_72 : decode cX11_told 72 = .ok (.iconst 0, 1) := by decide +kernel
theorem dX11_told_73 : decode cX11_told 73 = .ok (.ior, 1) := by decide +kernel
theorem dX11_told_74 : decode cX11_told 74 = .ok (.istore_n 2, 1) := by decide +kernel
theorem dX11_told_75 : decode cX11_told 75 = .ok (.iinc 5 1, 3) := by decide +kernel
theorem dX11_told_78 : decode cX11_told 78 = .ok (.goto (-37), 3) := by decide +kernel
theorem dX11_told_81 : decode cX11_told 81 = .ok (.iconst 0, 1) := by decide +kernel
theorem dX11_told_82 : decode cX11_told 82 = .ok (.istore 5, 2) := by decide +kernel
theorem dX11_told_84 : decode cX11_told 84 = .ok (.iload 5, 2) := by decide +kernel
theorem dX11_told_86 : decode cX11_told 86 = .ok (.aload_n 0, 1) := by decide +kernel
theorem dX11_told_87 : decode cX11_told 87 = .ok (.getfield 23, 3) := by decide +kernel
theorem dX11_told_90 : decode cX11_told 90 = .ok (.iconst 1, 1) := by decide +kernel
theorem dX11_told_91 : decode cX11_told 91 = .ok (.iaload, 1) := by decide +kernel
theorem dX11_told_92 : decode cX11_told 92 = .ok (.if_icmp .ge 59, 3) := by decide +kernel
theorem dX11_told_95 : decode cX11_told 95 = .ok (.iload_n 3, 1) := by decide +kernel
theorem dX11_told_96 : decode cX11_told 96 = .ok (.aload_n 0, 1) := by decide +kernel
theorem dX11_told_97 : decode cX11_told 97 = .ok (.getfield 73, 3) := by decide +kernel
theorem dX11_told_100 : decode cX11_told 100 = .ok (.iload 5, 2) := by decide +kernel
theorem dX11_told_102 : decode cX11_told 102 = .ok (.invokestatic 267, 3) := by decide +kernel
theorem dX11_told_105 : decode cX11_told 105 = .ok (.ifCond .eq 10, 3) := by decide +kernel
theorem dX11_told_108 : decode cX11_told 108 = .ok (.iconst 1, 1) := by decide +kernel
theorem dX11_told_109 : decode cX11_told 109 = .ok (.iload 5, 2) := by decide +kernel
theorem dX11_told_111 : decode cX11_told 111 = .ok (.ishl, 1) := by decide +kernel
theorem dX11_told_112 : decode cX11_told 112 = .ok (.goto 4, 3) := by decide +kernel
theorem dX11_told_115 : decode cX11_told 115 = .ok (.iconst 0, 1) := by decide +kernel
theorem dX11_told_116 : decode cX11_told 116 = .ok (.ior, 1) := by decide +kernel
theorem dX11_told_117 : decode cX11_told 117 = .ok (.istore_n 3, 1) := by decide +kernel
theorem dX11_told_118 : decode cX11_told 118 = .ok (.iload 4, 2) := by decide +kernel
theorem dX11_told_120 : decode cX11_told 120 = .ok (.aload_n 0, 1) := by decide +kernel
theorem dX11_told_121 : decode cX11_told 121 = .ok (.getfield 73, 3) := by decide +kernel
theorem dX11_told_124 : decode cX11_told 124 = .ok (.bipush 26, 2) := by decide +kernel
theorem dX11_told_126 : decode cX11_told 126 = .ok (.iload 5, 2) := by decide +kernel
theorem dX11_told_128 : decode cX11_told 128 = .ok (.iadd, 1) := by decide +kernel
theorem dX11_told_129 : decode cX11_told 129 = .ok (.iaload, 1) := by decide +kernel
theorem dX11_told_130 : decode cX11_told 130 = .ok (.iconst 1, 1) := by decide +kernel
theorem dX11_told_131 : decode cX11_told 131 = .ok (.if_icmp .ne 10, 3) := by decide +kernel
theorem dX11_told_134 : decode cX11_told 134 = .ok (.iconst 1, 1) := by decide +kernel
theorem dX11_told_135 : decode cX11_told 135 = .ok (.iload 5, 2) := by decide +kernel
theorem dX11_told_137 : decode cX11_told 137 = .ok (.ishl, 1) := by decide +kernel
theorem dX11_told_138 : decode cX11_told 138 = .ok (.goto 4, 3) := by decide +kernel
theorem dX11_told_141 : decode cX11_told 141 = .ok (.iconst 0, 1) := by decide +kernel
theorem dX11_told_142 : decode cX11_told 142 = .ok (.ior, 1) := by decide +kernel
theorem dX11_told_143 : decode cX11_told 143 = .ok (.istore 4, 2) := by decide +kernel
theorem dX11_told_145 : decode cX11_told 145 = .ok (.iinc 5 1, 3) := by decide +kernel
theorem dX11_told_148 : decode cX11_told 148 = .ok (.goto (-64), 3) := by decide +kernel
theorem dX11_told_151 : decode cX11_told 151 = .ok (.iload_n 1, 1) := by decide +kernel
theorem dX11_told_152 : decode cX11_told 152 = .ok (.tableswitch 97 0 9 #[56, 56, 56, 63, 71, 73, 75, 84, 87, 92], 56) := by decide +kernel
theorem dX11_told_208 : decode cX11_told 208 = .ok (.aload_n 0, 1) := by decide +kernel
theorem dX11_told_209 : decode cX11_told 209 = .ok (.getfield 23, 3) := by decide +kernel
theorem dX11_told_212 : decode cX11_told 212 = .ok (.iload_n 1, 1) := by decide +kernel
theorem dX11_told_213 : decode cX11_told 213 = .ok (.iaload, 1) := by decide +kernel
theorem dX11_told_214 : decode cX11_told 214 = .ok (.ireturn, 1) := by decide +kernel
theorem dX11_told_215 : decode cX11_told 215 = .ok (.aload_n 0, 1) := by decide +kernel
theorem dX11_told_216 : decode cX11_told 216 = .ok (.getfield 73, 3) := by decide +kernel
theorem dX11_told_219 : decode cX11_told 219 = .ok (.bipush 44, 2) := by decide +kernel
theorem dX11_told_221 : decode cX11_told 221 = .ok (.iaload, 1) := by decide +kernel
theorem dX11_told_222 : decode cX11_told 222 = .ok (.ireturn, 1) := by decide +kernel
theorem dX11_told_223 : decode cX11_told 223 = .ok (.iload_n 2, 1) := by decide +kernel
theorem dX11_told_224 : decode cX11_told 224 = .ok (.ireturn, 1) := by decide +kernel
theorem dX11_told_225 : decode cX11_told 225 = .ok (.iload_n 3, 1) := by decide +kernel
theorem dX11_told_226 : decode cX11_told 226 = .ok (.ireturn, 1) := by decide +kernel
theorem dX11_told_227 : decode cX11_told 227 = .ok (.aload_n 0, 1) := by decide +kernel
theorem dX11_told_228 : decode cX11_told 228 = .ok (.aload_n 0, 1) := by decide +kernel
theorem dX11_told_229 : decode cX11_told 229 = .ok (.getfield 73, 3) := by decide +kernel
theorem dX11_told_232 : decode cX11_told 232 = .ok (.invokevirtual 329, 3) := by decide +kernel
theorem dX11_told_235 : decode cX11_told 235 = .ok (.ireturn, 1) := by decide +kernel
theorem dX11_told_236 : decode cX11_told 236 = .ok (.iload 4, 2) := by decide +kernel
theorem dX11_told_238 : decode cX11_told 238 = .ok (.ireturn, 1) := by decide +kernel
theorem dX11_told_239 : decode cX11_told 239 = .ok (.aload_n 0, 1) := by decide +kernel
theorem dX11_told_240 : decode cX11_told 240 = .ok (.getfield 203, 3) := by decide +kernel
theorem dX11_told_243 : decode cX11_told 243 = .ok (.ireturn, 1) := by decide +kernel
theorem dX11_told_244 : decode cX11_told 244 = .ok (.aload_n 0, 1) := by decide +kernel
theorem dX11_told_245 : decode cX11_told 245 = .ok (.getfield 209, 3) := by decide +kernel
theorem dX11_told_248 : decode cX11_told 248 = .ok (.ireturn, 1) := by decide +kernel
theorem dX11_told_249 : decode cX11_told 249 = .ok (.aload_n 0, 1) := by decide +kernel
theorem dX11_told_250 : decode cX11_told 250 = .ok (.aload_n 0, 1) := by decide +kernel
theorem dX11_told_251 : decode cX11_told 251 = .ok (.getfield 73, 3) := by decide +kernel
theorem dX11_told_254 : decode cX11_told 254 = .ok (.invokevirtual 333, 3) := by decide +kernel
theorem dX11_told_257 : decode cX11_told 257 = .ok (.ireturn, 1) := by decide +kernel
theorem dX11_isSister_0 : decode cX11_isSister 0 = .ok (.iload_n 1, 1) := by decide +kernel
theorem dX11_isSister_1 : decode cX11_isSister 1 = .ok (.iconst 0, 1) := by decide +kernel
theorem dX11_isSister_2 : decode cX11_isSister 2 = .ok (.aload_n 0, 1) := by decide +kernel
theorem dX11_isSister_3 : decode cX11_isSister 3 = .ok (.getfield 23, 3) := by decide +kernel
theorem dX11_isSister_6 : decode cX11_isSister 6 = .ok (.iconst 0, 1) := by decide +kernel
theorem dX11_isSister_7 : decode cX11_isSister 7 = .ok (.iaload, 1) := by decide +kernel
theorem dX11_isSister_8 : decode cX11_isSister 8 = .ok (.iconst 1, 1) := by decide +kernel
theorem dX11_isSister_9 : decode cX11_isSister 9 = .ok (.isub, 1) := by decide +kernel
theorem dX11_isSister_10 : decode cX11_isSister 10 = .ok (.invokestatic 137, 3) := by decide +kernel
theorem dX11_isSister_13 : decode cX11_isSister 13 = .ok (.ireturn, 1) := by decide +kernel
theorem dX11_isRelic_0 : decode cX11_isRelic 0 = .ok (.iload_n 1, 1) := by decide +kernel
theorem dX11_isRelic_1 : decode cX11_isRelic 1 = .ok (.iconst 0, 1) := by decide +kernel
theorem dX11_isRelic_2 : decode cX11_isRelic 2 = .ok (.aload_n 0, 1) := by decide +kernel
theorem dX11_isRelic_3 : decode cX11_isRelic 3 = .ok (.getfield 23, 3) := by decide +kernel
theorem dX11_isRelic_6 : decode cX11_isRelic 6 = .ok (.iconst 1, 1) := by decide +kernel
theorem dX11_isRelic_7 : decode cX11_isRelic 7 = .ok (.iaload, 1) := by decide +kernel
theorem dX11_isRelic_8 : decode cX11_isRelic 8 = .ok (.iconst 1, 1) := by decide +kernel
theorem dX11_isRelic_9 : decode cX11_isRelic 9 = .ok (.isub, 1) := by decide +kernel
theorem dX11_isRelic_10 : decode cX11_isRelic 10 = .ok (.invokestatic 137, 3) := by decide +kernel
theorem dX11_isRelic_13 : decode cX11_isRelic 13 = .ok (.ireturn, 1) := by decide +kernel
theorem dX11_isPerson_0 : decode cX11_isPerson 0 = .ok (.iload_n 1, 1) := by decide +kernel
theorem dX11_isPerson_1 : decode cX11_isPerson 1 = .ok (.iconst 0, 1) := by decide +kernel
theorem dX11_isPerson_2 : decode cX11_isPerson 2 = .ok (.aload_n 0, 1) := by decide +kernel
theorem dX11_isPerson_3 : decode cX11_isPerson 3 = .ok (.getfield 23, 3) := by decide +kernel
theorem dX11_isPerson_6 : decode cX11_isPerson 6 = .ok (.iconst 2, 1) := by decide +kernel
theorem dX11_isPerson_7 : decode cX11_isPerson 7 = .ok (.iaload, 1) := by decide +kernel
theorem dX11_isPerson_8 : decode cX11_isPerson 8 = .ok (.iconst 1, 1) := by decide +kernel
theorem dX11_isPerson_9 : decode cX11_isPerson 9 = .ok (.isub, 1) := by decide +kernel
theorem dX11_isPerson_10 : decode cX11_isPerson 10 = .ok (.invokestatic 137, 3) := by decide +kernel
theorem dX11_isPerson_13 : decode cX11_isPerson 13 = .ok (.ireturn, 1) := by decide +kernel
theorem dX11_sister_0 : decode cX11_sister 0 = .ok (.aload_n 0, 1) := by decide +kernel
theorem dX11_sister_1 : decode cX11_sister 1 = .ok (.iconst 0, 1) := by decide +kernel
theorem dX11_sister_2 : decode cX11_sister 2 = .ok (.putfield 103, 3) := by decide +kernel
theorem dX11_sister_5 : decode cX11_sister 5 = .ok (.aload_n 0, 1) := by decide +kernel
theorem dX11_sister_6 : decode cX11_sister 6 = .ok (.aload_n 0, 1) := by decide +kernel
theorem dX11_sister_7 : decode cX11_sister 7 = .ok (.iload_n 1, 1) := by decide +kernel
theorem dX11_sister_8 : decode cX11_sister 8 = .ok (.invokevirtual 336, 3) := by decide +kernel
theorem dX11_sister_11 : decode cX11_sister 11 = .ok (.ifCond .ne 7, 3) := by decide +kernel
theorem dX11_sister_14 : decode cX11_sister 14 = .ok (.iconst 1, 1) := by decide +kernel
theorem dX11_sister_15 : decode cX11_sister 15 = .ok (.goto 4, 3) := by decide +kernel
theorem dX11_sister_18 : decode cX11_sister 18 = .ok (.iconst 0, 1) := by decide +kernel
theorem dX11_sister_19 : decode cX11_sister 19 = .ok (.iconst 1, 1) := by decide +kernel
theorem dX11_sister_20 : decode cX11_sister 20 = .ok (.iconst 0, 1) := by decide +kernel
theorem dX11_sister_21 : decode cX11_sister 21 = .ok (.invokevirtual 183, 3) := by decide +kernel
theorem dX11_sister_24 : decode cX11_sister 24 = .ok (.ifCond .ne 26, 3) := by decide +kernel
theorem dX11_sister_27 : decode cX11_sister 27 = .ok (.aload_n 0, 1) := by decide +kernel
theorem dX11_sister_28 : decode cX11_sister 28 = .ok (.iload_n 2, 1) := by decide +kernel
theorem dX11_sister_29 : decode cX11_sister 29 = .ok (.iconst 0, 1) := by decide +kernel
theorem dX11_sister_30 : decode cX11_sister 30 = .ok (.iconst 4, 1) := by decide +kernel
theorem dX11_sister_31 : decode cX11_sister 31 = .ok (.invokestatic 137, 3) := by decide +kernel
theorem dX11_sister_34 : decode cX11_sister 34 = .ok (.ifCond .ne 7, 3) := by decide +kernel
theorem dX11_sister_37 : decode cX11_sister 37 = .ok (.iconst 1, 1) := by decide +kernel
theorem dX11_sister_38 : decode cX11_sister 38 = .ok (.goto 4, 3) := by decide +kernel
theorem dX11_sister_41 : decode cX11_sister 41 = .ok (.iconst 0, 1) := by decide +kernel
theorem dX11_sister_42 : decode cX11_sister 42 = .ok (.iconst 2, 1) := by decide +kernel
theorem dX11_sister_43 : decode cX11_sister 43 = .ok (.iconst 1, 1) := by decide +kernel
theorem dX11_sister_44 : decode cX11_sister 44 = .ok (.invokevirtual 183, 3) := by decide +kernel
theorem dX11_sister_47 : decode cX11_sister 47 = .ok (.ifCond .eq 5, 3) := by decide +kernel
theorem dX11_sister_50 : decode cX11_sister 50 = .ok (.iconst 0, 1) := by decide +kernel
theorem dX11_sister_51 : decode cX11_sister 51 = .ok (.ireturn, 1) := by decide +kernel
theorem dX11_sister_52 : decode cX11_sister 52 = .ok (.iconst 0, 1) := by decide +kernel
theorem dX11_sister_53 : decode cX11_sister 53 = .ok (.istore_n 3, 1) := by decide +kernel
theorem dX11_sister_54 : decode cX11_sister 54 = .ok (.iconst 0, 1) := by decide +kernel
theorem dX11_sister_55 : decode cX11_sister 55 = .ok (.istore 4, 2) := by decide +kernel
theorem dX11_sister_57 : decode cX11_sister 57 = .ok (.iload 4, 2) := by decide +kernel
theorem dX11_sister_59 : decode cX11_sister 59 = .ok (.aload_n 0, 1) := by decide +kernel
theorem dX11_sister_60 : decode cX11_sister 60 = .ok (.getfield 23, 3) := by decide +kernel
theorem dX11_sister_63 : decode cX11_sister 63 = .ok (.iconst 1, 1) := by decide +kernel
theorem dX11_sister_64 : decode cX11_sister 64 = .ok (.iaload, 1) := by decide +kernel
theorem dX11_sister_65 : decode cX11_sister 65 = .ok (.if_icmp .ge 33, 3) := by decide +kernel
theorem dX11_sister_68 : decode cX11_sister 68 = .ok (.iload_n 3, 1) := by decide +kernel
theorem dX11_sister_69 : decode cX11_sister 69 = .ok (.aload_n 0, 1) := by decide +kernel
theorem dX11_sister_70 : decode cX11_sister 70 = .ok (.getfield 43, 3) := by decide +kernel
theorem dX11_sister_73 : decode cX11_sister 73 = .ok (.iload 4, 2) := by decide +kernel
theorem dX11_sister_75 : decode cX11_sister 75 = .ok (.aaload, 1) := by decide +kernel
theorem dX11_sister_76 : decode cX11_sister 76 = .ok (.iconst 0, 1) := by decide +kernel
theorem dX11_sister_77 : decode cX11_sister 77 = .ok (.iaload, 1) := by decide +kernel
theorem dX11_sister_78 : decode cX11_sister 78 = .ok (.iload_n 1, 1) := by decide +kernel
theorem dX11_sister_79 : decode cX11_sister 79 = .ok (.if_icmp .ne 10, 3) := by decide +kernel
theorem dX11_sister_82 : decode cX11_sister 82 = .ok (.iconst 1, 1) := by decide +kernel
theorem dX11_sister_83 : decode cX11_sister 83 = .ok (.iload 4, 2) := by decide +kernel
theorem dX11_sister_85 : decode cX11_sister 85 = .ok (.ishl, 1) := by decide +kernel
theorem dX11_sister_86 : decode cX11_sister 86 = .ok (.goto 4, 3) := by decide +kernel
theorem dX11_sister_89 : decode cX11_sister 89 = .ok (.iconst 0, 1) := by decide +kernel
theorem dX11_sister_90 : decode cX11_sister 90 = .ok (.ior, 1) := by decide +kernel
theorem dX11_sister_91 : decode cX11_sister 91 = .ok (.istore_n 3, 1) := by decide +kernel
theorem dX11_sister_92 : decode cX11_sister 92 = .ok (.iinc 4 1, 3) := by decide +kernel
theorem dX11_sister_95 : decode cX11_sister 95 = .ok (.goto (-38), 3) := by decide +kernel
theorem dX11_sister_98 : decode cX11_sister 98 = .ok (.iload_n 2, 1) := by decide +kernel
theorem dX11_sister_99 : decode cX11_sister 99 = .ok (.tableswitch 58 0 3 #[29, 36, 46, 48], 29) := by decide +kernel
theorem dX11_sister_128 : decode cX11_sister 128 = .ok (.aload_n 0, 1) := by decide +kernel
theorem dX11_sister_129 : decode cX11_sister 129 = .ok (.getfield 29, 3) := by decide +kernel
theorem dX11_sister_132 : decode cX11_sister 132 = .ok (.iload_n 1, 1) := by decide +kernel
theorem dX11_sister_133 : decode cX11_sister 133 = .ok (.iaload, 1) := by decide +kernel
theorem dX11_sister_134 : decode cX11_sister 134 = .ok (.ireturn, 1) := by decide +kernel
theorem dX11_sister_135 : decode cX11_sister 135 = .ok (.aload_n 0, 1) := by decide +kernel
theorem dX11_sister_136 : decode cX11_sister 136 = .ok (.getfield 73, 3) := by decide +kernel
theorem dX11_sister_139 : decode cX11_sister 139 = .ok (.bipush 8, 2) := by decide +kernel
theorem dX11_sister_141 : decode cX11_sister 141 = .ok (.iload_n 1, 1) := by decide +kernel
theorem dX11_sister_142 : decode cX11_sister 142 = .ok (.iadd, 1) := by decide +kernel
theorem dX11_sister_143 : decode cX11_sister 143 = .ok (.iaload, 1) := by decide +kernel
theorem dX11_sister_144 : decode cX11_sister 144 = .ok (.ireturn, 1) := by decide +kernel
theorem dX11_sister_145 : decode cX11_sister 145 = .ok (.iload_n 3, 1) := by decide +kernel
theorem dX11_sister_146 : decode cX11_sister 146 = .ok (.ireturn, 1) := by decide +kernel
theorem dX11_sister_147 : decode cX11_sister 147 = .ok (.aload_n 0, 1) := by decide +kernel
theorem dX11_sister_148 : decode cX11_sister 148 = .ok (.aload_n 0, 1) := by decide +kernel
theorem dX11_sister_149 : decode cX11_sister 149 = .ok (.getfield 73, 3) := by decide +kernel
theorem dX11_sister_152 : decode cX11_sister 152 = .ok (.iload_n 1, 1) := by decide +kernel
theorem dX11_sister_153 : decode cX11_sister 153 = .ok (.invokevirtual 274, 3) := by decide +kernel
theorem dX11_sister_156 : decode cX11_sister 156 = .ok (.ireturn, 1) := by decide +kernel
theorem dX11_sister_157 : decode cX11_sister 157 = .ok (.aload_n 0, 1) := by decide +kernel
theorem dX11_sister_158 : decode cX11_sister 158 = .ok (.getfield 35, 3) := by decide +kernel
theorem dX11_sister_161 : decode cX11_sister 161 = .ok (.iload_n 1, 1) := by decide +kernel
theorem dX11_sister_162 : decode cX11_sister 162 = .ok (.iaload, 1) := by decide +kernel
theorem dX11_sister_163 : decode cX11_sister 163 = .ok (.ireturn, 1) := by decide +kernel
theorem dX11_relic_0 : decode cX11_relic 0 = .ok (.aload_n 0, 1) := by decide +kernel
theorem dX11_relic_1 : decode cX11_relic 1 = .ok (.iconst 0, 1) := by decide +kernel
theorem dX11_relic_2 : decode cX11_relic 2 = .ok (.putfield 103, 3) := by decide +kernel
theorem dX11_relic_5 : decode cX11_relic 5 = .ok (.aload_n 0, 1) := by decide +kernel
theorem dX11_relic_6 : decode cX11_relic 6 = .ok (.aload_n 0, 1) := by decide +kernel
theorem dX11_relic_7 : decode cX11_relic 7 = .ok (.iload_n 1, 1) := by decide +kernel
theorem dX11_relic_8 : decode cX11_relic 8 = .ok (.invokevirtual 339, 3) := by decide +kernel
theorem dX11_relic_11 : decode cX11_relic 11 = .ok (.ifCond .ne 7, 3) := by decide +kernel
theorem dX11_relic_14 : decode cX11_relic 14 = .ok (.iconst 1, 1) := by decide +kernel
theorem dX11_relic_15 : decode cX11_relic 15 = .ok (.goto 4, 3) := by decide +kernel
theorem dX11_relic_18 : decode cX11_relic 18 = .ok (.iconst 0, 1) := by decide +kernel
theorem dX11_relic_19 : decode cX11_relic 19 = .ok (.iconst 1, 1) := by decide +kernel
theorem dX11_relic_20 : decode cX11_relic 20 = .ok (.iconst 0, 1) := by decide +kernel
theorem dX11_relic_21 : decode cX11_relic 21 = .ok (.invokevirtual 183, 3) := by decide +kernel
theorem dX11_relic_24 : decode cX11_relic 24 = .ok (.ifCond .ne 26, 3) := by decide +kernel
theorem dX11_relic_27 : decode cX11_relic 27 = .ok (.aload_n 0, 1) := by decide +kernel
theorem dX11_relic_28 : decode cX11_relic 28 = .ok (.iload_n 2, 1) := by decide +kernel
theorem dX11_relic_29 : decode cX11_relic 29 = .ok (.iconst 0, 1) := by decide +kernel
theorem dX11_relic_30 : decode cX11_relic 30 = .ok (.iconst 5, 1) := by decide +kernel
theorem dX11_relic_31 : decode cX11_relic 31 = .ok (.invokestatic 137, 3) := by decide +kernel
theorem dX11_relic_34 : decode cX11_relic 34 = .ok (.ifCond .ne 7, 3) := by decide +kernel
theorem dX11_relic_37 : decode cX11_relic 37 = .ok (.iconst 1, 1) := by decide +kernel
theorem dX11_relic_38 : decode cX11_relic 38 = .ok (.goto 4, 3) := by decide +kernel
theorem dX11_relic_41 : decode cX11_relic 41 = .ok (.iconst 0, 1) := by decide +kernel
theorem dX11_relic_42 : decode cX11_relic 42 = .ok (.iconst 2, 1) := by decide +kernel
theorem dX11_relic_43 : decode cX11_relic 43 = .ok (.iconst 1, 1) := by decide +kernel
theorem dX11_relic_44 : decode cX11_relic 44 = .ok (.invokevirtual 183, 3) := by decide +kernel
theorem dX11_relic_47 : decode cX11_relic 47 = .ok (.ifCond .eq 5, 3) := by decide +kernel
theorem dX11_relic_50 : decode cX11_relic 50 = .ok (.iconst 0, 1) := by decide +kernel
theorem dX11_relic_51 : decode cX11_relic 51 = .ok (.ireturn, 1) := by decide +kernel
theorem dX11_relic_52 : decode cX11_relic 52 = .ok (.iconst 0, 1) := by decide +kernel
theorem dX11_relic_53 : decode cX11_relic 53 = .ok (.istore_n 3, 1) := by decide +kernel
theorem dX11_relic_54 : decode cX11_relic 54 = .ok (.iconst 0, 1) := by decide +kernel
theorem dX11_relic_55 : decode cX11_relic 55 = .ok (.istore 4, 2) := by decide +kernel
theorem dX11_relic_57 : decode cX11_relic 57 = .ok (.iload 4, 2) := by decide +kernel
theorem dX11_relic_59 : decode cX11_relic 59 = .ok (.aload_n 0, 1) := by decide +kernel
theorem dX11_relic_60 : decode cX11_relic 60 = .ok (.getfield 23, 3) := by decide +kernel
theorem dX11_relic_63 : decode cX11_relic 63 = .ok (.iconst 2, 1) := by decide +kernel
theorem dX11_relic_64 : decode cX11_relic 64 = .ok (.iaload, 1) := by decide +kernel
theorem dX11_relic_65 : decode cX11_relic 65 = .ok (.if_icmp .ge 48, 3) := by decide +kernel
theorem dX11_relic_68 : decode cX11_relic 68 = .ok (.iload_n 3, 1) := by decide +kernel
theorem dX11_relic_69 : decode cX11_relic 69 = .ok (.aload_n 0, 1) := by decide +kernel
theorem dX11_relic_70 : decode cX11_relic 70 = .ok (.getfield 73, 3) := by decide +kernel
theorem dX11_relic_73 : decode cX11_relic 73 = .ok (.bipush 36, 2) := by decide +kernel
theorem dX11_relic_75 : decode cX11_relic 75 = .ok (.iload 4, 2) := by decide +kernel
theorem dX11_relic_77 : decode cX11_relic 77 = .ok (.iadd, 1) := by decide +kernel
theorem dX11_relic_78 : decode cX11_relic 78 = .ok (.iaload, 1) := by decide +kernel
theorem dX11_relic_79 : decode cX11_relic 79 = .ok (.iconst (-1), 1) := by decide +kernel
theorem dX11_relic_80 : decode cX11_relic 80 = .ok (.if_icmp .ne 24, 3) := by decide +kernel
theorem dX11_relic_83 : decode cX11_relic 83 = .ok (.aload_n 0, 1) := by decide +kernel
theorem dX11_relic_84 : decode cX11_relic 84 = .ok (.aload_n 0, 1) := by decide +kernel
theorem dX11_relic_85 : decode cX11_relic 85 = .ok (.getfield 73, 3) := by decide +kernel
theorem dX11_relic_88 : decode cX11_relic 88 = .ok (.iload_n 1, 1) := by decide +kernel
theorem dX11_relic_89 : decode cX11_relic 89 = .ok (.iload 4, 2) := by decide +kernel
theorem dX11_relic_91 : decode cX11_relic 91 = .ok (.invokevirtual 292, 3) := by decide +kernel
theorem dX11_relic_94 : decode cX11_relic 94 = .ok (.ifCond .eq 10, 3) := by decide +kernel
theorem dX11_relic_97 : decode cX11_relic 97 = .ok (.iconst 1, 1) := by decide +kernel
theorem dX11_relic_98 : decode cX11_relic 98 = .ok (.iload 4, 2) := by decide +kernel
theorem dX11_relic_100 : decode cX11_relic 100 = .ok (.ishl, 1) := by decide +kernel
theorem dX11_relic_101 : decode cX11_relic 101 = .ok (.goto 4, 3) := by decide +kernel
theorem dX11_relic_104 : decode cX11_relic 104 = .ok (.iconst 0, 1) := by decide +kernel
theorem dX11_relic_105 : decode cX11_relic 105 = .ok (.ior, 1) := by decide +kernel
theorem dX11_relic_106 : decode cX11_relic 106 = .ok (.istore_n 3, 1) := by decide +kernel
theorem dX11_relic_107 : decode cX11_relic 107 = .ok (.iinc 4 1, 3) := by decide +kernel
theorem dX11_relic_110 : decode cX11_relic 110 = .ok (.goto (-53), 3) := by decide +kernel
theorem dX11_relic_113 : decode cX11_relic 113 = .ok (.iload_n 2, 1) := by decide +kernel
theorem dX11_relic_114 : decode cX11_relic 114 = .ok (.tableswitch 48 3 5 #[26, 36, 46], 26) := by decide +kernel
theorem dX11_relic_140 : decode cX11_relic 140 = .ok (.aload_n 0, 1) := by decide +kernel
theorem dX11_relic_141 : decode cX11_relic 141 = .ok (.getfield 73, 3) := by decide +kernel
theorem dX11_relic_144 : decode cX11_relic 144 = .ok (.bipush 16, 2) := by decide +kernel
theorem dX11_relic_146 : decode cX11_relic 146 = .ok (.iload_n 1, 1) := by decide +kernel
theorem dX11_relic_147 : decode cX11_relic 147 = .ok (.iadd, 1) := by decide +kernel
theorem dX11_relic_148 : decode cX11_relic 148 = .ok (.iaload, 1) := by decide +kernel
theorem dX11_relic_149 : decode cX11_relic 149 = .ok (.ireturn, 1) := by decide +kernel
theorem dX11_relic_150 : decode cX11_relic 150 = .ok (.aload_n 0, 1) := by decide +kernel
theorem dX11_relic_151 : decode cX11_relic 151 = .ok (.aload_n 0, 1) := by decide +kernel
theorem dX11_relic_152 : decode cX11_relic 152 = .ok (.getfield 73, 3) := by decide +kernel
theorem dX11_relic_155 : decode cX11_relic 155 = .ok (.iload_n 1, 1) := by decide +kernel
theorem dX11_relic_156 : decode cX11_relic 156 = .ok (.invokevirtual 289, 3) := by decide +kernel
theorem dX11_relic_159 : decode cX11_relic 159 = .ok (.ireturn, 1) := by decide +kernel
theorem dX11_relic_160 : decode cX11_relic 160 = .ok (.iload_n 3, 1) := by decide +kernel
theorem dX11_relic_161 : decode cX11_relic 161 = .ok (.ireturn, 1) := by decide +kernel
theorem dX11_relic_162 : decode cX11_relic 162 = .ok (.aload_n 0, 1) := by decide +kernel
theorem dX11_relic_163 : decode cX11_relic 163 = .ok (.getfield 43, 3) := by decide +kernel
theorem dX11_relic_166 : decode cX11_relic 166 = .ok (.iload_n 1, 1) := by decide +kernel
theorem dX11_relic_167 : decode cX11_relic 167 = .ok (.aaload, 1) := by decide +kernel
theorem dX11_relic_168 : decode cX11_relic 168 = .ok (.iload_n 2, 1) := by decide +kernel
theorem dX11_relic_169 : decode cX11_relic 169 = .ok (.iaload, 1) := by decide +kernel
theorem dX11_relic_170 : decode cX11_relic 170 = .ok (.ireturn, 1) := by decide +kernel
theorem dX11_pilgrim_0 : decode cX11_pilgrim 0 = .ok (.aload_n 0, 1) := by decide +kernel
theorem dX11_pilgrim_1 : decode cX11_pilgrim 1 = .ok (.iconst 0, 1) := by decide +kernel
theorem dX11_pilgrim_2 : decode cX11_pilgrim 2 = .ok (.putfield 103, 3) := by decide +kernel
theorem dX11_pilgrim_5 : decode cX11_pilgrim 5 = .ok (.aload_n 0, 1) := by decide +kernel
theorem dX11_pilgrim_6 : decode cX11_pilgrim 6 = .ok (.aload_n 0, 1) := by decide +kernel
theorem dX11_pilgrim_7 : decode cX11_pilgrim 7 = .ok (.iload_n 1, 1) := by decide +kernel
theorem dX11_pilgrim_8 : decode cX11_pilgrim 8 = .ok (.invokevirtual 342, 3) := by decide +kernel
theorem dX11_pilgrim_11 : decode cX11_pilgrim 11 = .ok (.ifCond .ne 7, 3) := by decide +kernel
theorem dX11_pilgrim_14 : decode cX11_pilgrim 14 = .ok (.iconst 1, 1) := by decide +kernel
theorem dX11_pilgrim_15 : decode cX11_pilgrim 15 = .ok (.goto 4, 3) := by decide +kernel
theorem dX11_pilgrim_18 : decode cX11_pilgrim 18 = .ok (.iconst 0, 1) := by decide +kernel
theorem dX11_pilgrim_19 : decode cX11_pilgrim 19 = .ok (.iconst 1, 1) := by decide +kernel
theorem dX11_pilgrim_20 : decode cX11_pilgrim 20 = .ok (.iconst 0, 1) := by decide +kernel
theorem dX11_pilgrim_21 : decode cX11_pilgrim 21 = .ok (.invokevirtual 183, 3) := by decide +kernel
theorem dX11_pilgrim_24 : decode cX11_pilgrim 24 = .ok (.ifCond .ne 26, 3) := by decide +kernel
theorem dX11_pilgrim_27 : decode cX11_pilgrim 27 = .ok (.aload_n 0, 1) := by decide +kernel
theorem dX11_pilgrim_28 : decode cX11_pilgrim 28 = .ok (.iload_n 2, 1) := by decide +kernel
theorem dX11_pilgrim_29 : decode cX11_pilgrim 29 = .ok (.iconst 0, 1) := by decide +kernel
theorem dX11_pilgrim_30 : decode cX11_pilgrim 30 = .ok (.iconst 3, 1) := by decide +kernel
theorem dX11_pilgrim_31 : decode cX11_pilgrim 31 = .ok (.invokestatic 137, 3) := by decide +kernel
theorem dX11_pilgrim_34 : decode cX11_pilgrim 34 = .ok (.ifCond .ne 7, 3) := by decide +kernel
theorem dX11_pilgrim_37 : decode cX11_pilgrim 37 = .ok (.iconst 1, 1) := by decide +kernel
theorem dX11_pilgrim_38 : decode cX11_pilgrim 38 = .ok (.goto 4, 3) := by decide +kernel
theorem dX11_pilgrim_41 : decode cX11_pilgrim 41 = .ok (.iconst 0, 1) := by decide +kernel
theorem dX11_pilgrim_42 : decode cX11_pilgrim 42 = .ok (.iconst 2, 1) := by decide +kernel
theorem dX11_pilgrim_43 : decode cX11_pilgrim 43 = .ok (.iconst 1, 1) := by decide +kernel
theorem dX11_pilgrim_44 : decode cX11_pilgrim 44 = .ok (.invokevirtual 183, 3) := by decide +kernel
theorem dX11_pilgrim_47 : decode cX11_pilgrim 47 = .ok (.ifCond .eq 5, 3) := by decide +kernel
theorem dX11_pilgrim_50 : decode cX11_pilgrim 50 = .ok (.iconst 0, 1) := by decide +kernel
theorem dX11_pilgrim_51 : decode cX11_pilgrim 51 = .ok (.ireturn, 1) := by decide +kernel
theorem dX11_pilgrim_52 : decode cX11_pilgrim 52 = .ok (.iconst 0, 1) := by decide +kernel
theorem dX11_pilgrim_53 : decode cX11_pilgrim 53 = .ok (.istore_n 3, 1) := by decide +kernel
theorem dX11_pilgrim_54 : decode cX11_pilgrim 54 = .ok (.iconst 0, 1) := by decide +kernel
theorem dX11_pilgrim_55 : decode cX11_pilgrim 55 = .ok (.istore 4, 2) := by decide +kernel
theorem dX11_pilgrim_57 : decode cX11_pilgrim 57 = .ok (.iload 4, 2) := by decide +kernel
theorem dX11_pilgrim_59 : decode cX11_pilgrim 59 = .ok (.aload_n 0, 1) := by decide +kernel
theorem dX11_pilgrim_60 : decode cX11_pilgrim 60 = .ok (.getfield 23, 3) := by decide +kernel
theorem dX11_pilgrim_63 : decode cX11_pilgrim 63 = .ok (.iconst 1, 1) := by decide +kernel
theorem dX11_pilgrim_64 : decode cX11_pilgrim 64 = .ok (.iaload, 1) := by decide +kernel
theorem dX11_pilgrim_65 : decode cX11_pilgrim 65 = .ok (.if_icmp .ge 34, 3) := by decide +kernel
theorem dX11_pilgrim_68 : decode cX11_pilgrim 68 = .ok (.iload_n 3, 1) := by decide +kernel
theorem dX11_pilgrim_69 : decode cX11_pilgrim 69 = .ok (.aload_n 0, 1) := by decide +kernel
theorem dX11_pilgrim_70 : decode cX11_pilgrim 70 = .ok (.aload_n 0, 1) := by decide +kernel
theorem dX11_pilgrim_71 : decode cX11_pilgrim 71 = .ok (.getfield 73, 3) := by decide +kernel
theorem dX11_pilgrim_74 : decode cX11_pilgrim 74 = .ok (.iload 4, 2) := by decide +kernel
theorem dX11_pilgrim_76 : decode cX11_pilgrim 76 = .ok (.iload_n 1, 1) := by decide +kernel
theorem dX11_pilgrim_77 : decode cX11_pilgrim 77 = .ok (.invokevirtual 292, 3) := by decide +kernel
theorem dX11_pilgrim_80 : decode cX11_pilgrim 80 = .ok (.ifCond .eq 10, 3) := by decide +kernel
theorem dX11_pilgrim_83 : decode cX11_pilgrim 83 = .ok (.iconst 1, 1) := by decide +kernel
theorem dX11_pilgrim_84 : decode cX11_pilgrim 84 = .ok (.iload 4, 2) := by decide +kernel
theorem dX11_pilgrim_86 : decode cX11_pilgrim 86 = .ok (.ishl, 1) := by decide +kernel
theorem dX11_pilgrim_87 : decode cX11_pilgrim 87 = .ok (.goto 4, 3) := by decide +kernel
theorem dX11_pilgrim_90 : decode cX11_pilgrim 90 = .ok (.iconst 0, 1) := by decide +kernel
theorem dX11_pilgrim_91 : decode cX11_pilgrim 91 = .ok (.ior, 1) := by decide +kernel
theorem dX11_pilgrim_92 : decode cX11_pilgrim 92 = .ok (.istore_n 3, 1) := by decide +kernel
theorem dX11_pilgrim_93 : decode cX11_pilgrim 93 = .ok (.iinc 4 1, 3) := by decide +kernel
theorem dX11_pilgrim_96 : decode cX11_pilgrim 96 = .ok (.goto (-39), 3) := by decide +kernel
theorem dX11_pilgrim_99 : decode cX11_pilgrim 99 = .ok (.iload_n 2, 1) := by decide +kernel
theorem dX11_pilgrim_100 : decode cX11_pilgrim 100 = .ok (.iconst 2, 1) := by decide +kernel
theorem dX11_pilgrim_101 : decode cX11_pilgrim 101 = .ok (.if_icmp .ge 14, 3) := by decide +kernel
theorem dX11_pilgrim_104 : decode cX11_pilgrim 104 = .ok (.aload_n 0, 1) := by decide +kernel
theorem dX11_pilgrim_105 : decode cX11_pilgrim 105 = .ok (.getfield 49, 3) := by decide +kernel
theorem dX11_pilgrim_108 : decode cX11_pilgrim 108 = .ok (.iload_n 1, 1) := by decide +kernel
theorem dX11_pilgrim_109 : decode cX11_pilgrim 109 = .ok (.aaload, 1) := by decide +kernel
theorem dX11_pilgrim_110 : decode cX11_pilgrim 110 = .ok (.iload_n 2, 1) := by decide +kernel
theorem dX11_pilgrim_111 : decode cX11_pilgrim 111 = .ok (.iaload, 1) := by decide +kernel
theorem dX11_pilgrim_112 : decode cX11_pilgrim 112 = .ok (.goto 21, 3) := by decide +kernel
theorem dX11_pilgrim_115 : decode cX11_pilgrim 115 = .ok (.iload_n 2, 1) := by decide +kernel
theorem dX11_pilgrim_116 : decode cX11_pilgrim 116 = .ok (.iconst 2, 1) := by decide +kernel
theorem dX11_pilgrim_117 : decode cX11_pilgrim 117 = .ok (.if_icmp .ne 15, 3) := by decide +kernel
theorem dX11_pilgrim_120 : decode cX11_pilgrim 120 = .ok (.aload_n 0, 1) := by decide +kernel
theorem dX11_pilgrim_121 : decode cX11_pilgrim 121 = .ok (.getfield 73, 3) := by decide +kernel
theorem dX11_pilgrim_124 : decode cX11_pilgrim 124 = .ok (.bipush 36, 2) := by decide +kernel
theorem dX11_pilgrim_126 : decode cX11_pilgrim 126 = .ok (.iload_n 1, 1) := by decide +kernel
theorem dX11_pilgrim_127 : decode cX11_pilgrim 127 = .ok (.iadd, 1) := by decide +kernel
theorem dX11_pilgrim_128 : decode cX11_pilgrim 128 = .ok (.iaload, 1) := by decide +kernel
theorem dX11_pilgrim_129 : decode cX11_pilgrim 129 = .ok (.goto 4, 3) := by decide +kernel
theorem dX11_pilgrim_132 : decode cX11_pilgrim 132 = .ok (.iload_n 3, 1) := by decide +kernel
theorem dX11_pilgrim_133 : decode cX11_pilgrim 133 = .ok (.ireturn, 1) := by decide +kernel
theorem dX11_would_0 : decode cX11_would 0 = .ok (.aload_n 0, 1) := by decide +kernel
theorem dX11_would_1 : decode cX11_would 1 = .ok (.iconst 0, 1) := by decide +kernel
theorem dX11_would_2 : decode cX11_would 2 = .ok (.putfield 103, 3) := by decide +kernel
theorem dX11_would_5 : decode cX11_would 5 = .ok (.aload_n 0, 1) := by decide +kernel
theorem dX11_would_6 : decode cX11_would 6 = .ok (.iload_n 1, 1) := by decide +kernel
theorem dX11_would_7 : decode cX11_would 7 = .ok (.iconst 1, 1) := by decide +kernel
theorem dX11_would_8 : decode cX11_would 8 = .ok (.bipush 30, 2) := by decide +kernel
theorem dX11_would_10 : decode cX11_would 10 = .ok (.invokestatic 137, 3) := by decide +kernel
theorem dX11_would_13 : decode cX11_would 13 = .ok (.ifCond .eq 80, 3) := by decide +kernel
theorem dX11_would_16 : decode cX11_would 16 = .ok (.iload_n 2, 1) := by decide +kernel
theorem dX11_would_17 : decode cX11_would 17 = .ok (.iconst 0, 1) := by decide +kernel
theorem dX11_would_18 : decode cX11_would 18 = .ok (.sipush 999, 3) := by decide +kernel
theorem dX11_would_21 : decode cX11_would 21 = .ok (.invokestatic 137, 3) := by decide +kernel
theorem dX11_would_24 : decode cX11_would 24 = .ok (.ifCond .eq 69, 3) := by decide +kernel
theorem dX11_would_27 : decode cX11_would 27 = .ok (.iload_n 3, 1) := by decide +kernel
theorem dX11_would_28 : decode cX11_would 28 = .ok (.iconst 0, 1) := by decide +kernel
theorem dX11_would_29 : decode cX11_would 29 = .ok (.sipush 999, 3) := by decide +kernel
theorem dX11_would_32 : decode cX11_would 32 = .ok (.invokestatic 137, 3) := by decide +kernel
theorem dX11_would_35 : decode cX11_would 35 = .ok (.ifCond .eq 58, 3) := by decide +kernel
theorem dX11_would_38 : decode cX11_would 38 = .ok (.iload 4, 2) := by decide +kernel
theorem dX11_would_40 : decode cX11_would 40 = .ok (.iconst 0, 1) := by decide +kernel
theorem dX11_would_41 : decode cX11_would 41 = .ok (.bipush 15, 2) := by decide +kernel
theorem dX11_would_43 : decode cX11_would 43 = .ok (.invokestatic 137, 3) := by decide +kernel
theorem dX11_would_46 : decode cX11_would 46 = .ok (.ifCond .eq 47, 3) := by decide +kernel
theorem dX11_would_49 : decode cX11_would 49 = .ok (.iload 5, 2) := by decide +kernel
theorem dX11_would_51 : decode cX11_would 51 = .ok (.iconst 0, 1) := by decide +kernel
theorem dX11_would_52 : decode cX11_would 52 = .ok (.iconst 5, 1) := by decide +kernel
theorem dX11_would_53 : decode cX11_would 53 = .ok (.invokestatic 137, 3) := by decide +kernel
theorem dX11_would_56 : decode cX11_would 56 = .ok (.ifCond .eq 37, 3) := by decide +kernel
theorem dX11_would_59 : decode cX11_would 59 = .ok (.iload 6, 2) := by decide +kernel
theorem dX11_would_61 : decode cX11_would 61 = .ok (.iconst 0, 1) := by decide +kernel
theorem dX11_would_62 : decode cX11_would 62 = .ok (.bipush 9, 2) := by decide +kernel
theorem dX11_would_64 : decode cX11_would 64 = .ok (.invokestatic 137, 3) := by decide +kernel
theorem dX11_would_67 : decode cX11_would 67 = .ok (.ifCond .eq 26, 3) := by decide +kernel
theorem dX11_would_70 : decode cX11_would 70 = .ok (.iload 7, 2) := by decide +kernel
theorem dX11_would_72 : decode cX11_would 72 = .ok (.iconst 0, 1) := by decide +kernel
theorem dX11_would_73 : decode cX11_would 73 = .ok (.bipush 7, 2) := by decide +kernel
theorem dX11_would_75 : decode cX11_would 75 = .ok (.invokestatic 137, 3) := by decide +kernel
theorem dX11_would_78 : decode cX11_would 78 = .ok (.ifCond .eq 15, 3) := by decide +kernel
theorem dX11_would_81 : decode cX11_would 81 = .ok (.iload 8, 2) := by decide +kernel
theorem dX11_would_83 : decode cX11_would 83 = .ok (.iconst 0, 1) := by decide +kernel
theorem dX11_would_84 : decode cX11_would 84 = .ok (.sipush 500, 3) := by decide +kernel
theorem dX11_would_87 : decode cX11_would 87 = .ok (.invokestatic 137, 3) := by decide +kernel
theorem dX11_would_90 : decode cX11_would 90 = .ok (.ifCond .ne 7, 3) := by decide +kernel
theorem dX11_would_93 : decode cX11_would 93 = .ok (.iconst 1, 1) := by decide +kernel
theorem dX11_would_94 : decode cX11_would 94 = .ok (.goto 4, 3) := by decide +kernel
theorem dX11_would_97 : decode cX11_would 97 = .ok (.iconst 0, 1) := by decide +kernel
theorem dX11_would_98 : decode cX11_would 98 = .ok (.iconst 1, 1) := by decide +kernel
theorem dX11_would_99 : decode cX11_would 99 = .ok (.iconst 1, 1) := by decide +kernel
theorem dX11_would_100 : decode cX11_would 100 = .ok (.invokevirtual 183, 3) := by decide +kernel
theorem dX11_would_103 : decode cX11_would 103 = .ok (.ifCond .eq 5, 3) := by decide +kernel
theorem dX11_would_106 : decode cX11_would 106 = .ok (.iconst 0, 1) := by decide +kernel
theorem dX11_would_107 : decode cX11_would 107 = .ok (.ireturn, 1) := by decide +kernel
theorem dX11_would_108 : decode cX11_would 108 = .ok (.aload_n 0, 1) := by decide +kernel
theorem dX11_would_109 : decode cX11_would 109 = .ok (.iload_n 1, 1) := by decide +kernel
theorem dX11_would_110 : decode cX11_would 110 = .ok (.iload_n 2, 1) := by decide +kernel
theorem dX11_would_111 : decode cX11_would 111 = .ok (.iload_n 3, 1) := by decide +kernel
theorem dX11_would_112 : decode cX11_would 112 = .ok (.iload 4, 2) := by decide +kernel
theorem dX11_would_114 : decode cX11_would 114 = .ok (.iload 5, 2) := by decide +kernel
theorem dX11_would_116 : decode cX11_would 116 = .ok (.iload 6, 2) := by decide +kernel
theorem dX11_would_118 : decode cX11_would 118 = .ok (.iload 7, 2) := by decide +kernel
theorem dX11_would_120 : decode cX11_would 120 = .ok (.iload 8, 2) := by decide +kernel
theorem dX11_would_122 : decode cX11_would 122 = .ok (.invokevirtual 281, 3) := by decide +kernel
theorem dX11_would_125 : decode cX11_would 125 = .ok (.ireturn, 1) := by decide +kernel
theorem dX11_can_0 : decode cX11_can 0 = .ok (.aload_n 0, 1) := by decide +kernel
theorem dX11_can_1 : decode cX11_can 1 = .ok (.iconst 0, 1) := by decide +kernel
theorem dX11_can_2 : decode cX11_can 2 = .ok (.putfield 103, 3) := by decide +kernel
theorem dX11_can_5 : decode cX11_can 5 = .ok (.aload_n 0, 1) := by decide +kernel
theorem dX11_can_6 : decode cX11_can 6 = .ok (.aload_n 0, 1) := by decide +kernel
theorem dX11_can_7 : decode cX11_can 7 = .ok (.iload_n 1, 1) := by decide +kernel
theorem dX11_can_8 : decode cX11_can 8 = .ok (.invokevirtual 339, 3) := by decide +kernel
theorem dX11_can_11 : decode cX11_can 11 = .ok (.ifCond .eq 11, 3) := by decide +kernel
theorem dX11_can_14 : decode cX11_can 14 = .ok (.aload_n 0, 1) := by decide +kernel
theorem dX11_can_15 : decode cX11_can 15 = .ok (.iload_n 2, 1) := by decide +kernel
theorem dX11_can_16 : decode cX11_can 16 = .ok (.invokevirtual 342, 3) := by decide +kernel
theorem dX11_can_19 : decode cX11_can 19 = .ok (.ifCond .ne 7, 3) := by decide +kernel
theorem dX11_can_22 : decode cX11_can 22 = .ok (.iconst 1, 1) := by decide +kernel
theorem dX11_can_23 : decode cX11_can 23 = .ok (.goto 4, 3) := by decide +kernel
theorem dX11_can_26 : decode cX11_can 26 = .ok (.iconst 0, 1) := by decide +kernel
theorem dX11_can_27 : decode cX11_can 27 = .ok (.iconst 1, 1) := by decide +kernel
theorem dX11_can_28 : decode cX11_can 28 = .ok (.iconst 0, 1) := by decide +kernel
theorem dX11_can_29 : decode cX11_can 29 = .ok (.invokevirtual 183, 3) := by decide +kernel
theorem dX11_can_32 : decode cX11_can 32 = .ok (.ifCond .eq 5, 3) := by decide +kernel
theorem dX11_can_35 : decode cX11_can 35 = .ok (.iconst 0, 1) := by decide +kernel
theorem dX11_can_36 : decode cX11_can 36 = .ok (.ireturn, 1) := by decide +kernel
theorem dX11_can_37 : decode cX11_can 37 = .ok (.aload_n 0, 1) := by decide +kernel
theorem dX11_can_38 : decode cX11_can 38 = .ok (.aload_n 0, 1) := by decide +kernel
theorem dX11_can_39 : decode cX11_can 39 = .ok (.getfield 73, 3) := by decide +kernel
theorem dX11_can_42 : decode cX11_can 42 = .ok (.iload_n 1, 1) := by decide +kernel
theorem dX11_can_43 : decode cX11_can 43 = .ok (.iload_n 2, 1) := by decide +kernel
theorem dX11_can_44 : decode cX11_can 44 = .ok (.invokevirtual 299, 3) := by decide +kernel
theorem dX11_can_47 : decode cX11_can 47 = .ok (.ireturn, 1) := by decide +kernel
theorem dX11_when_0 : decode cX11_when 0 = .ok (.aload_n 0, 1) := by decide +kernel
theorem dX11_when_1 : decode cX11_when 1 = .ok (.iconst 0, 1) := by decide +kernel
theorem dX11_when_2 : decode cX11_when 2 = .ok (.putfield 103, 3) := by decide +kernel
theorem dX11_when_5 : decode cX11_when 5 = .ok (.aload_n 0, 1) := by decide +kernel
theorem dX11_when_6 : decode cX11_when 6 = .ok (.aload_n 0, 1) := by decide +kernel
theorem dX11_when_7 : decode cX11_when 7 = .ok (.iload_n 1, 1) := by decide +kernel
theorem dX11_when_8 : decode cX11_when 8 = .ok (.invokevirtual 339, 3) := by decide +kernel
theorem dX11_when_11 : decode cX11_when 11 = .ok (.ifCond .eq 11, 3) := by decide +kernel
theorem dX11_when_14 : decode cX11_when 14 = .ok (.aload_n 0, 1) := by decide +kernel
theorem dX11_when_15 : decode cX11_when 15 = .ok (.iload_n 2, 1) := by decide +kernel
theorem dX11_when_16 : decode cX11_when 16 = .ok (.invokevirtual 342, 3) := by decide +kernel
theorem dX11_when_19 : decode cX11_when 19 = .ok (.ifCond .ne 7, 3) := by decide +kernel
theorem dX11_when_22 : decode cX11_when 22 = .ok (.iconst 1, 1) := by decide +kernel
theorem dX11_when_23 : decode cX11_when 23 = .ok (.goto 4, 3) := by decide +kernel
theorem dX11_when_26 : decode cX11_when 26 = .ok (.iconst 0, 1) := by decide +kernel
theorem dX11_when_27 : decode cX11_when 27 = .ok (.iconst 1, 1) := by decide +kernel
theorem dX11_when_28 : decode cX11_when 28 = .ok (.iconst 0, 1) := by decide +kernel
theorem dX11_when_29 : decode cX11_when 29 = .ok (.invokevirtual 183, 3) := by decide +kernel
theorem dX11_when_32 : decode cX11_when 32 = .ok (.ifCond .eq 5, 3) := by decide +kernel
theorem dX11_when_35 : decode cX11_when 35 = .ok (.iconst 0, 1) := by decide +kernel
theorem dX11_when_36 : decode cX11_when 36 = .ok (.ireturn, 1) := by decide +kernel
theorem dX11_when_37 : decode cX11_when 37 = .ok (.aload_n 0, 1) := by decide +kernel
theorem dX11_when_38 : decode cX11_when 38 = .ok (.getfield 73, 3) := by decide +kernel
theorem dX11_when_41 : decode cX11_when 41 = .ok (.aload_n 0, 1) := by decide +kernel
theorem dX11_when_42 : decode cX11_when 42 = .ok (.getfield 76, 3) := by decide +kernel
theorem dX11_when_45 : decode cX11_when 45 = .ok (.invokestatic 325, 3) := by decide +kernel
theorem dX11_when_48 : decode cX11_when 48 = .ok (.iconst 0, 1) := by decide +kernel
theorem dX11_when_49 : decode cX11_when 49 = .ok (.istore_n 3, 1) := by decide +kernel
theorem dX11_when_50 : decode cX11_when 50 = .ok (.iload_n 3, 1) := by decide +kernel
theorem dX11_when_51 : decode cX11_when 51 = .ok (.sipush 200, 3) := by decide +kernel
theorem dX11_when_54 : decode cX11_when 54 = .ok (.if_icmp .gt 32, 3) := by decide +kernel
theorem dX11_when_57 : decode cX11_when 57 = .ok (.aload_n 0, 1) := by decide +kernel
theorem dX11_when_58 : decode cX11_when 58 = .ok (.aload_n 0, 1) := by decide +kernel
theorem dX11_when_59 : decode cX11_when 59 = .ok (.getfield 76, 3) := by decide +kernel
theorem dX11_when_62 : decode cX11_when 62 = .ok (.iload_n 1, 1) := by decide +kernel
theorem dX11_when_63 : decode cX11_when 63 = .ok (.iload_n 2, 1) := by decide +kernel
theorem dX11_when_64 : decode cX11_when 64 = .ok (.invokevirtual 292, 3) := by decide +kernel
theorem dX11_when_67 : decode cX11_when 67 = .ok (.ifCond .eq 5, 3) := by decide +kernel
theorem dX11_when_70 : decode cX11_when 70 = .ok (.iload_n 3, 1) := by decide +kernel
theorem dX11_when_71 : decode cX11_when 71 = .ok (.ireturn, 1) := by decide +kernel
theorem dX11_when_72 : decode cX11_when 72 = .ok (.aload_n 0, 1) := by decide +kernel
theorem dX11_when_73 : decode cX11_when 73 = .ok (.aload_n 0, 1) := by decide +kernel
theorem dX11_when_74 : decode cX11_when 74 = .ok (.getfield 76, 3) := by decide +kernel
theorem dX11_when_77 : decode cX11_when 77 = .ok (.invokevirtual 308, 3) := by decide +kernel
theorem dX11_when_80 : decode cX11_when 80 = .ok (.iinc 3 1, 3) := by decide +kernel
theorem dX11_when_83 : decode cX11_when 83 = .ok (.goto (-33), 3) := by decide +kernel
theorem dX11_when_86 : decode cX11_when 86 = .ok (.iconst (-1), 1) := by decide +kernel
theorem dX11_when_87 : decode cX11_when 87 = .ok (.ireturn, 1) := by decide +kernel
theorem dX11_ahead_0 : decode cX11_ahead 0 = .ok (.aload_n 0, 1) := by decide +kernel
theorem dX11_ahead_1 : decode cX11_ahead 1 = .ok (.iconst 0, 1) := by decide +kernel
theorem dX11_ahead_2 : decode cX11_ahead 2 = .ok (.putfield 103, 3) := by decide +kernel
theorem dX11_ahead_5 : decode cX11_ahead 5 = .ok (.aload_n 0, 1) := by decide +kernel
theorem dX11_ahead_6 : decode cX11_ahead 6 = .ok (.aload_n 0, 1) := by decide +kernel
theorem dX11_ahead_7 : decode cX11_ahead 7 = .ok (.iload_n 1, 1) := by decide +kernel
theorem dX11_ahead_8 : decode cX11_ahead 8 = .ok (.invokevirtual 339, 3) := by decide +kernel
theorem dX11_ahead_11 : decode cX11_ahead 11 = .ok (.ifCond .ne 7, 3) := by decide +kernel
theorem dX11_ahead_14 : decode cX11_ahead 14 = .ok (.iconst 1, 1) := by decide +kernel
theorem dX11_ahead_15 : decode cX11_ahead 15 = .ok (.goto 4, 3) := by decide +kernel
theorem dX11_ahead_18 : decode cX11_ahead 18 = .ok (.iconst 0, 1) := by decide +kernel
theorem dX11_ahead_19 : decode cX11_ahead 19 = .ok (.iconst 1, 1) := by decide +kernel
theorem dX11_ahead_20 : decode cX11_ahead 20 = .ok (.iconst 0, 1) := by decide +kernel
theorem dX11_ahead_21 : decode cX11_ahead 21 = .ok (.invokevirtual 183, 3) := by decide +kernel
theorem dX11_ahead_24 : decode cX11_ahead 24 = .ok (.ifCond .ne 36, 3) := by decide +kernel
theorem dX11_ahead_27 : decode cX11_ahead 27 = .ok (.aload_n 0, 1) := by decide +kernel
theorem dX11_ahead_28 : decode cX11_ahead 28 = .ok (.iload_n 2, 1) := by decide +kernel
theorem dX11_ahead_29 : decode cX11_ahead 29 = .ok (.iconst 0, 1) := by decide +kernel
theorem dX11_ahead_30 : decode cX11_ahead 30 = .ok (.bipush 99, 2) := by decide +kernel
theorem dX11_ahead_32 : decode cX11_ahead 32 = .ok (.invokestatic 137, 3) := by decide +kernel
theorem dX11_ahead_35 : decode cX11_ahead 35 = .ok (.ifCond .eq 12, 3) := by decide +kernel
theorem dX11_ahead_38 : decode cX11_ahead 38 = .ok (.iload_n 3, 1) := by decide +kernel
theorem dX11_ahead_39 : decode cX11_ahead 39 = .ok (.iconst 0, 1) := by decide +kernel
theorem dX11_ahead_40 : decode cX11_ahead 40 = .ok (.iconst 1, 1) := by decide +kernel
theorem dX11_ahead_41 : decode cX11_ahead 41 = .ok (.invokestatic 137, 3) := by decide +kernel
theorem dX11_ahead_44 : decode cX11_ahead 44 = .ok (.ifCond .ne 7, 3) := by decide +kernel
theorem dX11_ahead_47 : decode cX11_ahead 47 = .ok (.iconst 1, 1) := by decide +kernel
theorem dX11_ahead_48 : decode cX11_ahead 48 = .ok (.goto 4, 3) := by decide +kernel
theorem dX11_ahead_51 : decode cX11_ahead 51 = .ok (.iconst 0, 1) := by decide +kernel
theorem dX11_ahead_52 : decode cX11_ahead 52 = .ok (.iconst 2, 1) := by decide +kernel
theorem dX11_ahead_53 : decode cX11_ahead 53 = .ok (.iconst 1, 1) := by decide +kernel
theorem dX11_ahead_54 : decode cX11_ahead 54 = .ok (.invokevirtual 183, 3) := by decide +kernel
theorem dX11_ahead_57 : decode cX11_ahead 57 = .ok (.ifCond .eq 5, 3) := by decide +kernel
theorem dX11_ahead_60 : decode cX11_ahead 60 = .ok (.iconst 0, 1) := by decide +kernel
theorem dX11_ahead_61 : decode cX11_ahead 61 = .ok (.ireturn, 1) := by decide +kernel
theorem dX11_ahead_62 : decode cX11_ahead 62 = .ok (.aload_n 0, 1) := by decide +kernel
theorem dX11_ahead_63 : decode cX11_ahead 63 = .ok (.getfield 73, 3) := by decide +kernel
theorem dX11_ahead_66 : decode cX11_ahead 66 = .ok (.aload_n 0, 1) := by decide +kernel
theorem dX11_ahead_67 : decode cX11_ahead 67 = .ok (.getfield 76, 3) := by decide +kernel
theorem dX11_ahead_70 : decode cX11_ahead 70 = .ok (.invokestatic 325, 3) := by decide +kernel
theorem dX11_ahead_73 : decode cX11_ahead 73 = .ok (.iload_n 3, 1) := by decide +kernel
theorem dX11_ahead_74 : decode cX11_ahead 74 = .ok (.iconst 1, 1) := by decide +kernel
theorem dX11_ahead_75 : decode cX11_ahead 75 = .ok (.if_icmp .ne 20, 3) := by decide +kernel
theorem dX11_ahead_78 : decode cX11_ahead 78 = .ok (.aload_n 0, 1) := by decide +kernel
theorem dX11_ahead_79 : decode cX11_ahead 79 = .ok (.aload_n 0, 1) := by decide +kernel
theorem dX11_ahead_80 : decode cX11_ahead 80 = .ok (.getfield 76, 3) := by decide +kernel
theorem dX11_ahead_83 : decode cX11_ahead 83 = .ok (.aload_n 0, 1) := by decide +kernel
theorem dX11_ahead_84 : decode cX11_ahead 84 = .ok (.getfield 43, 3) := by decide +kernel
theorem dX11_ahead_87 : decode cX11_ahead 87 = .ok (.iload_n 1, 1) := by decide +kernel
theorem dX11_ahead_88 : decode cX11_ahead 88 = .ok (.aaload, 1) := by decide +kernel
theorem dX11_ahead_89 : decode cX11_ahead 89 = .ok (.iconst 0, 1) := by decide +kernel
theorem dX11_ahead_90 : decode cX11_ahead 90 = .ok (.iaload, 1) := by decide +kernel
theorem dX11_ahead_91 : decode cX11_ahead 91 = .ok (.invokevirtual 302, 3) := by decide +kernel
theorem dX11_ahead_94 : decode cX11_ahead 94 = .ok (.pop, 1) := by decide +kernel
theorem dX11_ahead_95 : decode cX11_ahead 95 = .ok (.iconst 0, 1) := by decide +kernel
theorem dX11_ahead_96 : decode cX11_ahead 96 = .ok (.istore 4, 2) := by decide +kernel
theorem dX11_ahead_98 : decode cX11_ahead 98 = .ok (.iload 4, 2) := by decide +kernel
theorem dX11_ahead_100 : decode cX11_ahead 100 = .ok (.iload_n 2, 1) := by decide +kernel
theorem dX11_ahead_101 : decode cX11_ahead 101 = .ok (.if_icmp .ge 17, 3) := by decide +kernel
theorem dX11_ahead_104 : decode cX11_ahead 104 = .ok (.aload_n 0, 1) := by decide +kernel
theorem dX11_ahead_105 : decode cX11_ahead 105 = .ok (.aload_n 0, 1) := by decide +kernel
theorem dX11_ahead_106 : decode cX11_ahead 106 = .ok (.getfield 76, 3) := by decide +kernel
theorem dX11_ahead_109 : decode cX11_ahead 109 = .ok (.invokevirtual 308, 3) := by decide +kernel
theorem dX11_ahead_112 : decode cX11_ahead 112 = .ok (.iinc 4 1, 3) := by decide +kernel
theorem dX11_ahead_115 : decode cX11_ahead 115 = .ok (.goto (-17), 3) := by decide +kernel
theorem dX11_ahead_118 : decode cX11_ahead 118 = .ok (.aload_n 0, 1) := by decide +kernel
theorem dX11_ahead_119 : decode cX11_ahead 119 = .ok (.aload_n 0, 1) := by decide +kernel
theorem dX11_ahead_120 : decode cX11_ahead 120 = .ok (.getfield 76, 3) := by decide +kernel
theorem dX11_ahead_123 : decode cX11_ahead 123 = .ok (.iload_n 1, 1) := by decide +kernel
theorem dX11_ahead_124 : decode cX11_ahead 124 = .ok (.invokevirtual 289, 3) := by decide +kernel
theorem dX11_ahead_127 : decode cX11_ahead 127 = .ok (.ireturn, 1) := by decide +kernel
theorem dX11_hopeless_0 : decode cX11_hopeless 0 = .ok (.aload_n 0, 1) := by decide +kernel
theorem dX11_hopeless_1 : decode cX11_hopeless 1 = .ok (.iconst 0, 1) := by decide +kernel
theorem dX11_hopeless_2 : decode cX11_hopeless 2 = .ok (.putfield 103, 3) := by decide +kernel
theorem dX11_hopeless_5 : decode cX11_hopeless 5 = .ok (.aload_n 0, 1) := by decide +kernel
theorem dX11_hopeless_6 : decode cX11_hopeless 6 = .ok (.iload_n 1, 1) := by decide +kernel
theorem dX11_hopeless_7 : decode cX11_hopeless 7 = .ok (.iconst 0, 1) := by decide +kernel
theorem dX11_hopeless_8 : decode cX11_hopeless 8 = .ok (.bipush 99, 2) := by decide +kernel
theorem dX11_hopeless_10 : decode cX11_hopeless 10 = .ok (.invokestatic 137, 3) := by decide +kernel
theorem dX11_hopeless_13 : decode cX11_hopeless 13 = .ok (.ifCond .ne 7, 3) := by decide +kernel
theorem dX11_hopeless_16 : decode cX11_hopeless 16 = .ok (.iconst 1, 1) := by decide +kernel
theorem dX11_hopeless_17 : decode cX11_hopeless 17 = .ok (.goto 4, 3) := by decide +kernel
theorem dX11_hopeless_20 : decode cX11_hopeless 20 = .ok (.iconst 0, 1) := by decide +kernel
theorem dX11_hopeless_21 : decode cX11_hopeless 21 = .ok (.iconst 1, 1) := by decide +kernel
theorem dX11_hopeless_22 : decode cX11_hopeless 22 = .ok (.iconst 1, 1) := by decide +kernel
theorem dX11_hopeless_23 : decode cX11_hopeless 23 = .ok (.invokevirtual 183, 3) := by decide +kernel
theorem dX11_hopeless_26 : decode cX11_hopeless 26 = .ok (.ifCond .eq 5, 3) := by decide +kernel
theorem dX11_hopeless_29 : decode cX11_hopeless 29 = .ok (.iconst 0, 1) := by decide +kernel
theorem dX11_hopeless_30 : decode cX11_hopeless 30 = .ok (.ireturn, 1) := by decide +kernel
theorem dX11_hopeless_31 : decode cX11_hopeless 31 = .ok (.aload_n 0, 1) := by decide +kernel
theorem dX11_hopeless_32 : decode cX11_hopeless 32 = .ok (.getfield 73, 3) := by decide +kernel
theorem dX11_hopeless_35 : decode cX11_hopeless 35 = .ok (.aload_n 0, 1) := by decide +kernel
theorem dX11_hopeless_36 : decode cX11_hopeless 36 = .ok (.getfield 76, 3) := by decide +kernel
theorem dX11_hopeless_39 : decode cX11_hopeless 39 = .ok (.invokestatic 325, 3) := by decide +kernel
theorem dX11_hopeless_42 : decode cX11_hopeless 42 = .ok (.iconst 0, 1) := by decide +kernel
theorem dX11_hopeless_43 : decode cX11_hopeless 43 = .ok (.istore_n 2, 1) := by decide +kernel
theorem dX11_hopeless_44 : decode cX11_hopeless 44 = .ok (.iload_n 2, 1) := by decide +kernel
theorem dX11_hopeless_45 : decode cX11_hopeless 45 = .ok (.iload_n 1, 1) := by decide +kernel
theorem dX11_hopeless_46 : decode cX11_hopeless 46 = .ok (.if_icmp .ge 17, 3) := by decide +kernel
theorem dX11_hopeless_49 : decode cX11_hopeless 49 = .ok (.aload_n 0, 1) := by decide +kernel
theorem dX11_hopeless_50 : decode cX11_hopeless 50 = .ok (.aload_n 0, 1) := by decide +kernel
theorem dX11_hopeless_51 : decode cX11_hopeless 51 = .ok (.getfield 76, 3) := by decide +kernel
theorem dX11_hopeless_54 : decode cX11_hopeless 54 = .ok (.invokevirtual 308, 3) := by decide +kernel
theorem dX11_hopeless_57 : decode cX11_hopeless 57 = .ok (.iinc 2 1, 3) := by decide +kernel
theorem dX11_hopeless_60 : decode cX11_hopeless 60 = .ok (.goto (-16), 3) := by decide +kernel
theorem dX11_hopeless_63 : decode cX11_hopeless 63 = .ok (.iconst 1, 1) := by decide +kernel
theorem dX11_hopeless_64 : decode cX11_hopeless 64 = .ok (.aload_n 0, 1) := by decide +kernel
theorem dX11_hopeless_65 : decode cX11_hopeless 65 = .ok (.getfield 23, 3) := by decide +kernel
theorem dX11_hopeless_68 : decode cX11_hopeless 68 = .ok (.iconst 2, 1) := by decide +kernel
theorem dX11_hopeless_69 : decode cX11_hopeless 69 = .ok (.iaload, 1) := by decide +kernel
theorem dX11_hopeless_70 : decode cX11_hopeless 70 = .ok (.ishl, 1) := by decide +kernel
theorem dX11_hopeless_71 : decode cX11_hopeless 71 = .ok (.iconst 1, 1) := by decide +kernel
theorem dX11_hopeless_72 : decode cX11_hopeless 72 = .ok (.isub, 1) := by decide +kernel
theorem dX11_hopeless_73 : decode cX11_hopeless 73 = .ok (.aload_n 0, 1) := by decide +kernel
theorem dX11_hopeless_74 : decode cX11_hopeless 74 = .ok (.aload_n 0, 1) := by decide +kernel
theorem dX11_hopeless_75 : decode cX11_hopeless 75 = .ok (.getfield 73, 3) := by decide +kernel
theorem dX11_hopeless_78 : decode cX11_hopeless 78 = .ok (.invokevirtual 329, 3) := by decide +kernel
theorem dX11_hopeless_81 : decode cX11_hopeless 81 = .ok (.isub, 1) := by decide +kernel
theorem dX11_hopeless_82 : decode cX11_hopeless 82 = .ok (.istore_n 2, 1) := by decide +kernel
theorem dX11_hopeless_83 : decode cX11_hopeless 83 = .ok (.iconst 0, 1) := by decide +kernel
theorem dX11_hopeless_84 : decode cX11_hopeless 84 = .ok (.istore_n 3, 1) := by decide +kernel
theorem dX11_hopeless_85 : decode cX11_hopeless 85 = .ok (.iload_n 3, 1) := by decide +kernel
theorem dX11_hopeless_86 : decode cX11_hopeless 86 = .ok (.aload_n 0, 1) := by decide +kernel
theorem dX11_hopeless_87 : decode cX11_hopeless 87 = .ok (.getfield 23, 3) := by decide +kernel
theorem dX11_hopeless_90 : decode cX11_hopeless 90 = .ok (.iconst 2, 1) := by decide +kernel
theorem dX11_hopeless_91 : decode cX11_hopeless 91 = .ok (.iaload, 1) := by decide +kernel
theorem dX11_hopeless_92 : decode cX11_hopeless 92 = .ok (.if_icmp .ge 55, 3) := by decide +kernel
theorem dX11_hopeless_95 : decode cX11_hopeless 95 = .ok (.iconst 0, 1) := by decide +kernel
theorem dX11_hopeless_96 : decode cX11_hopeless 96 = .ok (.istore 4, 2) := by decide +kernel
theorem dX11_hopeless_98 : decode cX11_hopeless 98 = .ok (.iload 4, 2) := by decide +kernel
theorem dX11_hopeless_100 : decode cX11_hopeless 100 = .ok (.aload_n 0, 1) := by decide +kernel
theorem dX11_hopeless_101 : decode cX11_hopeless 101 = .ok (.getfield 23, 3) := by decide +kernel
theorem dX11_hopeless_104 : decode cX11_hopeless 104 = .ok (.iconst 1, 1) := by decide +kernel
theorem dX11_hopeless_105 : decode cX11_hopeless 105 = .ok (.iaload, 1) := by decide +kernel
theorem dX11_hopeless_106 : decode cX11_hopeless 106 = .ok (.if_icmp .ge 35, 3) := by decide +kernel
theorem dX11_hopeless_109 : decode cX11_hopeless 109 = .ok (.iload_n 2, 1) := by decide +kernel
theorem dX11_hopeless_110 : decode cX11_hopeless 110 = .ok (.aload_n 0, 1) := by decide +kernel
theorem dX11_hopeless_111 : decode cX11_hopeless 111 = .ok (.aload_n 0, 1) := by decide +kernel
theorem dX11_hopeless_112 : decode cX11_hopeless 112 = .ok (.getfield 76, 3) := by decide +kernel
theorem dX11_hopeless_115 : decode cX11_hopeless 115 = .ok (.iload 4, 2) := by decide +kernel
theorem dX11_hopeless_117 : decode cX11_hopeless 117 = .ok (.iload_n 3, 1) := by decide +kernel
theorem dX11_hopeless_118 : decode cX11_hopeless 118 = .ok (.invokevirtual 292, 3) := by decide +kernel
theorem dX11_hopeless_121 : decode cX11_hopeless 121 = .ok (.ifCond .eq 11, 3) := by decide +kernel
theorem dX11_hopeless_124 : decode cX11_hopeless 124 = .ok (.iconst 1, 1) := by decide +kernel
theorem dX11_hopeless_125 : decode cX11_hopeless 125 = .ok (.iload_n 3, 1) := by decide +kernel
theorem dX11_hopeless_126 : decode cX11_hopeless 126 = .ok (.ishl, 1) := by decide +kernel
theorem dX11_hopeless_127 : decode cX11_hopeless 127 = .ok (.iconst (-1), 1) := by decide +kernel
theorem dX11_hopeless_128 : decode cX11_hopeless 128 = .ok (.ixor, 1) := by decide +kernel
theorem dX11_hopeless_129 : decode cX11_hopeless 129 = .ok (.goto 4, 3) := by decide +kernel
theorem dX11_hopeless_132 : decode cX11_hopeless 132 = .ok (.iload_n 2, 1) := by decide +kernel
theorem dX11_hopeless_133 : decode cX11_hopeless 133 = .ok (.iand, 1) := by decide +kernel
theorem dX11_hopeless_134 : decode cX11_hopeless 134 = .ok (.istore_n 2, 1) := by decide +kernel
theorem dX11_hopeless_135 : decode cX11_hopeless 135 = .ok (.iinc 4 1, 3) := by decide +kernel
theorem dX11_hopeless_138 : decode cX11_hopeless 138 = .ok (.goto (-40), 3) := by decide +kernel
theorem dX11_hopeless_141 : decode cX11_hopeless 141 = .ok (.iinc 3 1, 3) := by decide +kernel
theorem dX11_hopeless_144 : decode cX11_hopeless 144 = .ok (.goto (-59), 3) := by decide +kernel
theorem dX11_hopeless_147 : decode cX11_hopeless 147 = .ok (.iload_n 2, 1) := by decide +kernel
theorem dX11_hopeless_148 : decode cX11_hopeless 148 = .ok (.ireturn, 1) := by decide +kernel
theorem dX11_matchesFrom_0 : decode cX11_matchesFrom 0 = .ok (.iload_n 3, 1) := by decide +kernel
theorem dX11_matchesFrom_1 : decode cX11_matchesFrom 1 = .ok (.aload_n 0, 1) := by decide +kernel
theorem dX11_matchesFrom_2 : decode cX11_matchesFrom 2 = .ok (.getfield 94, 3) := by decide +kernel
theorem dX11_matchesFrom_5 : decode cX11_matchesFrom 5 = .ok (.iload_n 1, 1) := by decide +kernel
theorem dX11_matchesFrom_6 : decode cX11_matchesFrom 6 = .ok (.iaload, 1) := by decide +kernel
theorem dX11_matchesFrom_7 : decode cX11_matchesFrom 7 = .ok (.iadd, 1) := by decide +kernel
theorem dX11_matchesFrom_8 : decode cX11_matchesFrom 8 = .ok (.aload_n 0, 1) := by decide +kernel
theorem dX11_matchesFrom_9 : decode cX11_matchesFrom 9 = .ok (.getfield 345, 3) := by decide +kernel
theorem dX11_matchesFrom_12 : decode cX11_matchesFrom 12 = .ok (.if_icmp .gt 4, 3) := by decide +kernel
theorem dX11_matchesFrom_15 : decode cX11_matchesFrom 15 = .ok (.return_, 1) := by decide +kernel
theorem dX11_matchesFrom_16 : decode cX11_matchesFrom 16 = .ok (.iload_n 1, 1) := by decide +kernel
theorem dX11_matchesFrom_17 : decode cX11_matchesFrom 17 = .ok (.aload_n 0, 1) := by decide +kernel
theorem dX11_matchesFrom_18 : decode cX11_matchesFrom 18 = .ok (.getfield 23, 3) := by decide +kernel
theorem dX11_matchesFrom_21 : decode cX11_matchesFrom 21 = .ok (.iconst 2, 1) := by decide +kernel
theorem dX11_matchesFrom_22 : decode cX11_matchesFrom 22 = .ok (.iaload, 1) := by decide +kernel
theorem dX11_matchesFrom_23 : decode cX11_matchesFrom 23 = .ok (.if_icmp .ne 38, 3) := by decide +kernel
theorem dX11_matchesFrom_26 : decode cX11_matchesFrom 26 = .ok (.aload_n 0, 1) := by decide +kernel
theorem dX11_matchesFrom_27 : decode cX11_matchesFrom 27 = .ok (.iload_n 3, 1) := by decide +kernel
theorem dX11_matchesFrom_28 : decode cX11_matchesFrom 28 = .ok (.putfield 345, 3) := by decide +kernel
theorem dX11_matchesFrom_31 : decode cX11_matchesFrom 31 = .ok (.iconst 0, 1) := by decide +kernel
theorem dX11_matchesFrom_32 : decode cX11_matchesFrom 32 = .ok (.istore 4, 2) := by decide +kernel
theorem dX11_matchesFrom_34 : decode cX11_matchesFrom 34 = .ok (.iload 4, 2) := by decide +kernel
theorem dX11_matchesFrom_36 : decode cX11_matchesFrom 36 = .ok (.iload_n 1, 1) := by decide +kernel
theorem dX11_matchesFrom_37 : decode cX11_matchesFrom 37 = .ok (.if_icmp .ge 23, 3) := by decide +kernel
theorem dX11_matchesFrom_40 : decode cX11_matchesFrom 40 = .ok (.aload_n 0, 1) := by decide +kernel
theorem dX11_matchesFrom_41 : decode cX11_matchesFrom 41 = .ok (.getfield 88, 3) := by decide +kernel
theorem dX11_matchesFrom_44 : decode cX11_matchesFrom 44 = .ok (.iload 4, 2) := by decide +kernel
theorem dX11_matchesFrom_46 : decode cX11_matchesFrom 46 = .ok (.aload_n 0, 1) := by decide +kernel
theorem dX11_matchesFrom_47 : decode cX11_matchesFrom 47 = .ok (.getfield 85, 3) := by decide +kernel
theorem dX11_matchesFrom_50 : decode cX11_matchesFrom 50 = .ok (.iload 4, 2) := by decide +kernel
theorem dX11_matchesFrom_52 : decode cX11_matchesFrom 52 = .ok (.iaload, 1) := by decide +kernel
theorem dX11_matchesFrom_53 : decode cX11_matchesFrom 53 = .ok (.iastore, 1) := by decide +kernel
theorem dX11_matchesFrom_54 : decode cX11_matchesFrom 54 = .ok (.iinc 4 1, 3) := by decide +kernel
theorem dX11_matchesFrom_57 : decode cX11_matchesFrom 57 = .ok (.goto (-23), 3) := by decide +kernel
theorem dX11_matchesFrom_60 : decode cX11_matchesFrom 60 = .ok (.return_, 1) := by decide +kernel
theorem dX11_matchesFrom_61 : decode cX11_matchesFrom 61 = .ok (.iconst 0, 1) := by decide +kernel
theorem dX11_matchesFrom_62 : decode cX11_matchesFrom 62 = .ok (.istore 4, 2) := by decide +kernel
theorem dX11_matchesFrom_64 : decode cX11_matchesFrom 64 = .ok (.iload 4, 2) := by decide +kernel
theorem dX11_matchesFrom_66 : decode cX11_matchesFrom 66 = .ok (.aload_n 0, 1) := by decide +kernel
theorem dX11_matchesFrom_67 : decode cX11_matchesFrom 67 = .ok (.getfield 23, 3) := by decide +kernel
theorem dX11_matchesFrom_70 : decode cX11_matchesFrom 70 = .ok (.iconst 1, 1) := by decide +kernel
theorem dX11_matchesFrom_71 : decode cX11_matchesFrom 71 = .ok (.iaload, 1) := by decide +kernel
theorem dX11_matchesFrom_72 : decode cX11_matchesFrom 72 = .ok (.if_icmp .ge 59, 3) := by decide +kernel
theorem dX11_matchesFrom_75 : decode cX11_matchesFrom 75 = .ok (.iload_n 2, 1) := by decide +kernel
theorem dX11_matchesFrom_76 : decode cX11_matchesFrom 76 = .ok (.iload 4, 2) := by decide +kernel
theorem dX11_matchesFrom_78 : decode cX11_matchesFrom 78 = .ok (.invokestatic 263, 3) := by decide +kernel
theorem dX11_matchesFrom_81 : decode cX11_matchesFrom 81 = .ok (.ifCond .ne 44, 3) := by decide +kernel
theorem dX11_matchesFrom_84 : decode cX11_matchesFrom 84 = .ok (.aload_n 0, 1) := by decide +kernel
theorem dX11_matchesFrom_85 : decode cX11_matchesFrom 85 = .ok (.getfield 91, 3) := by decide +kernel
theorem dX11_matchesFrom_88 : decode cX11_matchesFrom 88 = .ok (.iload_n 1, 1) := by decide +kernel
theorem dX11_matchesFrom_89 : decode cX11_matchesFrom 89 = .ok (.iaload, 1) := by decide +kernel
theorem dX11_matchesFrom_90 : decode cX11_matchesFrom 90 = .ok (.iload 4, 2) := by decide +kernel
theorem dX11_matchesFrom_92 : decode cX11_matchesFrom 92 = .ok (.invokestatic 263, 3) := by decide +kernel
theorem dX11_matchesFrom_95 : decode cX11_matchesFrom 95 = .ok (.ifCond .ne 6, 3) := by decide +kernel
theorem dX11_matchesFrom_98 : decode cX11_matchesFrom 98 = .ok (.goto 27, 3) := by decide +kernel
theorem dX11_matchesFrom_101 : decode cX11_matchesFrom 101 = .ok (.aload_n 0, 1) := by decide +kernel
theorem dX11_matchesFrom_102 : decode cX11_matchesFrom 102 = .ok (.getfield 85, 3) := by decide +kernel
theorem dX11_matchesFrom_105 : decode cX11_matchesFrom 105 = .ok (.iload_n 1, 1) := by decide +kernel
theorem dX11_matchesFrom_106 : decode cX11_matchesFrom 106 = .ok (.iload 4, 2) := by decide +kernel
theorem dX11_matchesFrom_108 : decode cX11_matchesFrom 108 = .ok (.iastore, 1) := by decide +kernel
theorem dX11_matchesFrom_109 : decode cX11_matchesFrom 109 = .ok (.aload_n 0, 1) := by decide +kernel
theorem dX11_matchesFrom_110 : decode cX11_matchesFrom 110 = .ok (.iload_n 1, 1) := by decide +kernel
theorem dX11_matchesFrom_111 : decode cX11_matchesFrom 111 = .ok (.iconst 1, 1) := by decide +kernel
theorem dX11_matchesFrom_112 : decode cX11_matchesFrom 112 = .ok (.iadd, 1) := by decide +kernel
theorem dX11_matchesFrom_113 : decode cX11_matchesFrom 113 = .ok (.iload_n 2, 1) := by decide +kernel
theorem dX11_matchesFrom_114 : decode cX11_matchesFrom 114 = .ok (.iconst 1, 1) := by decide +kernel
theorem dX11_matchesFrom_115 : decode cX11_matchesFrom 115 = .ok (.iload 4, 2) := by decide +kernel
theorem dX11_matchesFrom_117 : decode cX11_matchesFrom 117 = .ok (.ishl, 1) := by decide +kernel
theorem dX11_matchesFrom_118 : decode cX11_matchesFrom 118 = .ok (.ior, 1) := by decide +kernel
theorem dX11_matchesFrom_119 : decode cX11_matchesFrom 119 = .ok (.iload_n 3, 1) := by decide +kernel
theorem dX11_matchesFrom_120 : decode cX11_matchesFrom 120 = .ok (.iconst 1, 1) := by decide +kernel
theorem dX11_matchesFrom_121 : decode cX11_matchesFrom 121 = .ok (.iadd, 1) := by decide +kernel
theorem dX11_matchesFrom_122 : decode cX11_matchesFrom 122 = .ok (.invokevirtual 348, 3) := by decide +kernel
theorem dX11_matchesFrom_125 : decode cX11_matchesFrom 125 = .ok (.iinc 4 1, 3) := by decide +kernel
theorem dX11_matchesFrom_128 : decode cX11_matchesFrom 128 = .ok (.goto (-64), 3) := by decide +kernel
theorem dX11_matchesFrom_131 : decode cX11_matchesFrom 131 = .ok (.aload_n 0, 1) := by decide +kernel
theorem dX11_matchesFrom_132 : decode cX11_matchesFrom 132 = .ok (.getfield 85, 3) := by decide +kernel
theorem dX11_matchesFrom_135 : decode cX11_matchesFrom 135 = .ok (.iload_n 1, 1) := by decide +kernel
theorem dX11_matchesFrom_136 : decode cX11_matchesFrom 136 = .ok (.iconst (-1), 1) := by decide +kernel
theorem dX11_matchesFrom_137 : decode cX11_matchesFrom 137 = .ok (.iastore, 1) := by decide +kernel
theorem dX11_matchesFrom_138 : decode cX11_matchesFrom 138 = .ok (.aload_n 0, 1) := by decide +kernel
theorem dX11_matchesFrom_139 : decode cX11_matchesFrom 139 = .ok (.iload_n 1, 1) := by decide +kernel
theorem dX11_matchesFrom_140 : decode cX11_matchesFrom 140 = .ok (.iconst 1, 1) := by decide +kernel
theorem dX11_matchesFrom_141 : decode cX11_matchesFrom 141 = .ok (.iadd, 1) := by decide +kernel
theorem dX11_matchesFrom_142 : decode cX11_matchesFrom 142 = .ok (.iload_n 2, 1) := by decide +kernel
theorem dX11_matchesFrom_143 : decode cX11_matchesFrom 143 = .ok (.iload_n 3, 1) := by decide +kernel
theorem dX11_matchesFrom_144 : decode cX11_matchesFrom 144 = .ok (.invokevirtual 348, 3) := by decide +kernel
theorem dX11_matchesFrom_147 : decode cX11_matchesFrom 147 = .ok (.return_, 1) := by decide +kernel
theorem dX11_matches_0 : decode cX11_matches 0 = .ok (.aload_n 0, 1) := by decide +kernel
theorem dX11_matches_1 : decode cX11_matches 1 = .ok (.getfield 94, 3) := by decide +kernel
theorem dX11_matches_4 : decode cX11_matches 4 = .ok (.aload_n 0, 1) := by decide +kernel
theorem dX11_matches_5 : decode cX11_matches 5 = .ok (.getfield 23, 3) := by decide +kernel
theorem dX11_matches_8 : decode cX11_matches 8 = .ok (.iconst 2, 1) := by decide +kernel
theorem dX11_matches_9 : decode cX11_matches 9 = .ok (.iaload, 1) := by decide +kernel
theorem dX11_matches_10 : decode cX11_matches 10 = .ok (.iconst 0, 1) := by decide +kernel
theorem dX11_matches_11 : decode cX11_matches 11 = .ok (.iastore, 1) := by decide +kernel
theorem dX11_matches_12 : decode cX11_matches 12 = .ok (.aload_n 0, 1) := by decide +kernel
theorem dX11_matches_13 : decode cX11_matches 13 = .ok (.getfield 23, 3) := by decide +kernel
theorem dX11_matches_16 : decode cX11_matches 16 = .ok (.iconst 2, 1) := by decide +kernel
theorem dX11_matches_17 : decode cX11_matches 17 = .ok (.iaload, 1) := by decide +kernel
theorem dX11_matches_18 : decode cX11_matches 18 = .ok (.iconst 1, 1) := by decide +kernel
theorem dX11_matches_19 : decode cX11_matches 19 = .ok (.isub, 1) := by decide +kernel
theorem dX11_matches_20 : decode cX11_matches 20 = .ok (.istore_n 1, 1) := by decide +kernel
theorem dX11_matches_21 : decode cX11_matches 21 = .ok (.iload_n 1, 1) := by decide +kernel
theorem dX11_matches_22 : decode cX11_matches 22 = .ok (.ifCond .lt 92, 3) := by decide +kernel
theorem dX11_matches_25 : decode cX11_matches 25 = .ok (.aload_n 0, 1) := by decide +kernel
theorem dX11_matches_26 : decode cX11_matches 26 = .ok (.getfield 91, 3) := by decide +kernel
theorem dX11_matches_29 : decode cX11_matches 29 = .ok (.iload_n 1, 1) := by decide +kernel
theorem dX11_matches_30 : decode cX11_matches 30 = .ok (.iconst 0, 1) := by decide +kernel
theorem dX11_matches_31 : decode cX11_matches 31 = .ok (.iastore, 1) := by decide +kernel
theorem dX11_matches_32 : decode cX11_matches 32 = .ok (.iconst 0, 1) := by decide +kernel
theorem dX11_matches_33 : decode cX11_matches 33 = .ok (.istore_n 2, 1) := by decide +kernel
theorem dX11_matches_34 : decode cX11_matches 34 = .ok (.iload_n 2, 1) := by decide +kernel
theorem dX11_matches_35 : decode cX11_matches 35 = .ok (.aload_n 0, 1) := by decide +kernel
theorem dX11_matches_36 : decode cX11_matches 36 = .ok (.getfield 23, 3) := by decide +kernel
theorem dX11_matches_39 : decode cX11_matches 39 = .ok (.iconst 1, 1) := by decide +kernel
theorem dX11_matches_40 : decode cX11_matches 40 = .ok (.iaload, 1) := by decide +kernel
theorem dX11_matches_41 : decode cX11_matches 41 = .ok (.if_icmp .ge 38, 3) := by decide +kernel
theorem dX11_matches_44 : decode cX11_matches 44 = .ok (.aload_n 0, 1) := by decide +kernel
theorem dX11_matches_45 : decode cX11_matches 45 = .ok (.getfield 91, 3) := by decide +kernel
theorem dX11_matches_48 : decode cX11_matches 48 = .ok (.iload_n 1, 1) := by decide +kernel
theorem dX11_matches_49 : decode cX11_matches 49 = .ok (.dup2, 1) := by decide +kernel
theorem dX11_matches_50 : decode cX11_matches 50 = .ok (.iaload, 1) := by decide +kernel
theorem dX11_matches_51 : decode cX11_matches 51 = .ok (.aload_n 0, 1) := by decide +kernel
theorem dX11_matches_52 : decode cX11_matches 52 = .ok (.aload_n 0, 1) := by decide +kernel
theorem dX11_matches_53 : decode cX11_matches 53 = .ok (.getfield 73, 3) := by decide +kernel
theorem dX11_matches_56 : decode cX11_matches 56 = .ok (.iload_n 2, 1) := by decide +kernel
theorem dX11_matches_57 : decode cX11_matches 57 = .ok (.iload_n 1, 1) := by decide +kernel
theorem dX11_matches_58 : decode cX11_matches 58 = .ok (.invokevirtual 299, 3) := by decide +kernel
theorem dX11_matches_61 : decode cX11_matches 61 = .ok (.ifCond .eq 9, 3) := by decide +kernel
theorem dX11_matches_64 : decode cX11_matches 64 = .ok (.iconst 1, 1) := by decide +kernel
theorem dX11_matches_65 : decode cX11_matches 65 = .ok (.iload_n 2, 1) := by decide +kernel
theorem dX11_matches_66 : decode cX11_matches 66 = .ok (.ishl, 1) := by decide +kernel
theorem dX11_matches_67 : decode cX11_matches 67 = .ok (.goto 4, 3) := by decide +kernel
theorem dX11_matches_70 : decode cX11_matches 70 = .ok (.iconst 0, 1) := by decide +kernel
theorem dX11_matches_71 : decode cX11_matches 71 = .ok (.ior, 1) := by decide +kernel
theorem dX11_matches_72 : decode cX11_matches 72 = .ok (.iastore, 1) := by decide +kernel
theorem dX11_matches_73 : decode cX11_matches 73 = .ok (.iinc 2 1, 3) := by decide +kernel
theorem dX11_matches_76 : decode cX11_matches 76 = .ok (.goto (-42), 3) := by decide +kernel
theorem dX11_matches_79 : decode cX11_matches 79 = .ok (.aload_n 0, 1) := by decide +kernel
theorem dX11_matches_80 : decode cX11_matches 80 = .ok (.getfield 94, 3) := by decide +kernel
theorem dX11_matches_83 : decode cX11_matches 83 = .ok (.iload_n 1, 1) := by decide +kernel
theorem dX11_matches_84 : decode cX11_matches 84 = .ok (.aload_n 0, 1) := by decide +kernel
theorem dX11_matches_85 : decode cX11_matches 85 = .ok (.getfield 94, 3) := by decide +kernel
theorem dX11_matches_88 : decode cX11_matches 88 = .ok (.iload_n 1, 1) := by decide +kernel
theorem dX11_matches_89 : decode cX11_matches 89 = .ok (.iconst 1, 1) := by decide +kernel
theorem dX11_matches_90 : decode cX11_matches 90 = .ok (.iadd, 1) := by decide +kernel
theorem dX11_matches_91 : decode cX11_matches 91 = .ok (.iaload, 1) := by decide +kernel
theorem dX11_matches_92 : decode cX11_matches 92 = .ok (.aload_n 0, 1) := by decide +kernel
theorem dX11_matches_93 : decode cX11_matches 93 = .ok (.getfield 91, 3) := by decide +kernel
theorem dX11_matches_96 : decode cX11_matches 96 = .ok (.iload_n 1, 1) := by decide +kernel
theorem dX11_matches_97 : decode cX11_matches 97 = .ok (.iaload, 1) := by decide +kernel
theorem dX11_matches_98 : decode cX11_matches 98 = .ok (.ifCond .ne 7, 3) := by decide +kernel
theorem dX11_matches_101 : decode cX11_matches 101 = .ok (.iconst 0, 1) := by decide +kernel
theorem dX11_matches_102 : decode cX11_matches 102 = .ok (.goto 4, 3) := by decide +kernel
theorem dX11_matches_105 : decode cX11_matches 105 = .ok (.iconst 1, 1) := by decide +kernel
theorem dX11_matches_106 : decode cX11_matches 106 = .ok (.iadd, 1) := by decide +kernel
theorem dX11_matches_107 : decode cX11_matches 107 = .ok (.iastore, 1) := by decide +kernel
theorem dX11_matches_108 : decode cX11_matches 108 = .ok (.iinc 1 (-1), 3) := by decide +kernel
theorem dX11_matches_111 : decode cX11_matches 111 = .ok (.goto (-90), 3) := by decide +kernel
theorem dX11_matches_114 : decode cX11_matches 114 = .ok (.aload_n 0, 1) := by decide +kernel
theorem dX11_matches_115 : decode cX11_matches 115 = .ok (.iconst (-1), 1) := by decide +kernel
theorem dX11_matches_116 : decode cX11_matches 116 = .ok (.putfield 345, 3) := by decide +kernel
theorem dX11_matches_119 : decode cX11_matches 119 = .ok (.aload_n 0, 1) := by decide +kernel
theorem dX11_matches_120 : decode cX11_matches 120 = .ok (.iconst 0, 1) := by decide +kernel
