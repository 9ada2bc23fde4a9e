theorem dX10_feed_0 : decode cX10_feed 0 = .ok (.aload_n 0, 1) := by decide +kernel
theorem dX10_feed_1 : decode cX10_feed 1 = .ok (.getfield 10, 3) := by decide +kernel
theorem dX10_feed_4 : decode cX10_feed 4 = .ok (.invokevirtual 99, 3) := by decide +kernel
theorem dX10_feed_7 : decode cX10_feed 7 = .ok (.ifCond .ne 5, 3) := by decide +kernel
theorem dX10_feed_10 : decode cX10_feed 10 = .ok (.iconst (-1), 1) := by decide +kernel
theorem dX10_feed_11 : decode cX10_feed 11 = .ok (.ireturn, 1) := by decide +kernel
theorem dX10_feed_12 : decode cX10_feed 12 = .ok (.aload_n 0, 1) := by decide +kernel
theorem dX10_feed_13 : decode cX10_feed 13 = .ok (.getfield 10, 3) := by decide +kernel
theorem dX10_feed_16 : decode cX10_feed 16 = .ok (.iload_n 1, 1) := by decide +kernel
theorem dX10_feed_17 : decode cX10_feed 17 = .ok (.invokevirtual 103, 3) := by decide +kernel
theorem dX10_feed_20 : decode cX10_feed 20 = .ok (.aload_n 0, 1) := by decide +kernel
theorem dX10_feed_21 : decode cX10_feed 21 = .ok (.getfield 10, 3) := by decide +kernel
theorem dX10_feed_24 : decode cX10_feed 24 = .ok (.iload_n 2, 1) := by decide +kernel
theorem dX10_feed_25 : decode cX10_feed 25 = .ok (.invokevirtual 103, 3) := by decide +kernel
theorem dX10_feed_28 : decode cX10_feed 28 = .ok (.aload_n 0, 1) := by decide +kernel
theorem dX10_feed_29 : decode cX10_feed 29 = .ok (.getfield 10, 3) := by decide +kernel
theorem dX10_feed_32 : decode cX10_feed 32 = .ok (.iload_n 3, 1) := by decide +kernel
theorem dX10_feed_33 : decode cX10_feed 33 = .ok (.invokevirtual 103, 3) := by decide +kernel
theorem dX10_feed_36 : decode cX10_feed 36 = .ok (.aload_n 0, 1) := by decide +kernel
theorem dX10_feed_37 : decode cX10_feed 37 = .ok (.getfield 10, 3) := by decide +kernel
theorem dX10_feed_40 : decode cX10_feed 40 = .ok (.iload 4, 2) := by decide +kernel
theorem dX10_feed_42 : decode cX10_feed 42 = .ok (.invokevirtual 103, 3) := by decide +kernel
theorem dX10_feed_45 : decode cX10_feed 45 = .ok (.aload_n 0, 1) := by decide +kernel
theorem dX10_feed_46 : decode cX10_feed 46 = .ok (.getfield 10, 3) := by decide +kernel
theorem dX10_feed_49 : decode cX10_feed 49 = .ok (.iload 5, 2) := by decide +kernel
theorem dX10_feed_51 : decode cX10_feed 51 = .ok (.invokevirtual 103, 3) := by decide +kernel
theorem dX10_feed_54 : decode cX10_feed 54 = .ok (.aload_n 0, 1) := by decide +kernel
theorem dX10_feed_55 : decode cX10_feed 55 = .ok (.getfield 10, 3) := by decide +kernel
theorem dX10_feed_58 : decode cX10_feed 58 = .ok (.getfield 107, 3) := by decide +kernel
theorem dX10_feed_61 : decode cX10_feed 61 = .ok (.ireturn, 1) := by decide +kernel
theorem dX10_house_0 : decode cX10_house 0 = .ok (.aload_n 0, 1) := by decide +kernel
theorem dX10_house_1 : decode cX10_house 1 = .ok (.iload_n 1, 1) := by decide +kernel
theorem dX10_house_2 : decode cX10_house 2 = .ok (.sipush 600, 3) := by decide +kernel
theorem dX10_house_5 : decode cX10_house 5 = .ok (.invokevirtual 111, 3) := by decide +kernel
theorem dX10_house_8 : decode cX10_house 8 = .ok (.aload_n 0, 1) := by decide +kernel
theorem dX10_house_9 : decode cX10_house 9 = .ok (.getfield 90, 3) := by decide +kernel
theorem dX10_house_12 : decode cX10_house 12 = .ok (.aload_n 0, 1) := by decide +kernel
theorem dX10_house_13 : decode cX10_house 13 = .ok (.getfield 10, 3) := by decide +kernel
theorem dX10_house_16 : decode cX10_house 16 = .ok (.invokevirtual 114, 3) := by decide +kernel
theorem dX10_house_19 : decode cX10_house 19 = .ok (.aload_n 0, 1) := by decide +kernel
theorem dX10_house_20 : decode cX10_house 20 = .ok (.getfield 10, 3) := by decide +kernel
theorem dX10_house_23 : decode cX10_house 23 = .ok (.invokevirtual 118, 3) := by decide +kernel
theorem dX10_house_26 : decode cX10_house 26 = .ok (.ifCond .ne 14, 3) := by decide +kernel
theorem dX10_house_29 : decode cX10_house 29 = .ok (.aload_n 0, 1) := by decide +kernel
theorem dX10_house_30 : decode cX10_house 30 = .ok (.getfield 10, 3) := by decide +kernel
theorem dX10_house_33 : decode cX10_house 33 = .ok (.getfield 121, 3) := by decide +kernel
theorem dX10_house_36 : decode cX10_house 36 = .ok (.bipush 10, 2) := by decide +kernel
theorem dX10_house_38 : decode cX10_house 38 = .ok (.isub, 1) := by decide +kernel
theorem dX10_house_39 : decode cX10_house 39 = .ok (.ireturn, 1) := by decide +kernel
theorem dX10_house_40 : decode cX10_house 40 = .ok (.aload_n 0, 1) := by decide +kernel
theorem dX10_house_41 : decode cX10_house 41 = .ok (.getfield 27, 3) := by decide +kernel
theorem dX10_house_44 : decode cX10_house 44 = .ok (.getfield 54, 3) := by decide +kernel
theorem dX10_house_47 : decode cX10_house 47 = .ok (.astore_n 2, 1) := by decide +kernel
theorem dX10_house_48 : decode cX10_house 48 = .ok (.aload_n 0, 1) := by decide +kernel
theorem dX10_house_49 : decode cX10_house 49 = .ok (.getfield 27, 3) := by decide +kernel
theorem dX10_house_52 : decode cX10_house 52 = .ok (.aload_n 0, 1) := by decide +kernel
theorem dX10_house_53 : decode cX10_house 53 = .ok (.getfield 90, 3) := by decide +kernel
theorem dX10_house_56 : decode cX10_house 56 = .ok (.putfield 54, 3) := by decide +kernel
theorem dX10_house_59 : decode cX10_house 59 = .ok (.aload_n 0, 1) := by decide +kernel
theorem dX10_house_60 : decode cX10_house 60 = .ok (.aload_n 2, 1) := by decide +kernel
theorem dX10_house_61 : decode cX10_house 61 = .ok (.putfield 90, 3) := by decide +kernel
theorem dX10_house_64 : decode cX10_house 64 = .ok (.aload_n 0, 1) := by decide +kernel
theorem dX10_house_65 : decode cX10_house 65 = .ok (.getfield 27, 3) := by decide +kernel
theorem dX10_house_68 : decode cX10_house 68 = .ok (.invokevirtual 124, 3) := by decide +kernel
theorem dX10_house_71 : decode cX10_house 71 = .ok (.aload_n 0, 1) := by decide +kernel
theorem dX10_house_72 : decode cX10_house 72 = .ok (.getfield 86, 3) := by decide +kernel
theorem dX10_house_75 : decode cX10_house 75 = .ok (.invokevirtual 127, 3) := by decide +kernel
theorem dX10_house_78 : decode cX10_house 78 = .ok (.aload_n 0, 1) := by decide +kernel
theorem dX10_house_79 : decode cX10_house 79 = .ok (.getfield 72, 3) := by decide +kernel
theorem dX10_house_82 : decode cX10_house 82 = .ok (.iconst 0, 1) := by decide +kernel
theorem dX10_house_83 : decode cX10_house 83 = .ok (.putfield 130, 3) := by decide +kernel
theorem dX10_house_86 : decode cX10_house 86 = .ok (.aload_n 0, 1) := by decide +kernel
theorem dX10_house_87 : decode cX10_house 87 = .ok (.getfield 76, 3) := by decide +kernel
theorem dX10_house_90 : decode cX10_house 90 = .ok (.iconst 0, 1) := by decide +kernel
theorem dX10_house_91 : decode cX10_house 91 = .ok (.putfield 130, 3) := by decide +kernel
theorem dX10_house_94 : decode cX10_house 94 = .ok (.aload_n 0, 1) := by decide +kernel
theorem dX10_house_95 : decode cX10_house 95 = .ok (.iconst 0, 1) := by decide +kernel
theorem dX10_house_96 : decode cX10_house 96 = .ok (.putfield 133, 3) := by decide +kernel
theorem dX10_house_99 : decode cX10_house 99 = .ok (.aload_n 0, 1) := by decide +kernel
theorem dX10_house_100 : decode cX10_house 100 = .ok (.getfield 27, 3) := by decide +kernel
theorem dX10_house_103 : decode cX10_house 103 = .ok (.getfield 54, 3) := by decide +kernel
theorem dX10_house_106 : decode cX10_house 106 = .ok (.getfield 136, 3) := by decide +kernel
theorem dX10_house_109 : decode cX10_house 109 = .ok (.ireturn, 1) := by decide +kernel
theorem dX10_law_0 : decode cX10_law 0 = .ok (.aload_n 0, 1) := by decide +kernel
theorem dX10_law_1 : decode cX10_law 1 = .ok (.iload_n 1, 1) := by decide +kernel
theorem dX10_law_2 : decode cX10_law 2 = .ok (.sipush 150, 3) := by decide +kernel
theorem dX10_law_5 : decode cX10_law 5 = .ok (.invokevirtual 111, 3) := by decide +kernel
theorem dX10_law_8 : decode cX10_law 8 = .ok (.aload_n 0, 1) := by decide +kernel
theorem dX10_law_9 : decode cX10_law 9 = .ok (.getfield 93, 3) := by decide +kernel
theorem dX10_law_12 : decode cX10_law 12 = .ok (.aload_n 0, 1) := by decide +kernel
theorem dX10_law_13 : decode cX10_law 13 = .ok (.getfield 10, 3) := by decide +kernel
theorem dX10_law_16 : decode cX10_law 16 = .ok (.invokevirtual 139, 3) := by decide +kernel
theorem dX10_law_19 : decode cX10_law 19 = .ok (.aload_n 0, 1) := by decide +kernel
theorem dX10_law_20 : decode cX10_law 20 = .ok (.getfield 10, 3) := by decide +kernel
theorem dX10_law_23 : decode cX10_law 23 = .ok (.invokevirtual 118, 3) := by decide +kernel
theorem dX10_law_26 : decode cX10_law 26 = .ok (.ifCond .ne 14, 3) := by decide +kernel
theorem dX10_law_29 : decode cX10_law 29 = .ok (.aload_n 0, 1) := by decide +kernel
theorem dX10_law_30 : decode cX10_law 30 = .ok (.getfield 10, 3) := by decide +kernel
theorem dX10_law_33 : decode cX10_law 33 = .ok (.getfield 121, 3) := by decide +kernel
theorem dX10_law_36 : decode cX10_law 36 = .ok (.bipush 10, 2) := by decide +kernel
theorem dX10_law_38 : decode cX10_law 38 = .ok (.isub, 1) := by decide +kernel
theorem dX10_law_39 : decode cX10_law 39 = .ok (.ireturn, 1) := by decide +kernel
theorem dX10_law_40 : decode cX10_law 40 = .ok (.aload_n 0, 1) := by decide +kernel
theorem dX10_law_41 : decode cX10_law 41 = .ok (.getfield 27, 3) := by decide +kernel
theorem dX10_law_44 : decode cX10_law 44 = .ok (.getfield 58, 3) := by decide +kernel
theorem dX10_law_47 : decode cX10_law 47 = .ok (.astore_n 2, 1) := by decide +kernel
theorem dX10_law_48 : decode cX10_law 48 = .ok (.aload_n 0, 1) := by decide +kernel
theorem dX10_law_49 : decode cX10_law 49 = .ok (.getfield 27, 3) := by decide +kernel
theorem dX10_law_52 : decode cX10_law 52 = .ok (.aload_n 0, 1) := by decide +kernel
theorem dX10_law_53 : decode cX10_law 53 = .ok (.getfield 93, 3) := by decide +kernel
theorem dX10_law_56 : decode cX10_law 56 = .ok (.putfield 58, 3) := by decide +kernel
theorem dX10_law_59 : decode cX10_law 59 = .ok (.aload_n 0, 1) := by decide +kernel
theorem dX10_law_60 : decode cX10_law 60 = .ok (.aload_n 2, 1) := by decide +kernel
theorem dX10_law_61 : decode cX10_law 61 = .ok (.putfield 93, 3) := by decide +kernel
theorem dX10_law_64 : decode cX10_law 64 = .ok (.iconst 1, 1) := by decide +kernel
theorem dX10_law_65 : decode cX10_law 65 = .ok (.ireturn, 1) := by decide +kernel
theorem dX10_work_0 : decode cX10_work 0 = .ok (.aload_n 0, 1) := by decide +kernel
theorem dX10_work_1 : decode cX10_work 1 = .ok (.iload_n 1, 1) := by decide +kernel
theorem dX10_work_2 : decode cX10_work 2 = .ok (.sipush 150, 3) := by decide +kernel
theorem dX10_work_5 : decode cX10_work 5 = .ok (.invokevirtual 111, 3) := by decide +kernel
theorem dX10_work_8 : decode cX10_work 8 = .ok (.aload_n 0, 1) := by decide +kernel
theorem dX10_work_9 : decode cX10_work 9 = .ok (.getfield 72, 3) := by decide +kernel
theorem dX10_work_12 : decode cX10_work 12 = .ok (.invokevirtual 140, 3) := by decide +kernel
theorem dX10_work_15 : decode cX10_work 15 = .ok (.ifCond .eq 6, 3) := by decide +kernel
theorem dX10_work_18 : decode cX10_work 18 = .ok (.bipush (-20), 2) := by decide +kernel
theorem dX10_work_20 : decode cX10_work 20 = .ok (.ireturn, 1) := by decide +kernel
theorem dX10_work_21 : decode cX10_work 21 = .ok (.aload_n 0, 1) := by decide +kernel
theorem dX10_work_22 : decode cX10_work 22 = .ok (.getfield 34, 3) := by decide +kernel
theorem dX10_work_25 : decode cX10_work 25 = .ok (.aload_n 0, 1) := by decide +kernel
theorem dX10_work_26 : decode cX10_work 26 = .ok (.getfield 10, 3) := by decide +kernel
theorem dX10_work_29 : decode cX10_work 29 = .ok (.aload_n 0, 1) := by decide +kernel
theorem dX10_work_30 : decode cX10_work 30 = .ok (.getfield 27, 3) := by decide +kernel
theorem dX10_work_33 : decode cX10_work 33 = .ok (.getfield 54, 3) := by decide +kernel
theorem dX10_work_36 : decode cX10_work 36 = .ok (.invokevirtual 143, 3) := by decide +kernel
theorem dX10_work_39 : decode cX10_work 39 = .ok (.aload_n 0, 1) := by decide +kernel
theorem dX10_work_40 : decode cX10_work 40 = .ok (.getfield 10, 3) := by decide +kernel
theorem dX10_work_43 : decode cX10_work 43 = .ok (.invokevirtual 118, 3) := by decide +kernel
theorem dX10_work_46 : decode cX10_work 46 = .ok (.ifCond .ne 14, 3) := by decide +kernel
theorem dX10_work_49 : decode cX10_work 49 = .ok (.aload_n 0, 1) := by decide +kernel
theorem dX10_work_50 : decode cX10_work 50 = .ok (.getfield 10, 3) := by decide +kernel
theorem dX10_work_53 : decode cX10_work 53 = .ok (.getfield 121, 3) := by decide +kernel
theorem dX10_work_56 : decode cX10_work 56 = .ok (.bipush 10, 2) := by decide +kernel
theorem dX10_work_58 : decode cX10_work 58 = .ok (.isub, 1) := by decide +kernel
theorem dX10_work_59 : decode cX10_work 59 = .ok (.ireturn, 1) := by decide +kernel
theorem dX10_work_60 : decode cX10_work 60 = .ok (.aload_n 0, 1) := by decide +kernel
theorem dX10_work_61 : decode cX10_work 61 = .ok (.getfield 72, 3) := by decide +kernel
theorem dX10_work_64 : decode cX10_work 64 = .ok (.aload_n 0, 1) := by decide +kernel
theorem dX10_work_65 : decode cX10_work 65 = .ok (.getfield 27, 3) := by decide +kernel
theorem dX10_work_68 : decode cX10_work 68 = .ok (.getfield 146, 3) := by decide +kernel
theorem dX10_work_71 : decode cX10_work 71 = .ok (.invokevirtual 150, 3) := by decide +kernel
theorem dX10_work_74 : decode cX10_work 74 = .ok (.aload_n 0, 1) := by decide +kernel
theorem dX10_work_75 : decode cX10_work 75 = .ok (.getfield 34, 3) := by decide +kernel
theorem dX10_work_78 : decode cX10_work 78 = .ok (.aload_n 0, 1) := by decide +kernel
theorem dX10_work_79 : decode cX10_work 79 = .ok (.getfield 27, 3) := by decide +kernel
theorem dX10_work_82 : decode cX10_work 82 = .ok (.iconst 0, 1) := by decide +kernel
theorem dX10_work_83 : decode cX10_work 83 = .ok (.aload_n 0, 1) := by decide +kernel
theorem dX10_work_84 : decode cX10_work 84 = .ok (.getfield 34, 3) := by decide +kernel
theorem dX10_work_87 : decode cX10_work 87 = .ok (.getfield 154, 3) := by decide +kernel
theorem dX10_work_90 : decode cX10_work 90 = .ok (.iconst 0, 1) := by decide +kernel
theorem dX10_work_91 : decode cX10_work 91 = .ok (.invokevirtual 157, 3) := by decide +kernel
theorem dX10_work_94 : decode cX10_work 94 = .ok (.aload_n 0, 1) := by decide +kernel
theorem dX10_work_95 : decode cX10_work 95 = .ok (.aload_n 0, 1) := by decide +kernel
theorem dX10_work_96 : decode cX10_work 96 = .ok (.getfield 34, 3) := by decide +kernel
theorem dX10_work_99 : decode cX10_work 99 = .ok (.getfield 161, 3) := by decide +kernel
theorem dX10_work_102 : decode cX10_work 102 = .ok (.putfield 133, 3) := by decide +kernel
theorem dX10_work_105 : decode cX10_work 105 = .ok (.aload_n 0, 1) := by decide +kernel
theorem dX10_work_106 : decode cX10_work 106 = .ok (.getfield 34, 3) := by decide +kernel
theorem dX10_work_109 : decode cX10_work 109 = .ok (.getfield 164, 3) := by decide +kernel
theorem dX10_work_112 : decode cX10_work 112 = .ok (.ireturn, 1) := by decide +kernel
theorem dX10_seen_0 : decode cX10_seen 0 = .ok (.aload_n 0, 1) := by decide +kernel
theorem dX10_seen_1 : decode cX10_seen 1 = .ok (.iload_n 1, 1) := by decide +kernel
theorem dX10_seen_2 : decode cX10_seen 2 = .ok (.bipush 60, 2) := by decide +kernel
theorem dX10_seen_4 : decode cX10_seen 4 = .ok (.invokevirtual 111, 3) := by decide +kernel
theorem dX10_seen_7 : decode cX10_seen 7 = .ok (.aload_n 0, 1) := by decide +kernel
theorem dX10_seen_8 : decode cX10_seen 8 = .ok (.getfield 96, 3) := by decide +kernel
theorem dX10_seen_11 : decode cX10_seen 11 = .ok (.aload_n 0, 1) := by decide +kernel
theorem dX10_seen_12 : decode cX10_seen 12 = .ok (.getfield 10, 3) := by decide +kernel
theorem dX10_seen_15 : decode cX10_seen 15 = .ok (.aload_n 0, 1) := by decide +kernel
theorem dX10_seen_16 : decode cX10_seen 16 = .ok (.getfield 27, 3) := by decide +kernel
theorem dX10_seen_19 : decode cX10_seen 19 = .ok (.getfield 54, 3) := by decide +kernel
theorem dX10_seen_22 : decode cX10_seen 22 = .ok (.invokevirtual 167, 3) := by decide +kernel
theorem dX10_seen_25 : decode cX10_seen 25 = .ok (.aload_n 0, 1) := by decide +kernel
theorem dX10_seen_26 : decode cX10_seen 26 = .ok (.getfield 10, 3) := by decide +kernel
theorem dX10_seen_29 : decode cX10_seen 29 = .ok (.invokevirtual 118, 3) := by decide +kernel
theorem dX10_seen_32 : decode cX10_seen 32 = .ok (.ifCond .ne 14, 3) := by decide +kernel
theorem dX10_seen_35 : decode cX10_seen 35 = .ok (.aload_n 0, 1) := by decide +kernel
theorem dX10_seen_36 : decode cX10_seen 36 = .ok (.getfield 10, 3) := by decide +kernel
theorem dX10_seen_39 : decode cX10_seen 39 = .ok (.getfield 121, 3) := by decide +kernel
theorem dX10_seen_42 : decode cX10_seen 42 = .ok (.bipush 10, 2) := by decide +kernel
theorem dX10_seen_44 : decode cX10_seen 44 = .ok (.isub, 1) := by decide +kernel
theorem dX10_seen_45 : decode cX10_seen 45 = .ok (.ireturn, 1) := by decide +kernel
theorem dX10_seen_46 : decode cX10_seen 46 = .ok (.aload_n 0, 1) := by decide +kernel
theorem dX10_seen_47 : decode cX10_seen 47 = .ok (.getfield 86, 3) := by decide +kernel
theorem dX10_seen_50 : decode cX10_seen 50 = .ok (.astore_n 2, 1) := by decide +kernel
theorem dX10_seen_51 : decode cX10_seen 51 = .ok (.aload_n 0, 1) := by decide +kernel
theorem dX10_seen_52 : decode cX10_seen 52 = .ok (.aload_n 0, 1) := by decide +kernel
theorem dX10_seen_53 : decode cX10_seen 53 = .ok (.getfield 96, 3) := by decide +kernel
theorem dX10_seen_56 : decode cX10_seen 56 = .ok (.putfield 86, 3) := by decide +kernel
theorem dX10_seen_59 : decode cX10_seen 59 = .ok (.aload_n 0, 1) := by decide +kernel
theorem dX10_seen_60 : decode cX10_seen 60 = .ok (.aload_n 2, 1) := by decide +kernel
theorem dX10_seen_61 : decode cX10_seen 61 = .ok (.putfield 96, 3) := by decide +kernel
theorem dX10_seen_64 : decode cX10_seen 64 = .ok (.aload_n 0, 1) := by decide +kernel
theorem dX10_seen_65 : decode cX10_seen 65 = .ok (.getfield 86, 3) := by decide +kernel
theorem dX10_seen_68 : decode cX10_seen 68 = .ok (.getfield 168, 3) := by decide +kernel
theorem dX10_seen_71 : decode cX10_seen 71 = .ok (.ireturn, 1) := by decide +kernel
theorem dX10_fault_0 : decode cX10_fault 0 = .ok (.aload_n 0, 1) := by decide +kernel
theorem dX10_fault_1 : decode cX10_fault 1 = .ok (.getfield 10, 3) := by decide +kernel
theorem dX10_fault_4 : decode cX10_fault 4 = .ok (.getfield 171, 3) := by decide +kernel
theorem dX10_fault_7 : decode cX10_fault 7 = .ok (.ireturn, 1) := by decide +kernel
theorem dX10_undo_0 : decode cX10_undo 0 = .ok (.aload_n 0, 1) := by decide +kernel
theorem dX10_undo_1 : decode cX10_undo 1 = .ok (.getfield 72, 3) := by decide +kernel
theorem dX10_undo_4 : decode cX10_undo 4 = .ok (.getfield 130, 3) := by decide +kernel
theorem dX10_undo_7 : decode cX10_undo 7 = .ok (.ifCond .ne 5, 3) := by decide +kernel
theorem dX10_undo_10 : decode cX10_undo 10 = .ok (.iconst (-1), 1) := by decide +kernel
theorem dX10_undo_11 : decode cX10_undo 11 = .ok (.ireturn, 1) := by decide +kernel
theorem dX10_undo_12 : decode cX10_undo 12 = .ok (.aload_n 0, 1) := by decide +kernel
theorem dX10_undo_13 : decode cX10_undo 13 = .ok (.getfield 72, 3) := by decide +kernel
theorem dX10_undo_16 : decode cX10_undo 16 = .ok (.aload_n 0, 1) := by decide +kernel
theorem dX10_undo_17 : decode cX10_undo 17 = .ok (.getfield 27, 3) := by decide +kernel
theorem dX10_undo_20 : decode cX10_undo 20 = .ok (.getfield 146, 3) := by decide +kernel
theorem dX10_undo_23 : decode cX10_undo 23 = .ok (.invokevirtual 174, 3) := by decide +kernel
theorem dX10_undo_26 : decode cX10_undo 26 = .ok (.aload_n 0, 1) := by decide +kernel
theorem dX10_undo_27 : decode cX10_undo 27 = .ok (.iconst 0, 1) := by decide +kernel
theorem dX10_undo_28 : decode cX10_undo 28 = .ok (.putfield 133, 3) := by decide +kernel
theorem dX10_undo_31 : decode cX10_undo 31 = .ok (.aload_n 0, 1) := by decide +kernel
theorem dX10_undo_32 : decode cX10_undo 32 = .ok (.getfield 72, 3) := by decide +kernel
theorem dX10_undo_35 : decode cX10_undo 35 = .ok (.getfield 130, 3) := by decide +kernel
theorem dX10_undo_38 : decode cX10_undo 38 = .ok (.ireturn, 1) := by decide +kernel
theorem dX10_told_0 : decode cX10_told 0 = .ok (.aload_n 0, 1) := by decide +kernel
theorem dX10_told_1 : decode cX10_told 1 = .ok (.iload_n 1, 1) := by decide +kernel
theorem dX10_told_2 : decode cX10_told 2 = .ok (.iconst 0, 1) := by decide +kernel
theorem dX10_told_3 : decode cX10_told 3 = .ok (.bipush 10, 2) := by decide +kernel
theorem dX10_told_5 : decode cX10_told 5 = .ok (.invokestatic 177, 3) := by decide +kernel
theorem dX10_told_8 : decode cX10_told 8 = .ok (.invokevirtual 181, 3) := by decide +kernel
theorem dX10_told_11 : decode cX10_told 11 = .ok (.iload_n 1, 1) := by decide +kernel
theorem dX10_told_12 : decode cX10_told 12 = .ok (.tableswitch 152 0 9 #[56, 67, 78, 89, 99, 109, 119, 129, 139, 147], 56) := by decide +kernel
theorem dX10_told_68 : decode cX10_told 68 = .ok (.aload_n 0, 1) := by decide +kernel
theorem dX10_told_69 : decode cX10_told 69 = .ok (.getfield 27, 3) := by decide +kernel
theorem dX10_told_72 : decode cX10_told 72 = .ok (.getfield 54, 3) := by decide +kernel
theorem dX10_told_75 : decode cX10_told 75 = .ok (.getfield 185, 3) := by decide +kernel
theorem dX10_told_78 : decode cX10_told 78 = .ok (.ireturn, 1) := by decide +kernel
theorem dX10_told_79 : decode cX10_told 79 = .ok (.aload_n 0, 1) := by decide +kernel
theorem dX10_told_80 : decode cX10_told 80 = .ok (.getfield 27, 3) := by decide +kernel
theorem dX10_told_83 : decode cX10_told 83 = .ok (.getfield 54, 3) := by decide +kernel
theorem dX10_told_86 : decode cX10_told 86 = .ok (.getfield 136, 3) := by decide +kernel
theorem dX10_told_89 : decode cX10_told 89 = .ok (.ireturn, 1) := by decide +kernel
theorem dX10_told_90 : decode cX10_told 90 = .ok (.aload_n 0, 1) := by decide +kernel
theorem dX10_told_91 : decode cX10_told 91 = .ok (.getfield 27, 3) := by decide +kernel
theorem dX10_told_94 : decode cX10_told 94 = .ok (.getfield 54, 3) := by decide +kernel
theorem dX10_told_97 : decode cX10_told 97 = .ok (.getfield 188, 3) := by decide +kernel
theorem dX10_told_100 : decode cX10_told 100 = .ok (.ireturn, 1) := by decide +kernel
theorem dX10_told_101 : decode cX10_told 101 = .ok (.aload_n 0, 1) := by decide +kernel
theorem dX10_told_102 : decode cX10_told 102 = .ok (.getfield 27, 3) := by decide +kernel
theorem dX10_told_105 : decode cX10_told 105 = .ok (.getfield 146, 3) := by decide +kernel
theorem dX10_told_108 : decode cX10_told 108 = .ok (.iconst 0, 1) := by decide +kernel
theorem dX10_told_109 : decode cX10_told 109 = .ok (.iaload, 1) := by decide +kernel
theorem dX10_told_110 : decode cX10_told 110 = .ok (.ireturn, 1) := by decide +kernel
theorem dX10_told_111 : decode cX10_told 111 = .ok (.aload_n 0, 1) := by decide +kernel
theorem dX10_told_112 : decode cX10_told 112 = .ok (.getfield 27, 3) := by decide +kernel
theorem dX10_told_115 : decode cX10_told 115 = .ok (.getfield 146, 3) := by decide +kernel
theorem dX10_told_118 : decode cX10_told 118 = .ok (.iconst 1, 1) := by decide +kernel
theorem dX10_told_119 : decode cX10_told 119 = .ok (.iaload, 1) := by decide +kernel
theorem dX10_told_120 : decode cX10_told 120 = .ok (.ireturn, 1) := by decide +kernel
theorem dX10_told_121 : decode cX10_told 121 = .ok (.aload_n 0, 1) := by decide +kernel
theorem dX10_told_122 : decode cX10_told 122 = .ok (.getfield 27, 3) := by decide +kernel
theorem dX10_told_125 : decode cX10_told 125 = .ok (.getfield 146, 3) := by decide +kernel
theorem dX10_told_128 : decode cX10_told 128 = .ok (.iconst 2, 1) := by decide +kernel
theorem dX10_told_129 : decode cX10_told 129 = .ok (.iaload, 1) := by decide +kernel
theorem dX10_told_130 : decode cX10_told 130 = .ok (.ireturn, 1) := by decide +kernel
theorem dX10_told_131 : decode cX10_told 131 = .ok (.aload_n 0, 1) := by decide +kernel
theorem dX10_told_132 : decode cX10_told 132 = .ok (.getfield 27, 3) := by decide +kernel
theorem dX10_told_135 : decode cX10_told 135 = .ok (.getfield 146, 3) := by decide +kernel
theorem dX10_told_138 : decode cX10_told 138 = .ok (.iconst 3, 1) := by decide +kernel
theorem dX10_told_139 : decode cX10_told 139 = .ok (.iaload, 1) := by decide +kernel
theorem dX10_told_140 : decode cX10_told 140 = .ok (.ireturn, 1) := by decide +kernel
theorem dX10_told_141 : decode cX10_told 141 = .ok (.aload_n 0, 1) := by decide +kernel
theorem dX10_told_142 : decode cX10_told 142 = .ok (.getfield 27, 3) := by decide +kernel
theorem dX10_told_145 : decode cX10_told 145 = .ok (.getfield 146, 3) := by decide +kernel
theorem dX10_told_148 : decode cX10_told 148 = .ok (.iconst 4, 1) := by decide +kernel
theorem dX10_told_149 : decode cX10_told 149 = .ok (.iaload, 1) := by decide +kernel
theorem dX10_told_150 : decode cX10_told 150 = .ok (.ireturn, 1) := by decide +kernel
theorem dX10_told_151 : decode cX10_told 151 = .ok (.aload_n 0, 1) := by decide +kernel
theorem dX10_told_152 : decode cX10_told 152 = .ok (.getfield 86, 3) := by decide +kernel
theorem dX10_told_155 : decode cX10_told 155 = .ok (.getfield 168, 3) := by decide +kernel
theorem dX10_told_158 : decode cX10_told 158 = .ok (.ireturn, 1) := by decide +kernel
theorem dX10_told_159 : decode cX10_told 159 = .ok (.aload_n 0, 1) := by decide +kernel
theorem dX10_told_160 : decode cX10_told 160 = .ok (.getfield 133, 3) := by decide +kernel
theorem dX10_told_163 : decode cX10_told 163 = .ok (.ireturn, 1) := by decide +kernel
theorem dX10_told_164 : decode cX10_told 164 = .ok (.aload_n 0, 1) := by decide +kernel
theorem dX10_told_165 : decode cX10_told 165 = .ok (.getfield 27, 3) := by decide +kernel
theorem dX10_told_168 : decode cX10_told 168 = .ok (.invokevirtual 191, 3) := by decide +kernel
theorem dX10_told_171 : decode cX10_told 171 = .ok (.ireturn, 1) := by decide +kernel
theorem dX10_sister_0 : decode cX10_sister 0 = .ok (.aload_n 0, 1) := by decide +kernel
theorem dX10_sister_1 : decode cX10_sister 1 = .ok (.aload_n 0, 1) := by decide +kernel
theorem dX10_sister_2 : decode cX10_sister 2 = .ok (.getfield 27, 3) := by decide +kernel
theorem dX10_sister_5 : decode cX10_sister 5 = .ok (.getfield 54, 3) := by decide +kernel
theorem dX10_sister_8 : decode cX10_sister 8 = .ok (.iload_n 1, 1) := by decide +kernel
theorem dX10_sister_9 : decode cX10_sister 9 = .ok (.invokevirtual 195, 3) := by decide +kernel
theorem dX10_sister_12 : decode cX10_sister 12 = .ok (.invokevirtual 199, 3) := by decide +kernel
theorem dX10_sister_15 : decode cX10_sister 15 = .ok (.aload_n 0, 1) := by decide +kernel
theorem dX10_sister_16 : decode cX10_sister 16 = .ok (.iload_n 2, 1) := by decide +kernel
theorem dX10_sister_17 : decode cX10_sister 17 = .ok (.iconst 0, 1) := by decide +kernel
theorem dX10_sister_18 : decode cX10_sister 18 = .ok (.iconst 4, 1) := by decide +kernel
theorem dX10_sister_19 : decode cX10_sister 19 = .ok (.invokestatic 177, 3) := by decide +kernel
theorem dX10_sister_22 : decode cX10_sister 22 = .ok (.invokevirtual 181, 3) := by decide +kernel
theorem dX10_sister_25 : decode cX10_sister 25 = .ok (.iload_n 2, 1) := by decide +kernel
theorem dX10_sister_26 : decode cX10_sister 26 = .ok (.tableswitch 78 0 3 #[30, 43, 56, 69], 30) := by decide +kernel
theorem dX10_sister_56 : decode cX10_sister 56 = .ok (.aload_n 0, 1) := by decide +kernel
theorem dX10_sister_57 : decode cX10_sister 57 = .ok (.getfield 27, 3) := by decide +kernel
theorem dX10_sister_60 : decode cX10_sister 60 = .ok (.getfield 54, 3) := by decide +kernel
theorem dX10_sister_63 : decode cX10_sister 63 = .ok (.getfield 202, 3) := by decide +kernel
theorem dX10_sister_66 : decode cX10_sister 66 = .ok (.iload_n 1, 1) := by decide +kernel
theorem dX10_sister_67 : decode cX10_sister 67 = .ok (.iaload, 1) := by decide +kernel
theorem dX10_sister_68 : decode cX10_sister 68 = .ok (.ireturn, 1) := by decide +kernel
theorem dX10_sister_69 : decode cX10_sister 69 = .ok (.aload_n 0, 1) := by decide +kernel
theorem dX10_sister_70 : decode cX10_sister 70 = .ok (.getfield 27, 3) := by decide +kernel
theorem dX10_sister_73 : decode cX10_sister 73 = .ok (.getfield 146, 3) := by decide +kernel
theorem dX10_sister_76 : decode cX10_sister 76 = .ok (.bipush 15, 2) := by decide +kernel
theorem dX10_sister_78 : decode cX10_sister 78 = .ok (.iload_n 1, 1) := by decide +kernel
theorem dX10_sister_79 : decode cX10_sister 79 = .ok (.iadd, 1) := by decide +kernel
theorem dX10_sister_80 : decode cX10_sister 80 = .ok (.iaload, 1) := by decide +kernel
theorem dX10_sister_81 : decode cX10_sister 81 = .ok (.ireturn, 1) := by decide +kernel
theorem dX10_sister_82 : decode cX10_sister 82 = .ok (.aload_n 0, 1) := by decide +kernel
theorem dX10_sister_83 : decode cX10_sister 83 = .ok (.getfield 27, 3) := by decide +kernel
theorem dX10_sister_86 : decode cX10_sister 86 = .ok (.getfield 54, 3) := by decide +kernel
theorem dX10_sister_89 : decode cX10_sister 89 = .ok (.getfield 205, 3) := by decide +kernel
theorem dX10_sister_92 : decode cX10_sister 92 = .ok (.iload_n 1, 1) := by decide +kernel
theorem dX10_sister_93 : decode cX10_sister 93 = .ok (.iaload, 1) := by decide +kernel
theorem dX10_sister_94 : decode cX10_sister 94 = .ok (.ireturn, 1) := by decide +kernel
theorem dX10_sister_95 : decode cX10_sister 95 = .ok (.aload_n 0, 1) := by decide +kernel
theorem dX10_sister_96 : decode cX10_sister 96 = .ok (.getfield 27, 3) := by decide +kernel
theorem dX10_sister_99 : decode cX10_sister 99 = .ok (.iload_n 1, 1) := by decide +kernel
theorem dX10_sister_100 : decode cX10_sister 100 = .ok (.invokevirtual 208, 3) := by decide +kernel
theorem dX10_sister_103 : decode cX10_sister 103 = .ok (.ireturn, 1) := by decide +kernel
theorem dX10_sister_104 : decode cX10_sister 104 = .ok (.aload_n 0, 1) := by decide +kernel
theorem dX10_sister_105 : decode cX10_sister 105 = .ok (.getfield 27, 3) := by decide +kernel
theorem dX10_sister_108 : decode cX10_sister 108 = .ok (.getfield 54, 3) := by decide +kernel
theorem dX10_sister_111 : decode cX10_sister 111 = .ok (.getfield 212, 3) := by decide +kernel
theorem dX10_sister_114 : decode cX10_sister 114 = .ok (.iload_n 1, 1) := by decide +kernel
theorem dX10_sister_115 : decode cX10_sister 115 = .ok (.iaload, 1) := by decide +kernel
theorem dX10_sister_116 : decode cX10_sister 116 = .ok (.ireturn, 1) := by decide +kernel
theorem dX10_relic_0 : decode cX10_relic 0 = .ok (.aload_n 0, 1) := by decide +kernel
theorem dX10_relic_1 : decode cX10_relic 1 = .ok (.aload_n 0, 1) := by decide +kernel
theorem dX10_relic_2 : decode cX10_relic 2 = .ok (.getfield 27, 3) := by decide +kernel
theorem dX10_relic_5 : decode cX10_relic 5 = .ok (.getfield 54, 3) := by decide +kernel
theorem dX10_relic_8 : decode cX10_relic 8 = .ok (.iload_n 1, 1) := by decide +kernel
theorem dX10_relic_9 : decode cX10_relic 9 = .ok (.invokevirtual 215, 3) := by decide +kernel
theorem dX10_relic_12 : decode cX10_relic 12 = .ok (.invokevirtual 199, 3) := by decide +kernel
theorem dX10_relic_15 : decode cX10_relic 15 = .ok (.aload_n 0, 1) := by decide +kernel
theorem dX10_relic_16 : decode cX10_relic 16 = .ok (.iload_n 2, 1) := by decide +kernel
theorem dX10_relic_17 : decode cX10_relic 17 = .ok (.iconst 0, 1) := by decide +kernel
theorem dX10_relic_18 : decode cX10_relic 18 = .ok (.iconst 5, 1) := by decide +kernel
theorem dX10_relic_19 : decode cX10_relic 19 = .ok (.invokestatic 177, 3) := by decide +kernel
theorem dX10_relic_22 : decode cX10_relic 22 = .ok (.invokevirtual 181, 3) := by decide +kernel
theorem dX10_relic_25 : decode cX10_relic 25 = .ok (.iload_n 2, 1) := by decide +kernel
theorem dX10_relic_26 : decode cX10_relic 26 = .ok (.tableswitch 109 0 4 #[34, 47, 60, 73, 100], 34) := by decide +kernel
theorem dX10_relic_60 : decode cX10_relic 60 = .ok (.aload_n 0, 1) := by decide +kernel
theorem dX10_relic_61 : decode cX10_relic 61 = .ok (.getfield 27, 3) := by decide +kernel
theorem dX10_relic_64 : decode cX10_relic 64 = .ok (.getfield 54, 3) := by decide +kernel
theorem dX10_relic_67 : decode cX10_relic 67 = .ok (.getfield 218, 3) := by decide +kernel
theorem dX10_relic_70 : decode cX10_relic 70 = .ok (.iload_n 1, 1) := by decide +kernel
theorem dX10_relic_71 : decode cX10_relic 71 = .ok (.iaload, 1) := by decide +kernel
theorem dX10_relic_72 : decode cX10_relic 72 = .ok (.ireturn, 1) := by decide +kernel
theorem dX10_relic_73 : decode cX10_relic 73 = .ok (.aload_n 0, 1) := by decide +kernel
theorem dX10_relic_74 : decode cX10_relic 74 = .ok (.getfield 27, 3) := by decide +kernel
theorem dX10_relic_77 : decode cX10_relic 77 = .ok (.getfield 54, 3) := by decide +kernel
theorem dX10_relic_80 : decode cX10_relic 80 = .ok (.getfield 221, 3) := by decide +kernel
theorem dX10_relic_83 : decode cX10_relic 83 = .ok (.iload_n 1, 1) := by decide +kernel
theorem dX10_relic_84 : decode cX10_relic 84 = .ok (.iaload, 1) := by decide +kernel
theorem dX10_relic_85 : decode cX10_relic 85 = .ok (.ireturn, 1) := by decide +kernel
theorem dX10_relic_86 : decode cX10_relic 86 = .ok (.aload_n 0, 1) := by decide +kernel
theorem dX10_relic_87 : decode cX10_relic 87 = .ok (.getfield 27, 3) := by decide +kernel
theorem dX10_relic_90 : decode cX10_relic 90 = .ok (.getfield 54, 3) := by decide +kernel
theorem dX10_relic_93 : decode cX10_relic 93 = .ok (.getfield 224, 3) := by decide +kernel
theorem dX10_relic_96 : decode cX10_relic 96 = .ok (.iload_n 1, 1) := by decide +kernel
theorem dX10_relic_97 : decode cX10_relic 97 = .ok (.iaload, 1) := by decide +kernel
theorem dX10_relic_98 : decode cX10_relic 98 = .ok (.ireturn, 1) := by decide +kernel
theorem dX10_relic_99 : decode cX10_relic 99 = .ok (.aload_n 0, 1) := by decide +kernel
theorem dX10_relic_100 : decode cX10_relic 100 = .ok (.getfield 27, 3) := by decide +kernel
theorem dX10_relic_103 : decode cX10_relic 103 = .ok (.iload_n 1, 1) := by decide +kernel
theorem dX10_relic_104 : decode cX10_relic 104 = .ok (.invokevirtual 227, 3) := by decide +kernel
theorem dX10_relic_107 : decode cX10_relic 107 = .ok (.ifCond .eq 17, 3) := by decide +kernel
theorem dX10_relic_110 : decode cX10_relic 110 = .ok (.aload_n 0, 1) := by decide +kernel
theorem dX10_relic_111 : decode cX10_relic 111 = .ok (.getfield 27, 3) := by decide +kernel
theorem dX10_relic_114 : decode cX10_relic 114 = .ok (.getfield 146, 3) := by decide +kernel
theorem dX10_relic_117 : decode cX10_relic 117 = .ok (.iconst 5, 1) := by decide +kernel
theorem dX10_relic_118 : decode cX10_relic 118 = .ok (.iload_n 1, 1) := by decide +kernel
theorem dX10_relic_119 : decode cX10_relic 119 = .ok (.iadd, 1) := by decide +kernel
theorem dX10_relic_120 : decode cX10_relic 120 = .ok (.iaload, 1) := by decide +kernel
theorem dX10_relic_121 : decode cX10_relic 121 = .ok (.goto 4, 3) := by decide +kernel
theorem dX10_relic_124 : decode cX10_relic 124 = .ok (.iconst (-1), 1) := by decide +kernel
theorem dX10_relic_125 : decode cX10_relic 125 = .ok (.ireturn, 1) := by decide +kernel
theorem dX10_relic_126 : decode cX10_relic 126 = .ok (.aload_n 0, 1) := by decide +kernel
theorem dX10_relic_127 : decode cX10_relic 127 = .ok (.getfield 27, 3) := by decide +kernel
theorem dX10_relic_130 : decode cX10_relic 130 = .ok (.iload_n 1, 1) := by decide +kernel
theorem dX10_relic_131 : decode cX10_relic 131 = .ok (.invokevirtual 230, 3) := by decide +kernel
theorem dX10_relic_134 : decode cX10_relic 134 = .ok (.ireturn, 1) := by decide +kernel
theorem dX10_relic_135 : decode cX10_relic 135 = .ok (.aload_n 0, 1) := by decide +kernel
theorem dX10_relic_136 : decode cX10_relic 136 = .ok (.iload_n 1, 1) := by decide +kernel
theorem dX10_relic_137 : decode cX10_relic 137 = .ok (.invokevirtual 233, 3) := by decide +kernel
theorem dX10_relic_140 : decode cX10_relic 140 = .ok (.ireturn, 1) := by decide +kernel
theorem dX10_pilgrim_0 : decode cX10_pilgrim 0 = .ok (.aload_n 0, 1) := by decide +kernel
theorem dX10_pilgrim_1 : decode cX10_pilgrim 1 = .ok (.aload_n 0, 1) := by decide +kernel
theorem dX10_pilgrim_2 : decode cX10_pilgrim 2 = .ok (.getfield 27, 3) := by decide +kernel
theorem dX10_pilgrim_5 : decode cX10_pilgrim 5 = .ok (.getfield 54, 3) := by decide +kernel
theorem dX10_pilgrim_8 : decode cX10_pilgrim 8 = .ok (.iload_n 1, 1) := by decide +kernel
theorem dX10_pilgrim_9 : decode cX10_pilgrim 9 = .ok (.invokevirtual 236, 3) := by decide +kernel
theorem dX10_pilgrim_12 : decode cX10_pilgrim 12 = .ok (.invokevirtual 199, 3) := by decide +kernel
theorem dX10_pilgrim_15 : decode cX10_pilgrim 15 = .ok (.aload_n 0, 1) := by decide +kernel
theorem dX10_pilgrim_16 : decode cX10_pilgrim 16 = .ok (.iload_n 2, 1) := by decide +kernel
theorem dX10_pilgrim_17 : decode cX10_pilgrim 17 = .ok (.iconst 0, 1) := by decide +kernel
theorem dX10_pilgrim_18 : decode cX10_pilgrim 18 = .ok (.iconst 3, 1) := by decide +kernel
theorem dX10_pilgrim_19 : decode cX10_pilgrim 19 = .ok (.invokestatic 177, 3) := by decide +kernel
theorem dX10_pilgrim_22 : decode cX10_pilgrim 22 = .ok (.invokevirtual 181, 3) := by decide +kernel
theorem dX10_pilgrim_25 : decode cX10_pilgrim 25 = .ok (.iload_n 2, 1) := by decide +kernel
theorem dX10_pilgrim_26 : decode cX10_pilgrim 26 = .ok (.tableswitch 65 0 2 #[26, 39, 52], 26) := by decide +kernel
theorem dX10_pilgrim_52 : decode cX10_pilgrim 52 = .ok (.aload_n 0, 1) := by decide +kernel
theorem dX10_pilgrim_53 : decode cX10_pilgrim 53 = .ok (.getfield 27, 3) := by decide +kernel
theorem dX10_pilgrim_56 : decode cX10_pilgrim 56 = .ok (.getfield 54, 3) := by decide +kernel
theorem dX10_pilgrim_59 : decode cX10_pilgrim 59 = .ok (.getfield 239, 3) := by decide +kernel
theorem dX10_pilgrim_62 : decode cX10_pilgrim 62 = .ok (.iload_n 1, 1) := by decide +kernel
theorem dX10_pilgrim_63 : decode cX10_pilgrim 63 = .ok (.iaload, 1) := by decide +kernel
theorem dX10_pilgrim_64 : decode cX10_pilgrim 64 = .ok (.ireturn, 1) := by decide +kernel
theorem dX10_pilgrim_65 : decode cX10_pilgrim 65 = .ok (.aload_n 0, 1) := by decide +kernel
theorem dX10_pilgrim_66 : decode cX10_pilgrim 66 = .ok (.getfield 27, 3) := by decide +kernel
theorem dX10_pilgrim_69 : decode cX10_pilgrim 69 = .ok (.getfield 54, 3) := by decide +kernel
theorem dX10_pilgrim_72 : decode cX10_pilgrim 72 = .ok (.getfield 242, 3) := by decide +kernel
theorem dX10_pilgrim_75 : decode cX10_pilgrim 75 = .ok (.iload_n 1, 1) := by decide +kernel
theorem dX10_pilgrim_76 : decode cX10_pilgrim 76 = .ok (.iaload, 1) := by decide +kernel
theorem dX10_pilgrim_77 : decode cX10_pilgrim 77 = .ok (.ireturn, 1) := by decide +kernel
theorem dX10_pilgrim_78 : decode cX10_pilgrim 78 = .ok (.aload_n 0, 1) := by decide +kernel
theorem dX10_pilgrim_79 : decode cX10_pilgrim 79 = .ok (.getfield 27, 3) := by decide +kernel
theorem dX10_pilgrim_82 : decode cX10_pilgrim 82 = .ok (.getfield 146, 3) := by decide +kernel
theorem dX10_pilgrim_85 : decode cX10_pilgrim 85 = .ok (.bipush 23, 2) := by decide +kernel
theorem dX10_pilgrim_87 : decode cX10_pilgrim 87 = .ok (.iload_n 1, 1) := by decide +kernel
theorem dX10_pilgrim_88 : decode cX10_pilgrim 88 = .ok (.iadd, 1) := by decide +kernel
theorem dX10_pilgrim_89 : decode cX10_pilgrim 89 = .ok (.iaload, 1) := by decide +kernel
theorem dX10_pilgrim_90 : decode cX10_pilgrim 90 = .ok (.ireturn, 1) := by decide +kernel
theorem dX10_pilgrim_91 : decode cX10_pilgrim 91 = .ok (.aload_n 0, 1) := by decide +kernel
theorem dX10_pilgrim_92 : decode cX10_pilgrim 92 = .ok (.getfield 27, 3) := by decide +kernel
theorem dX10_pilgrim_95 : decode cX10_pilgrim 95 = .ok (.iload_n 1, 1) := by decide +kernel
theorem dX10_pilgrim_96 : decode cX10_pilgrim 96 = .ok (.iconst 0, 1) := by decide +kernel
theorem dX10_pilgrim_97 : decode cX10_pilgrim 97 = .ok (.invokevirtual 245, 3) := by decide +kernel
theorem dX10_pilgrim_100 : decode cX10_pilgrim 100 = .ok (.ireturn, 1) := by decide +kernel
theorem dX10_would_0 : decode cX10_would 0 = .ok (.aload_n 0, 1) := by decide +kernel
theorem dX10_would_1 : decode cX10_would 1 = .ok (.iload_n 1, 1) := by decide +kernel
theorem dX10_would_2 : decode cX10_would 2 = .ok (.iconst 1, 1) := by decide +kernel
theorem dX10_would_3 : decode cX10_would 3 = .ok (.bipush 30, 2) := by decide +kernel
theorem dX10_would_5 : decode cX10_would 5 = .ok (.invokestatic 177, 3) := by decide +kernel
theorem dX10_would_8 : decode cX10_would 8 = .ok (.ifCond .eq 84, 3) := by decide +kernel
theorem dX10_would_11 : decode cX10_would 11 = .ok (.iload_n 2, 1) := by decide +kernel
theorem dX10_would_12 : decode cX10_would 12 = .ok (.iconst 0, 1) := by decide +kernel
theorem dX10_would_13 : decode cX10_would 13 = .ok (.sipush 999, 3) := by decide +kernel
theorem dX10_would_16 : decode cX10_would 16 = .ok (.invokestatic 177, 3) := by decide +kernel
theorem dX10_would_19 : decode cX10_would 19 = .ok (.ifCond .eq 73, 3) := by decide +kernel
theorem dX10_would_22 : decode cX10_would 22 = .ok (.iload_n 3, 1) := by decide +kernel
theorem dX10_would_23 : decode cX10_would 23 = .ok (.iconst 0, 1) := by decide +kernel
theorem dX10_would_24 : decode cX10_would 24 = .ok (.sipush 999, 3) := by decide +kernel
theorem dX10_would_27 : decode cX10_would 27 = .ok (.invokestatic 177, 3) := by decide +kernel
theorem dX10_would_30 : decode cX10_would 30 = .ok (.ifCond .eq 62, 3) := by decide +kernel
theorem dX10_would_33 : decode cX10_would 33 = .ok (.iload 4, 2) := by decide +kernel
theorem dX10_would_35 : decode cX10_would 35 = .ok (.iconst 0, 1) := by decide +kernel
theorem dX10_would_36 : decode cX10_would 36 = .ok (.bipush 15, 2) := by decide +kernel
theorem dX10_would_38 : decode cX10_would 38 = .ok (.invokestatic 177, 3) := by decide +kernel
theorem dX10_would_41 : decode cX10_would 41 = .ok (.ifCond .eq 51, 3) := by decide +kernel
theorem dX10_would_44 : decode cX10_would 44 = .ok (.iload 5, 2) := by decide +kernel
theorem dX10_would_46 : decode cX10_would 46 = .ok (.iconst 0, 1) := by decide +kernel
theorem dX10_would_47 : decode cX10_would 47 = .ok (.iconst 5, 1) := by decide +kernel
theorem dX10_would_48 : decode cX10_would 48 = .ok (.invokestatic 177, 3) := by decide +kernel
theorem dX10_would_51 : decode cX10_would 51 = .ok (.ifCond .eq 41, 3) := by decide +kernel
theorem dX10_would_54 : decode cX10_would 54 = .ok (.iload 6, 2) := by decide +kernel
theorem dX10_would_56 : decode cX10_would 56 = .ok (.iconst 0, 1) := by decide +kernel
theorem dX10_would_57 : decode cX10_would 57 = .ok (.bipush 9, 2) := by decide +kernel
theorem dX10_would_59 : decode cX10_would 59 = .ok (.invokestatic 177, 3) := by decide +kernel
theorem dX10_would_62 : decode cX10_would 62 = .ok (.ifCond .eq 30, 3) := by decide +kernel
theorem dX10_would_65 : decode cX10_would 65 = .ok (.iload 7, 2) := by decide +kernel
theorem dX10_would_67 : decode cX10_would 67 = .ok (.iconst 0, 1) := by decide +kernel
theorem dX10_would_68 : decode cX10_would 68 = .ok (.bipush 7, 2) := by decide +kernel
theorem dX10_would_70 : decode cX10_would 70 = .ok (.invokestatic 177, 3) := by decide +kernel
theorem dX10_would_73 : decode cX10_would 73 = .ok (.ifCond .eq 19, 3) := by decide +kernel
theorem dX10_would_76 : decode cX10_would 76 = .ok (.iload 8, 2) := by decide +kernel
theorem dX10_would_78 : decode cX10_would 78 = .ok (.iconst 0, 1) := by decide +kernel
theorem dX10_would_79 : decode cX10_would 79 = .ok (.sipush 500, 3) := by decide +kernel
theorem dX10_would_82 : decode cX10_would 82 = .ok (.invokestatic 177, 3) := by decide +kernel
theorem dX10_would_85 : decode cX10_would 85 = .ok (.ifCond .eq 7, 3) := by decide +kernel
theorem dX10_would_88 : decode cX10_would 88 = .ok (.iconst 1, 1) := by decide +kernel
theorem dX10_would_89 : decode cX10_would 89 = .ok (.goto 4, 3) := by decide +kernel
theorem dX10_would_92 : decode cX10_would 92 = .ok (.iconst 0, 1) := by decide +kernel
theorem dX10_would_93 : decode cX10_would 93 = .ok (.invokevirtual 181, 3) := by decide +kernel
theorem dX10_would_96 : decode cX10_would 96 = .ok (.aload_n 0, 1) := by decide +kernel
theorem dX10_would_97 : decode cX10_would 97 = .ok (.getfield 27, 3) := by decide +kernel
theorem dX10_would_100 : decode cX10_would 100 = .ok (.getfield 249, 3) := by decide +kernel
theorem dX10_would_103 : decode cX10_would 103 = .ok (.astore 9, 2) := by decide +kernel
theorem dX10_would_105 : decode cX10_would 105 = .ok (.aload 9, 2) := by decide +kernel
theorem dX10_would_107 : decode cX10_would 107 = .ok (.iconst 0, 1) := by decide +kernel
theorem dX10_would_108 : decode cX10_would 108 = .ok (.iload_n 1, 1) := by decide +kernel
theorem dX10_would_109 : decode cX10_would 109 = .ok (.iastore, 1) := by decide +kernel
theorem dX10_would_110 : decode cX10_would 110 = .ok (.aload 9, 2) := by decide +kernel
theorem dX10_would_112 : decode cX10_would 112 = .ok (.iconst 1, 1) := by decide +kernel
theorem dX10_would_113 : decode cX10_would 113 = .ok (.iload_n 2, 1) := by decide +kernel
theorem dX10_would_114 : decode cX10_would 114 = .ok (.iastore, 1) := by decide +kernel
theorem dX10_would_115 : decode cX10_would 115 = .ok (.aload 9, 2) := by decide +kernel
theorem dX10_would_117 : decode cX10_would 117 = .ok (.iconst 2, 1) := by decide +kernel
theorem dX10_would_118 : decode cX10_would 118 = .ok (.iload_n 3, 1) := by decide +kernel
theorem dX10_would_119 : decode cX10_would 119 = .ok (.iastore, 1) := by decide +kernel
theorem dX10_would_120 : decode cX10_would 120 = .ok (.aload 9, 2) := by decide +kernel
theorem dX10_would_122 : decode cX10_would 122 = .ok (.iconst 3, 1) := by decide +kernel
theorem dX10_would_123 : decode cX10_would 123 = .ok (.iload 4, 2) := by decide +kernel
theorem dX10_would_125 : decode cX10_would 125 = .ok (.iastore, 1) := by decide +kernel
theorem dX10_would_126 : decode cX10_would 126 = .ok (.aload 9, 2) := by decide +kernel
theorem dX10_would_128 : decode cX10_would 128 = .ok (.iconst 4, 1) := by decide +kernel
theorem dX10_would_129 : decode cX10_would 129 = .ok (.iload 5, 2) := by decide +kernel
theorem dX10_would_131 : decode cX10_would 131 = .ok (.iastore, 1) := by decide +kernel
theorem dX10_would_132 : decode cX10_would 132 = .ok (.aload 9, 2) := by decide +kernel
theorem dX10_would_134 : decode cX10_would 134 = .ok (.iconst 5, 1) := by decide +kernel
theorem dX10_would_135 : decode cX10_would 135 = .ok (.iload 6, 2) := by decide +kernel
theorem dX10_would_137 : decode cX10_would 137 = .ok (.iastore, 1) := by decide +kernel
theorem dX10_would_138 : decode cX10_would 138 = .ok (.aload 9, 2) := by decide +kernel
theorem dX10_would_140 : decode cX10_would 140 = .ok (.bipush 6, 2) := by decide +kernel
theorem dX10_would_142 : decode cX10_would 142 = .ok (.iload 7, 2) := by decide +kernel
theorem dX10_would_144 : decode cX10_would 144 = .ok (.iastore, 1) := by decide +kernel
theorem dX10_would_145 : decode cX10_would 145 = .ok (.aload 9, 2) := by decide +kernel
theorem dX10_would_147 : decode cX10_would 147 = .ok (.bipush 7, 2) := by decide +kernel
theorem dX10_would_149 : decode cX10_would 149 = .ok (.iload 8, 2) := by decide +kernel
theorem dX10_would_151 : decode cX10_would 151 = .ok (.iastore, 1) := by decide +kernel
theorem dX10_would_152 : decode cX10_would 152 = .ok (.aload_n 0, 1) := by decide +kernel
theorem dX10_would_153 : decode cX10_would 153 = .ok (.getfield 27, 3) := by decide +kernel
theorem dX10_would_156 : decode cX10_would 156 = .ok (.getfield 58, 3) := by decide +kernel
theorem dX10_would_159 : decode cX10_would 159 = .ok (.aload 9, 2) := by decide +kernel
theorem dX10_would_161 : decode cX10_would 161 = .ok (.invokevirtual 252, 3) := by decide +kernel
theorem dX10_would_164 : decode cX10_would 164 = .ok (.ireturn, 1) := by decide +kernel
theorem dX10_can_0 : decode cX10_can 0 = .ok (.aload_n 0, 1) := by decide +kernel
theorem dX10_can_1 : decode cX10_can 1 = .ok (.aload_n 0, 1) := by decide +kernel
theorem dX10_can_2 : decode cX10_can 2 = .ok (.getfield 27, 3) := by decide +kernel
theorem dX10_can_5 : decode cX10_can 5 = .ok (.getfield 54, 3) := by decide +kernel
theorem dX10_can_8 : decode cX10_can 8 = .ok (.iload_n 1, 1) := by decide +kernel
theorem dX10_can_9 : decode cX10_can 9 = .ok (.invokevirtual 215, 3) := by decide +kernel
theorem dX10_can_12 : decode cX10_can 12 = .ok (.ifCond .eq 21, 3) := by decide +kernel
theorem dX10_can_15 : decode cX10_can 15 = .ok (.aload_n 0, 1) := by decide +kernel
theorem dX10_can_16 : decode cX10_can 16 = .ok (.getfield 27, 3) := by decide +kernel
theorem dX10_can_19 : decode cX10_can 19 = .ok (.getfield 54, 3) := by decide +kernel
theorem dX10_can_22 : decode cX10_can 22 = .ok (.iload_n 2, 1) := by decide +kernel
theorem dX10_can_23 : decode cX10_can 23 = .ok (.invokevirtual 236, 3) := by decide +kernel
theorem dX10_can_26 : decode cX10_can 26 = .ok (.ifCond .eq 7, 3) := by decide +kernel
theorem dX10_can_29 : decode cX10_can 29 = .ok (.iconst 1, 1) := by decide +kernel
theorem dX10_can_30 : decode cX10_can 30 = .ok (.goto 4, 3) := by decide +kernel
theorem dX10_can_33 : decode cX10_can 33 = .ok (.iconst 0, 1) := by decide +kernel
theorem dX10_can_34 : decode cX10_can 34 = .ok (.invokevirtual 199, 3) := by decide +kernel
theorem dX10_can_37 : decode cX10_can 37 = .ok (.aload_n 0, 1) := by decide +kernel
theorem dX10_can_38 : decode cX10_can 38 = .ok (.getfield 27, 3) := by decide +kernel
theorem dX10_can_41 : decode cX10_can 41 = .ok (.iload_n 2, 1) := by decide +kernel
theorem dX10_can_42 : decode cX10_can 42 = .ok (.invokevirtual 256, 3) := by decide +kernel
theorem dX10_can_45 : decode cX10_can 45 = .ok (.ifCond .ne 31, 3) := by decide +kernel
theorem dX10_can_48 : decode cX10_can 48 = .ok (.aload_n 0, 1) := by decide +kernel
theorem dX10_can_49 : decode cX10_can 49 = .ok (.getfield 27, 3) := by decide +kernel
theorem dX10_can_52 : decode cX10_can 52 = .ok (.iload_n 1, 1) := by decide +kernel
theorem dX10_can_53 : decode cX10_can 53 = .ok (.invokevirtual 259, 3) := by decide +kernel
theorem dX10_can_56 : decode cX10_can 56 = .ok (.ifCond .ne 20, 3) := by decide +kernel
theorem dX10_can_59 : decode cX10_can 59 = .ok (.aload_n 0, 1) := by decide +kernel
theorem dX10_can_60 : decode cX10_can 60 = .ok (.getfield 27, 3) := by decide +kernel
theorem dX10_can_63 : decode cX10_can 63 = .ok (.iload_n 1, 1) := by decide +kernel
theorem dX10_can_64 : decode cX10_can 64 = .ok (.iload_n 2, 1) := by decide +kernel
theorem dX10_can_65 : decode cX10_can 65 = .ok (.iconst 0, 1) := by decide +kernel
theorem dX10_can_66 : decode cX10_can 66 = .ok (.invokevirtual 262, 3) := by decide +kernel
theorem dX10_can_69 : decode cX10_can 69 = .ok (.ifCond .eq 7, 3) := by decide +kernel
theorem dX10_can_72 : decode cX10_can 72 = .ok (.iconst 1, 1) := by decide +kernel
theorem dX10_can_73 : decode cX10_can 73 = .ok (.goto 4, 3) := by decide +kernel
theorem dX10_can_76 : decode cX10_can 76 = .ok (.iconst 0, 1) := by decide +kernel
theorem dX10_can_77 : decode cX10_can 77 = .ok (.ireturn, 1) := by decide +kernel
theorem dX10_when_0 : decode cX10_when 0 = .ok (.aload_n 0, 1) := by decide +kernel
theorem dX10_when_1 : decode cX10_when 1 = .ok (.aload_n 0, 1) := by decide +kernel
theorem dX10_when_2 : decode cX10_when 2 = .ok (.getfield 27, 3) := by decide +kernel
theorem dX10_when_5 : decode cX10_when 5 = .ok (.getfield 54, 3) := by decide +kernel
theorem dX10_when_8 : decode cX10_when 8 = .ok (.iload_n 1, 1) := by decide +kernel
theorem dX10_when_9 : decode cX10_when 9 = .ok (.invokevirtual 215, 3) := by decide +kernel
theorem dX10_when_12 : decode cX10_when 12 = .ok (.ifCond .eq 21, 3) := by decide +kernel
theorem dX10_when_15 : decode cX10_when 15 = .ok (.aload_n 0, 1) := by decide +kernel
theorem dX10_when_16 : decode cX10_when 16 = .ok (.getfield 27, 3) := by decide +kernel
theorem dX10_when_19 : decode cX10_when 19 = .ok (.getfield 54, 3) := by decide +kernel
theorem dX10_when_22 : decode cX10_when 22 = .ok (.iload_n 2, 1) := by decide +kernel
theorem dX10_when_23 : decode cX10_when 23 = .ok (.invokevirtual 236, 3) := by decide +kernel
theorem dX10_when_26 : decode cX10_when 26 = .ok (.ifCond .eq 7, 3) := by decide +kernel
theorem dX10_when_29 : decode cX10_when 29 = .ok (.iconst 1, 1) := by decide +kernel
theorem dX10_when_30 : decode cX10_when 30 = .ok (.goto 4, 3) := by decide +kernel
theorem dX10_when_33 : decode cX10_when 33 = .ok (.iconst 0, 1) := by decide +kernel
theorem dX10_when_34 : decode cX10_when 34 = .ok (.invokevirtual 199, 3) := by decide +kernel
theorem dX10_when_37 : decode cX10_when 37 = .ok (.iconst 0, 1) := by decide +kernel
theorem dX10_when_38 : decode cX10_when 38 = .ok (.istore_n 3, 1) := by decide +kernel
theorem dX10_when_39 : decode cX10_when 39 = .ok (.iload_n 3, 1) := by decide +kernel
theorem dX10_when_40 : decode cX10_when 40 = .ok (.sipush 200, 3) := by decide +kernel
theorem dX10_when_43 : decode cX10_when 43 = .ok (.if_icmp .gt 24, 3) := by decide +kernel
theorem dX10_when_46 : decode cX10_when 46 = .ok (.aload_n 0, 1) := by decide +kernel
theorem dX10_when_47 : decode cX10_when 47 = .ok (.getfield 27, 3) := by decide +kernel
theorem dX10_when_50 : decode cX10_when 50 = .ok (.iload_n 1, 1) := by decide +kernel
theorem dX10_when_51 : decode cX10_when 51 = .ok (.iload_n 2, 1) := by decide +kernel
theorem dX10_when_52 : decode cX10_when 52 = .ok (.iload_n 3, 1) := by decide +kernel
theorem dX10_when_53 : decode cX10_when 53 = .ok (.invokevirtual 262, 3) := by decide +kernel
theorem dX10_when_56 : decode cX10_when 56 = .ok (.ifCond .eq 5, 3) := by decide +kernel
theorem dX10_when_59 : decode cX10_when 59 = .ok (.iload_n 3, 1) := by decide +kernel
theorem dX10_when_60 : decode cX10_when 60 = .ok (.ireturn, 1) := by decide +kernel
theorem dX10_when_61 : decode cX10_when 61 = .ok (.iinc 3 1, 3) := by decide +kernel
theorem dX10_when_64 : decode cX10_when 64 = .ok (.goto (-25), 3) := by decide +kernel
theorem dX10_when_67 : decode cX10_when 67 = .ok (.iconst (-1), 1) := by decide +kernel
theorem dX10_when_68 : decode cX10_when 68 = .ok (.ireturn, 1) := by decide +kernel
theorem dX10_ahead_0 : decode cX10_ahead 0 = .ok (.aload_n 0, 1) := by decide +kernel
theorem dX10_ahead_1 : decode cX10_ahead 1 = .ok (.aload_n 0, 1) := by decide +kernel
theorem dX10_ahead_2 : decode cX10_ahead 2 = .ok (.getfield 27, 3) := by decide +kernel
theorem dX10_ahead_5 : decode cX10_ahead 5 = .ok (.getfield 54, 3) := by decide +kernel
theorem dX10_ahead_8 : decode cX10_ahead 8 = .ok (.iload_n 1, 1) := by decide +kernel
theorem dX10_ahead_9 : decode cX10_ahead 9 = .ok (.invokevirtual 215, 3) := by decide +kernel
theorem dX10_ahead_12 : decode cX10_ahead 12 = .ok (.invokevirtual 199, 3) := by decide +kernel
theorem dX10_ahead_15 : decode cX10_ahead 15 = .ok (.aload_n 0, 1) := by decide +kernel
theorem dX10_ahead_16 : decode cX10_ahead 16 = .ok (.iload_n 2, 1) := by decide +kernel
theorem dX10_ahead_17 : decode cX10_ahead 17 = .ok (.iconst 0, 1) := by decide +kernel
theorem dX10_ahead_18 : decode cX10_ahead 18 = .ok (.bipush 99, 2) := by decide +kernel
theorem dX10_ahead_20 : decode cX10_ahead 20 = .ok (.invokestatic 177, 3) := by decide +kernel
theorem dX10_ahead_23 : decode cX10_ahead 23 = .ok (.ifCond .eq 16, 3) := by decide +kernel
theorem dX10_ahead_26 : decode cX10_ahead 26 = .ok (.iload_n 3, 1) := by decide +kernel
theorem dX10_ahead_27 : decode cX10_ahead 27 = .ok (.iconst 0, 1) := by decide +kernel
theorem dX10_ahead_28 : decode cX10_ahead 28 = .ok (.iconst 1, 1) := by decide +kernel
theorem dX10_ahead_29 : decode cX10_ahead 29 = .ok (.invokestatic 177, 3) := by decide +kernel
theorem dX10_ahead_32 : decode cX10_ahead 32 = .ok (.ifCond .eq 7, 3) := by decide +kernel
theorem dX10_ahead_35 : decode cX10_ahead 35 = .ok (.iconst 1, 1) := by decide +kernel
theorem dX10_ahead_36 : decode cX10_ahead 36 = .ok (.goto 4, 3) := by decide +kernel
theorem dX10_ahead_39 : decode cX10_ahead 39 = .ok (.iconst 0, 1) := by decide +kernel
theorem dX10_ahead_40 : decode cX10_ahead 40 = .ok (.invokevirtual 181, 3) := by decide +kernel
theorem dX10_ahead_43 : decode cX10_ahead 43 = .ok (.iload_n 3, 1) := by decide +kernel
theorem dX10_ahead_44 : decode cX10_ahead 44 = .ok (.ifCond .ne 15, 3) := by decide +kernel
theorem dX10_ahead_47 : decode cX10_ahead 47 = .ok (.aload_n 0, 1) := by decide +kernel
theorem dX10_ahead_48 : decode cX10_ahead 48 = .ok (.getfield 27, 3) := by decide +kernel
theorem dX10_ahead_51 : decode cX10_ahead 51 = .ok (.iload_n 1, 1) := by decide +kernel
theorem dX10_ahead_52 : decode cX10_ahead 52 = .ok (.iload_n 2, 1) := by decide +kernel
theorem dX10_ahead_53 : decode cX10_ahead 53 = .ok (.invokevirtual 265, 3) := by decide +kernel
theorem dX10_ahead_56 : decode cX10_ahead 56 = .ok (.goto 12, 3) := by decide +kernel
theorem dX10_ahead_59 : decode cX10_ahead 59 = .ok (.aload_n 0, 1) := by decide +kernel
theorem dX10_ahead_60 : decode cX10_ahead 60 = .ok (.getfield 27, 3) := by decide +kernel
theorem dX10_ahead_63 : decode cX10_ahead 63 = .ok (.iload_n 1, 1) := by decide +kernel
theorem dX10_ahead_64 : decode cX10_ahead 64 = .ok (.iload_n 2, 1) := by decide +kernel
theorem dX10_ahead_65 : decode cX10_ahead 65 = .ok (.invokevirtual 268, 3) := by decide +kernel
theorem dX10_ahead_68 : decode cX10_ahead 68 = .ok (.ireturn, 1) := by decide +kernel
theorem dX10_match_0 : decode cX10_match 0 = .ok (.aload_n 0, 1) := by decide +kernel
theorem dX10_match_1 : decode cX10_match 1 = .ok (.getfield 48, 3) := by decide +kernel
theorem dX10_match_4 : decode cX10_match 4 = .ok (.aload_n 0, 1) := by decide +kernel
theorem dX10_match_5 : decode cX10_match 5 = .ok (.getfield 27, 3) := by decide +kernel
theorem dX10_match_8 : decode cX10_match 8 = .ok (.invokevirtual 271, 3) := by decide +kernel
theorem dX10_match_11 : decode cX10_match 11 = .ok (.iconst 0, 1) := by decide +kernel
theorem dX10_match_12 : decode cX10_match 12 = .ok (.istore_n 1, 1) := by decide +kernel
theorem dX10_match_13 : decode cX10_match 13 = .ok (.iconst 0, 1) := by decide +kernel
theorem dX10_match_14 : decode cX10_match 14 = .ok (.istore_n 2, 1) := by decide +kernel
theorem dX10_match_15 : decode cX10_match 15 = .ok (.iload_n 2, 1) := by decide +kernel
theorem dX10_match_16 : decode cX10_match 16 = .ok (.aload_n 0, 1) := by decide +kernel
theorem dX10_match_17 : decode cX10_match 17 = .ok (.getfield 27, 3) := by decide +kernel
theorem dX10_match_20 : decode cX10_match 20 = .ok (.getfield 54, 3) := by decide +kernel
theorem dX10_match_23 : decode cX10_match 23 = .ok (.getfield 188, 3) := by decide +kernel
theorem dX10_match_26 : decode cX10_match 26 = .ok (.if_icmp .ge 25, 3) := by decide +kernel
theorem dX10_match_29 : decode cX10_match 29 = .ok (.aload_n 0, 1) := by decide +kernel
theorem dX10_match_30 : decode cX10_match 30 = .ok (.getfield 48, 3) := by decide +kernel
theorem dX10_match_33 : decode cX10_match 33 = .ok (.getfield 275, 3) := by decide +kernel
theorem dX10_match_36 : decode cX10_match 36 = .ok (.iload_n 2, 1) := by decide +kernel
theorem dX10_match_37 : decode cX10_match 37 = .ok (.iaload, 1) := by decide +kernel
theorem dX10_match_38 : decode cX10_match 38 = .ok (.iconst (-1), 1) := by decide +kernel
theorem dX10_match_39 : decode cX10_match 39 = .ok (.if_icmp .eq 6, 3) := by decide +kernel
theorem dX10_match_42 : decode cX10_match 42 = .ok (.iinc 1 1, 3) := by decide +kernel
theorem dX10_match_45 : decode cX10_match 45 = .ok (.iinc 2 1, 3) := by decide +kernel
theorem dX10_match_48 : decode cX10_match 48 = .ok (.goto (-33), 3) := by decide +kernel
theorem dX10_match_51 : decode cX10_match 51 = .ok (.iload_n 1, 1) := by decide +kernel
theorem dX10_match_52 : decode cX10_match 52 = .ok (.ireturn, 1) := by decide +kernel
theorem dX10_matched_0 : decode cX10_matched 0 = .ok (.aload_n 0, 1) := by decide +kernel
theorem dX10_matched_1 : decode cX10_matched 1 = .ok (.aload_n 0, 1) := by decide +kernel
theorem dX10_matched_2 : decode cX10_matched 2 = .ok (.getfield 27, 3) := by decide +kernel
theorem dX10_matched_5 : decode cX10_matched 5 = .ok (.getfield 54, 3) := by decide +kernel
theorem dX10_matched_8 : decode cX10_matched 8 = .ok (.iload_n 1, 1) := by decide +kernel
theorem dX10_matched_9 : decode cX10_matched 9 = .ok (.invokevirtual 236, 3) := by decide +kernel
theorem dX10_matched_12 : decode cX10_matched 12 = .ok (.invokevirtual 199, 3) := by decide +kernel
theorem dX10_matched_15 : decode cX10_matched 15 = .ok (.aload_n 0, 1) := by decide +kernel
theorem dX10_matched_16 : decode cX10_matched 16 = .ok (.getfield 48, 3) := by decide +kernel
theorem dX10_matched_19 : decode cX10_matched 19 = .ok (.aload_n 0, 1) := by decide +kernel
theorem dX10_matched_20 : decode cX10_matched 20 = .ok (.getfield 27, 3) := by decide +kernel
theorem dX10_matched_23 : decode cX10_matched 23 = .ok (.invokevirtual 271, 3) := by decide +kernel
theorem dX10_matched_26 : decode cX10_matched 26 = .ok (.aload_n 0, 1) := by decide +kernel
theorem dX10_matched_27 : decode cX10_matched 27 = .ok (.getfield 48, 3) := by decide +kernel
theorem dX10_matched_30 : decode cX10_matched 30 = .ok (.getfield 275, 3) := by decide +kernel
theorem dX10_matched_33 : decode cX10_matched 33 = .ok (.iload_n 1, 1) := by decide +kernel
theorem dX10_matched_34 : decode cX10_matched 34 = .ok (.iaload, 1) := by decide +kernel
theorem dX10_matched_35 : decode cX10_matched 35 = .ok (.ireturn, 1) := by decide +kernel
theorem dX10_lapsed_0 : decode cX10_lapsed 0 = .ok (.aload_n 0, 1) := by decide +kernel
theorem dX10_lapsed_1 : decode cX10_lapsed 1 = .ok (.iload_n 1, 1) := by decide +kernel
theorem dX10_lapsed_2 : decode cX10_lapsed 2 = .ok (.iconst 0, 1) := by decide +kernel
theorem dX10_lapsed_3 : decode cX10_lapsed 3 = .ok (.iconst 2, 1) := by decide +kernel
theorem dX10_lapsed_4 : decode cX10_lapsed 4 = .ok (.invokestatic 177, 3) := by decide +kernel
theorem dX10_lapsed_7 : decode cX10_lapsed 7 = .ok (.invokevirtual 181, 3) := by decide +kernel
theorem dX10_lapsed_10 : decode cX10_lapsed 10 = .ok (.aload_n 0, 1) := by decide +kernel
theorem dX10_lapsed_11 : decode cX10_lapsed 11 = .ok (.getfield 41, 3) := by decide +kernel
theorem dX10_lapsed_14 : decode cX10_lapsed 14 = .ok (.aload_n 0, 1) := by decide +kernel
theorem dX10_lapsed_15 : decode cX10_lapsed 15 = .ok (.getfield 27, 3) := by decide +kernel
theorem dX10_lapsed_18 : decode cX10_lapsed 18 = .ok (.aload_n 0, 1) := by decide +kernel
theorem dX10_lapsed_19 : decode cX10_lapsed 19 = .ok (.getfield 86, 3) := by decide +kernel
theorem dX10_lapsed_22 : decode cX10_lapsed 22 = .ok (.invokevirtual 278, 3) := by decide +kernel
theorem dX10_lapsed_25 : decode cX10_lapsed 25 = .ok (.iload_n 1, 1) := by decide +kernel
theorem dX10_lapsed_26 : decode cX10_lapsed 26 = .ok (.lookupswitch 44 #[(0, 26), (1, 36)], 26) := by decide +kernel
theorem dX10_lapsed_52 : decode cX10_lapsed 52 = .ok (.aload_n 0, 1) := by decide +kernel
theorem dX10_lapsed_53 : decode cX10_lapsed 53 = .ok (.getfield 41, 3) := by decide +kernel
theorem dX10_lapsed_56 : decode cX10_lapsed 56 = .ok (.iconst 0, 1) := by decide +kernel
theorem dX10_lapsed_57 : decode cX10_lapsed 57 = .ok (.iconst 0, 1) := by decide +kernel
theorem dX10_lapsed_58 : decode cX10_lapsed 58 = .ok (.invokevirtual 282, 3) := by decide +kernel
theorem dX10_lapsed_61 : decode cX10_lapsed 61 = .ok (.ireturn, 1) := by decide +kernel
theorem dX10_lapsed_62 : decode cX10_lapsed 62 = .ok (.aload_n 0, 1) := by decide +kernel
theorem dX10_lapsed_63 : decode cX10_lapsed 63 = .ok (.getfield 41, 3) := by decide +kernel
theorem dX10_lapsed_66 : decode cX10_lapsed 66 = .ok (.invokevirtual 285, 3) := by decide +kernel
theorem dX10_lapsed_69 : decode cX10_lapsed 69 = .ok (.ireturn, 1) := by decide +kernel
theorem dX10_lapsed_70 : decode cX10_lapsed 70 = .ok (.aload_n 0, 1) := by decide +kernel
theorem dX10_lapsed_71 : decode cX10_lapsed 71 = .ok (.getfield 41, 3) := by decide +kernel
theorem dX10_lapsed_74 : decode cX10_lapsed 74 = .ok (.invokevirtual 288, 3) := by decide +kernel
theorem dX10_lapsed_77 : decode cX10_lapsed 77 = .ok (.ireturn, 1) := by decide +kernel
theorem dX10_ask_0 : decode cX10_ask 0 = .ok (.aload_n 0, 1) := by decide +kernel
theorem dX10_ask_1 : decode cX10_ask 1 = .ok (.iload_n 1, 1) := by decide +kernel
theorem dX10_ask_2 : decode cX10_ask 2 = .ok (.iconst 0, 1) := by decide +kernel
theorem dX10_ask_3 : decode cX10_ask 3 = .ok (.iconst 1, 1) := by decide +kernel
theorem dX10_ask_4 : decode cX10_ask 4 = .ok (.invokestatic 177, 3) := by decide +kernel
theorem dX10_ask_7 : decode cX10_ask 7 = .ok (.invokevirtual 181, 3) := by decide +kernel
theorem dX10_ask_10 : decode cX10_ask 10 = .ok (.aload_n 0, 1) := by decide +kernel
theorem dX10_ask_11 : decode cX10_ask 11 = .ok (.getfield 41, 3) := by decide +kernel
theorem dX10_ask_14 : decode cX10_ask 14 = .ok (.aload_n 0, 1) := by decide +kernel
theorem dX10_ask_15 : decode cX10_ask 15 = .ok (.getfield 27, 3) := by decide +kernel
theorem dX10_ask_18 : decode cX10_ask 18 = .ok (.aload_n 0, 1) := by decide +kernel
theorem dX10_ask_19 : decode cX10_ask 19 = .ok (.getfield 86, 3) := by decide +kernel
theorem dX10_ask_22 : decode cX10_ask 22 = .ok (.invokevirtual 278, 3) := by decide +kernel
theorem dX10_ask_25 : decode cX10_ask 25 = .ok (.iconst (-1), 1) := by decide +kernel
theorem dX10_ask_26 : decode cX10_ask 26 = .ok (.istore_n 2, 1) := by decide +kernel
theorem dX10_ask_27 : decode cX10_ask 27 = .ok (.iconst (-1), 1) := by decide +kernel
theorem dX10_ask_28 : decode cX10_ask 28 = .ok (.istore_n 3, 1) := by decide +kernel
theorem dX10_ask_29 : decode cX10_ask 29 = .ok (.iconst 0, 1) := by decide +kernel
theorem dX10_ask_30 : decode cX10_ask 30 = .ok (.istore 4, 2) := by decide +kernel
theorem dX10_ask_32 : decode cX10_ask 32 = .ok (.iload 4, 2) := by decide +kernel
theorem dX10_ask_34 : decode cX10_ask 34 = .ok (.aload_n 0, 1) := by decide +kernel
theorem dX10_ask_35 : decode cX10_ask 35 = .ok (.getfield 27, 3) := by decide +kernel
theorem dX10_ask_38 : decode cX10_ask 38 = .ok (.getfield 54, 3) := by decide +kernel
theorem dX10_ask_41 : decode cX10_ask 41 = .ok (.getfield 136, 3) := by decide +kernel
theorem dX10_ask_44 : decode cX10_ask 44 = .ok (.if_icmp .ge 55, 3) := by decide +kernel
theorem dX10_ask_47 : decode cX10_ask 47 = .ok (.aload_n 0, 1) := by decide +kernel
theorem dX10_ask_48 : decode cX10_ask 48 = .ok (.getfield 86, 3) := by decide +kernel
theorem dX10_ask_51 : decode cX10_ask 51 = .ok (.getfield 291, 3) := by decide +kernel
theorem dX10_ask_54 : decode cX10_ask 54 = .ok (.iload 4, 2) := by decide +kernel
theorem dX10_ask_56 : decode cX10_ask 56 = .ok (.iaload, 1) := by decide +kernel
theorem dX10_ask_57 : decode cX10_ask 57 = .ok (.iconst (-1), 1) := by decide +kernel
theorem dX10_ask_58 : decode cX10_ask 58 = .ok (.if_icmp .ne 35, 3) := by decide +kernel
theorem dX10_ask_61 : decode cX10_ask 61 = .ok (.aload_n 0, 1) := by decide +kernel
theorem dX10_ask_62 : decode cX10_ask 62 = .ok (.getfield 41, 3) := by decide +kernel
theorem dX10_ask_65 : decode cX10_ask 65 = .ok (.aload_n 0, 1) := by decide +kernel
theorem dX10_ask_66 : decode cX10_ask 66 = .ok (.getfield 27, 3) := by decide +kernel
theorem dX10_ask_69 : decode cX10_ask 69 = .ok (.iload 4, 2) := by decide +kernel
theorem dX10_ask_71 : decode cX10_ask 71 = .ok (.invokevirtual 293, 3) := by decide +kernel
theorem dX10_ask_74 : decode cX10_ask 74 = .ok (.istore 5, 2) := by decide +kernel
theorem dX10_ask_76 : decode cX10_ask 76 = .ok (.iload_n 2, 1) := by decide +kernel
theorem dX10_ask_77 : decode cX10_ask 77 = .ok (.iconst (-1), 1) := by decide +kernel
theorem dX10_ask_78 : decode cX10_ask 78 = .ok (.if_icmp .eq 9, 3) := by decide +kernel
theorem dX10_ask_81 : decode cX10_ask 81 = .ok (.iload 5, 2) := by decide +kernel
theorem dX10_ask_83 : decode cX10_ask 83 = .ok (.iload_n 3, 1) := by decide +kernel
theorem dX10_ask_84 : decode cX10_ask 84 = .ok (.if_icmp .ge 9, 3) := by decide +kernel
theorem dX10_ask_87 : decode cX10_ask 87 = .ok (.iload 4, 2) := by decide +kernel
theorem dX10_ask_89 : decode cX10_ask 89 = .ok (.istore_n 2, 1) := by decide +kernel
theorem dX10_ask_90 : decode cX10_ask 90 = .ok (.iload 5, 2) := by decide +kernel
theorem dX10_ask_92 : decode cX10_ask 92 = .ok (.istore_n 3, 1) := by decide +kernel
theorem dX10_ask_93 : decode cX10_ask 93 = .ok (.iinc 4 1, 3) := by decide +kernel
theorem dX10_ask_96 : decode cX10_ask 96 = .ok (.goto (-64), 3) := by decide +kernel
theorem dX10_ask_99 : decode cX10_ask 99 = .ok (.iload_n 1, 1) := by decide +kernel
theorem dX10_ask_100 : decode cX10_ask 100 = .ok (.ifCond .ne 7, 3) := by decide +kernel
theorem dX10_ask_103 : decode cX10_ask 103 = .ok (.iload_n 2, 1) := by decide +kernel
theorem dX10_ask_104 : decode cX10_ask 104 = .ok (.goto 4, 3) := by decide +kernel
theorem dX10_ask_107 : decode cX10_ask 107 = .ok (.iload_n 3, 1) := by decide +kernel
theorem dX10_ask_108 : decode cX10_ask 108 = .ok (.ireturn, 1) := by decide +kernel
theorem dX10_best_0 : decode cX10_best 0 = .ok (.aload_n 0, 1) := by decide +kernel
theorem dX10_best_1 : decode cX10_best 1 = .ok (.aload_n 0, 1) := by decide +kernel
theorem dX10_best_2 : decode cX10_best 2 = .ok (.getfield 27, 3) := by decide +kernel
theorem dX10_best_5 : decode cX10_best 5 = .ok (.getfield 54, 3) := by decide +kernel
theorem dX10_best_8 : decode cX10_best 8 = .ok (.iload_n 1, 1) := by decide +kernel
theorem dX10_best_9 : decode cX10_best 9 = .ok (.invokevirtual 215, 3) := by decide +kernel
theorem dX10_best_12 : decode cX10_best 12 = .ok (.invokevirtual 199, 3) := by decide +kernel
theorem dX10_best_15 : decode cX10_best 15 = .ok (.aload_n 0, 1) := by decide +kernel
theorem dX10_best_16 : decode cX10_best 16 = .ok (.iload_n 2, 1) := by decide +kernel
theorem dX10_best_17 : decode cX10_best 17 = .ok (.iconst 0, 1) := by decide +kernel
theorem dX10_best_18 : decode cX10_best 18 = .ok (.bipush 6, 2) := by decide +kernel
theorem dX10_best_20 : decode cX10_best 20 = .ok (.invokestatic 177, 3) := by decide +kernel
theorem dX10_best_23 : decode cX10_best 23 = .ok (.ifCond .eq 16, 3) := by decide +kernel
theorem dX10_best_26 : decode cX10_best 26 = .ok (.iload_n 3, 1) := by decide +kernel
theorem dX10_best_27 : decode cX10_best 27 = .ok (.iconst 0, 1) := by decide +kernel
theorem dX10_best_28 : decode cX10_best 28 = .ok (.iconst 1, 1) := by decide +kernel
theorem dX10_best_29 : decode cX10_best 29 = .ok (.invokestatic 177, 3) := by decide +kernel
theorem dX10_best_32 : decode cX10_best 32 = .ok (.ifCond .eq 7, 3) := by decide +kernel
theorem dX10_best_35 : decode cX10_best 35 = .ok (.iconst 1, 1) := by decide +kernel
theorem dX10_best_36 : decode cX10_best 36 = .ok (.goto 4, 3) := by decide +kernel
theorem dX10_best_39 : decode cX10_best 39 = .ok (.iconst 0, 1) := by decide +kernel
theorem dX10_best_40 : decode cX10_best 40 = .ok (.invokevirtual 181, 3) := by decide +kernel
theorem dX10_best_43 : decode cX10_best 43 = .ok (.aload_n 0, 1) := by decide +kernel
theorem dX10_best_44 : decode cX10_best 44 = .ok (.getfield 27, 3) := by decide +kernel
theorem dX10_best_47 : decode cX10_best 47 = .ok (.iload_n 1, 1) := by decide +kernel
theorem dX10_best_48 : decode cX10_best 48 = .ok (.invokevirtual 227, 3) := by decide +kernel
theorem dX10_best_51 : decode cX10_best 51 = .ok (.ifCond .ne 6, 3) := by decide +kernel
theorem dX10_best_54 : decode cX10_best 54 = .ok (.iload_n 3, 1) := by decide +kernel
theorem dX10_best_55 : decode cX10_best 55 = .ok (.i2l, 1) := by decide +kernel
theorem dX10_best_56 : decode cX10_best 56 = .ok (.lreturn, 1) := by decide +kernel
theorem dX10_best_57 : decode cX10_best 57 = .ok (.aload_n 0, 1) := by decide +kernel
theorem dX10_best_58 : decode cX10_best 58 = .ok (.getfield 27, 3) := by decide +kernel
theorem dX10_best_61 : decode cX10_best 61 = .ok (.getfield 146, 3) := by decide +kernel
theorem dX10_best_64 : decode cX10_best 64 = .ok (.bipush 15, 2) := by decide +kernel
theorem dX10_best_66 : decode cX10_best 66 = .ok (.aload_n 0, 1) := by decide +kernel
theorem dX10_best_67 : decode cX10_best 67 = .ok (.getfield 27, 3) := by decide +kernel
theorem dX10_best_70 : decode cX10_best 70 = .ok (.getfield 54, 3) := by decide +kernel
theorem dX10_best_73 : decode cX10_best 73 = .ok (.getfield 218, 3) := by decide +kernel
theorem dX10_best_76 : decode cX10_best 76 = .ok (.iload_n 1, 1) := by decide +kernel
theorem dX10_best_77 : decode cX10_best 77 = .ok (.iaload, 1) := by decide +kernel
theorem dX10_best_78 : decode cX10_best 78 = .ok (.iadd, 1) := by decide +kernel
theorem dX10_best_79 : decode cX10_best 79 = .ok (.iaload, 1) := by decide +kernel
theorem dX10_best_80 : decode cX10_best 80 = .ok (.istore 4, 2) := by decide +kernel
theorem dX10_best_82 : decode cX10_best 82 = .ok (.aload_n 0, 1) := by decide +kernel
theorem dX10_best_83 : decode cX10_best 83 = .ok (.iload_n 1, 1) := by decide +kernel
theorem dX10_best_84 : decode cX10_best 84 = .ok (.aload_n 0, 1) := by decide +kernel
theorem dX10_best_85 : decode cX10_best 85 = .ok (.getfield 27, 3) := by decide +kernel
theorem dX10_best_88 : decode cX10_best 88 = .ok (.getfield 146, 3) := by decide +kernel
theorem dX10_best_91 : decode cX10_best 91 = .ok (.iconst 5, 1) := by decide +kernel
theorem dX10_best_92 : decode cX10_best 92 = .ok (.iload_n 1, 1) := by decide +kernel
theorem dX10_best_93 : decode cX10_best 93 = .ok (.iadd, 1) := by decide +kernel
theorem dX10_best_94 : decode cX10_best 94 = .ok (.iaload, 1) := by decide +kernel
theorem dX10_best_95 : decode cX10_best 95 = .ok (.iload 4, 2) := by decide +kernel
theorem dX10_best_97 : decode cX10_best 97 = .ok (.aload_n 0, 1) := by decide +kernel
theorem dX10_best_98 : decode cX10_best 98 = .ok (.getfield 27, 3) := by decide +kernel
theorem dX10_best_101 : decode cX10_best 101 = .ok (.getfield 146, 3) := by decide +kernel
theorem dX10_best_104 : decode cX10_best 104 = .ok (.iconst 0, 1) := by decide +kernel
theorem dX10_best_105 : decode cX10_best 105 = .ok (.iaload, 1) := by decide +kernel
theorem dX10_best_106 : decode cX10_best 106 = .ok (.iload_n 2, 1) := by decide +kernel
theorem dX10_best_107 : decode cX10_best 107 = .ok (.invokevirtual 297, 3) := by decide +kernel
theorem dX10_best_110 : decode cX10_best 110 = .ok (.lstore 5, 2) := by decide +kernel
theorem dX10_best_112 : decode cX10_best 112 = .ok (.lload 5, 2) := by decide +kernel
theorem dX10_best_114 : decode cX10_best 114 = .ok (.iload_n 2, 1) := by decide +kernel
theorem dX10_best_115 : decode cX10_best 115 = .ok (.iload_n 3, 1) := by decide +kernel
theorem dX10_best_116 : decode cX10_best 116 = .ok (.invokestatic 301, 3) := by decide +kernel
theorem dX10_best_119 : decode cX10_best 119 = .ok (.lreturn, 1) := by decide +kernel
theorem dX10_without_0 : decode cX10_without 0 = .ok (.aload_n 0, 1) := by decide +kernel
theorem dX10_without_1 : decode cX10_without 1 = .ok (.aload_n 0, 1) := by decide +kernel
theorem dX10_without_2 : decode cX10_without 2 = .ok (.getfield 27, 3) := by decide +kernel
theorem dX10_without_5 : decode cX10_without 5 = .ok (.getfield 54, 3) := by decide +kernel
theorem dX10_without_8 : decode cX10_without 8 = .ok (.iload_n 1, 1) := by decide +kernel
theorem dX10_without_9 : decode cX10_without 9 = .ok (.invokevirtual 195, 3) := by decide +kernel
theorem dX10_without_12 : decode cX10_without 12 = .ok (.invokevirtual 199, 3) := by decide +kernel
theorem dX10_without_15 : decode cX10_without 15 = .ok (.aload_n 0, 1) := by decide +kernel
theorem dX10_without_16 : decode cX10_without 16 = .ok (.iload_n 2, 1) := by decide +kernel
theorem dX10_without_17 : decode cX10_without 17 = .ok (.iconst 0, 1) := by decide +kernel
theorem dX10_without_18 : decode cX10_without 18 = .ok (.bipush 12, 2) := by decide +kernel
theorem dX10_without_20 : decode cX10_without 20 = .ok (.invokestatic 177, 3) := by decide +kernel
theorem dX10_without_23 : decode cX10_without 23 = .ok (.ifCond .eq 16, 3) := by decide +kernel
theorem dX10_without_26 : decode cX10_without 26 = .ok (.iload_n 3, 1) := by decide +kernel
theorem dX10_without_27 : decode cX10_without 27 = .ok (.iconst 0, 1) := by decide +kernel
theorem dX10_without_28 : decode cX10_without 28 = .ok (.iconst 1, 1) := by decide +kernel
theorem dX10_without_29 : decode cX10_without 29 = .ok (.invokestatic 177, 3) := by decide +kernel
theorem dX10_without_32 : decode cX10_without 32 = .ok (.ifCond .eq 7, 3) := by decide +kernel
theorem dX10_without_35 : decode cX10_without 35 = .ok (.iconst 1, 1) := by decide +kernel
theorem dX10_without_36 : decode cX10_without 36 = .ok (.goto 4, 3) := by decide +kernel
theorem dX10_without_39 : decode cX10_without 39 = .ok (.iconst 0, 1) := by decide +kernel
theorem dX10_without_40 : decode cX10_without 40 = .ok (.invokevirtual 181, 3) := by decide +kernel
theorem dX10_without_43 : decode cX10_without 43 = .ok (.lconst 1, 1) := by decide +kernel
theorem dX10_without_44 : decode cX10_without 44 = .ok (.lstore 4, 2) := by decide +kernel
theorem dX10_without_46 : decode cX10_without 46 = .ok (.iconst 0, 1) := by decide +kernel
theorem dX10_without_47 : decode cX10_without 47 = .ok (.istore 6, 2) := by decide +kernel
theorem dX10_without_49 : decode cX10_without 49 = .ok (.iload 6, 2) := by decide +kernel
theorem dX10_without_51 : decode cX10_without 51 = .ok (.iload_n 2, 1) := by decide +kernel
theorem dX10_without_52 : decode cX10_without 52 = .ok (.if_icmp .ge 30, 3) := by decide +kernel
theorem dX10_without_55 : decode cX10_without 55 = .ok (.lload 4, 2) := by decide +kernel
theorem dX10_without_57 : decode cX10_without 57 = .ok (.bipush 16, 2) := by decide +kernel
theorem dX10_without_59 : decode cX10_without 59 = .ok (.aload_n 0, 1) := by decide +kernel
theorem dX10_without_60 : decode cX10_without 60 = .ok (.getfield 27, 3) := by decide +kernel
theorem dX10_without_63 : decode cX10_without 63 = .ok (.getfield 54, 3) := by decide +kernel
theorem dX10_without_66 : decode cX10_without 66 = .ok (.getfield 202, 3) := by decide +kernel
theorem dX10_without_69 : decode cX10_without 69 = .ok (.iload_n 1, 1) := by decide +kernel
theorem dX10_without_70 : decode cX10_without 70 = .ok (.iaload, 1) := by decide +kernel
theorem dX10_without_71 : decode cX10_without 71 = .ok (.isub, 1) := by decide +kernel
theorem dX10_without_72 : decode cX10_without 72 = .ok (.i2l, 1) := by decide +kernel
theorem dX10_without_73 : decode cX10_without 73 = .ok (.lmul, 1) := by decide +kernel
theorem dX10_without_74 : decode cX10_without 74 = .ok (.lstore 4, 2) := by decide +kernel
theorem dX10_without_76 : decode cX10_without 76 = .ok (.iinc 6 1, 3) := by decide +kernel
theorem dX10_without_79 : decode cX10_without 79 = .ok (.goto (-30), 3) := by decide +kernel
theorem dX10_without_82 : decode cX10_without 82 = .ok (.lload 4, 2) := by decide +kernel
theorem dX10_without_84 : decode cX10_without 84 = .ok (.iload_n 2, 1) := by decide +kernel
theorem dX10_without_85 : decode cX10_without 85 = .ok (.iload_n 3, 1) := by decide +kernel
theorem dX10_without_86 : decode cX10_without 86 = .ok (.invokestatic 301, 3) := by decide +kernel
theorem dX10_without_89 : decode cX10_without 89 = .ok (.lreturn, 1) := by decide +kernel
theorem dX10_ring_0 : decode cX10_ring 0 = .ok (.aload_n 0, 1) := by decide +kernel
theorem dX10_ring_1 : decode cX10_ring 1 = .ok (.aload_n 0, 1) := by decide +kernel
theorem dX10_ring_2 : decode cX10_ring 2 = .ok (.getfield 27, 3) := by decide +kernel
theorem dX10_ring_5 : decode cX10_ring 5 = .ok (.getfield 54, 3) := by decide +kernel
theorem dX10_ring_8 : decode cX10_ring 8 = .ok (.iload_n 1, 1) := by decide +kernel
theorem dX10_ring_9 : decode cX10_ring 9 = .ok (.invokevirtual 195, 3) := by decide +kernel
theorem dX10_ring_12 : decode cX10_ring 12 = .ok (.invokevirtual 199, 3) := by decide +kernel
theorem dX10_ring_15 : decode cX10_ring 15 = .ok (.aload_n 0, 1) := by decide +kernel
theorem dX10_ring_16 : decode cX10_ring 16 = .ok (.getfield 27, 3) := by decide +kernel
theorem dX10_ring_19 : decode cX10_ring 19 = .ok (.getfield 54, 3) := by decide +kernel
theorem dX10_ring_22 : decode cX10_ring 22 = .ok (.iload_n 1, 1) := by decide +kernel
theorem dX10_ring_23 : decode cX10_ring 23 = .ok (.invokevirtual 305, 3) := by decide +kernel
theorem dX10_ring_26 : decode cX10_ring 26 = .ok (.ireturn, 1) := by decide +kernel
theorem dX10_follows_0 : decode cX10_follows 0 = .ok (.aload_n 0, 1) := by decide +kernel
theorem dX10_follows_1 : decode cX10_follows 1 = .ok (.aload_n 0, 1) := by decide +kernel
theorem dX10_follows_2 : decode cX10_follows 2 = .ok (.getfield 27, 3) := by decide +kernel
theorem dX10_follows_5 : decode cX10_follows 5 = .ok (.getfield 54, 3) := by decide +kernel
theorem dX10_follows_8 : decode cX10_follows 8 = .ok (.iload_n 1, 1) := by decide +kernel
theorem dX10_follows_9 : decode cX10_follows 9 = .ok (.invokevirtual 195, 3) := by decide +kernel
theorem dX10_follows_12 : decode cX10_follows 12 = .ok (.invokevirtual 199, 3) := by decide +kernel
theorem dX10_follows_15 : decode cX10_follows 15 = .ok (.aload_n 0, 1) := by decide +kernel
theorem dX10_follows_16 : decode cX10_follows 16 = .ok (.iload_n 2, 1) := by decide +kernel
theorem dX10_follows_17 : decode cX10_follows 17 = .ok (.iconst 0, 1) := by decide +kernel
theorem dX10_follows_18 : decode cX10_follows 18 = .ok (.ldc_w 308, 3) := by decide +kernel
theorem dX10_follows_21 : decode cX10_follows 21 = .ok (.invokestatic 177, 3) := by decide +kernel
theorem dX10_follows_24 : decode cX10_follows 24 = .ok (.invokevirtual 181, 3) := by decide +kernel
theorem dX10_follows_27 : decode cX10_follows 27 = .ok (.iload_n 2, 1) := by decide +kernel
theorem dX10_follows_28 : decode cX10_follows 28 = .ok (.bipush 8, 2) := by decide +kernel
theorem dX10_follows_30 : decode cX10_follows 30 = .ok (.if_icmp .gt 16, 3) := by decide +kernel
theorem dX10_follows_33 : decode cX10_follows 33 = .ok (.aload_n 0, 1) := by decide +kernel
theorem dX10_follows_34 : decode cX10_follows 34 = .ok (.getfield 27, 3) := by decide +kernel
theorem dX10_follows_37 : decode cX10_follows 37 = .ok (.getfield 54, 3) := by decide +kernel
theorem dX10_follows_40 : decode cX10_follows 40 = .ok (.iload_n 1, 1) := by decide +kernel
theorem dX10_follows_41 : decode cX10_follows 41 = .ok (.iload_n 2, 1) := by decide +kernel
theorem dX10_follows_42 : decode cX10_follows 42 = .ok (.invokevirtual 309, 3) := by decide +kernel
theorem dX10_follows_45 : decode cX10_follows 45 = .ok (.ireturn, 1) := by decide +kernel
theorem dX10_follows_46 : decode cX10_follows 46 = .ok (.aload_n 0, 1) := by decide +kernel
theorem dX10_follows_47 : decode cX10_follows 47 = .ok (.getfield 27, 3) := by decide +kernel
theorem dX10_follows_50 : decode cX10_follows 50 = .ok (.getfield 54, 3) := by decide +kernel
theorem dX10_follows_53 : decode cX10_follows 53 = .ok (.iload_n 1, 1) := by decide +kernel
theorem dX10_follows_54 : decode cX10_follows 54 = .ok (.bipush 8, 2) := by decide +kernel
theorem dX10_follows_56 : decode cX10_follows 56 = .ok (.invokevirtual 309, 3) := by decide +kernel
theorem dX10_follows_59 : decode cX10_follows 59 = .ok (.istore_n 3, 1) := by decide +kernel
theorem dX10_follows_60 : decode cX10_follows 60 = .ok (.iload_n 3, 1) := by decide +kernel
theorem dX10_follows_61 : decode cX10_follows 61 = .ok (.iconst (-1), 1) := by decide +kernel
theorem dX10_follows_62 : decode cX10_follows 62 = .ok (.if_icmp .ne 5, 3) := by decide +kernel
theorem dX10_follows_65 : decode cX10_follows 65 = .ok (.iconst (-1), 1) := by decide +kernel
theorem dX10_follows_66 : decode cX10_follows 66 = .ok (.ireturn, 1) := by decide +kernel
theorem dX10_follows_67 : decode cX10_follows 67 = .ok (.aload_n 0, 1) := by decide +kernel
theorem dX10_follows_68 : decode cX10_follows 68 = .ok (.getfield 27, 3) := by decide +kernel
theorem dX10_follows_71 : decode cX10_follows 71 = .ok (.getfield 54, 3) := by decide +kernel
theorem dX10_follows_74 : decode cX10_follows 74 = .ok (.iload_n 3, 1) := by decide +kernel
theorem dX10_follows_75 : decode cX10_follows 75 = .ok (.invokevirtual 305, 3) := by decide +kernel
theorem dX10_follows_78 : decode cX10_follows 78 = .ok (.istore 4, 2) := by decide +kernel
theorem dX10_follows_80 : decode cX10_follows 80 = .ok (.iload 4, 2) := by decide +kernel
theorem dX10_follows_82 : decode cX10_follows 82 = .ok (.ifCond .le 24, 3) := by decide +kernel
theorem dX10_follows_85 : decode cX10_follows 85 = .ok (.aload_n 0, 1) := by decide +kernel
theorem dX10_follows_86 : decode cX10_follows 86 = .ok (.getfield 27, 3) := by decide +kernel
theorem dX10_follows_89 : decode cX10_follows 89 = .ok (.getfield 54, 3) := by decide +kernel
theorem dX10_follows_92 : decode cX10_follows 92 = .ok (.iload_n 3, 1) := by decide +kernel
theorem dX10_follows_93 : decode cX10_follows 93 = .ok (.iload_n 2, 1) := by decide +kernel
theorem dX10_follows_94 : decode cX10_follows 94 = .ok (.bipush 8, 2) := by decide +kernel
theorem dX10_follows_96 : decode cX10_follows 96 = .ok (.isub, 1) := by decide +kernel
theorem dX10_follows_97 : decode cX10_follows 97 = .ok (.iload 4, 2) := by decide +kernel
theorem dX10_follows_99 : decode cX10_follows 99 = .ok (.irem, 1) := by decide +kernel
theorem dX10_follows_100 : decode cX10_follows 100 = .ok (.invokevirtual 309, 3) := by decide +kernel
theorem dX10_follows_103 : decode cX10_follows 103 = .ok (.goto 4, 3) := by decide +kernel
theorem dX10_follows_106 : decode cX10_follows 106 = .ok (.iconst (-1), 1) := by decide +kernel
theorem dX10_follows_107 : decode cX10_follows 107 = .ok (.ireturn, 1) := by decide +kernel
theorem dX10_tempted_0 : decode cX10_tempted 0 = .ok (.aload_n 0, 1) := by decide +kernel
theorem dX10_tempted_1 : decode cX10_tempted 1 = .ok (.iload_n 1, 1) := by decide +kernel
theorem dX10_tempted_2 : decode cX10_tempted 2 = .ok (.iconst 0, 1) := by decide +kernel
theorem dX10_tempted_3 : decode cX10_tempted 3 = .ok (.bipush 99, 2) := by decide +kernel
theorem dX10_tempted_5 : decode cX10_tempted 5 = .ok (.invokestatic 177, 3) := by decide +kernel
theorem dX10_tempted_8 : decode cX10_tempted 8 = .ok (.ifCond .eq 26, 3) := by decide +kernel
theorem dX10_tempted_11 : decode cX10_tempted 11 = .ok (.iload_n 2, 1) := by decide +kernel
theorem dX10_tempted_12 : decode cX10_tempted 12 = .ok (.iconst 0, 1) := by decide +kernel
theorem dX10_tempted_13 : decode cX10_tempted 13 = .ok (.bipush 99, 2) := by decide +kernel
theorem dX10_tempted_15 : decode cX10_tempted 15 = .ok (.invokestatic 177, 3) := by decide +kernel
theorem dX10_tempted_18 : decode cX10_tempted 18 = .ok (.ifCond .eq 16, 3) := by decide +kernel
theorem dX10_tempted_21 : decode cX10_tempted 21 = .ok (.iload_n 3, 1) := by decide +kernel
theorem dX10_tempted_22 : decode cX10_tempted 22 = .ok (.iconst 0, 1) := by decide +kernel
theorem dX10_tempted_23 : decode cX10_tempted 23 = .ok (.iconst 2, 1) := by decide +kernel
theorem dX10_tempted_24 : decode cX10_tempted 24 = .ok (.invokestatic 177, 3) := by decide +kernel
theorem dX10_tempted_27 : decode cX10_tempted 27 = .ok (.ifCond .eq 7, 3) := by decide +kernel
theorem dX10_tempted_30 : decode cX10_tempted 30 = .ok (.iconst 1, 1) := by decide +kernel
theorem dX10_tempted_31 : decode cX10_tempted 31 = .ok (.goto 4, 3) := by decide +kernel
theorem dX10_tempted_34 : decode cX10_tempted 34 = .ok (.iconst 0, 1) := by decide +kernel
theorem dX10_tempted_35 : decode cX10_tempted 35 = .ok (.invokevirtual 181, 3) := by decide +kernel
theorem dX10_tempted_38 : decode cX10_tempted 38 = .ok (.iconst 0, 1) := by decide +kernel
theorem dX10_tempted_39 : decode cX10_tempted 39 = .ok (.istore 4, 2) := by decide +kernel
theorem dX10_tempted_41 : decode cX10_tempted 41 = .ok (.iconst (-1), 1) := by decide +kernel
theorem dX10_tempted_42 : decode cX10_tempted 42 = .ok (.istore 5, 2) := by decide +kernel
theorem dX10_tempted_44 : decode cX10_tempted 44 = .ok (.iconst 0, 1) := by decide +kernel
theorem dX10_tempted_45 : decode cX10_tempted 45 = .ok (.istore 6, 2) := by decide +kernel
theorem dX10_tempted_47 : decode cX10_tempted 47 = .ok (.iconst 0, 1) := by decide +kernel
theorem dX10_tempted_48 : decode cX10_tempted 48 = .ok (.istore 7, 2) := by decide +kernel
theorem dX10_tempted_50 : decode cX10_tempted 50 = .ok (.iload 7, 2) := by decide +kernel
theorem dX10_tempted_52 : decode cX10_tempted 52 = .ok (.iconst 1, 1) := by decide +kernel
theorem dX10_tempted_53 : decode cX10_tempted 53 = .ok (.if_icmp .gt 75, 3) := by decide +kernel
theorem dX10_tempted_56 : decode cX10_tempted 56 = .ok (.iconst 0, 1) := by decide +kernel
theorem dX10_tempted_57 : decode cX10_tempted 57 = .ok (.istore 8, 2) := by decide +kernel
theorem dX10_tempted_59 : decode cX10_tempted 59 = .ok (.iload 8, 2) := by decide +kernel
theorem dX10_tempted_61 : decode cX10_tempted 61 = .ok (.iconst 1, 1) := by decide +kernel
theorem dX10_tempted_62 : decode cX10_tempted 62 = .ok (.if_icmp .gt 60, 3) := by decide +kernel
theorem dX10_tempted_65 : decode cX10_tempted 65 = .ok (.iload 7, 2) := by decide +kernel
theorem dX10_tempted_67 : decode cX10_tempted 67 = .ok (.iload 8, 2) := by decide +kernel
theorem dX10_tempted_69 : decode cX10_tempted 69 = .ok (.iload_n 1, 1) := by decide +kernel
theorem dX10_tempted_70 : decode cX10_tempted 70 = .ok (.iload_n 2, 1) := by decide +kernel
theorem dX10_tempted_71 : decode cX10_tempted 71 = .ok (.invokestatic 312, 3) := by decide +kernel
theorem dX10_tempted_74 : decode cX10_tempted 74 = .ok (.ifCond .eq 42, 3) := by decide +kernel
theorem dX10_tempted_77 : decode cX10_tempted 77 = .ok (.iload 4, 2) := by decide +kernel
theorem dX10_tempted_79 : decode cX10_tempted 79 = .ok (.ifCond .ne 34, 3) := by decide +kernel
theorem dX10_tempted_82 : decode cX10_tempted 82 = .ok (.bipush 10, 2) := by decide +kernel
theorem dX10_tempted_84 : decode cX10_tempted 84 = .ok (.iload 7, 2) := by decide +kernel
theorem dX10_tempted_86 : decode cX10_tempted 86 = .ok (.imul, 1) := by decide +kernel
theorem dX10_tempted_87 : decode cX10_tempted 87 = .ok (.iload 8, 2) := by decide +kernel
theorem dX10_tempted_89 : decode cX10_tempted 89 = .ok (.iadd, 1) := by decide +kernel
theorem dX10_tempted_90 : decode cX10_tempted 90 = .ok (.istore 5, 2) := by decide +kernel
theorem dX10_tempted_92 : decode cX10_tempted 92 = .ok (.iload 7, 2) := by decide +kernel
theorem dX10_tempted_94 : decode cX10_tempted 94 = .ok (.iload 8, 2) := by decide +kernel
theorem dX10_tempted_96 : decode cX10_tempted 96 = .ok (.iload_n 1, 1) := by decide +kernel
theorem dX10_tempted_97 : decode cX10_tempted 97 = .ok (.iload_n 2, 1) := by decide +kernel
theorem dX10_tempted_98 : decode cX10_tempted 98 = .ok (.invokestatic 316, 3) := by decide +kernel
theorem dX10_tempted_101 : decode cX10_tempted 101 = .ok (.iload 8, 2) := by decide +kernel
theorem dX10_tempted_103 : decode cX10_tempted 103 = .ok (.iload 7, 2) := by decide +kernel
theorem dX10_tempted_105 : decode cX10_tempted 105 = .ok (.iload_n 1, 1) := by decide +kernel
theorem dX10_tempted_106 : decode cX10_tempted 106 = .ok (.iload_n 2, 1) := by decide +kernel
theorem dX10_tempted_107 : decode cX10_tempted 107 = .ok (.invokestatic 316, 3) := by decide +kernel
theorem dX10_tempted_110 : decode cX10_tempted 110 = .ok (.iadd, 1) := by decide +kernel
theorem dX10_tempted_111 : decode cX10_tempted 111 = .ok (.istore 6, 2) := by decide +kernel
theorem dX10_tempted_113 : decode cX10_tempted 113 = .ok (.iinc 4 1, 3) := by decide +kernel
theorem dX10_tempted_116 : decode cX10_tempted 116 = .ok (.iinc 8 1, 3) := by decide +kernel
theorem dX10_tempted_119 : decode cX10_tempted 119 = .ok (.goto (-60), 3) := by decide +kernel
theorem dX10_tempted_122 : decode cX10_tempted 122 = .ok (.iinc 7 1, 3) := by decide +kernel
theorem dX10_tempted_125 : decode cX10_tempted 125 = .ok (.goto (-75), 3) := by decide +kernel
theorem dX10_tempted_128 : decode cX10_tempted 128 = .ok (.iload_n 3, 1) := by decide +kernel
theorem dX10_tempted_129 : decode cX10_tempted 129 = .ok (.lookupswitch 33 #[(0, 27), (1, 30)], 27) := by decide +kernel
theorem dX10_tempted_156 : decode cX10_tempted 156 = .ok (.iload 4, 2) := by decide +kernel
theorem dX10_tempted_158 : decode cX10_tempted 158 = .ok (.ireturn, 1) := by decide +kernel
theorem dX10_tempted_159 : decode cX10_tempted 159 = .ok (.iload 5, 2) := by decide +kernel
theorem dX10_tempted_161 : decode cX10_tempted 161 = .ok (.ireturn, 1) := by decide +kernel
theorem dX10_tempted_162 : decode cX10_tempted 162 = .ok (.iload 6, 2) := by decide +kernel
theorem dX10_tempted_164 : decode cX10_tempted 164 = .ok (.ireturn, 1) := by decide +kernel
theorem dX10_alms_0 : decode cX10_alms 0 = .ok (.aload_n 0, 1) := by decide +kernel
theorem dX10_alms_1 : decode cX10_alms 1 = .ok (.aload_n 0, 1) := by decide +kernel
theorem dX10_alms_2 : decode cX10_alms 2 = .ok (.getfield 27, 3) := by decide +kernel
theorem dX10_alms_5 : decode cX10_alms 5 = .ok (.getfield 54, 3) := by decide +kernel
theorem dX10_alms_8 : decode cX10_alms 8 = .ok (.iload_n 1, 1) := by decide +kernel
theorem dX10_alms_9 : decode cX10_alms 9 = .ok (.invokevirtual 236, 3) := by decide +kernel
theorem dX10_alms_12 : decode cX10_alms 12 = .ok (.invokevirtual 199, 3) := by decide +kernel
theorem dX10_alms_15 : decode cX10_alms 15 = .ok (.aload_n 0, 1) := by decide +kernel
theorem dX10_alms_16 : decode cX10_alms 16 = .ok (.iload_n 2, 1) := by decide +kernel
theorem dX10_alms_17 : decode cX10_alms 17 = .ok (.iconst 0, 1) := by decide +kernel
theorem dX10_alms_18 : decode cX10_alms 18 = .ok (.iconst 1, 1) := by decide +kernel
theorem dX10_alms_19 : decode cX10_alms 19 = .ok (.aload_n 0, 1) := by decide +kernel
theorem dX10_alms_20 : decode cX10_alms 20 = .ok (.getfield 27, 3) := by decide +kernel
theorem dX10_alms_23 : decode cX10_alms 23 = .ok (.getfield 54, 3) := by decide +kernel
theorem dX10_alms_26 : decode cX10_alms 26 = .ok (.getfield 188, 3) := by decide +kernel
theorem dX10_alms_29 : decode cX10_alms 29 = .ok (.ishl, 1) := by decide +kernel
theorem dX10_alms_30 : decode cX10_alms 30 = .ok (.iconst 1, 1) := by decide +kernel
theorem dX10_alms_31 : decode cX10_alms 31 = .ok (.isub, 1) := by decide +kernel
theorem dX10_alms_32 : decode cX10_alms 32 = .ok (.invokestatic 177, 3) := by decide +kernel
theorem dX10_alms_35 : decode cX10_alms 35 = .ok (.ifCond .eq 18, 3) := by decide +kernel
theorem dX10_alms_38 : decode cX10_alms 38 = .ok (.iload_n 3, 1) := by decide +kernel
theorem dX10_alms_39 : decode cX10_alms 39 = .ok (.iconst 0, 1) := by decide +kernel
theorem dX10_alms_40 : decode cX10_alms 40 = .ok (.sipush 999, 3) := by decide +kernel
theorem dX10_alms_43 : decode cX10_alms 43 = .ok (.invokestatic 177, 3) := by decide +kernel
theorem dX10_alms_46 : decode cX10_alms 46 = .ok (.ifCond .eq 7, 3) := by decide +kernel
theorem dX10_alms_49 : decode cX10_alms 49 = .ok (.iconst 1, 1) := by decide +kernel
theorem dX10_alms_50 : decode cX10_alms 50 = .ok (.goto 4, 3) := by decide +kernel
theorem dX10_alms_53 : decode cX10_alms 53 = .ok (.iconst 0, 1) := by decide +kernel
theorem dX10_alms_54 : decode cX10_alms 54 = .ok (.invokevirtual 181, 3) := by decide +kernel
theorem dX10_alms_57 : decode cX10_alms 57 = .ok (.iload_n 2, 1) := by decide +kernel
theorem dX10_alms_58 : decode cX10_alms 58 = .ok (.iload_n 1, 1) := by decide +kernel
theorem dX10_alms_59 : decode cX10_alms 59 = .ok (.ishr, 1) := by decide +kernel
theorem dX10_alms_60 : decode cX10_alms 60 = .ok (.iconst 1, 1) := by decide +kernel
theorem dX10_alms_61 : decode cX10_alms 61 = .ok (.iand, 1) := by decide +kernel
theorem dX10_alms_62 : decode cX10_alms 62 = .ok (.ifCond .ne 5, 3) := by decide +kernel
theorem dX10_alms_65 : decode cX10_alms 65 = .ok (.iconst 0, 1) := by decide +kernel
theorem dX10_alms_66 : decode cX10_alms 66 = .ok (.ireturn, 1) := by decide +kernel
theorem dX10_alms_67 : decode cX10_alms 67 = .ok (.iconst 0, 1) := by decide +kernel
theorem dX10_alms_68 : decode cX10_alms 68 = .ok (.istore 4, 2) := by decide +kernel
theorem dX10_alms_70 : decode cX10_alms 70 = .ok (.iload 4, 2) := by decide +kernel
theorem dX10_alms_72 : decode cX10_alms 72 = .ok (.bipush 99, 2) := by decide +kernel
theorem dX10_alms_74 : decode cX10_alms 74 = .ok (.if_icmp .ge 22, 3) := by decide +kernel
theorem dX10_alms_77 : decode cX10_alms 77 = .ok (.aload_n 0, 1) := by decide +kernel
theorem dX10_alms_78 : decode cX10_alms 78 = .ok (.iload 4, 2) := by decide +kernel
theorem dX10_alms_80 : decode cX10_alms 80 = .ok (.iconst 1, 1) := by decide +kernel
theorem dX10_alms_81 : decode cX10_alms 81 = .ok (.iadd, 1) := by decide +kernel
theorem dX10_alms_82 : decode cX10_alms 82 = .ok (.iload_n 2, 1) := by decide +kernel
theorem dX10_alms_83 : decode cX10_alms 83 = .ok (.invokevirtual 320, 3) := by decide +kernel
theorem dX10_alms_86 : decode cX10_alms 86 = .ok (.iload_n 3, 1) := by decide +kernel
theorem dX10_alms_87 : decode cX10_alms 87 = .ok (.if_icmp .gt 9, 3) := by decide +kernel
theorem dX10_alms_90 : decode cX10_alms 90 = .ok (.iinc 4 1, 3) := by decide +kernel
theorem dX10_alms_93 : decode cX10_alms 93 = .ok (.goto (-23), 3) := by decide +kernel
theorem dX10_alms_96 : decode cX10_alms 96 = .ok (.iload 4, 2) := by decide +kernel
theorem dX10_alms_98 : decode cX10_alms 98 = .ok (.aload_n 0, 1) := by decide +kernel
theorem dX10_alms_99 : decode cX10_alms 99 = .ok (.getfield 27, 3) := by decide +kernel
theorem dX10_alms_102 : decode cX10_alms 102 = .ok (.getfield 54, 3) := by decide +kernel
theorem dX10_alms_105 : decode cX10_alms 105 = .ok (.getfield 242, 3) := by decide +kernel
theorem dX10_alms_108 : decode cX10_alms 108 = .ok (.iload_n 1, 1) := by decide +kernel
theorem dX10_alms_109 : decode cX10_alms 109 = .ok (.iaload, 1) := by decide +kernel
theorem dX10_alms_110 : decode cX10_alms 110 = .ok (.invokestatic 323, 3) := by decide +kernel
theorem dX10_alms_113 : decode cX10_alms 113 = .ok (.ireturn, 1) := by decide +kernel
theorem dX10_strongest_0 : decode cX10_strongest 0 = .ok (.aload_n 0, 1) := by decide +kernel
theorem dX10_strongest_1 : decode cX10_strongest 1 = .ok (.iload_n 1, 1) := by decide +kernel
theorem dX10_strongest_2 : decode cX10_strongest 2 = .ok (.iconst 0, 1) := by decide +kernel
theorem dX10_strongest_3 : decode cX10_strongest 3 = .ok (.iconst 1, 1) := by decide +kernel
theorem dX10_strongest_4 : decode cX10_strongest 4 = .ok (.invokestatic 177, 3) := by decide +kernel
theorem dX10_strongest_7 : decode cX10_strongest 7 = .ok (.invokevirtual 181, 3) := by decide +kernel
theorem dX10_strongest_10 : decode cX10_strongest 10 = .ok (.iconst (-1), 1) := by decide +kernel
theorem dX10_strongest_11 : decode cX10_strongest 11 = .ok (.istore_n 2, 1) := by decide +kernel
theorem dX10_strongest_12 : decode cX10_strongest 12 = .ok (.iconst (-1), 1) := by decide +kernel
theorem dX10_strongest_13 : decode cX10_strongest 13 = .ok (.istore_n 3, 1) := by decide +kernel
