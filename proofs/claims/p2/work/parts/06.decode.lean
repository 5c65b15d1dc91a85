theorem dX7_goesTo_19 : decode cX7_goesTo 19 = .ok (.invokevirtual 161, 3) := by decide +kernel
theorem dX7_goesTo_22 : decode cX7_goesTo 22 = .ok (.goto (-22), 3) := by decide +kernel
theorem dX7_goesTo_25 : decode cX7_goesTo 25 = .ok (.aload_n 0, 1) := by decide +kernel
theorem dX7_goesTo_26 : decode cX7_goesTo 26 = .ok (.getfield 22, 3) := by decide +kernel
theorem dX7_goesTo_29 : decode cX7_goesTo 29 = .ok (.iconst 1, 1) := by decide +kernel
theorem dX7_goesTo_30 : decode cX7_goesTo 30 = .ok (.iload_n 1, 1) := by decide +kernel
theorem dX7_goesTo_31 : decode cX7_goesTo 31 = .ok (.iastore, 1) := by decide +kernel
theorem dX7_goesTo_32 : decode cX7_goesTo 32 = .ok (.goto (-32), 3) := by decide +kernel
theorem dX7_goesTo_35 : decode cX7_goesTo 35 = .ok (.return_, 1) := by decide +kernel
theorem dX7_goesOver_0 : decode cX7_goesOver 0 = .ok (.aload_n 0, 1) := by decide +kernel
theorem dX7_goesOver_1 : decode cX7_goesOver 1 = .ok (.getfield 22, 3) := by decide +kernel
theorem dX7_goesOver_4 : decode cX7_goesOver 4 = .ok (.iconst 1, 1) := by decide +kernel
theorem dX7_goesOver_5 : decode cX7_goesOver 5 = .ok (.iconst 0, 1) := by decide +kernel
theorem dX7_goesOver_6 : decode cX7_goesOver 6 = .ok (.iastore, 1) := by decide +kernel
theorem dX7_goesOver_7 : decode cX7_goesOver 7 = .ok (.aload_n 0, 1) := by decide +kernel
theorem dX7_goesOver_8 : decode cX7_goesOver 8 = .ok (.getfield 25, 3) := by decide +kernel
theorem dX7_goesOver_11 : decode cX7_goesOver 11 = .ok (.iconst 1, 1) := by decide +kernel
theorem dX7_goesOver_12 : decode cX7_goesOver 12 = .ok (.iload_n 1, 1) := by decide +kernel
theorem dX7_goesOver_13 : decode cX7_goesOver 13 = .ok (.iastore, 1) := by decide +kernel
theorem dX7_goesOver_14 : decode cX7_goesOver 14 = .ok (.aload_n 0, 1) := by decide +kernel
theorem dX7_goesOver_15 : decode cX7_goesOver 15 = .ok (.getfield 28, 3) := by decide +kernel
theorem dX7_goesOver_18 : decode cX7_goesOver 18 = .ok (.iconst 1, 1) := by decide +kernel
theorem dX7_goesOver_19 : decode cX7_goesOver 19 = .ok (.iload_n 2, 1) := by decide +kernel
theorem dX7_goesOver_20 : decode cX7_goesOver 20 = .ok (.iastore, 1) := by decide +kernel
theorem dX7_goesOver_21 : decode cX7_goesOver 21 = .ok (.bipush 16, 2) := by decide +kernel
theorem dX7_goesOver_23 : decode cX7_goesOver 23 = .ok (.istore_n 3, 1) := by decide +kernel
theorem dX7_goesOver_24 : decode cX7_goesOver 24 = .ok (.iload_n 3, 1) := by decide +kernel
theorem dX7_goesOver_25 : decode cX7_goesOver 25 = .ok (.bipush 32, 2) := by decide +kernel
theorem dX7_goesOver_27 : decode cX7_goesOver 27 = .ok (.if_icmp .ge 30, 3) := by decide +kernel
theorem dX7_goesOver_30 : decode cX7_goesOver 30 = .ok (.aload_n 0, 1) := by decide +kernel
theorem dX7_goesOver_31 : decode cX7_goesOver 31 = .ok (.getfield 31, 3) := by decide +kernel
theorem dX7_goesOver_34 : decode cX7_goesOver 34 = .ok (.iload_n 3, 1) := by decide +kernel
theorem dX7_goesOver_35 : decode cX7_goesOver 35 = .ok (.iconst 0, 1) := by decide +kernel
theorem dX7_goesOver_36 : decode cX7_goesOver 36 = .ok (.iastore, 1) := by decide +kernel
theorem dX7_goesOver_37 : decode cX7_goesOver 37 = .ok (.aload_n 0, 1) := by decide +kernel
theorem dX7_goesOver_38 : decode cX7_goesOver 38 = .ok (.getfield 34, 3) := by decide +kernel
theorem dX7_goesOver_41 : decode cX7_goesOver 41 = .ok (.iload_n 3, 1) := by decide +kernel
theorem dX7_goesOver_42 : decode cX7_goesOver 42 = .ok (.iconst 0, 1) := by decide +kernel
theorem dX7_goesOver_43 : decode cX7_goesOver 43 = .ok (.iastore, 1) := by decide +kernel
theorem dX7_goesOver_44 : decode cX7_goesOver 44 = .ok (.aload_n 0, 1) := by decide +kernel
theorem dX7_goesOver_45 : decode cX7_goesOver 45 = .ok (.getfield 37, 3) := by decide +kernel
theorem dX7_goesOver_48 : decode cX7_goesOver 48 = .ok (.iload_n 3, 1) := by decide +kernel
theorem dX7_goesOver_49 : decode cX7_goesOver 49 = .ok (.iconst 0, 1) := by decide +kernel
theorem dX7_goesOver_50 : decode cX7_goesOver 50 = .ok (.bastore, 1) := by decide +kernel
theorem dX7_goesOver_51 : decode cX7_goesOver 51 = .ok (.iinc 3 1, 3) := by decide +kernel
theorem dX7_goesOver_54 : decode cX7_goesOver 54 = .ok (.goto (-30), 3) := by decide +kernel
theorem dX7_goesOver_57 : decode cX7_goesOver 57 = .ok (.iconst 0, 1) := by decide +kernel
theorem dX7_goesOver_58 : decode cX7_goesOver 58 = .ok (.istore_n 3, 1) := by decide +kernel
theorem dX7_goesOver_59 : decode cX7_goesOver 59 = .ok (.iload_n 3, 1) := by decide +kernel
theorem dX7_goesOver_60 : decode cX7_goesOver 60 = .ok (.aload_n 0, 1) := by decide +kernel
theorem dX7_goesOver_61 : decode cX7_goesOver 61 = .ok (.getfield 115, 3) := by decide +kernel
theorem dX7_goesOver_64 : decode cX7_goesOver 64 = .ok (.if_icmp .ge 15, 3) := by decide +kernel
theorem dX7_goesOver_67 : decode cX7_goesOver 67 = .ok (.aload_n 0, 1) := by decide +kernel
theorem dX7_goesOver_68 : decode cX7_goesOver 68 = .ok (.iconst 1, 1) := by decide +kernel
theorem dX7_goesOver_69 : decode cX7_goesOver 69 = .ok (.iload_n 3, 1) := by decide +kernel
theorem dX7_goesOver_70 : decode cX7_goesOver 70 = .ok (.invokevirtual 128, 3) := by decide +kernel
theorem dX7_goesOver_73 : decode cX7_goesOver 73 = .ok (.iinc 3 1, 3) := by decide +kernel
theorem dX7_goesOver_76 : decode cX7_goesOver 76 = .ok (.goto (-17), 3) := by decide +kernel
theorem dX7_goesOver_79 : decode cX7_goesOver 79 = .ok (.iconst 0, 1) := by decide +kernel
theorem dX7_goesOver_80 : decode cX7_goesOver 80 = .ok (.istore_n 3, 1) := by decide +kernel
theorem dX7_goesOver_81 : decode cX7_goesOver 81 = .ok (.iload_n 3, 1) := by decide +kernel
theorem dX7_goesOver_82 : decode cX7_goesOver 82 = .ok (.aload_n 0, 1) := by decide +kernel
theorem dX7_goesOver_83 : decode cX7_goesOver 83 = .ok (.getfield 147, 3) := by decide +kernel
theorem dX7_goesOver_86 : decode cX7_goesOver 86 = .ok (.if_icmp .ge 36, 3) := by decide +kernel
theorem dX7_goesOver_89 : decode cX7_goesOver 89 = .ok (.aload_n 0, 1) := by decide +kernel
theorem dX7_goesOver_90 : decode cX7_goesOver 90 = .ok (.aload_n 0, 1) := by decide +kernel
theorem dX7_goesOver_91 : decode cX7_goesOver 91 = .ok (.getfield 62, 3) := by decide +kernel
theorem dX7_goesOver_94 : decode cX7_goesOver 94 = .ok (.iload_n 3, 1) := by decide +kernel
theorem dX7_goesOver_95 : decode cX7_goesOver 95 = .ok (.iaload, 1) := by decide +kernel
theorem dX7_goesOver_96 : decode cX7_goesOver 96 = .ok (.invokevirtual 174, 3) := by decide +kernel
theorem dX7_goesOver_99 : decode cX7_goesOver 99 = .ok (.aload_n 0, 1) := by decide +kernel
theorem dX7_goesOver_100 : decode cX7_goesOver 100 = .ok (.iconst 1, 1) := by decide +kernel
theorem dX7_goesOver_101 : decode cX7_goesOver 101 = .ok (.aload_n 0, 1) := by decide +kernel
theorem dX7_goesOver_102 : decode cX7_goesOver 102 = .ok (.getfield 56, 3) := by decide +kernel
theorem dX7_goesOver_105 : decode cX7_goesOver 105 = .ok (.iload_n 3, 1) := by decide +kernel
theorem dX7_goesOver_106 : decode cX7_goesOver 106 = .ok (.iaload, 1) := by decide +kernel
theorem dX7_goesOver_107 : decode cX7_goesOver 107 = .ok (.aload_n 0, 1) := by decide +kernel
theorem dX7_goesOver_108 : decode cX7_goesOver 108 = .ok (.getfield 59, 3) := by decide +kernel
theorem dX7_goesOver_111 : decode cX7_goesOver 111 = .ok (.iload_n 3, 1) := by decide +kernel
theorem dX7_goesOver_112 : decode cX7_goesOver 112 = .ok (.iaload, 1) := by decide +kernel
theorem dX7_goesOver_113 : decode cX7_goesOver 113 = .ok (.invokevirtual 150, 3) := by decide +kernel
theorem dX7_goesOver_116 : decode cX7_goesOver 116 = .ok (.iinc 3 1, 3) := by decide +kernel
theorem dX7_goesOver_119 : decode cX7_goesOver 119 = .ok (.goto (-38), 3) := by decide +kernel
theorem dX7_goesOver_122 : decode cX7_goesOver 122 = .ok (.aload_n 0, 1) := by decide +kernel
theorem dX7_goesOver_123 : decode cX7_goesOver 123 = .ok (.aload_n 0, 1) := by decide +kernel
theorem dX7_goesOver_124 : decode cX7_goesOver 124 = .ok (.getfield 22, 3) := by decide +kernel
theorem dX7_goesOver_127 : decode cX7_goesOver 127 = .ok (.iconst 0, 1) := by decide +kernel
theorem dX7_goesOver_128 : decode cX7_goesOver 128 = .ok (.iaload, 1) := by decide +kernel
theorem dX7_goesOver_129 : decode cX7_goesOver 129 = .ok (.invokevirtual 174, 3) := by decide +kernel
theorem dX7_goesOver_132 : decode cX7_goesOver 132 = .ok (.return_, 1) := by decide +kernel
theorem dX7_again_0 : decode cX7_again 0 = .ok (.aload_n 0, 1) := by decide +kernel
theorem dX7_again_1 : decode cX7_again 1 = .ok (.iload_n 1, 1) := by decide +kernel
theorem dX7_again_2 : decode cX7_again 2 = .ok (.invokevirtual 154, 3) := by decide +kernel
theorem dX7_again_5 : decode cX7_again 5 = .ok (.ifCond .eq 33, 3) := by decide +kernel
theorem dX7_again_8 : decode cX7_again 8 = .ok (.iload_n 2, 1) := by decide +kernel
theorem dX7_again_9 : decode cX7_again 9 = .ok (.iconst 1, 1) := by decide +kernel
theorem dX7_again_10 : decode cX7_again 10 = .ok (.sipush 20000, 3) := by decide +kernel
theorem dX7_again_13 : decode cX7_again 13 = .ok (.invokestatic 124, 3) := by decide +kernel
theorem dX7_again_16 : decode cX7_again 16 = .ok (.ifCond .eq 22, 3) := by decide +kernel
theorem dX7_again_19 : decode cX7_again 19 = .ok (.iload_n 3, 1) := by decide +kernel
theorem dX7_again_20 : decode cX7_again 20 = .ok (.iconst 1, 1) := by decide +kernel
theorem dX7_again_21 : decode cX7_again 21 = .ok (.iload_n 2, 1) := by decide +kernel
theorem dX7_again_22 : decode cX7_again 22 = .ok (.invokestatic 124, 3) := by decide +kernel
theorem dX7_again_25 : decode cX7_again 25 = .ok (.ifCond .eq 13, 3) := by decide +kernel
theorem dX7_again_28 : decode cX7_again 28 = .ok (.iload 4, 2) := by decide +kernel
theorem dX7_again_30 : decode cX7_again 30 = .ok (.iconst 0, 1) := by decide +kernel
theorem dX7_again_31 : decode cX7_again 31 = .ok (.iconst 1, 1) := by decide +kernel
theorem dX7_again_32 : decode cX7_again 32 = .ok (.invokestatic 124, 3) := by decide +kernel
theorem dX7_again_35 : decode cX7_again 35 = .ok (.ifCond .ne 6, 3) := by decide +kernel
theorem dX7_again_38 : decode cX7_again 38 = .ok (.bipush (-2), 2) := by decide +kernel
theorem dX7_again_40 : decode cX7_again 40 = .ok (.ireturn, 1) := by decide +kernel
theorem dX7_again_41 : decode cX7_again 41 = .ok (.aload_n 0, 1) := by decide +kernel
theorem dX7_again_42 : decode cX7_again 42 = .ok (.iload_n 2, 1) := by decide +kernel
theorem dX7_again_43 : decode cX7_again 43 = .ok (.iload_n 3, 1) := by decide +kernel
theorem dX7_again_44 : decode cX7_again 44 = .ok (.invokevirtual 177, 3) := by decide +kernel
theorem dX7_again_47 : decode cX7_again 47 = .ok (.iload 4, 2) := by decide +kernel
theorem dX7_again_49 : decode cX7_again 49 = .ok (.ifCond .ne 15, 3) := by decide +kernel
theorem dX7_again_52 : decode cX7_again 52 = .ok (.aload_n 0, 1) := by decide +kernel
theorem dX7_again_53 : decode cX7_again 53 = .ok (.getfield 47, 3) := by decide +kernel
theorem dX7_again_56 : decode cX7_again 56 = .ok (.bipush 12, 2) := by decide +kernel
theorem dX7_again_58 : decode cX7_again 58 = .ok (.iload_n 1, 1) := by decide +kernel
theorem dX7_again_59 : decode cX7_again 59 = .ok (.iadd, 1) := by decide +kernel
theorem dX7_again_60 : decode cX7_again 60 = .ok (.iaload, 1) := by decide +kernel
theorem dX7_again_61 : decode cX7_again 61 = .ok (.goto 12, 3) := by decide +kernel
theorem dX7_again_64 : decode cX7_again 64 = .ok (.aload_n 0, 1) := by decide +kernel
theorem dX7_again_65 : decode cX7_again 65 = .ok (.getfield 50, 3) := by decide +kernel
theorem dX7_again_68 : decode cX7_again 68 = .ok (.bipush 12, 2) := by decide +kernel
theorem dX7_again_70 : decode cX7_again 70 = .ok (.iload_n 1, 1) := by decide +kernel
theorem dX7_again_71 : decode cX7_again 71 = .ok (.iadd, 1) := by decide +kernel
theorem dX7_again_72 : decode cX7_again 72 = .ok (.iaload, 1) := by decide +kernel
theorem dX7_again_73 : decode cX7_again 73 = .ok (.ireturn, 1) := by decide +kernel
theorem dX7_mark_0 : decode cX7_mark 0 = .ok (.aload_n 0, 1) := by decide +kernel
theorem dX7_mark_1 : decode cX7_mark 1 = .ok (.iload_n 1, 1) := by decide +kernel
theorem dX7_mark_2 : decode cX7_mark 2 = .ok (.invokevirtual 154, 3) := by decide +kernel
theorem dX7_mark_5 : decode cX7_mark 5 = .ok (.ifCond .eq 12, 3) := by decide +kernel
theorem dX7_mark_8 : decode cX7_mark 8 = .ok (.iload_n 2, 1) := by decide +kernel
theorem dX7_mark_9 : decode cX7_mark 9 = .ok (.iconst 0, 1) := by decide +kernel
theorem dX7_mark_10 : decode cX7_mark 10 = .ok (.iconst 2, 1) := by decide +kernel
theorem dX7_mark_11 : decode cX7_mark 11 = .ok (.invokestatic 124, 3) := by decide +kernel
theorem dX7_mark_14 : decode cX7_mark 14 = .ok (.ifCond .ne 6, 3) := by decide +kernel
theorem dX7_mark_17 : decode cX7_mark 17 = .ok (.bipush (-2), 2) := by decide +kernel
theorem dX7_mark_19 : decode cX7_mark 19 = .ok (.ireturn, 1) := by decide +kernel
theorem dX7_mark_20 : decode cX7_mark 20 = .ok (.aload_n 0, 1) := by decide +kernel
theorem dX7_mark_21 : decode cX7_mark 21 = .ok (.getfield 19, 3) := by decide +kernel
theorem dX7_mark_24 : decode cX7_mark 24 = .ok (.iload_n 1, 1) := by decide +kernel
theorem dX7_mark_25 : decode cX7_mark 25 = .ok (.iaload, 1) := by decide +kernel
theorem dX7_mark_26 : decode cX7_mark 26 = .ok (.istore_n 3, 1) := by decide +kernel
theorem dX7_mark_27 : decode cX7_mark 27 = .ok (.aload_n 0, 1) := by decide +kernel
theorem dX7_mark_28 : decode cX7_mark 28 = .ok (.getfield 19, 3) := by decide +kernel
theorem dX7_mark_31 : decode cX7_mark 31 = .ok (.iload_n 1, 1) := by decide +kernel
theorem dX7_mark_32 : decode cX7_mark 32 = .ok (.iload_n 2, 1) := by decide +kernel
theorem dX7_mark_33 : decode cX7_mark 33 = .ok (.iastore, 1) := by decide +kernel
theorem dX7_mark_34 : decode cX7_mark 34 = .ok (.iload_n 3, 1) := by decide +kernel
theorem dX7_mark_35 : decode cX7_mark 35 = .ok (.ireturn, 1) := by decide +kernel
theorem dX7_isRightBy_0 : decode cX7_isRightBy 0 = .ok (.aload_n 0, 1) := by decide +kernel
theorem dX7_isRightBy_1 : decode cX7_isRightBy 1 = .ok (.getfield 19, 3) := by decide +kernel
theorem dX7_isRightBy_4 : decode cX7_isRightBy 4 = .ok (.iload_n 1, 1) := by decide +kernel
theorem dX7_isRightBy_5 : decode cX7_isRightBy 5 = .ok (.iaload, 1) := by decide +kernel
theorem dX7_isRightBy_6 : decode cX7_isRightBy 6 = .ok (.ifCond .eq 18, 3) := by decide +kernel
theorem dX7_isRightBy_9 : decode cX7_isRightBy 9 = .ok (.aload_n 0, 1) := by decide +kernel
theorem dX7_isRightBy_10 : decode cX7_isRightBy 10 = .ok (.getfield 65, 3) := by decide +kernel
theorem dX7_isRightBy_13 : decode cX7_isRightBy 13 = .ok (.sipush 420, 3) := by decide +kernel
theorem dX7_isRightBy_16 : decode cX7_isRightBy 16 = .ok (.iload_n 1, 1) := by decide +kernel
theorem dX7_isRightBy_17 : decode cX7_isRightBy 17 = .ok (.imul, 1) := by decide +kernel
theorem dX7_isRightBy_18 : decode cX7_isRightBy 18 = .ok (.iload_n 2, 1) := by decide +kernel
theorem dX7_isRightBy_19 : decode cX7_isRightBy 19 = .ok (.iadd, 1) := by decide +kernel
theorem dX7_isRightBy_20 : decode cX7_isRightBy 20 = .ok (.baload, 1) := by decide +kernel
theorem dX7_isRightBy_21 : decode cX7_isRightBy 21 = .ok (.ifCond .eq 7, 3) := by decide +kernel
theorem dX7_isRightBy_24 : decode cX7_isRightBy 24 = .ok (.iconst 1, 1) := by decide +kernel
theorem dX7_isRightBy_25 : decode cX7_isRightBy 25 = .ok (.goto 4, 3) := by decide +kernel
theorem dX7_isRightBy_28 : decode cX7_isRightBy 28 = .ok (.iconst 0, 1) := by decide +kernel
theorem dX7_isRightBy_29 : decode cX7_isRightBy 29 = .ok (.ireturn, 1) := by decide +kernel
theorem dX7_triesMarks_0 : decode cX7_triesMarks 0 = .ok (.iconst 0, 1) := by decide +kernel
theorem dX7_triesMarks_1 : decode cX7_triesMarks 1 = .ok (.istore_n 2, 1) := by decide +kernel
theorem dX7_triesMarks_2 : decode cX7_triesMarks 2 = .ok (.sipush 500, 3) := by decide +kernel
theorem dX7_triesMarks_5 : decode cX7_triesMarks 5 = .ok (.istore_n 3, 1) := by decide +kernel
theorem dX7_triesMarks_6 : decode cX7_triesMarks 6 = .ok (.iload_n 3, 1) := by decide +kernel
theorem dX7_triesMarks_7 : decode cX7_triesMarks 7 = .ok (.sipush 10000, 3) := by decide +kernel
theorem dX7_triesMarks_10 : decode cX7_triesMarks 10 = .ok (.if_icmp .gt 124, 3) := by decide +kernel
theorem dX7_triesMarks_13 : decode cX7_triesMarks 13 = .ok (.sipush 250, 3) := by decide +kernel
theorem dX7_triesMarks_16 : decode cX7_triesMarks 16 = .ok (.istore 4, 2) := by decide +kernel
theorem dX7_triesMarks_18 : decode cX7_triesMarks 18 = .ok (.iload 4, 2) := by decide +kernel
theorem dX7_triesMarks_20 : decode cX7_triesMarks 20 = .ok (.iload_n 3, 1) := by decide +kernel
theorem dX7_triesMarks_21 : decode cX7_triesMarks 21 = .ok (.if_icmp .gt 104, 3) := by decide +kernel
theorem dX7_triesMarks_24 : decode cX7_triesMarks 24 = .ok (.aload_n 0, 1) := by decide +kernel
theorem dX7_triesMarks_25 : decode cX7_triesMarks 25 = .ok (.iload_n 3, 1) := by decide +kernel
theorem dX7_triesMarks_26 : decode cX7_triesMarks 26 = .ok (.iload 4, 2) := by decide +kernel
theorem dX7_triesMarks_28 : decode cX7_triesMarks 28 = .ok (.invokevirtual 177, 3) := by decide +kernel
theorem dX7_triesMarks_31 : decode cX7_triesMarks 31 = .ok (.iconst 0, 1) := by decide +kernel
theorem dX7_triesMarks_32 : decode cX7_triesMarks 32 = .ok (.istore 5, 2) := by decide +kernel
theorem dX7_triesMarks_34 : decode cX7_triesMarks 34 = .ok (.iload 5, 2) := by decide +kernel
theorem dX7_triesMarks_36 : decode cX7_triesMarks 36 = .ok (.aload_n 0, 1) := by decide +kernel
theorem dX7_triesMarks_37 : decode cX7_triesMarks 37 = .ok (.getfield 115, 3) := by decide +kernel
theorem dX7_triesMarks_40 : decode cX7_triesMarks 40 = .ok (.if_icmp .ge 73, 3) := by decide +kernel
theorem dX7_triesMarks_43 : decode cX7_triesMarks 43 = .ok (.aload_n 0, 1) := by decide +kernel
theorem dX7_triesMarks_44 : decode cX7_triesMarks 44 = .ok (.getfield 65, 3) := by decide +kernel
theorem dX7_triesMarks_47 : decode cX7_triesMarks 47 = .ok (.sipush 420, 3) := by decide +kernel
theorem dX7_triesMarks_50 : decode cX7_triesMarks 50 = .ok (.iload 5, 2) := by decide +kernel
theorem dX7_triesMarks_52 : decode cX7_triesMarks 52 = .ok (.imul, 1) := by decide +kernel
theorem dX7_triesMarks_53 : decode cX7_triesMarks 53 = .ok (.iload_n 2, 1) := by decide +kernel
theorem dX7_triesMarks_54 : decode cX7_triesMarks 54 = .ok (.iadd, 1) := by decide +kernel
theorem dX7_triesMarks_55 : decode cX7_triesMarks 55 = .ok (.aload_n 0, 1) := by decide +kernel
theorem dX7_triesMarks_56 : decode cX7_triesMarks 56 = .ok (.getfield 19, 3) := by decide +kernel
theorem dX7_triesMarks_59 : decode cX7_triesMarks 59 = .ok (.iload 5, 2) := by decide +kernel
theorem dX7_triesMarks_61 : decode cX7_triesMarks 61 = .ok (.iaload, 1) := by decide +kernel
theorem dX7_triesMarks_62 : decode cX7_triesMarks 62 = .ok (.iconst 1, 1) := by decide +kernel
theorem dX7_triesMarks_63 : decode cX7_triesMarks 63 = .ok (.if_icmp .ne 24, 3) := by decide +kernel
theorem dX7_triesMarks_66 : decode cX7_triesMarks 66 = .ok (.aload_n 0, 1) := by decide +kernel
theorem dX7_triesMarks_67 : decode cX7_triesMarks 67 = .ok (.getfield 50, 3) := by decide +kernel
theorem dX7_triesMarks_70 : decode cX7_triesMarks 70 = .ok (.bipush 12, 2) := by decide +kernel
theorem dX7_triesMarks_72 : decode cX7_triesMarks 72 = .ok (.iload 5, 2) := by decide +kernel
theorem dX7_triesMarks_74 : decode cX7_triesMarks 74 = .ok (.iadd, 1) := by decide +kernel
theorem dX7_triesMarks_75 : decode cX7_triesMarks 75 = .ok (.iaload, 1) := by decide +kernel
theorem dX7_triesMarks_76 : decode cX7_triesMarks 76 = .ok (.ifCond .ne 7, 3) := by decide +kernel
theorem dX7_triesMarks_79 : decode cX7_triesMarks 79 = .ok (.iconst 1, 1) := by decide +kernel
theorem dX7_triesMarks_80 : decode cX7_triesMarks 80 = .ok (.goto 26, 3) := by decide +kernel
theorem dX7_triesMarks_83 : decode cX7_triesMarks 83 = .ok (.iconst 0, 1) := by decide +kernel
theorem dX7_triesMarks_84 : decode cX7_triesMarks 84 = .ok (.goto 22, 3) := by decide +kernel
theorem dX7_triesMarks_87 : decode cX7_triesMarks 87 = .ok (.aload_n 0, 1) := by decide +kernel
theorem dX7_triesMarks_88 : decode cX7_triesMarks 88 = .ok (.getfield 47, 3) := by decide +kernel
theorem dX7_triesMarks_91 : decode cX7_triesMarks 91 = .ok (.bipush 12, 2) := by decide +kernel
theorem dX7_triesMarks_93 : decode cX7_triesMarks 93 = .ok (.iload 5, 2) := by decide +kernel
theorem dX7_triesMarks_95 : decode cX7_triesMarks 95 = .ok (.iadd, 1) := by decide +kernel
theorem dX7_triesMarks_96 : decode cX7_triesMarks 96 = .ok (.iaload, 1) := by decide +kernel
theorem dX7_triesMarks_97 : decode cX7_triesMarks 97 = .ok (.iload_n 1, 1) := by decide +kernel
theorem dX7_triesMarks_98 : decode cX7_triesMarks 98 = .ok (.if_icmp .gt 7, 3) := by decide +kernel
theorem dX7_triesMarks_101 : decode cX7_triesMarks 101 = .ok (.iconst 1, 1) := by decide +kernel
theorem dX7_triesMarks_102 : decode cX7_triesMarks 102 = .ok (.goto 4, 3) := by decide +kernel
theorem dX7_triesMarks_105 : decode cX7_triesMarks 105 = .ok (.iconst 0, 1) := by decide +kernel
theorem dX7_triesMarks_106 : decode cX7_triesMarks 106 = .ok (.bastore, 1) := by decide +kernel
theorem dX7_triesMarks_107 : decode cX7_triesMarks 107 = .ok (.iinc 5 1, 3) := by decide +kernel
theorem dX7_triesMarks_110 : decode cX7_triesMarks 110 = .ok (.goto (-76), 3) := by decide +kernel
theorem dX7_triesMarks_113 : decode cX7_triesMarks 113 = .ok (.iinc 2 1, 3) := by decide +kernel
theorem dX7_triesMarks_116 : decode cX7_triesMarks 116 = .ok (.iinc 4 250, 6) := by decide +kernel
theorem dX7_triesMarks_122 : decode cX7_triesMarks 122 = .ok (.goto (-104), 3) := by decide +kernel
theorem dX7_triesMarks_125 : decode cX7_triesMarks 125 = .ok (.iinc 3 500, 6) := by decide +kernel
theorem dX7_triesMarks_131 : decode cX7_triesMarks 131 = .ok (.goto (-125), 3) := by decide +kernel
theorem dX7_triesMarks_134 : decode cX7_triesMarks 134 = .ok (.return_, 1) := by decide +kernel
theorem dX7_common_0 : decode cX7_common 0 = .ok (.iconst 0, 1) := by decide +kernel
theorem dX7_common_1 : decode cX7_common 1 = .ok (.istore_n 3, 1) := by decide +kernel
theorem dX7_common_2 : decode cX7_common 2 = .ok (.iload_n 3, 1) := by decide +kernel
theorem dX7_common_3 : decode cX7_common 3 = .ok (.sipush 420, 3) := by decide +kernel
theorem dX7_common_6 : decode cX7_common 6 = .ok (.if_icmp .ge 29, 3) := by decide +kernel
theorem dX7_common_9 : decode cX7_common 9 = .ok (.aload_n 0, 1) := by decide +kernel
theorem dX7_common_10 : decode cX7_common 10 = .ok (.iload_n 1, 1) := by decide +kernel
theorem dX7_common_11 : decode cX7_common 11 = .ok (.iload_n 3, 1) := by decide +kernel
theorem dX7_common_12 : decode cX7_common 12 = .ok (.invokevirtual 180, 3) := by decide +kernel
theorem dX7_common_15 : decode cX7_common 15 = .ok (.ifCond .eq 14, 3) := by decide +kernel
theorem dX7_common_18 : decode cX7_common 18 = .ok (.aload_n 0, 1) := by decide +kernel
theorem dX7_common_19 : decode cX7_common 19 = .ok (.iload_n 2, 1) := by decide +kernel
theorem dX7_common_20 : decode cX7_common 20 = .ok (.iload_n 3, 1) := by decide +kernel
theorem dX7_common_21 : decode cX7_common 21 = .ok (.invokevirtual 180, 3) := by decide +kernel
theorem dX7_common_24 : decode cX7_common 24 = .ok (.ifCond .eq 5, 3) := by decide +kernel
theorem dX7_common_27 : decode cX7_common 27 = .ok (.iload_n 3, 1) := by decide +kernel
theorem dX7_common_28 : decode cX7_common 28 = .ok (.ireturn, 1) := by decide +kernel
theorem dX7_common_29 : decode cX7_common 29 = .ok (.iinc 3 1, 3) := by decide +kernel
theorem dX7_common_32 : decode cX7_common 32 = .ok (.goto (-30), 3) := by decide +kernel
theorem dX7_common_35 : decode cX7_common 35 = .ok (.iconst (-1), 1) := by decide +kernel
theorem dX7_common_36 : decode cX7_common 36 = .ok (.ireturn, 1) := by decide +kernel
theorem dX7_firstOfAll_0 : decode cX7_firstOfAll 0 = .ok (.iconst 0, 1) := by decide +kernel
theorem dX7_firstOfAll_1 : decode cX7_firstOfAll 1 = .ok (.istore_n 1, 1) := by decide +kernel
theorem dX7_firstOfAll_2 : decode cX7_firstOfAll 2 = .ok (.iload_n 1, 1) := by decide +kernel
theorem dX7_firstOfAll_3 : decode cX7_firstOfAll 3 = .ok (.sipush 420, 3) := by decide +kernel
theorem dX7_firstOfAll_6 : decode cX7_firstOfAll 6 = .ok (.if_icmp .ge 52, 3) := by decide +kernel
theorem dX7_firstOfAll_9 : decode cX7_firstOfAll 9 = .ok (.iconst 1, 1) := by decide +kernel
theorem dX7_firstOfAll_10 : decode cX7_firstOfAll 10 = .ok (.istore_n 2, 1) := by decide +kernel
theorem dX7_firstOfAll_11 : decode cX7_firstOfAll 11 = .ok (.iconst 0, 1) := by decide +kernel
theorem dX7_firstOfAll_12 : decode cX7_firstOfAll 12 = .ok (.istore_n 3, 1) := by decide +kernel
theorem dX7_firstOfAll_13 : decode cX7_firstOfAll 13 = .ok (.iload_n 3, 1) := by decide +kernel
theorem dX7_firstOfAll_14 : decode cX7_firstOfAll 14 = .ok (.aload_n 0, 1) := by decide +kernel
theorem dX7_firstOfAll_15 : decode cX7_firstOfAll 15 = .ok (.getfield 115, 3) := by decide +kernel
theorem dX7_firstOfAll_18 : decode cX7_firstOfAll 18 = .ok (.if_icmp .ge 28, 3) := by decide +kernel
theorem dX7_firstOfAll_21 : decode cX7_firstOfAll 21 = .ok (.iload_n 2, 1) := by decide +kernel
theorem dX7_firstOfAll_22 : decode cX7_firstOfAll 22 = .ok (.ifCond .eq 16, 3) := by decide +kernel
theorem dX7_firstOfAll_25 : decode cX7_firstOfAll 25 = .ok (.aload_n 0, 1) := by decide +kernel
theorem dX7_firstOfAll_26 : decode cX7_firstOfAll 26 = .ok (.iload_n 3, 1) := by decide +kernel
theorem dX7_firstOfAll_27 : decode cX7_firstOfAll 27 = .ok (.iload_n 1, 1) := by decide +kernel
theorem dX7_firstOfAll_28 : decode cX7_firstOfAll 28 = .ok (.invokevirtual 180, 3) := by decide +kernel
theorem dX7_firstOfAll_31 : decode cX7_firstOfAll 31 = .ok (.ifCond .eq 7, 3) := by decide +kernel
theorem dX7_firstOfAll_34 : decode cX7_firstOfAll 34 = .ok (.iconst 1, 1) := by decide +kernel
theorem dX7_firstOfAll_35 : decode cX7_firstOfAll 35 = .ok (.goto 4, 3) := by decide +kernel
theorem dX7_firstOfAll_38 : decode cX7_firstOfAll 38 = .ok (.iconst 0, 1) := by decide +kernel
theorem dX7_firstOfAll_39 : decode cX7_firstOfAll 39 = .ok (.istore_n 2, 1) := by decide +kernel
theorem dX7_firstOfAll_40 : decode cX7_firstOfAll 40 = .ok (.iinc 3 1, 3) := by decide +kernel
theorem dX7_firstOfAll_43 : decode cX7_firstOfAll 43 = .ok (.goto (-30), 3) := by decide +kernel
theorem dX7_firstOfAll_46 : decode cX7_firstOfAll 46 = .ok (.iload_n 2, 1) := by decide +kernel
theorem dX7_firstOfAll_47 : decode cX7_firstOfAll 47 = .ok (.ifCond .eq 5, 3) := by decide +kernel
theorem dX7_firstOfAll_50 : decode cX7_firstOfAll 50 = .ok (.iload_n 1, 1) := by decide +kernel
theorem dX7_firstOfAll_51 : decode cX7_firstOfAll 51 = .ok (.ireturn, 1) := by decide +kernel
theorem dX7_firstOfAll_52 : decode cX7_firstOfAll 52 = .ok (.iinc 1 1, 3) := by decide +kernel
theorem dX7_firstOfAll_55 : decode cX7_firstOfAll 55 = .ok (.goto (-53), 3) := by decide +kernel
theorem dX7_firstOfAll_58 : decode cX7_firstOfAll 58 = .ok (.iconst (-1), 1) := by decide +kernel
theorem dX7_firstOfAll_59 : decode cX7_firstOfAll 59 = .ok (.ireturn, 1) := by decide +kernel
theorem dX7_whoForbids_0 : decode cX7_whoForbids 0 = .ok (.iconst 0, 1) := by decide +kernel
theorem dX7_whoForbids_1 : decode cX7_whoForbids 1 = .ok (.istore_n 1, 1) := by decide +kernel
theorem dX7_whoForbids_2 : decode cX7_whoForbids 2 = .ok (.iload_n 1, 1) := by decide +kernel
theorem dX7_whoForbids_3 : decode cX7_whoForbids 3 = .ok (.aload_n 0, 1) := by decide +kernel
theorem dX7_whoForbids_4 : decode cX7_whoForbids 4 = .ok (.getfield 115, 3) := by decide +kernel
theorem dX7_whoForbids_7 : decode cX7_whoForbids 7 = .ok (.if_icmp .ge 28, 3) := by decide +kernel
theorem dX7_whoForbids_10 : decode cX7_whoForbids 10 = .ok (.aload_n 0, 1) := by decide +kernel
theorem dX7_whoForbids_11 : decode cX7_whoForbids 11 = .ok (.iload_n 1, 1) := by decide +kernel
theorem dX7_whoForbids_12 : decode cX7_whoForbids 12 = .ok (.iload_n 1, 1) := by decide +kernel
theorem dX7_whoForbids_13 : decode cX7_whoForbids 13 = .ok (.invokevirtual 183, 3) := by decide +kernel
theorem dX7_whoForbids_16 : decode cX7_whoForbids 16 = .ok (.iconst (-1), 1) := by decide +kernel
theorem dX7_whoForbids_17 : decode cX7_whoForbids 17 = .ok (.if_icmp .ne 12, 3) := by decide +kernel
theorem dX7_whoForbids_20 : decode cX7_whoForbids 20 = .ok (.sipush (-1000), 3) := by decide +kernel
theorem dX7_whoForbids_23 : decode cX7_whoForbids 23 = .ok (.bipush 17, 2) := by decide +kernel
theorem dX7_whoForbids_25 : decode cX7_whoForbids 25 = .ok (.iload_n 1, 1) := by decide +kernel
theorem dX7_whoForbids_26 : decode cX7_whoForbids 26 = .ok (.imul, 1) := by decide +kernel
theorem dX7_whoForbids_27 : decode cX7_whoForbids 27 = .ok (.isub, 1) := by decide +kernel
theorem dX7_whoForbids_28 : decode cX7_whoForbids 28 = .ok (.ireturn, 1) := by decide +kernel
theorem dX7_whoForbids_29 : decode cX7_whoForbids 29 = .ok (.iinc 1 1, 3) := by decide +kernel
theorem dX7_whoForbids_32 : decode cX7_whoForbids 32 = .ok (.goto (-30), 3) := by decide +kernel
theorem dX7_whoForbids_35 : decode cX7_whoForbids 35 = .ok (.iconst 0, 1) := by decide +kernel
theorem dX7_whoForbids_36 : decode cX7_whoForbids 36 = .ok (.istore_n 1, 1) := by decide +kernel
theorem dX7_whoForbids_37 : decode cX7_whoForbids 37 = .ok (.iload_n 1, 1) := by decide +kernel
theorem dX7_whoForbids_38 : decode cX7_whoForbids 38 = .ok (.aload_n 0, 1) := by decide +kernel
theorem dX7_whoForbids_39 : decode cX7_whoForbids 39 = .ok (.getfield 115, 3) := by decide +kernel
theorem dX7_whoForbids_42 : decode cX7_whoForbids 42 = .ok (.if_icmp .ge 66, 3) := by decide +kernel
theorem dX7_whoForbids_45 : decode cX7_whoForbids 45 = .ok (.iconst 0, 1) := by decide +kernel
theorem dX7_whoForbids_46 : decode cX7_whoForbids 46 = .ok (.istore_n 2, 1) := by decide +kernel
theorem dX7_whoForbids_47 : decode cX7_whoForbids 47 = .ok (.iload_n 2, 1) := by decide +kernel
theorem dX7_whoForbids_48 : decode cX7_whoForbids 48 = .ok (.aload_n 0, 1) := by decide +kernel
theorem dX7_whoForbids_49 : decode cX7_whoForbids 49 = .ok (.getfield 115, 3) := by decide +kernel
theorem dX7_whoForbids_52 : decode cX7_whoForbids 52 = .ok (.if_icmp .ge 50, 3) := by decide +kernel
theorem dX7_whoForbids_55 : decode cX7_whoForbids 55 = .ok (.aload_n 0, 1) := by decide +kernel
theorem dX7_whoForbids_56 : decode cX7_whoForbids 56 = .ok (.getfield 19, 3) := by decide +kernel
theorem dX7_whoForbids_59 : decode cX7_whoForbids 59 = .ok (.iload_n 1, 1) := by decide +kernel
theorem dX7_whoForbids_60 : decode cX7_whoForbids 60 = .ok (.iaload, 1) := by decide +kernel
theorem dX7_whoForbids_61 : decode cX7_whoForbids 61 = .ok (.iconst 1, 1) := by decide +kernel
theorem dX7_whoForbids_62 : decode cX7_whoForbids 62 = .ok (.if_icmp .ne 34, 3) := by decide +kernel
theorem dX7_whoForbids_65 : decode cX7_whoForbids 65 = .ok (.aload_n 0, 1) := by decide +kernel
theorem dX7_whoForbids_66 : decode cX7_whoForbids 66 = .ok (.getfield 19, 3) := by decide +kernel
theorem dX7_whoForbids_69 : decode cX7_whoForbids 69 = .ok (.iload_n 2, 1) := by decide +kernel
theorem dX7_whoForbids_70 : decode cX7_whoForbids 70 = .ok (.iaload, 1) := by decide +kernel
theorem dX7_whoForbids_71 : decode cX7_whoForbids 71 = .ok (.iconst 2, 1) := by decide +kernel
theorem dX7_whoForbids_72 : decode cX7_whoForbids 72 = .ok (.if_icmp .ne 24, 3) := by decide +kernel
theorem dX7_whoForbids_75 : decode cX7_whoForbids 75 = .ok (.aload_n 0, 1) := by decide +kernel
theorem dX7_whoForbids_76 : decode cX7_whoForbids 76 = .ok (.iload_n 1, 1) := by decide +kernel
theorem dX7_whoForbids_77 : decode cX7_whoForbids 77 = .ok (.iload_n 2, 1) := by decide +kernel
theorem dX7_whoForbids_78 : decode cX7_whoForbids 78 = .ok (.invokevirtual 183, 3) := by decide +kernel
theorem dX7_whoForbids_81 : decode cX7_whoForbids 81 = .ok (.iconst (-1), 1) := by decide +kernel
theorem dX7_whoForbids_82 : decode cX7_whoForbids 82 = .ok (.if_icmp .ne 14, 3) := by decide +kernel
theorem dX7_whoForbids_85 : decode cX7_whoForbids 85 = .ok (.sipush (-1000), 3) := by decide +kernel
theorem dX7_whoForbids_88 : decode cX7_whoForbids 88 = .ok (.bipush 16, 2) := by decide +kernel
theorem dX7_whoForbids_90 : decode cX7_whoForbids 90 = .ok (.iload_n 1, 1) := by decide +kernel
theorem dX7_whoForbids_91 : decode cX7_whoForbids 91 = .ok (.imul, 1) := by decide +kernel
theorem dX7_whoForbids_92 : decode cX7_whoForbids 92 = .ok (.isub, 1) := by decide +kernel
theorem dX7_whoForbids_93 : decode cX7_whoForbids 93 = .ok (.iload_n 2, 1) := by decide +kernel
theorem dX7_whoForbids_94 : decode cX7_whoForbids 94 = .ok (.isub, 1) := by decide +kernel
theorem dX7_whoForbids_95 : decode cX7_whoForbids 95 = .ok (.ireturn, 1) := by decide +kernel
theorem dX7_whoForbids_96 : decode cX7_whoForbids 96 = .ok (.iinc 2 1, 3) := by decide +kernel
theorem dX7_whoForbids_99 : decode cX7_whoForbids 99 = .ok (.goto (-52), 3) := by decide +kernel
theorem dX7_whoForbids_102 : decode cX7_whoForbids 102 = .ok (.iinc 1 1, 3) := by decide +kernel
theorem dX7_whoForbids_105 : decode cX7_whoForbids 105 = .ok (.goto (-68), 3) := by decide +kernel
theorem dX7_whoForbids_108 : decode cX7_whoForbids 108 = .ok (.sipush (-999), 3) := by decide +kernel
theorem dX7_whoForbids_111 : decode cX7_whoForbids 111 = .ok (.ireturn, 1) := by decide +kernel
theorem dX7_marks_0 : decode cX7_marks 0 = .ok (.iload_n 1, 1) := by decide +kernel
theorem dX7_marks_1 : decode cX7_marks 1 = .ok (.iconst 0, 1) := by decide +kernel
theorem dX7_marks_2 : decode cX7_marks 2 = .ok (.bipush 100, 2) := by decide +kernel
theorem dX7_marks_4 : decode cX7_marks 4 = .ok (.invokestatic 124, 3) := by decide +kernel
theorem dX7_marks_7 : decode cX7_marks 7 = .ok (.ifCond .ne 6, 3) := by decide +kernel
theorem dX7_marks_10 : decode cX7_marks 10 = .ok (.bipush (-2), 2) := by decide +kernel
theorem dX7_marks_12 : decode cX7_marks 12 = .ok (.ireturn, 1) := by decide +kernel
theorem dX7_marks_13 : decode cX7_marks 13 = .ok (.iconst 1, 1) := by decide +kernel
theorem dX7_marks_14 : decode cX7_marks 14 = .ok (.istore_n 2, 1) := by decide +kernel
theorem dX7_marks_15 : decode cX7_marks 15 = .ok (.iconst 0, 1) := by decide +kernel
theorem dX7_marks_16 : decode cX7_marks 16 = .ok (.istore_n 3, 1) := by decide +kernel
theorem dX7_marks_17 : decode cX7_marks 17 = .ok (.iload_n 3, 1) := by decide +kernel
theorem dX7_marks_18 : decode cX7_marks 18 = .ok (.aload_n 0, 1) := by decide +kernel
theorem dX7_marks_19 : decode cX7_marks 19 = .ok (.getfield 115, 3) := by decide +kernel
theorem dX7_marks_22 : decode cX7_marks 22 = .ok (.if_icmp .ge 28, 3) := by decide +kernel
theorem dX7_marks_25 : decode cX7_marks 25 = .ok (.iload_n 2, 1) := by decide +kernel
theorem dX7_marks_26 : decode cX7_marks 26 = .ok (.ifCond .eq 16, 3) := by decide +kernel
theorem dX7_marks_29 : decode cX7_marks 29 = .ok (.aload_n 0, 1) := by decide +kernel
theorem dX7_marks_30 : decode cX7_marks 30 = .ok (.getfield 19, 3) := by decide +kernel
theorem dX7_marks_33 : decode cX7_marks 33 = .ok (.iload_n 3, 1) := by decide +kernel
theorem dX7_marks_34 : decode cX7_marks 34 = .ok (.iaload, 1) := by decide +kernel
theorem dX7_marks_35 : decode cX7_marks 35 = .ok (.ifCond .ne 7, 3) := by decide +kernel
theorem dX7_marks_38 : decode cX7_marks 38 = .ok (.iconst 1, 1) := by decide +kernel
theorem dX7_marks_39 : decode cX7_marks 39 = .ok (.goto 4, 3) := by decide +kernel
theorem dX7_marks_42 : decode cX7_marks 42 = .ok (.iconst 0, 1) := by decide +kernel
theorem dX7_marks_43 : decode cX7_marks 43 = .ok (.istore_n 2, 1) := by decide +kernel
theorem dX7_marks_44 : decode cX7_marks 44 = .ok (.iinc 3 1, 3) := by decide +kernel
theorem dX7_marks_47 : decode cX7_marks 47 = .ok (.goto (-30), 3) := by decide +kernel
theorem dX7_marks_50 : decode cX7_marks 50 = .ok (.iload_n 2, 1) := by decide +kernel
theorem dX7_marks_51 : decode cX7_marks 51 = .ok (.ifCond .eq 6, 3) := by decide +kernel
theorem dX7_marks_54 : decode cX7_marks 54 = .ok (.bipush (-3), 2) := by decide +kernel
theorem dX7_marks_56 : decode cX7_marks 56 = .ok (.ireturn, 1) := by decide +kernel
theorem dX7_marks_57 : decode cX7_marks 57 = .ok (.aload_n 0, 1) := by decide +kernel
theorem dX7_marks_58 : decode cX7_marks 58 = .ok (.iload_n 1, 1) := by decide +kernel
theorem dX7_marks_59 : decode cX7_marks 59 = .ok (.invokevirtual 186, 3) := by decide +kernel
theorem dX7_marks_62 : decode cX7_marks 62 = .ok (.aload_n 0, 1) := by decide +kernel
theorem dX7_marks_63 : decode cX7_marks 63 = .ok (.invokevirtual 189, 3) := by decide +kernel
theorem dX7_marks_66 : decode cX7_marks 66 = .ok (.istore_n 3, 1) := by decide +kernel
theorem dX7_marks_67 : decode cX7_marks 67 = .ok (.iload_n 3, 1) := by decide +kernel
theorem dX7_marks_68 : decode cX7_marks 68 = .ok (.iconst (-1), 1) := by decide +kernel
theorem dX7_marks_69 : decode cX7_marks 69 = .ok (.if_icmp .ne 8, 3) := by decide +kernel
theorem dX7_marks_72 : decode cX7_marks 72 = .ok (.aload_n 0, 1) := by decide +kernel
theorem dX7_marks_73 : decode cX7_marks 73 = .ok (.invokevirtual 193, 3) := by decide +kernel
theorem dX7_marks_76 : decode cX7_marks 76 = .ok (.ireturn, 1) := by decide +kernel
theorem dX7_marks_77 : decode cX7_marks 77 = .ok (.sipush 500, 3) := by decide +kernel
theorem dX7_marks_80 : decode cX7_marks 80 = .ok (.istore 4, 2) := by decide +kernel
theorem dX7_marks_82 : decode cX7_marks 82 = .ok (.iload_n 3, 1) := by decide +kernel
theorem dX7_marks_83 : decode cX7_marks 83 = .ok (.istore 5, 2) := by decide +kernel
theorem dX7_marks_85 : decode cX7_marks 85 = .ok (.iload 5, 2) := by decide +kernel
theorem dX7_marks_87 : decode cX7_marks 87 = .ok (.iload 4, 2) := by decide +kernel
theorem dX7_marks_89 : decode cX7_marks 89 = .ok (.sipush 250, 3) := by decide +kernel
theorem dX7_marks_92 : decode cX7_marks 92 = .ok (.idiv, 1) := by decide +kernel
theorem dX7_marks_93 : decode cX7_marks 93 = .ok (.if_icmp .lt 23, 3) := by decide +kernel
theorem dX7_marks_96 : decode cX7_marks 96 = .ok (.iload 5, 2) := by decide +kernel
theorem dX7_marks_98 : decode cX7_marks 98 = .ok (.iload 4, 2) := by decide +kernel
theorem dX7_marks_100 : decode cX7_marks 100 = .ok (.sipush 250, 3) := by decide +kernel
theorem dX7_marks_103 : decode cX7_marks 103 = .ok (.idiv, 1) := by decide +kernel
theorem dX7_marks_104 : decode cX7_marks 104 = .ok (.isub, 1) := by decide +kernel
theorem dX7_marks_105 : decode cX7_marks 105 = .ok (.istore 5, 2) := by decide +kernel
theorem dX7_marks_107 : decode cX7_marks 107 = .ok (.iinc 4 500, 6) := by decide +kernel
theorem dX7_marks_113 : decode cX7_marks 113 = .ok (.goto (-28), 3) := by decide +kernel
theorem dX7_marks_116 : decode cX7_marks 116 = .ok (.ldc 132, 2) := by decide +kernel
theorem dX7_marks_118 : decode cX7_marks 118 = .ok (.iload 4, 2) := by decide +kernel
theorem dX7_marks_120 : decode cX7_marks 120 = .ok (.imul, 1) := by decide +kernel
theorem dX7_marks_121 : decode cX7_marks 121 = .ok (.sipush 250, 3) := by decide +kernel
theorem dX7_marks_124 : decode cX7_marks 124 = .ok (.iload 5, 2) := by decide +kernel
theorem dX7_marks_126 : decode cX7_marks 126 = .ok (.iconst 1, 1) := by decide +kernel
theorem dX7_marks_127 : decode cX7_marks 127 = .ok (.iadd, 1) := by decide +kernel
theorem dX7_marks_128 : decode cX7_marks 128 = .ok (.imul, 1) := by decide +kernel
theorem dX7_marks_129 : decode cX7_marks 129 = .ok (.iadd, 1) := by decide +kernel
theorem dX7_marks_130 : decode cX7_marks 130 = .ok (.ireturn, 1) := by decide +kernel
theorem dX7_isHouse_0 : decode cX7_isHouse 0 = .ok (.iload_n 0, 1) := by decide +kernel
theorem dX7_isHouse_1 : decode cX7_isHouse 1 = .ok (.iconst 0, 1) := by decide +kernel
theorem dX7_isHouse_2 : decode cX7_isHouse 2 = .ok (.iconst 4, 1) := by decide +kernel
theorem dX7_isHouse_3 : decode cX7_isHouse 3 = .ok (.invokestatic 124, 3) := by decide +kernel
theorem dX7_isHouse_6 : decode cX7_isHouse 6 = .ok (.ireturn, 1) := by decide +kernel
theorem dX7_way_0 : decode cX7_way 0 = .ok (.iload_n 1, 1) := by decide +kernel
theorem dX7_way_1 : decode cX7_way 1 = .ok (.invokestatic 196, 3) := by decide +kernel
theorem dX7_way_4 : decode cX7_way 4 = .ok (.ifCond .eq 15, 3) := by decide +kernel
theorem dX7_way_7 : decode cX7_way 7 = .ok (.iload_n 2, 1) := by decide +kernel
theorem dX7_way_8 : decode cX7_way 8 = .ok (.invokestatic 196, 3) := by decide +kernel
theorem dX7_way_11 : decode cX7_way 11 = .ok (.ifCond .eq 8, 3) := by decide +kernel
theorem dX7_way_14 : decode cX7_way 14 = .ok (.iload_n 1, 1) := by decide +kernel
theorem dX7_way_15 : decode cX7_way 15 = .ok (.iload_n 2, 1) := by decide +kernel
theorem dX7_way_16 : decode cX7_way 16 = .ok (.if_icmp .ne 6, 3) := by decide +kernel
theorem dX7_way_19 : decode cX7_way 19 = .ok (.bipush (-2), 2) := by decide +kernel
theorem dX7_way_21 : decode cX7_way 21 = .ok (.ireturn, 1) := by decide +kernel
theorem dX7_way_22 : decode cX7_way 22 = .ok (.aload_n 0, 1) := by decide +kernel
theorem dX7_way_23 : decode cX7_way 23 = .ok (.getfield 68, 3) := by decide +kernel
theorem dX7_way_26 : decode cX7_way 26 = .ok (.iconst 5, 1) := by decide +kernel
theorem dX7_way_27 : decode cX7_way 27 = .ok (.iload_n 1, 1) := by decide +kernel
theorem dX7_way_28 : decode cX7_way 28 = .ok (.imul, 1) := by decide +kernel
theorem dX7_way_29 : decode cX7_way 29 = .ok (.iload_n 2, 1) := by decide +kernel
theorem dX7_way_30 : decode cX7_way 30 = .ok (.iadd, 1) := by decide +kernel
theorem dX7_way_31 : decode cX7_way 31 = .ok (.baload, 1) := by decide +kernel
theorem dX7_way_32 : decode cX7_way 32 = .ok (.iload_n 3, 1) := by decide +kernel
theorem dX7_way_33 : decode cX7_way 33 = .ok (.if_icmp .ne 6, 3) := by decide +kernel
theorem dX7_way_36 : decode cX7_way 36 = .ok (.bipush (-3), 2) := by decide +kernel
theorem dX7_way_38 : decode cX7_way 38 = .ok (.ireturn, 1) := by decide +kernel
theorem dX7_way_39 : decode cX7_way 39 = .ok (.aload_n 0, 1) := by decide +kernel
theorem dX7_way_40 : decode cX7_way 40 = .ok (.getfield 68, 3) := by decide +kernel
theorem dX7_way_43 : decode cX7_way 43 = .ok (.iconst 5, 1) := by decide +kernel
theorem dX7_way_44 : decode cX7_way 44 = .ok (.iload_n 1, 1) := by decide +kernel
theorem dX7_way_45 : decode cX7_way 45 = .ok (.imul, 1) := by decide +kernel
theorem dX7_way_46 : decode cX7_way 46 = .ok (.iload_n 2, 1) := by decide +kernel
theorem dX7_way_47 : decode cX7_way 47 = .ok (.iadd, 1) := by decide +kernel
theorem dX7_way_48 : decode cX7_way 48 = .ok (.iload_n 3, 1) := by decide +kernel
theorem dX7_way_49 : decode cX7_way 49 = .ok (.bastore, 1) := by decide +kernel
theorem dX7_way_50 : decode cX7_way 50 = .ok (.aload_n 0, 1) := by decide +kernel
theorem dX7_way_51 : decode cX7_way 51 = .ok (.getfield 68, 3) := by decide +kernel
theorem dX7_way_54 : decode cX7_way 54 = .ok (.iconst 5, 1) := by decide +kernel
theorem dX7_way_55 : decode cX7_way 55 = .ok (.iload_n 2, 1) := by decide +kernel
theorem dX7_way_56 : decode cX7_way 56 = .ok (.imul, 1) := by decide +kernel
theorem dX7_way_57 : decode cX7_way 57 = .ok (.iload_n 1, 1) := by decide +kernel
theorem dX7_way_58 : decode cX7_way 58 = .ok (.iadd, 1) := by decide +kernel
theorem dX7_way_59 : decode cX7_way 59 = .ok (.iload_n 3, 1) := by decide +kernel
theorem dX7_way_60 : decode cX7_way 60 = .ok (.bastore, 1) := by decide +kernel
theorem dX7_way_61 : decode cX7_way 61 = .ok (.iload_n 3, 1) := by decide +kernel
theorem dX7_way_62 : decode cX7_way 62 = .ok (.ifCond .ne 25, 3) := by decide +kernel
theorem dX7_way_65 : decode cX7_way 65 = .ok (.aload_n 0, 1) := by decide +kernel
theorem dX7_way_66 : decode cX7_way 66 = .ok (.getfield 77, 3) := by decide +kernel
theorem dX7_way_69 : decode cX7_way 69 = .ok (.iconst 5, 1) := by decide +kernel
theorem dX7_way_70 : decode cX7_way 70 = .ok (.iload_n 1, 1) := by decide +kernel
theorem dX7_way_71 : decode cX7_way 71 = .ok (.imul, 1) := by decide +kernel
theorem dX7_way_72 : decode cX7_way 72 = .ok (.iload_n 2, 1) := by decide +kernel
theorem dX7_way_73 : decode cX7_way 73 = .ok (.iadd, 1) := by decide +kernel
theorem dX7_way_74 : decode cX7_way 74 = .ok (.iconst 0, 1) := by decide +kernel
theorem dX7_way_75 : decode cX7_way 75 = .ok (.iastore, 1) := by decide +kernel
theorem dX7_way_76 : decode cX7_way 76 = .ok (.aload_n 0, 1) := by decide +kernel
theorem dX7_way_77 : decode cX7_way 77 = .ok (.getfield 77, 3) := by decide +kernel
theorem dX7_way_80 : decode cX7_way 80 = .ok (.iconst 5, 1) := by decide +kernel
theorem dX7_way_81 : decode cX7_way 81 = .ok (.iload_n 2, 1) := by decide +kernel
theorem dX7_way_82 : decode cX7_way 82 = .ok (.imul, 1) := by decide +kernel
theorem dX7_way_83 : decode cX7_way 83 = .ok (.iload_n 1, 1) := by decide +kernel
theorem dX7_way_84 : decode cX7_way 84 = .ok (.iadd, 1) := by decide +kernel
theorem dX7_way_85 : decode cX7_way 85 = .ok (.iconst 0, 1) := by decide +kernel
theorem dX7_way_86 : decode cX7_way 86 = .ok (.iastore, 1) := by decide +kernel
theorem dX7_way_87 : decode cX7_way 87 = .ok (.iconst 1, 1) := by decide +kernel
theorem dX7_way_88 : decode cX7_way 88 = .ok (.ireturn, 1) := by decide +kernel
theorem dX7_bind_0 : decode cX7_bind 0 = .ok (.aload_n 0, 1) := by decide +kernel
theorem dX7_bind_1 : decode cX7_bind 1 = .ok (.iload_n 1, 1) := by decide +kernel
theorem dX7_bind_2 : decode cX7_bind 2 = .ok (.invokevirtual 154, 3) := by decide +kernel
theorem dX7_bind_5 : decode cX7_bind 5 = .ok (.ifCond .eq 24, 3) := by decide +kernel
theorem dX7_bind_8 : decode cX7_bind 8 = .ok (.iload_n 2, 1) := by decide +kernel
theorem dX7_bind_9 : decode cX7_bind 9 = .ok (.iconst 1, 1) := by decide +kernel
theorem dX7_bind_10 : decode cX7_bind 10 = .ok (.iconst 4, 1) := by decide +kernel
theorem dX7_bind_11 : decode cX7_bind 11 = .ok (.invokestatic 124, 3) := by decide +kernel
theorem dX7_bind_14 : decode cX7_bind 14 = .ok (.ifCond .eq 15, 3) := by decide +kernel
theorem dX7_bind_17 : decode cX7_bind 17 = .ok (.iload_n 3, 1) := by decide +kernel
theorem dX7_bind_18 : decode cX7_bind 18 = .ok (.invokestatic 196, 3) := by decide +kernel
theorem dX7_bind_21 : decode cX7_bind 21 = .ok (.ifCond .eq 8, 3) := by decide +kernel
theorem dX7_bind_24 : decode cX7_bind 24 = .ok (.iload_n 2, 1) := by decide +kernel
theorem dX7_bind_25 : decode cX7_bind 25 = .ok (.iload_n 3, 1) := by decide +kernel
theorem dX7_bind_26 : decode cX7_bind 26 = .ok (.if_icmp .ne 6, 3) := by decide +kernel
theorem dX7_bind_29 : decode cX7_bind 29 = .ok (.bipush (-2), 2) := by decide +kernel
theorem dX7_bind_31 : decode cX7_bind 31 = .ok (.ireturn, 1) := by decide +kernel
theorem dX7_bind_32 : decode cX7_bind 32 = .ok (.aload_n 0, 1) := by decide +kernel
theorem dX7_bind_33 : decode cX7_bind 33 = .ok (.getfield 71, 3) := by decide +kernel
theorem dX7_bind_36 : decode cX7_bind 36 = .ok (.iconst 5, 1) := by decide +kernel
theorem dX7_bind_37 : decode cX7_bind 37 = .ok (.iload_n 2, 1) := by decide +kernel
theorem dX7_bind_38 : decode cX7_bind 38 = .ok (.imul, 1) := by decide +kernel
theorem dX7_bind_39 : decode cX7_bind 39 = .ok (.iload_n 3, 1) := by decide +kernel
theorem dX7_bind_40 : decode cX7_bind 40 = .ok (.iadd, 1) := by decide +kernel
theorem dX7_bind_41 : decode cX7_bind 41 = .ok (.iload_n 1, 1) := by decide +kernel
theorem dX7_bind_42 : decode cX7_bind 42 = .ok (.iastore, 1) := by decide +kernel
theorem dX7_bind_43 : decode cX7_bind 43 = .ok (.iconst 1, 1) := by decide +kernel
theorem dX7_bind_44 : decode cX7_bind 44 = .ok (.ireturn, 1) := by decide +kernel
theorem dX7_holds_0 : decode cX7_holds 0 = .ok (.iconst 0, 1) := by decide +kernel
theorem dX7_holds_1 : decode cX7_holds 1 = .ok (.istore_n 3, 1) := by decide +kernel
theorem dX7_holds_2 : decode cX7_holds 2 = .ok (.iload_n 3, 1) := by decide +kernel
theorem dX7_holds_3 : decode cX7_holds 3 = .ok (.aload_n 0, 1) := by decide +kernel
theorem dX7_holds_4 : decode cX7_holds 4 = .ok (.getfield 77, 3) := by decide +kernel
theorem dX7_holds_7 : decode cX7_holds 7 = .ok (.iload_n 1, 1) := by decide +kernel
theorem dX7_holds_8 : decode cX7_holds 8 = .ok (.iaload, 1) := by decide +kernel
theorem dX7_holds_9 : decode cX7_holds 9 = .ok (.if_icmp .ge 25, 3) := by decide +kernel
theorem dX7_holds_12 : decode cX7_holds 12 = .ok (.aload_n 0, 1) := by decide +kernel
theorem dX7_holds_13 : decode cX7_holds 13 = .ok (.getfield 74, 3) := by decide +kernel
theorem dX7_holds_16 : decode cX7_holds 16 = .ok (.iconst 5, 1) := by decide +kernel
theorem dX7_holds_17 : decode cX7_holds 17 = .ok (.iload_n 1, 1) := by decide +kernel
theorem dX7_holds_18 : decode cX7_holds 18 = .ok (.imul, 1) := by decide +kernel
theorem dX7_holds_19 : decode cX7_holds 19 = .ok (.iload_n 3, 1) := by decide +kernel
theorem dX7_holds_20 : decode cX7_holds 20 = .ok (.iadd, 1) := by decide +kernel
theorem dX7_holds_21 : decode cX7_holds 21 = .ok (.iaload, 1) := by decide +kernel
theorem dX7_holds_22 : decode cX7_holds 22 = .ok (.iload_n 2, 1) := by decide +kernel
theorem dX7_holds_23 : decode cX7_holds 23 = .ok (.if_icmp .ne 5, 3) := by decide +kernel
theorem dX7_holds_26 : decode cX7_holds 26 = .ok (.iconst 1, 1) := by decide +kernel
theorem dX7_holds_27 : decode cX7_holds 27 = .ok (.ireturn, 1) := by decide +kernel
theorem dX7_holds_28 : decode cX7_holds 28 = .ok (.iinc 3 1, 3) := by decide +kernel
theorem dX7_holds_31 : decode cX7_holds 31 = .ok (.goto (-29), 3) := by decide +kernel
theorem dX7_holds_34 : decode cX7_holds 34 = .ok (.iconst 0, 1) := by decide +kernel
theorem dX7_holds_35 : decode cX7_holds 35 = .ok (.ireturn, 1) := by decide +kernel
theorem dX7_findOwn_0 : decode cX7_findOwn 0 = .ok (.aload_n 0, 1) := by decide +kernel
theorem dX7_findOwn_1 : decode cX7_findOwn 1 = .ok (.iconst 0, 1) := by decide +kernel
theorem dX7_findOwn_2 : decode cX7_findOwn 2 = .ok (.putfield 199, 3) := by decide +kernel
theorem dX7_findOwn_5 : decode cX7_findOwn 5 = .ok (.iload_n 1, 1) := by decide +kernel
theorem dX7_findOwn_6 : decode cX7_findOwn 6 = .ok (.ifCond .ne 24, 3) := by decide +kernel
theorem dX7_findOwn_9 : decode cX7_findOwn 9 = .ok (.aload_n 0, 1) := by decide +kernel
theorem dX7_findOwn_10 : decode cX7_findOwn 10 = .ok (.getfield 89, 3) := by decide +kernel
theorem dX7_findOwn_13 : decode cX7_findOwn 13 = .ok (.iconst 0, 1) := by decide +kernel
theorem dX7_findOwn_14 : decode cX7_findOwn 14 = .ok (.iconst 0, 1) := by decide +kernel
theorem dX7_findOwn_15 : decode cX7_findOwn 15 = .ok (.iastore, 1) := by decide +kernel
theorem dX7_findOwn_16 : decode cX7_findOwn 16 = .ok (.aload_n 0, 1) := by decide +kernel
theorem dX7_findOwn_17 : decode cX7_findOwn 17 = .ok (.iload_n 2, 1) := by decide +kernel
theorem dX7_findOwn_18 : decode cX7_findOwn 18 = .ok (.ifCond .eq 7, 3) := by decide +kernel
theorem dX7_findOwn_21 : decode cX7_findOwn 21 = .ok (.iconst 0, 1) := by decide +kernel
theorem dX7_findOwn_22 : decode cX7_findOwn 22 = .ok (.goto 4, 3) := by decide +kernel
theorem dX7_findOwn_25 : decode cX7_findOwn 25 = .ok (.iconst 1, 1) := by decide +kernel
theorem dX7_findOwn_26 : decode cX7_findOwn 26 = .ok (.putfield 199, 3) := by decide +kernel
theorem dX7_findOwn_29 : decode cX7_findOwn 29 = .ok (.return_, 1) := by decide +kernel
theorem dX7_findOwn_30 : decode cX7_findOwn 30 = .ok (.iconst (-1), 1) := by decide +kernel
theorem dX7_findOwn_31 : decode cX7_findOwn 31 = .ok (.istore_n 3, 1) := by decide +kernel
theorem dX7_findOwn_32 : decode cX7_findOwn 32 = .ok (.iconst 0, 1) := by decide +kernel
theorem dX7_findOwn_33 : decode cX7_findOwn 33 = .ok (.istore 4, 2) := by decide +kernel
theorem dX7_findOwn_35 : decode cX7_findOwn 35 = .ok (.iload 4, 2) := by decide +kernel
theorem dX7_findOwn_37 : decode cX7_findOwn 37 = .ok (.iconst 5, 1) := by decide +kernel
theorem dX7_findOwn_38 : decode cX7_findOwn 38 = .ok (.if_icmp .ge 61, 3) := by decide +kernel
theorem dX7_findOwn_41 : decode cX7_findOwn 41 = .ok (.iconst 5, 1) := by decide +kernel
theorem dX7_findOwn_42 : decode cX7_findOwn 42 = .ok (.iload_n 1, 1) := by decide +kernel
theorem dX7_findOwn_43 : decode cX7_findOwn 43 = .ok (.imul, 1) := by decide +kernel
theorem dX7_findOwn_44 : decode cX7_findOwn 44 = .ok (.iload 4, 2) := by decide +kernel
theorem dX7_findOwn_46 : decode cX7_findOwn 46 = .ok (.iadd, 1) := by decide +kernel
theorem dX7_findOwn_47 : decode cX7_findOwn 47 = .ok (.istore 5, 2) := by decide +kernel
theorem dX7_findOwn_49 : decode cX7_findOwn 49 = .ok (.aload_n 0, 1) := by decide +kernel
theorem dX7_findOwn_50 : decode cX7_findOwn 50 = .ok (.getfield 77, 3) := by decide +kernel
theorem dX7_findOwn_53 : decode cX7_findOwn 53 = .ok (.iload 5, 2) := by decide +kernel
theorem dX7_findOwn_55 : decode cX7_findOwn 55 = .ok (.iaload, 1) := by decide +kernel
theorem dX7_findOwn_56 : decode cX7_findOwn 56 = .ok (.ifCond .le 37, 3) := by decide +kernel
theorem dX7_findOwn_59 : decode cX7_findOwn 59 = .ok (.aload_n 0, 1) := by decide +kernel
theorem dX7_findOwn_60 : decode cX7_findOwn 60 = .ok (.iload 5, 2) := by decide +kernel
theorem dX7_findOwn_62 : decode cX7_findOwn 62 = .ok (.iload_n 1, 1) := by decide +kernel
theorem dX7_findOwn_63 : decode cX7_findOwn 63 = .ok (.invokevirtual 202, 3) := by decide +kernel
theorem dX7_findOwn_66 : decode cX7_findOwn 66 = .ok (.ifCond .ne 27, 3) := by decide +kernel
theorem dX7_findOwn_69 : decode cX7_findOwn 69 = .ok (.iload_n 3, 1) := by decide +kernel
theorem dX7_findOwn_70 : decode cX7_findOwn 70 = .ok (.iconst (-1), 1) := by decide +kernel
theorem dX7_findOwn_71 : decode cX7_findOwn 71 = .ok (.if_icmp .eq 19, 3) := by decide +kernel
theorem dX7_findOwn_74 : decode cX7_findOwn 74 = .ok (.aload_n 0, 1) := by decide +kernel
theorem dX7_findOwn_75 : decode cX7_findOwn 75 = .ok (.getfield 77, 3) := by decide +kernel
theorem dX7_findOwn_78 : decode cX7_findOwn 78 = .ok (.iload 5, 2) := by decide +kernel
theorem dX7_findOwn_80 : decode cX7_findOwn 80 = .ok (.iaload, 1) := by decide +kernel
theorem dX7_findOwn_81 : decode cX7_findOwn 81 = .ok (.aload_n 0, 1) := by decide +kernel
theorem dX7_findOwn_82 : decode cX7_findOwn 82 = .ok (.getfield 77, 3) := by decide +kernel
theorem dX7_findOwn_85 : decode cX7_findOwn 85 = .ok (.iload_n 3, 1) := by decide +kernel
theorem dX7_findOwn_86 : decode cX7_findOwn 86 = .ok (.iaload, 1) := by decide +kernel
theorem dX7_findOwn_87 : decode cX7_findOwn 87 = .ok (.if_icmp .ge 6, 3) := by decide +kernel
theorem dX7_findOwn_90 : decode cX7_findOwn 90 = .ok (.iload 5, 2) := by decide +kernel
theorem dX7_findOwn_92 : decode cX7_findOwn 92 = .ok (.istore_n 3, 1) := by decide +kernel
theorem dX7_findOwn_93 : decode cX7_findOwn 93 = .ok (.iinc 4 1, 3) := by decide +kernel
theorem dX7_findOwn_96 : decode cX7_findOwn 96 = .ok (.goto (-61), 3) := by decide +kernel
theorem dX7_findOwn_99 : decode cX7_findOwn 99 = .ok (.iload_n 3, 1) := by decide +kernel
theorem dX7_findOwn_100 : decode cX7_findOwn 100 = .ok (.iconst (-1), 1) := by decide +kernel
theorem dX7_findOwn_101 : decode cX7_findOwn 101 = .ok (.if_icmp .eq 62, 3) := by decide +kernel
theorem dX7_findOwn_104 : decode cX7_findOwn 104 = .ok (.aload_n 0, 1) := by decide +kernel
theorem dX7_findOwn_105 : decode cX7_findOwn 105 = .ok (.getfield 89, 3) := by decide +kernel
theorem dX7_findOwn_108 : decode cX7_findOwn 108 = .ok (.iconst 0, 1) := by decide +kernel
theorem dX7_findOwn_109 : decode cX7_findOwn 109 = .ok (.iload_n 1, 1) := by decide +kernel
theorem dX7_findOwn_110 : decode cX7_findOwn 110 = .ok (.iastore, 1) := by decide +kernel
theorem dX7_findOwn_111 : decode cX7_findOwn 111 = .ok (.iconst 0, 1) := by decide +kernel
theorem dX7_findOwn_112 : decode cX7_findOwn 112 = .ok (.istore 4, 2) := by decide +kernel
theorem dX7_findOwn_114 : decode cX7_findOwn 114 = .ok (.iload 4, 2) := by decide +kernel
theorem dX7_findOwn_116 : decode cX7_findOwn 116 = .ok (.aload_n 0, 1) := by decide +kernel
theorem dX7_findOwn_117 : decode cX7_findOwn 117 = .ok (.getfield 77, 3) := by decide +kernel
theorem dX7_findOwn_120 : decode cX7_findOwn 120 = .ok (.iload_n 3, 1) := by decide +kernel
theorem dX7_findOwn_121 : decode cX7_findOwn 121 = .ok (.iaload, 1) := by decide +kernel
theorem dX7_findOwn_122 : decode cX7_findOwn 122 = .ok (.if_icmp .ge 29, 3) := by decide +kernel
theorem dX7_findOwn_125 : decode cX7_findOwn 125 = .ok (.aload_n 0, 1) := by decide +kernel
theorem dX7_findOwn_126 : decode cX7_findOwn 126 = .ok (.getfield 89, 3) := by decide +kernel
theorem dX7_findOwn_129 : decode cX7_findOwn 129 = .ok (.iload 4, 2) := by decide +kernel
theorem dX7_findOwn_131 : decode cX7_findOwn 131 = .ok (.iconst 1, 1) := by decide +kernel
theorem dX7_findOwn_132 : decode cX7_findOwn 132 = .ok (.iadd, 1) := by decide +kernel
theorem dX7_findOwn_133 : decode cX7_findOwn 133 = .ok (.aload_n 0, 1) := by decide +kernel
theorem dX7_findOwn_134 : decode cX7_findOwn 134 = .ok (.getfield 74, 3) := by decide +kernel
theorem dX7_findOwn_137 : decode cX7_findOwn 137 = .ok (.iconst 5, 1) := by decide +kernel
theorem dX7_findOwn_138 : decode cX7_findOwn 138 = .ok (.iload_n 3, 1) := by decide +kernel
theorem dX7_findOwn_139 : decode cX7_findOwn 139 = .ok (.imul, 1) := by decide +kernel
theorem dX7_findOwn_140 : decode cX7_findOwn 140 = .ok (.iload 4, 2) := by decide +kernel
theorem dX7_findOwn_142 : decode cX7_findOwn 142 = .ok (.iadd, 1) := by decide +kernel
theorem dX7_findOwn_143 : decode cX7_findOwn 143 = .ok (.iaload, 1) := by decide +kernel
theorem dX7_findOwn_144 : decode cX7_findOwn 144 = .ok (.iastore, 1) := by decide +kernel
theorem dX7_findOwn_145 : decode cX7_findOwn 145 = .ok (.iinc 4 1, 3) := by decide +kernel
theorem dX7_findOwn_148 : decode cX7_findOwn 148 = .ok (.goto (-34), 3) := by decide +kernel
theorem dX7_findOwn_151 : decode cX7_findOwn 151 = .ok (.aload_n 0, 1) := by decide +kernel
theorem dX7_findOwn_152 : decode cX7_findOwn 152 = .ok (.aload_n 0, 1) := by decide +kernel
theorem dX7_findOwn_153 : decode cX7_findOwn 153 = .ok (.getfield 77, 3) := by decide +kernel
theorem dX7_findOwn_156 : decode cX7_findOwn 156 = .ok (.iload_n 3, 1) := by decide +kernel
theorem dX7_findOwn_157 : decode cX7_findOwn 157 = .ok (.iaload, 1) := by decide +kernel
theorem dX7_findOwn_158 : decode cX7_findOwn 158 = .ok (.iconst 1, 1) := by decide +kernel
theorem dX7_findOwn_159 : decode cX7_findOwn 159 = .ok (.iadd, 1) := by decide +kernel
theorem dX7_findOwn_160 : decode cX7_findOwn 160 = .ok (.putfield 199, 3) := by decide +kernel
theorem dX7_findOwn_163 : decode cX7_findOwn 163 = .ok (.return_, 1) := by decide +kernel
theorem dX7_findsAnew_0 : decode cX7_findsAnew 0 = .ok (.aload_n 0, 1) := by decide +kernel
theorem dX7_findsAnew_1 : decode cX7_findsAnew 1 = .ok (.iload_n 1, 1) := by decide +kernel
theorem dX7_findsAnew_2 : decode cX7_findsAnew 2 = .ok (.iload_n 2, 1) := by decide +kernel
theorem dX7_findsAnew_3 : decode cX7_findsAnew 3 = .ok (.invokevirtual 205, 3) := by decide +kernel
theorem dX7_findsAnew_6 : decode cX7_findsAnew 6 = .ok (.aload_n 0, 1) := by decide +kernel
theorem dX7_findsAnew_7 : decode cX7_findsAnew 7 = .ok (.getfield 199, 3) := by decide +kernel
theorem dX7_findsAnew_10 : decode cX7_findsAnew 10 = .ok (.aload_n 0, 1) := by decide +kernel
theorem dX7_findsAnew_11 : decode cX7_findsAnew 11 = .ok (.getfield 83, 3) := by decide +kernel
theorem dX7_findsAnew_14 : decode cX7_findsAnew 14 = .ok (.iload_n 1, 1) := by decide +kernel
theorem dX7_findsAnew_15 : decode cX7_findsAnew 15 = .ok (.iaload, 1) := by decide +kernel
theorem dX7_findsAnew_16 : decode cX7_findsAnew 16 = .ok (.if_icmp .ne 7, 3) := by decide +kernel
theorem dX7_findsAnew_19 : decode cX7_findsAnew 19 = .ok (.iconst 1, 1) := by decide +kernel
theorem dX7_findsAnew_20 : decode cX7_findsAnew 20 = .ok (.goto 4, 3) := by decide +kernel
theorem dX7_findsAnew_23 : decode cX7_findsAnew 23 = .ok (.iconst 0, 1) := by decide +kernel
theorem dX7_findsAnew_24 : decode cX7_findsAnew 24 = .ok (.istore_n 3, 1) := by decide +kernel
theorem dX7_findsAnew_25 : decode cX7_findsAnew 25 = .ok (.iconst 0, 1) := by decide +kernel
theorem dX7_findsAnew_26 : decode cX7_findsAnew 26 = .ok (.istore 4, 2) := by decide +kernel
theorem dX7_findsAnew_28 : decode cX7_findsAnew 28 = .ok (.iload 4, 2) := by decide +kernel
theorem dX7_findsAnew_30 : decode cX7_findsAnew 30 = .ok (.aload_n 0, 1) := by decide +kernel
theorem dX7_findsAnew_31 : decode cX7_findsAnew 31 = .ok (.getfield 199, 3) := by decide +kernel
theorem dX7_findsAnew_34 : decode cX7_findsAnew 34 = .ok (.if_icmp .ge 40, 3) := by decide +kernel
theorem dX7_findsAnew_37 : decode cX7_findsAnew 37 = .ok (.iload_n 3, 1) := by decide +kernel
theorem dX7_findsAnew_38 : decode cX7_findsAnew 38 = .ok (.ifCond .eq 36, 3) := by decide +kernel
theorem dX7_findsAnew_41 : decode cX7_findsAnew 41 = .ok (.aload_n 0, 1) := by decide +kernel
theorem dX7_findsAnew_42 : decode cX7_findsAnew 42 = .ok (.getfield 89, 3) := by decide +kernel
theorem dX7_findsAnew_45 : decode cX7_findsAnew 45 = .ok (.iload 4, 2) := by decide +kernel
theorem dX7_findsAnew_47 : decode cX7_findsAnew 47 = .ok (.iaload, 1) := by decide +kernel
theorem dX7_findsAnew_48 : decode cX7_findsAnew 48 = .ok (.aload_n 0, 1) := by decide +kernel
theorem dX7_findsAnew_49 : decode cX7_findsAnew 49 = .ok (.getfield 80, 3) := by decide +kernel
theorem dX7_findsAnew_52 : decode cX7_findsAnew 52 = .ok (.iconst 5, 1) := by decide +kernel
theorem dX7_findsAnew_53 : decode cX7_findsAnew 53 = .ok (.iload_n 1, 1) := by decide +kernel
theorem dX7_findsAnew_54 : decode cX7_findsAnew 54 = .ok (.imul, 1) := by decide +kernel
theorem dX7_findsAnew_55 : decode cX7_findsAnew 55 = .ok (.iload 4, 2) := by decide +kernel
theorem dX7_findsAnew_57 : decode cX7_findsAnew 57 = .ok (.iadd, 1) := by decide +kernel
theorem dX7_findsAnew_58 : decode cX7_findsAnew 58 = .ok (.iaload, 1) := by decide +kernel
theorem dX7_findsAnew_59 : decode cX7_findsAnew 59 = .ok (.if_icmp .ne 7, 3) := by decide +kernel
theorem dX7_findsAnew_62 : decode cX7_findsAnew 62 = .ok (.iconst 1, 1) := by decide +kernel
theorem dX7_findsAnew_63 : decode cX7_findsAnew 63 = .ok (.goto 4, 3) := by decide +kernel
theorem dX7_findsAnew_66 : decode cX7_findsAnew 66 = .ok (.iconst 0, 1) := by decide +kernel
theorem dX7_findsAnew_67 : decode cX7_findsAnew 67 = .ok (.istore_n 3, 1) := by decide +kernel
theorem dX7_findsAnew_68 : decode cX7_findsAnew 68 = .ok (.iinc 4 1, 3) := by decide +kernel
theorem dX7_findsAnew_71 : decode cX7_findsAnew 71 = .ok (.goto (-43), 3) := by decide +kernel
theorem dX7_findsAnew_74 : decode cX7_findsAnew 74 = .ok (.iload_n 3, 1) := by decide +kernel
theorem dX7_findsAnew_75 : decode cX7_findsAnew 75 = .ok (.ifCond .eq 4, 3) := by decide +kernel
theorem dX7_findsAnew_78 : decode cX7_findsAnew 78 = .ok (.return_, 1) := by decide +kernel
theorem dX7_findsAnew_79 : decode cX7_findsAnew 79 = .ok (.aload_n 0, 1) := by decide +kernel
theorem dX7_findsAnew_80 : decode cX7_findsAnew 80 = .ok (.getfield 83, 3) := by decide +kernel
theorem dX7_findsAnew_83 : decode cX7_findsAnew 83 = .ok (.iload_n 1, 1) := by decide +kernel
theorem dX7_findsAnew_84 : decode cX7_findsAnew 84 = .ok (.aload_n 0, 1) := by decide +kernel
theorem dX7_findsAnew_85 : decode cX7_findsAnew 85 = .ok (.getfield 199, 3) := by decide +kernel
theorem dX7_findsAnew_88 : decode cX7_findsAnew 88 = .ok (.iastore, 1) := by decide +kernel
theorem dX7_findsAnew_89 : decode cX7_findsAnew 89 = .ok (.iconst 0, 1) := by decide +kernel
theorem dX7_findsAnew_90 : decode cX7_findsAnew 90 = .ok (.istore 4, 2) := by decide +kernel
theorem dX7_findsAnew_92 : decode cX7_findsAnew 92 = .ok (.iload 4, 2) := by decide +kernel
theorem dX7_findsAnew_94 : decode cX7_findsAnew 94 = .ok (.aload_n 0, 1) := by decide +kernel
theorem dX7_findsAnew_95 : decode cX7_findsAnew 95 = .ok (.getfield 199, 3) := by decide +kernel
theorem dX7_findsAnew_98 : decode cX7_findsAnew 98 = .ok (.if_icmp .ge 27, 3) := by decide +kernel
theorem dX7_findsAnew_101 : decode cX7_findsAnew 101 = .ok (.aload_n 0, 1) := by decide +kernel
theorem dX7_findsAnew_102 : decode cX7_findsAnew 102 = .ok (.getfield 80, 3) := by decide +kernel
theorem dX7_findsAnew_105 : decode cX7_findsAnew 105 = .ok (.iconst 5, 1) := by decide +kernel
theorem dX7_findsAnew_106 : decode cX7_findsAnew 106 = .ok (.iload_n 1, 1) := by decide +kernel
theorem dX7_findsAnew_107 : decode cX7_findsAnew 107 = .ok (.imul, 1) := by decide +kernel
theorem dX7_findsAnew_108 : decode cX7_findsAnew 108 = .ok (.iload 4, 2) := by decide +kernel
theorem dX7_findsAnew_110 : decode cX7_findsAnew 110 = .ok (.iadd, 1) := by decide +kernel
theorem dX7_findsAnew_111 : decode cX7_findsAnew 111 = .ok (.aload_n 0, 1) := by decide +kernel
theorem dX7_findsAnew_112 : decode cX7_findsAnew 112 = .ok (.getfield 89, 3) := by decide +kernel
theorem dX7_findsAnew_115 : decode cX7_findsAnew 115 = .ok (.iload 4, 2) := by decide +kernel
theorem dX7_findsAnew_117 : decode cX7_findsAnew 117 = .ok (.iaload, 1) := by decide +kernel
theorem dX7_findsAnew_118 : decode cX7_findsAnew 118 = .ok (.iastore, 1) := by decide +kernel
theorem dX7_findsAnew_119 : decode cX7_findsAnew 119 = .ok (.iinc 4 1, 3) := by decide +kernel
theorem dX7_findsAnew_122 : decode cX7_findsAnew 122 = .ok (.goto (-30), 3) := by decide +kernel
theorem dX7_findsAnew_125 : decode cX7_findsAnew 125 = .ok (.iconst 0, 1) := by decide +kernel
theorem dX7_findsAnew_126 : decode cX7_findsAnew 126 = .ok (.istore 4, 2) := by decide +kernel
theorem dX7_findsAnew_128 : decode cX7_findsAnew 128 = .ok (.iload 4, 2) := by decide +kernel
theorem dX7_findsAnew_130 : decode cX7_findsAnew 130 = .ok (.iconst 5, 1) := by decide +kernel
theorem dX7_findsAnew_131 : decode cX7_findsAnew 131 = .ok (.if_icmp .ge 106, 3) := by decide +kernel
theorem dX7_findsAnew_134 : decode cX7_findsAnew 134 = .ok (.aload_n 0, 1) := by decide +kernel
theorem dX7_findsAnew_135 : decode cX7_findsAnew 135 = .ok (.getfield 68, 3) := by decide +kernel
theorem dX7_findsAnew_138 : decode cX7_findsAnew 138 = .ok (.iconst 5, 1) := by decide +kernel
theorem dX7_findsAnew_139 : decode cX7_findsAnew 139 = .ok (.iload_n 1, 1) := by decide +kernel
theorem dX7_findsAnew_140 : decode cX7_findsAnew 140 = .ok (.imul, 1) := by decide +kernel
theorem dX7_findsAnew_141 : decode cX7_findsAnew 141 = .ok (.iload 4, 2) := by decide +kernel
theorem dX7_findsAnew_143 : decode cX7_findsAnew 143 = .ok (.iadd, 1) := by decide +kernel
theorem dX7_findsAnew_144 : decode cX7_findsAnew 144 = .ok (.baload, 1) := by decide +kernel
theorem dX7_findsAnew_145 : decode cX7_findsAnew 145 = .ok (.ifCond .eq 86, 3) := by decide +kernel
theorem dX7_findsAnew_148 : decode cX7_findsAnew 148 = .ok (.aload_n 0, 1) := by decide +kernel
theorem dX7_findsAnew_149 : decode cX7_findsAnew 149 = .ok (.getfield 92, 3) := by decide +kernel
theorem dX7_findsAnew_152 : decode cX7_findsAnew 152 = .ok (.aload_n 0, 1) := by decide +kernel
theorem dX7_findsAnew_153 : decode cX7_findsAnew 153 = .ok (.getfield 209, 3) := by decide +kernel
theorem dX7_findsAnew_156 : decode cX7_findsAnew 156 = .ok (.iload_n 1, 1) := by decide +kernel
theorem dX7_findsAnew_157 : decode cX7_findsAnew 157 = .ok (.iastore, 1) := by decide +kernel
theorem dX7_findsAnew_158 : decode cX7_findsAnew 158 = .ok (.aload_n 0, 1) := by decide +kernel
theorem dX7_findsAnew_159 : decode cX7_findsAnew 159 = .ok (.getfield 95, 3) := by decide +kernel
theorem dX7_findsAnew_162 : decode cX7_findsAnew 162 = .ok (.aload_n 0, 1) := by decide +kernel
theorem dX7_findsAnew_163 : decode cX7_findsAnew 163 = .ok (.getfield 209, 3) := by decide +kernel
theorem dX7_findsAnew_166 : decode cX7_findsAnew 166 = .ok (.iload 4, 2) := by decide +kernel
theorem dX7_findsAnew_168 : decode cX7_findsAnew 168 = .ok (.iastore, 1) := by decide +kernel
theorem dX7_findsAnew_169 : decode cX7_findsAnew 169 = .ok (.aload_n 0, 1) := by decide +kernel
theorem dX7_findsAnew_170 : decode cX7_findsAnew 170 = .ok (.getfield 98, 3) := by decide +kernel
theorem dX7_findsAnew_173 : decode cX7_findsAnew 173 = .ok (.aload_n 0, 1) := by decide +kernel
theorem dX7_findsAnew_174 : decode cX7_findsAnew 174 = .ok (.getfield 209, 3) := by decide +kernel
theorem dX7_findsAnew_177 : decode cX7_findsAnew 177 = .ok (.aload_n 0, 1) := by decide +kernel
theorem dX7_findsAnew_178 : decode cX7_findsAnew 178 = .ok (.getfield 199, 3) := by decide +kernel
theorem dX7_findsAnew_181 : decode cX7_findsAnew 181 = .ok (.iastore, 1) := by decide +kernel
theorem dX7_findsAnew_182 : decode cX7_findsAnew 182 = .ok (.iconst 0, 1) := by decide +kernel
theorem dX7_findsAnew_183 : decode cX7_findsAnew 183 = .ok (.istore 5, 2) := by decide +kernel
theorem dX7_findsAnew_185 : decode cX7_findsAnew 185 = .ok (.iload 5, 2) := by decide +kernel
theorem dX7_findsAnew_187 : decode cX7_findsAnew 187 = .ok (.aload_n 0, 1) := by decide +kernel
theorem dX7_findsAnew_188 : decode cX7_findsAnew 188 = .ok (.getfield 199, 3) := by decide +kernel
theorem dX7_findsAnew_191 : decode cX7_findsAnew 191 = .ok (.if_icmp .ge 30, 3) := by decide +kernel
theorem dX7_findsAnew_194 : decode cX7_findsAnew 194 = .ok (.aload_n 0, 1) := by decide +kernel
theorem dX7_findsAnew_195 : decode cX7_findsAnew 195 = .ok (.getfield 102, 3) := by decide +kernel
theorem dX7_findsAnew_198 : decode cX7_findsAnew 198 = .ok (.iconst 5, 1) := by decide +kernel
theorem dX7_findsAnew_199 : decode cX7_findsAnew 199 = .ok (.aload_n 0, 1) := by decide +kernel
theorem dX7_findsAnew_200 : decode cX7_findsAnew 200 = .ok (.getfield 209, 3) := by decide +kernel
theorem dX7_findsAnew_203 : decode cX7_findsAnew 203 = .ok (.imul, 1) := by decide +kernel
theorem dX7_findsAnew_204 : decode cX7_findsAnew 204 = .ok (.iload 5, 2) := by decide +kernel
theorem dX7_findsAnew_206 : decode cX7_findsAnew 206 = .ok (.iadd, 1) := by decide +kernel
theorem dX7_findsAnew_207 : decode cX7_findsAnew 207 = .ok (.aload_n 0, 1) := by decide +kernel
theorem dX7_findsAnew_208 : decode cX7_findsAnew 208 = .ok (.getfield 89, 3) := by decide +kernel
theorem dX7_findsAnew_211 : decode cX7_findsAnew 211 = .ok (.iload 5, 2) := by decide +kernel
theorem dX7_findsAnew_213 : decode cX7_findsAnew 213 = .ok (.iaload, 1) := by decide +kernel
theorem dX7_findsAnew_214 : decode cX7_findsAnew 214 = .ok (.iastore, 1) := by decide +kernel
theorem dX7_findsAnew_215 : decode cX7_findsAnew 215 = .ok (.iinc 5 1, 3) := by decide +kernel
theorem dX7_findsAnew_218 : decode cX7_findsAnew 218 = .ok (.goto (-33), 3) := by decide +kernel
theorem dX7_findsAnew_221 : decode cX7_findsAnew 221 = .ok (.aload_n 0, 1) := by decide +kernel
theorem dX7_findsAnew_222 : decode cX7_findsAnew 222 = .ok (.dup, 1) := by decide +kernel
theorem dX7_findsAnew_223 : decode cX7_findsAnew 223 = .ok (.getfield 209, 3) := by decide +kernel
theorem dX7_findsAnew_226 : decode cX7_findsAnew 226 = .ok (.iconst 1, 1) := by decide +kernel
theorem dX7_findsAnew_227 : decode cX7_findsAnew 227 = .ok (.iadd, 1) := by decide +kernel
theorem dX7_findsAnew_228 : decode cX7_findsAnew 228 = .ok (.putfield 209, 3) := by decide +kernel
theorem dX7_findsAnew_231 : decode cX7_findsAnew 231 = .ok (.iinc 4 1, 3) := by decide +kernel
theorem dX7_findsAnew_234 : decode cX7_findsAnew 234 = .ok (.goto (-106), 3) := by decide +kernel
theorem dX7_findsAnew_237 : decode cX7_findsAnew 237 = .ok (.return_, 1) := by decide +kernel
theorem dX7_comes_0 : decode cX7_comes 0 = .ok (.aload_n 0, 1) := by decide +kernel
theorem dX7_comes_1 : decode cX7_comes 1 = .ok (.getfield 95, 3) := by decide +kernel
theorem dX7_comes_4 : decode cX7_comes 4 = .ok (.iload_n 1, 1) := by decide +kernel
theorem dX7_comes_5 : decode cX7_comes 5 = .ok (.iaload, 1) := by decide +kernel
theorem dX7_comes_6 : decode cX7_comes 6 = .ok (.istore_n 3, 1) := by decide +kernel
theorem dX7_comes_7 : decode cX7_comes 7 = .ok (.iconst 5, 1) := by decide +kernel
theorem dX7_comes_8 : decode cX7_comes 8 = .ok (.iload_n 3, 1) := by decide +kernel
theorem dX7_comes_9 : decode cX7_comes 9 = .ok (.imul, 1) := by decide +kernel
theorem dX7_comes_10 : decode cX7_comes 10 = .ok (.aload_n 0, 1) := by decide +kernel
theorem dX7_comes_11 : decode cX7_comes 11 = .ok (.getfield 92, 3) := by decide +kernel
theorem dX7_comes_14 : decode cX7_comes 14 = .ok (.iload_n 1, 1) := by decide +kernel
theorem dX7_comes_15 : decode cX7_comes 15 = .ok (.iaload, 1) := by decide +kernel
theorem dX7_comes_16 : decode cX7_comes 16 = .ok (.iadd, 1) := by decide +kernel
theorem dX7_comes_17 : decode cX7_comes 17 = .ok (.istore 4, 2) := by decide +kernel
theorem dX7_comes_19 : decode cX7_comes 19 = .ok (.aload_n 0, 1) := by decide +kernel
theorem dX7_comes_20 : decode cX7_comes 20 = .ok (.getfield 98, 3) := by decide +kernel
theorem dX7_comes_23 : decode cX7_comes 23 = .ok (.iload_n 1, 1) := by decide +kernel
theorem dX7_comes_24 : decode cX7_comes 24 = .ok (.iaload, 1) := by decide +kernel
theorem dX7_comes_25 : decode cX7_comes 25 = .ok (.aload_n 0, 1) := by decide +kernel
theorem dX7_comes_26 : decode cX7_comes 26 = .ok (.getfield 77, 3) := by decide +kernel
theorem dX7_comes_29 : decode cX7_comes 29 = .ok (.iload 4, 2) := by decide +kernel
theorem dX7_comes_31 : decode cX7_comes 31 = .ok (.iaload, 1) := by decide +kernel
theorem dX7_comes_32 : decode cX7_comes 32 = .ok (.if_icmp .ne 7, 3) := by decide +kernel
theorem dX7_comes_35 : decode cX7_comes 35 = .ok (.iconst 1, 1) := by decide +kernel
theorem dX7_comes_36 : decode cX7_comes 36 = .ok (.goto 4, 3) := by decide +kernel
theorem dX7_comes_39 : decode cX7_comes 39 = .ok (.iconst 0, 1) := by decide +kernel
theorem dX7_comes_40 : decode cX7_comes 40 = .ok (.istore 5, 2) := by decide +kernel
theorem dX7_comes_42 : decode cX7_comes 42 = .ok (.iconst 0, 1) := by decide +kernel
theorem dX7_comes_43 : decode cX7_comes 43 = .ok (.istore 6, 2) := by decide +kernel
theorem dX7_comes_45 : decode cX7_comes 45 = .ok (.iload 6, 2) := by decide +kernel
theorem dX7_comes_47 : decode cX7_comes 47 = .ok (.aload_n 0, 1) := by decide +kernel
theorem dX7_comes_48 : decode cX7_comes 48 = .ok (.getfield 98, 3) := by decide +kernel
theorem dX7_comes_51 : decode cX7_comes 51 = .ok (.iload_n 1, 1) := by decide +kernel
theorem dX7_comes_52 : decode cX7_comes 52 = .ok (.iaload, 1) := by decide +kernel
theorem dX7_comes_53 : decode cX7_comes 53 = .ok (.if_icmp .ge 47, 3) := by decide +kernel
theorem dX7_comes_56 : decode cX7_comes 56 = .ok (.iload 5, 2) := by decide +kernel
theorem dX7_comes_58 : decode cX7_comes 58 = .ok (.ifCond .eq 42, 3) := by decide +kernel
theorem dX7_comes_61 : decode cX7_comes 61 = .ok (.aload_n 0, 1) := by decide +kernel
theorem dX7_comes_62 : decode cX7_comes 62 = .ok (.getfield 74, 3) := by decide +kernel
theorem dX7_comes_65 : decode cX7_comes 65 = .ok (.iconst 5, 1) := by decide +kernel
theorem dX7_comes_66 : decode cX7_comes 66 = .ok (.iload 4, 2) := by decide +kernel
theorem dX7_comes_68 : decode cX7_comes 68 = .ok (.imul, 1) := by decide +kernel
theorem dX7_comes_69 : decode cX7_comes 69 = .ok (.iload 6, 2) := by decide +kernel
theorem dX7_comes_71 : decode cX7_comes 71 = .ok (.iadd, 1) := by decide +kernel
theorem dX7_comes_72 : decode cX7_comes 72 = .ok (.iaload, 1) := by decide +kernel
theorem dX7_comes_73 : decode cX7_comes 73 = .ok (.aload_n 0, 1) := by decide +kernel
theorem dX7_comes_74 : decode cX7_comes 74 = .ok (.getfield 102, 3) := by decide +kernel
theorem dX7_comes_77 : decode cX7_comes 77 = .ok (.iconst 5, 1) := by decide +kernel
theorem dX7_comes_78 : decode cX7_comes 78 = .ok (.iload_n 1, 1) := by decide +kernel
theorem dX7_comes_79 : decode cX7_comes 79 = .ok (.imul, 1) := by decide +kernel
theorem dX7_comes_80 : decode cX7_comes 80 = .ok (.iload 6, 2) := by decide +kernel
theorem dX7_comes_82 : decode cX7_comes 82 = .ok (.iadd, 1) := by decide +kernel
theorem dX7_comes_83 : decode cX7_comes 83 = .ok (.iaload, 1) := by decide +kernel
theorem dX7_comes_84 : decode cX7_comes 84 = .ok (.if_icmp .ne 7, 3) := by decide +kernel
theorem dX7_comes_87 : decode cX7_comes 87 = .ok (.iconst 1, 1) := by decide +kernel
theorem dX7_comes_88 : decode cX7_comes 88 = .ok (.goto 4, 3) := by decide +kernel
theorem dX7_comes_91 : decode cX7_comes 91 = .ok (.iconst 0, 1) := by decide +kernel
theorem dX7_comes_92 : decode cX7_comes 92 = .ok (.istore 5, 2) := by decide +kernel
theorem dX7_comes_94 : decode cX7_comes 94 = .ok (.iinc 6 1, 3) := by decide +kernel
theorem dX7_comes_97 : decode cX7_comes 97 = .ok (.goto (-52), 3) := by decide +kernel
theorem dX7_comes_100 : decode cX7_comes 100 = .ok (.iload 5, 2) := by decide +kernel
theorem dX7_comes_102 : decode cX7_comes 102 = .ok (.ifCond .eq 4, 3) := by decide +kernel
theorem dX7_comes_105 : decode cX7_comes 105 = .ok (.return_, 1) := by decide +kernel
theorem dX7_comes_106 : decode cX7_comes 106 = .ok (.aload_n 0, 1) := by decide +kernel
theorem dX7_comes_107 : decode cX7_comes 107 = .ok (.getfield 86, 3) := by decide +kernel
theorem dX7_comes_110 : decode cX7_comes 110 = .ok (.iload_n 3, 1) := by decide +kernel
theorem dX7_comes_111 : decode cX7_comes 111 = .ok (.dup2, 1) := by decide +kernel
theorem dX7_comes_112 : decode cX7_comes 112 = .ok (.iaload, 1) := by decide +kernel
theorem dX7_comes_113 : decode cX7_comes 113 = .ok (.iconst 1, 1) := by decide +kernel
theorem dX7_comes_114 : decode cX7_comes 114 = .ok (.iadd, 1) := by decide +kernel
theorem dX7_comes_115 : decode cX7_comes 115 = .ok (.iastore, 1) := by decide +kernel
theorem dX7_comes_116 : decode cX7_comes 116 = .ok (.aload_n 0, 1) := by decide +kernel
theorem dX7_comes_117 : decode cX7_comes 117 = .ok (.getfield 77, 3) := by decide +kernel
theorem dX7_comes_120 : decode cX7_comes 120 = .ok (.iload 4, 2) := by decide +kernel
theorem dX7_comes_122 : decode cX7_comes 122 = .ok (.aload_n 0, 1) := by decide +kernel
theorem dX7_comes_123 : decode cX7_comes 123 = .ok (.getfield 98, 3) := by decide +kernel
theorem dX7_comes_126 : decode cX7_comes 126 = .ok (.iload_n 1, 1) := by decide +kernel
theorem dX7_comes_127 : decode cX7_comes 127 = .ok (.iaload, 1) := by decide +kernel
theorem dX7_comes_128 : decode cX7_comes 128 = .ok (.iastore, 1) := by decide +kernel
theorem dX7_comes_129 : decode cX7_comes 129 = .ok (.iconst 0, 1) := by decide +kernel
theorem dX7_comes_130 : decode cX7_comes 130 = .ok (.istore 6, 2) := by decide +kernel
theorem dX7_comes_132 : decode cX7_comes 132 = .ok (.iload 6, 2) := by decide +kernel
theorem dX7_comes_134 : decode cX7_comes 134 = .ok (.aload_n 0, 1) := by decide +kernel
theorem dX7_comes_135 : decode cX7_comes 135 = .ok (.getfield 98, 3) := by decide +kernel
theorem dX7_comes_138 : decode cX7_comes 138 = .ok (.iload_n 1, 1) := by decide +kernel
theorem dX7_comes_139 : decode cX7_comes 139 = .ok (.iaload, 1) := by decide +kernel
theorem dX7_comes_140 : decode cX7_comes 140 = .ok (.if_icmp .ge 32, 3) := by decide +kernel
theorem dX7_comes_143 : decode cX7_comes 143 = .ok (.aload_n 0, 1) := by decide +kernel
theorem dX7_comes_144 : decode cX7_comes 144 = .ok (.getfield 74, 3) := by decide +kernel
theorem dX7_comes_147 : decode cX7_comes 147 = .ok (.iconst 5, 1) := by decide +kernel
theorem dX7_comes_148 : decode cX7_comes 148 = .ok (.iload 4, 2) := by decide +kernel
theorem dX7_comes_150 : decode cX7_comes 150 = .ok (.imul, 1) := by decide +kernel
theorem dX7_comes_151 : decode cX7_comes 151 = .ok (.iload 6, 2) := by decide +kernel
theorem dX7_comes_153 : decode cX7_comes 153 = .ok (.iadd, 1) := by decide +kernel
theorem dX7_comes_154 : decode cX7_comes 154 = .ok (.aload_n 0, 1) := by decide +kernel
theorem dX7_comes_155 : decode cX7_comes 155 = .ok (.getfield 102, 3) := by decide +kernel
theorem dX7_comes_158 : decode cX7_comes 158 = .ok (.iconst 5, 1) := by decide +kernel
theorem dX7_comes_159 : decode cX7_comes 159 = .ok (.iload_n 1, 1) := by decide +kernel
theorem dX7_comes_160 : decode cX7_comes 160 = .ok (.imul, 1) := by decide +kernel
theorem dX7_comes_161 : decode cX7_comes 161 = .ok (.iload 6, 2) := by decide +kernel
theorem dX7_comes_163 : decode cX7_comes 163 = .ok (.iadd, 1) := by decide +kernel
theorem dX7_comes_164 : decode cX7_comes 164 = .ok (.iaload, 1) := by decide +kernel
theorem dX7_comes_165 : decode cX7_comes 165 = .ok (.iastore, 1) := by decide +kernel
theorem dX7_comes_166 : decode cX7_comes 166 = .ok (.iinc 6 1, 3) := by decide +kernel
theorem dX7_comes_169 : decode cX7_comes 169 = .ok (.goto (-37), 3) := by decide +kernel
theorem dX7_comes_172 : decode cX7_comes 172 = .ok (.aload_n 0, 1) := by decide +kernel
theorem dX7_comes_173 : decode cX7_comes 173 = .ok (.getfield 71, 3) := by decide +kernel
theorem dX7_comes_176 : decode cX7_comes 176 = .ok (.iload 4, 2) := by decide +kernel
theorem dX7_comes_178 : decode cX7_comes 178 = .ok (.iaload, 1) := by decide +kernel
theorem dX7_comes_179 : decode cX7_comes 179 = .ok (.iconst (-1), 1) := by decide +kernel
theorem dX7_comes_180 : decode cX7_comes 180 = .ok (.if_icmp .eq 33, 3) := by decide +kernel
theorem dX7_comes_183 : decode cX7_comes 183 = .ok (.aload_n 0, 1) := by decide +kernel
theorem dX7_comes_184 : decode cX7_comes 184 = .ok (.getfield 147, 3) := by decide +kernel
theorem dX7_comes_187 : decode cX7_comes 187 = .ok (.sipush 300, 3) := by decide +kernel
theorem dX7_comes_190 : decode cX7_comes 190 = .ok (.if_icmp .ne 11, 3) := by decide +kernel
theorem dX7_comes_193 : decode cX7_comes 193 = .ok (.aload_n 0, 1) := by decide +kernel
theorem dX7_comes_194 : decode cX7_comes 194 = .ok (.iconst 1, 1) := by decide +kernel
theorem dX7_comes_195 : decode cX7_comes 195 = .ok (.putfield 212, 3) := by decide +kernel
theorem dX7_comes_198 : decode cX7_comes 198 = .ok (.goto 15, 3) := by decide +kernel
theorem dX7_comes_201 : decode cX7_comes 201 = .ok (.aload_n 0, 1) := by decide +kernel
theorem dX7_comes_202 : decode cX7_comes 202 = .ok (.aload_n 0, 1) := by decide +kernel
theorem dX7_comes_203 : decode cX7_comes 203 = .ok (.getfield 71, 3) := by decide +kernel
theorem dX7_comes_206 : decode cX7_comes 206 = .ok (.iload 4, 2) := by decide +kernel
theorem dX7_comes_208 : decode cX7_comes 208 = .ok (.iaload, 1) := by decide +kernel
theorem dX7_comes_209 : decode cX7_comes 209 = .ok (.iconst 2, 1) := by decide +kernel
theorem dX7_comes_210 : decode cX7_comes 210 = .ok (.invokevirtual 158, 3) := by decide +kernel
theorem dX7_comes_213 : decode cX7_comes 213 = .ok (.aload_n 0, 1) := by decide +kernel
theorem dX7_comes_214 : decode cX7_comes 214 = .ok (.iload_n 3, 1) := by decide +kernel
theorem dX7_comes_215 : decode cX7_comes 215 = .ok (.iload_n 2, 1) := by decide +kernel
theorem dX7_comes_216 : decode cX7_comes 216 = .ok (.invokevirtual 216, 3) := by decide +kernel
theorem dX7_comes_219 : decode cX7_comes 219 = .ok (.return_, 1) := by decide +kernel
theorem dX7_flood_0 : decode cX7_flood 0 = .ok (.aload_n 0, 1) := by decide +kernel
theorem dX7_flood_1 : decode cX7_flood 1 = .ok (.iconst 0, 1) := by decide +kernel
theorem dX7_flood_2 : decode cX7_flood 2 = .ok (.putfield 209, 3) := by decide +kernel
theorem dX7_flood_5 : decode cX7_flood 5 = .ok (.aload_n 0, 1) := by decide +kernel
theorem dX7_flood_6 : decode cX7_flood 6 = .ok (.iconst 0, 1) := by decide +kernel
theorem dX7_flood_7 : decode cX7_flood 7 = .ok (.putfield 212, 3) := by decide +kernel
theorem dX7_flood_10 : decode cX7_flood 10 = .ok (.iconst 0, 1) := by decide +kernel
theorem dX7_flood_11 : decode cX7_flood 11 = .ok (.istore_n 2, 1) := by decide +kernel
theorem dX7_flood_12 : decode cX7_flood 12 = .ok (.iload_n 2, 1) := by decide +kernel
theorem dX7_flood_13 : decode cX7_flood 13 = .ok (.iconst 5, 1) := by decide +kernel
theorem dX7_flood_14 : decode cX7_flood 14 = .ok (.if_icmp .ge 16, 3) := by decide +kernel
theorem dX7_flood_17 : decode cX7_flood 17 = .ok (.aload_n 0, 1) := by decide +kernel
theorem dX7_flood_18 : decode cX7_flood 18 = .ok (.getfield 86, 3) := by decide +kernel
theorem dX7_flood_21 : decode cX7_flood 21 = .ok (.iload_n 2, 1) := by decide +kernel
theorem dX7_flood_22 : decode cX7_flood 22 = .ok (.iconst 0, 1) := by decide +kernel
theorem dX7_flood_23 : decode cX7_flood 23 = .ok (.iastore, 1) := by decide +kernel
theorem dX7_flood_24 : decode cX7_flood 24 = .ok (.iinc 2 1, 3) := by decide +kernel
theorem dX7_flood_27 : decode cX7_flood 27 = .ok (.goto (-15), 3) := by decide +kernel
theorem dX7_flood_30 : decode cX7_flood 30 = .ok (.iconst 0, 1) := by decide +kernel
theorem dX7_flood_31 : decode cX7_flood 31 = .ok (.istore_n 2, 1) := by decide +kernel
theorem dX7_flood_32 : decode cX7_flood 32 = .ok (.iload_n 2, 1) := by decide +kernel
theorem dX7_flood_33 : decode cX7_flood 33 = .ok (.iconst 5, 1) := by decide +kernel
theorem dX7_flood_34 : decode cX7_flood 34 = .ok (.if_icmp .ge 15, 3) := by decide +kernel
theorem dX7_flood_37 : decode cX7_flood 37 = .ok (.aload_n 0, 1) := by decide +kernel
theorem dX7_flood_38 : decode cX7_flood 38 = .ok (.iload_n 2, 1) := by decide +kernel
theorem dX7_flood_39 : decode cX7_flood 39 = .ok (.iload_n 1, 1) := by decide +kernel
theorem dX7_flood_40 : decode cX7_flood 40 = .ok (.invokevirtual 216, 3) := by decide +kernel
theorem dX7_flood_43 : decode cX7_flood 43 = .ok (.iinc 2 1, 3) := by decide +kernel
theorem dX7_flood_46 : decode cX7_flood 46 = .ok (.goto (-14), 3) := by decide +kernel
theorem dX7_flood_49 : decode cX7_flood 49 = .ok (.iconst 0, 1) := by decide +kernel
theorem dX7_flood_50 : decode cX7_flood 50 = .ok (.istore_n 2, 1) := by decide +kernel
theorem dX7_flood_51 : decode cX7_flood 51 = .ok (.iload_n 2, 1) := by decide +kernel
theorem dX7_flood_52 : decode cX7_flood 52 = .ok (.aload_n 0, 1) := by decide +kernel
theorem dX7_flood_53 : decode cX7_flood 53 = .ok (.getfield 209, 3) := by decide +kernel
theorem dX7_flood_56 : decode cX7_flood 56 = .ok (.if_icmp .ge 24, 3) := by decide +kernel
theorem dX7_flood_59 : decode cX7_flood 59 = .ok (.iload_n 2, 1) := by decide +kernel
theorem dX7_flood_60 : decode cX7_flood 60 = .ok (.sipush 2000, 3) := by decide +kernel
theorem dX7_flood_63 : decode cX7_flood 63 = .ok (.if_icmp .ge 17, 3) := by decide +kernel
theorem dX7_flood_66 : decode cX7_flood 66 = .ok (.iinc 2 1, 3) := by decide +kernel
theorem dX7_flood_69 : decode cX7_flood 69 = .ok (.aload_n 0, 1) := by decide +kernel
theorem dX7_flood_70 : decode cX7_flood 70 = .ok (.iload_n 2, 1) := by decide +kernel
theorem dX7_flood_71 : decode cX7_flood 71 = .ok (.iconst 1, 1) := by decide +kernel
theorem dX7_flood_72 : decode cX7_flood 72 = .ok (.isub, 1) := by decide +kernel
theorem dX7_flood_73 : decode cX7_flood 73 = .ok (.iload_n 1, 1) := by decide +kernel
theorem dX7_flood_74 : decode cX7_flood 74 = .ok (.invokevirtual 219, 3) := by decide +kernel
theorem dX7_flood_77 : decode cX7_flood 77 = .ok (.goto (-26), 3) := by decide +kernel
theorem dX7_flood_80 : decode cX7_flood 80 = .ok (.aload_n 0, 1) := by decide +kernel
theorem dX7_flood_81 : decode cX7_flood 81 = .ok (.dup, 1) := by decide +kernel
theorem dX7_flood_82 : decode cX7_flood 82 = .ok (.getfield 222, 3) := by decide +kernel
theorem dX7_flood_85 : decode cX7_flood 85 = .ok (.iload_n 2, 1) := by decide +kernel
theorem dX7_flood_86 : decode cX7_flood 86 = .ok (.iadd, 1) := by decide +kernel
theorem dX7_flood_87 : decode cX7_flood 87 = .ok (.putfield 222, 3) := by decide +kernel
theorem dX7_flood_90 : decode cX7_flood 90 = .ok (.aload_n 0, 1) := by decide +kernel
theorem dX7_flood_91 : decode cX7_flood 91 = .ok (.getfield 212, 3) := by decide +kernel
theorem dX7_flood_94 : decode cX7_flood 94 = .ok (.ifCond .eq 8, 3) := by decide +kernel
theorem dX7_flood_97 : decode cX7_flood 97 = .ok (.bipush (-4), 2) := by decide +kernel
theorem dX7_flood_99 : decode cX7_flood 99 = .ok (.goto 4, 3) := by decide +kernel
theorem dX7_flood_102 : decode cX7_flood 102 = .ok (.iload_n 2, 1) := by decide +kernel
theorem dX7_flood_103 : decode cX7_flood 103 = .ok (.ireturn, 1) := by decide +kernel
theorem dX7_own_0 : decode cX7_own 0 = .ok (.iload_n 1, 1) := by decide +kernel
theorem dX7_own_1 : decode cX7_own 1 = .ok (.invokestatic 196, 3) := by decide +kernel
theorem dX7_own_4 : decode cX7_own 4 = .ok (.ifCond .ne 8, 3) := by decide +kernel
theorem dX7_own_7 : decode cX7_own 7 = .ok (.bipush (-2), 2) := by decide +kernel
theorem dX7_own_9 : decode cX7_own 9 = .ok (.goto 33, 3) := by decide +kernel
theorem dX7_own_12 : decode cX7_own 12 = .ok (.iload_n 2, 1) := by decide +kernel
theorem dX7_own_13 : decode cX7_own 13 = .ok (.iconst 0, 1) := by decide +kernel
theorem dX7_own_14 : decode cX7_own 14 = .ok (.aload_n 0, 1) := by decide +kernel
theorem dX7_own_15 : decode cX7_own 15 = .ok (.getfield 83, 3) := by decide +kernel
theorem dX7_own_18 : decode cX7_own 18 = .ok (.iload_n 1, 1) := by decide +kernel
theorem dX7_own_19 : decode cX7_own 19 = .ok (.iaload, 1) := by decide +kernel
theorem dX7_own_20 : decode cX7_own 20 = .ok (.iconst 1, 1) := by decide +kernel
theorem dX7_own_21 : decode cX7_own 21 = .ok (.isub, 1) := by decide +kernel
theorem dX7_own_22 : decode cX7_own 22 = .ok (.invokestatic 124, 3) := by decide +kernel
theorem dX7_own_25 : decode cX7_own 25 = .ok (.ifCond .eq 16, 3) := by decide +kernel
theorem dX7_own_28 : decode cX7_own 28 = .ok (.aload_n 0, 1) := by decide +kernel
theorem dX7_own_29 : decode cX7_own 29 = .ok (.getfield 80, 3) := by decide +kernel
theorem dX7_own_32 : decode cX7_own 32 = .ok (.iconst 5, 1) := by decide +kernel
theorem dX7_own_33 : decode cX7_own 33 = .ok (.iload_n 1, 1) := by decide +kernel
theorem dX7_own_34 : decode cX7_own 34 = .ok (.imul, 1) := by decide +kernel
theorem dX7_own_35 : decode cX7_own 35 = .ok (.iload_n 2, 1) := by decide +kernel
theorem dX7_own_36 : decode cX7_own 36 = .ok (.iadd, 1) := by decide +kernel
theorem dX7_own_37 : decode cX7_own 37 = .ok (.iaload, 1) := by decide +kernel
theorem dX7_own_38 : decode cX7_own 38 = .ok (.goto 4, 3) := by decide +kernel
theorem dX7_own_41 : decode cX7_own 41 = .ok (.iconst (-1), 1) := by decide +kernel
theorem dX7_own_42 : decode cX7_own 42 = .ok (.ireturn, 1) := by decide +kernel
theorem dX7_echoes_0 : decode cX7_echoes 0 = .ok (.iload_n 1, 1) := by decide +kernel
theorem dX7_echoes_1 : decode cX7_echoes 1 = .ok (.invokestatic 196, 3) := by decide +kernel
theorem dX7_echoes_4 : decode cX7_echoes 4 = .ok (.ifCond .eq 12, 3) := by decide +kernel
theorem dX7_echoes_7 : decode cX7_echoes 7 = .ok (.aload_n 0, 1) := by decide +kernel
theorem dX7_echoes_8 : decode cX7_echoes 8 = .ok (.getfield 86, 3) := by decide +kernel
theorem dX7_echoes_11 : decode cX7_echoes 11 = .ok (.iload_n 1, 1) := by decide +kernel
theorem dX7_echoes_12 : decode cX7_echoes 12 = .ok (.iaload, 1) := by decide +kernel
theorem dX7_echoes_13 : decode cX7_echoes 13 = .ok (.goto 5, 3) := by decide +kernel
theorem dX7_echoes_16 : decode cX7_echoes 16 = .ok (.bipush (-2), 2) := by decide +kernel
theorem dX7_echoes_18 : decode cX7_echoes 18 = .ok (.ireturn, 1) := by decide +kernel
theorem dX7_count_0 : decode cX7_count 0 = .ok (.iconst 0, 1) := by decide +kernel
theorem dX7_count_1 : decode cX7_count 1 = .ok (.istore_n 2, 1) := by decide +kernel
theorem dX7_count_2 : decode cX7_count 2 = .ok (.iload_n 1, 1) := by decide +kernel
theorem dX7_count_3 : decode cX7_count 3 = .ok (.tableswitch 134 0 5 #[37, 42, 47, 54, 94, 129], 37) := by decide +kernel
theorem dX7_count_40 : decode cX7_count 40 = .ok (.aload_n 0, 1) := by decide +kernel
theorem dX7_count_41 : decode cX7_count 41 = .ok (.getfield 115, 3) := by decide +kernel
theorem dX7_count_44 : decode cX7_count 44 = .ok (.ireturn, 1) := by decide +kernel
theorem dX7_count_45 : decode cX7_count 45 = .ok (.aload_n 0, 1) := by decide +kernel
theorem dX7_count_46 : decode cX7_count 46 = .ok (.getfield 147, 3) := by decide +kernel
theorem dX7_count_49 : decode cX7_count 49 = .ok (.ireturn, 1) := by decide +kernel
theorem dX7_count_50 : decode cX7_count 50 = .ok (.aload_n 0, 1) := by decide +kernel
theorem dX7_count_51 : decode cX7_count 51 = .ok (.getfield 22, 3) := by decide +kernel
theorem dX7_count_54 : decode cX7_count 54 = .ok (.iconst 0, 1) := by decide +kernel
theorem dX7_count_55 : decode cX7_count 55 = .ok (.iaload, 1) := by decide +kernel
theorem dX7_count_56 : decode cX7_count 56 = .ok (.ireturn, 1) := by decide +kernel
theorem dX7_count_57 : decode cX7_count 57 = .ok (.iconst 0, 1) := by decide +kernel
theorem dX7_count_58 : decode cX7_count 58 = .ok (.istore_n 3, 1) := by decide +kernel
theorem dX7_count_59 : decode cX7_count 59 = .ok (.iload_n 3, 1) := by decide +kernel
theorem dX7_count_60 : decode cX7_count 60 = .ok (.aload_n 0, 1) := by decide +kernel
theorem dX7_count_61 : decode cX7_count 61 = .ok (.getfield 115, 3) := by decide +kernel
theorem dX7_count_64 : decode cX7_count 64 = .ok (.if_icmp .ge 31, 3) := by decide +kernel
theorem dX7_count_67 : decode cX7_count 67 = .ok (.iload_n 2, 1) := by decide +kernel
theorem dX7_count_68 : decode cX7_count 68 = .ok (.aload_n 0, 1) := by decide +kernel
theorem dX7_count_69 : decode cX7_count 69 = .ok (.getfield 37, 3) := by decide +kernel
theorem dX7_count_72 : decode cX7_count 72 = .ok (.aload_n 0, 1) := by decide +kernel
theorem dX7_count_73 : decode cX7_count 73 = .ok (.iconst 0, 1) := by decide +kernel
theorem dX7_count_74 : decode cX7_count 74 = .ok (.iload_n 3, 1) := by decide +kernel
theorem dX7_count_75 : decode cX7_count 75 = .ok (.invokevirtual 108, 3) := by decide +kernel
theorem dX7_count_78 : decode cX7_count 78 = .ok (.baload, 1) := by decide +kernel
theorem dX7_count_79 : decode cX7_count 79 = .ok (.ifCond .eq 7, 3) := by decide +kernel
theorem dX7_count_82 : decode cX7_count 82 = .ok (.iconst 1, 1) := by decide +kernel
theorem dX7_count_83 : decode cX7_count 83 = .ok (.goto 4, 3) := by decide +kernel
theorem dX7_count_86 : decode cX7_count 86 = .ok (.iconst 0, 1) := by decide +kernel
theorem dX7_count_87 : decode cX7_count 87 = .ok (.iadd, 1) := by decide +kernel
theorem dX7_count_88 : decode cX7_count 88 = .ok (.istore_n 2, 1) := by decide +kernel
theorem dX7_count_89 : decode cX7_count 89 = .ok (.iinc 3 1, 3) := by decide +kernel
theorem dX7_count_92 : decode cX7_count 92 = .ok (.goto (-33), 3) := by decide +kernel
theorem dX7_count_95 : decode cX7_count 95 = .ok (.iload_n 2, 1) := by decide +kernel
theorem dX7_count_96 : decode cX7_count 96 = .ok (.ireturn, 1) := by decide +kernel
theorem dX7_count_97 : decode cX7_count 97 = .ok (.iconst 0, 1) := by decide +kernel
theorem dX7_count_98 : decode cX7_count 98 = .ok (.istore_n 3, 1) := by decide +kernel
theorem dX7_count_99 : decode cX7_count 99 = .ok (.iload_n 3, 1) := by decide +kernel
theorem dX7_count_100 : decode cX7_count 100 = .ok (.bipush 25, 2) := by decide +kernel
theorem dX7_count_102 : decode cX7_count 102 = .ok (.if_icmp .ge 26, 3) := by decide +kernel
theorem dX7_count_105 : decode cX7_count 105 = .ok (.iload_n 2, 1) := by decide +kernel
theorem dX7_count_106 : decode cX7_count 106 = .ok (.aload_n 0, 1) := by decide +kernel
theorem dX7_count_107 : decode cX7_count 107 = .ok (.getfield 68, 3) := by decide +kernel
theorem dX7_count_110 : decode cX7_count 110 = .ok (.iload_n 3, 1) := by decide +kernel
theorem dX7_count_111 : decode cX7_count 111 = .ok (.baload, 1) := by decide +kernel
theorem dX7_count_112 : decode cX7_count 112 = .ok (.ifCond .eq 7, 3) := by decide +kernel
theorem dX7_count_115 : decode cX7_count 115 = .ok (.iconst 1, 1) := by decide +kernel
theorem dX7_count_116 : decode cX7_count 116 = .ok (.goto 4, 3) := by decide +kernel
theorem dX7_count_119 : decode cX7_count 119 = .ok (.iconst 0, 1) := by decide +kernel
theorem dX7_count_120 : decode cX7_count 120 = .ok (.iadd, 1) := by decide +kernel
theorem dX7_count_121 : decode cX7_count 121 = .ok (.istore_n 2, 1) := by decide +kernel
theorem dX7_count_122 : decode cX7_count 122 = .ok (.iinc 3 1, 3) := by decide +kernel
theorem dX7_count_125 : decode cX7_count 125 = .ok (.goto (-26), 3) := by decide +kernel
theorem dX7_count_128 : decode cX7_count 128 = .ok (.iload_n 2, 1) := by decide +kernel
theorem dX7_count_129 : decode cX7_count 129 = .ok (.iconst 2, 1) := by decide +kernel
theorem dX7_count_130 : decode cX7_count 130 = .ok (.idiv, 1) := by decide +kernel
theorem dX7_count_131 : decode cX7_count 131 = .ok (.ireturn, 1) := by decide +kernel
theorem dX7_count_132 : decode cX7_count 132 = .ok (.aload_n 0, 1) := by decide +kernel
theorem dX7_count_133 : decode cX7_count 133 = .ok (.getfield 222, 3) := by decide +kernel
theorem dX7_count_136 : decode cX7_count 136 = .ok (.ireturn, 1) := by decide +kernel
theorem dX7_count_137 : decode cX7_count 137 = .ok (.bipush (-2), 2) := by decide +kernel
theorem dX7_count_139 : decode cX7_count 139 = .ok (.ireturn, 1) := by decide +kernel
theorem dX7_digest_0 : decode cX7_digest 0 = .ok (.ldc2_w 225, 3) := by decide +kernel
theorem dX7_digest_3 : decode cX7_digest 3 = .ok (.lstore_n 1, 1) := by decide +kernel
theorem dX7_digest_4 : decode cX7_digest 4 = .ok (.iconst 0, 1) := by decide +kernel
theorem dX7_digest_5 : decode cX7_digest 5 = .ok (.istore_n 3, 1) := by decide +kernel
theorem dX7_digest_6 : decode cX7_digest 6 = .ok (.iload_n 3, 1) := by decide +kernel
theorem dX7_digest_7 : decode cX7_digest 7 = .ok (.bipush 6, 2) := by decide +kernel
theorem dX7_digest_9 : decode cX7_digest 9 = .ok (.if_icmp .ge 22, 3) := by decide +kernel
theorem dX7_digest_12 : decode cX7_digest 12 = .ok (.ldc2_w 227, 3) := by decide +kernel
theorem dX7_digest_15 : decode cX7_digest 15 = .ok (.lload_n 1, 1) := by decide +kernel
theorem dX7_digest_16 : decode cX7_digest 16 = .ok (.lmul, 1) := by decide +kernel
theorem dX7_digest_17 : decode cX7_digest 17 = .ok (.aload_n 0, 1) := by decide +kernel
theorem dX7_digest_18 : decode cX7_digest 18 = .ok (.iload_n 3, 1) := by decide +kernel
theorem dX7_digest_19 : decode cX7_digest 19 = .ok (.invokevirtual 229, 3) := by decide +kernel
theorem dX7_digest_22 : decode cX7_digest 22 = .ok (.i2l, 1) := by decide +kernel
theorem dX7_digest_23 : decode cX7_digest 23 = .ok (.ladd, 1) := by decide +kernel
theorem dX7_digest_24 : decode cX7_digest 24 = .ok (.lstore_n 1, 1) := by decide +kernel
theorem dX7_digest_25 : decode cX7_digest 25 = .ok (.iinc 3 1, 3) := by decide +kernel
theorem dX7_digest_28 : decode cX7_digest 28 = .ok (.goto (-22), 3) := by decide +kernel
theorem dX7_digest_31 : decode cX7_digest 31 = .ok (.iconst 0, 1) := by decide +kernel
theorem dX7_digest_32 : decode cX7_digest 32 = .ok (.istore_n 3, 1) := by decide +kernel
theorem dX7_digest_33 : decode cX7_digest 33 = .ok (.iload_n 3, 1) := by decide +kernel
theorem dX7_digest_34 : decode cX7_digest 34 = .ok (.aload_n 0, 1) := by decide +kernel
theorem dX7_digest_35 : decode cX7_digest 35 = .ok (.getfield 115, 3) := by decide +kernel
theorem dX7_digest_38 : decode cX7_digest 38 = .ok (.if_icmp .ge 40, 3) := by decide +kernel
theorem dX7_digest_41 : decode cX7_digest 41 = .ok (.iconst 0, 1) := by decide +kernel
theorem dX7_digest_42 : decode cX7_digest 42 = .ok (.istore 4, 2) := by decide +kernel
theorem dX7_digest_44 : decode cX7_digest 44 = .ok (.iload 4, 2) := by decide +kernel
theorem dX7_digest_46 : decode cX7_digest 46 = .ok (.bipush 9, 2) := by decide +kernel
theorem dX7_digest_48 : decode cX7_digest 48 = .ok (.if_icmp .ge 24, 3) := by decide +kernel
theorem dX7_digest_51 : decode cX7_digest 51 = .ok (.ldc2_w 227, 3) := by decide +kernel
theorem dX7_digest_54 : decode cX7_digest 54 = .ok (.lload_n 1, 1) := by decide +kernel
theorem dX7_digest_55 : decode cX7_digest 55 = .ok (.lmul, 1) := by decide +kernel
theorem dX7_digest_56 : decode cX7_digest 56 = .ok (.aload_n 0, 1) := by decide +kernel
theorem dX7_digest_57 : decode cX7_digest 57 = .ok (.iload_n 3, 1) := by decide +kernel
theorem dX7_digest_58 : decode cX7_digest 58 = .ok (.iload 4, 2) := by decide +kernel
theorem dX7_digest_60 : decode cX7_digest 60 = .ok (.invokevirtual 167, 3) := by decide +kernel
theorem dX7_digest_63 : decode cX7_digest 63 = .ok (.i2l, 1) := by decide +kernel
theorem dX7_digest_64 : decode cX7_digest 64 = .ok (.ladd, 1) := by decide +kernel
theorem dX7_digest_65 : decode cX7_digest 65 = .ok (.lstore_n 1, 1) := by decide +kernel
theorem dX7_digest_66 : decode cX7_digest 66 = .ok (.iinc 4 1, 3) := by decide +kernel
theorem dX7_digest_69 : decode cX7_digest 69 = .ok (.goto (-25), 3) := by decide +kernel
theorem dX7_digest_72 : decode cX7_digest 72 = .ok (.iinc 3 1, 3) := by decide +kernel
theorem dX7_digest_75 : decode cX7_digest 75 = .ok (.goto (-42), 3) := by decide +kernel
theorem dX7_digest_78 : decode cX7_digest 78 = .ok (.iconst 0, 1) := by decide +kernel
theorem dX7_digest_79 : decode cX7_digest 79 = .ok (.istore_n 3, 1) := by decide +kernel
theorem dX7_digest_80 : decode cX7_digest 80 = .ok (.iload_n 3, 1) := by decide +kernel
theorem dX7_digest_81 : decode cX7_digest 81 = .ok (.aload_n 0, 1) := by decide +kernel
theorem dX7_digest_82 : decode cX7_digest 82 = .ok (.getfield 147, 3) := by decide +kernel
theorem dX7_digest_85 : decode cX7_digest 85 = .ok (.if_icmp .ge 47, 3) := by decide +kernel
theorem dX7_digest_88 : decode cX7_digest 88 = .ok (.ldc2_w 227, 3) := by decide +kernel
theorem dX7_digest_91 : decode cX7_digest 91 = .ok (.ldc2_w 227, 3) := by decide +kernel
theorem dX7_digest_94 : decode cX7_digest 94 = .ok (.ldc2_w 227, 3) := by decide +kernel
theorem dX7_digest_97 : decode cX7_digest 97 = .ok (.lload_n 1, 1) := by decide +kernel
theorem dX7_digest_98 : decode cX7_digest 98 = .ok (.lmul, 1) := by decide +kernel
theorem dX7_digest_99 : decode cX7_digest 99 = .ok (.aload_n 0, 1) := by decide +kernel
theorem dX7_digest_100 : decode cX7_digest 100 = .ok (.getfield 56, 3) := by decide +kernel
theorem dX7_digest_103 : decode cX7_digest 103 = .ok (.iload_n 3, 1) := by decide +kernel
theorem dX7_digest_104 : decode cX7_digest 104 = .ok (.iaload, 1) := by decide +kernel
theorem dX7_digest_105 : decode cX7_digest 105 = .ok (.i2l, 1) := by decide +kernel
theorem dX7_digest_106 : decode cX7_digest 106 = .ok (.ladd, 1) := by decide +kernel
theorem dX7_digest_107 : decode cX7_digest 107 = .ok (.lmul, 1) := by decide +kernel
theorem dX7_digest_108 : decode cX7_digest 108 = .ok (.aload_n 0, 1) := by decide +kernel
theorem dX7_digest_109 : decode cX7_digest 109 = .ok (.getfield 59, 3) := by decide +kernel
theorem dX7_digest_112 : decode cX7_digest 112 = .ok (.iload_n 3, 1) := by decide +kernel
theorem dX7_digest_113 : decode cX7_digest 113 = .ok (.iaload, 1) := by decide +kernel
theorem dX7_digest_114 : decode cX7_digest 114 = .ok (.i2l, 1) := by decide +kernel
theorem dX7_digest_115 : decode cX7_digest 115 = .ok (.ladd, 1) := by decide +kernel
theorem dX7_digest_116 : decode cX7_digest 116 = .ok (.lmul, 1) := by decide +kernel
theorem dX7_digest_117 : decode cX7_digest 117 = .ok (.aload_n 0, 1) := by decide +kernel
theorem dX7_digest_118 : decode cX7_digest 118 = .ok (.getfield 62, 3) := by decide +kernel
theorem dX7_digest_121 : decode cX7_digest 121 = .ok (.iload_n 3, 1) := by decide +kernel
theorem dX7_digest_122 : decode cX7_digest 122 = .ok (.iaload, 1) := by decide +kernel
theorem dX7_digest_123 : decode cX7_digest 123 = .ok (.i2l, 1) := by decide +kernel
theorem dX7_digest_124 : decode cX7_digest 124 = .ok (.ladd, 1) := by decide +kernel
theorem dX7_digest_125 : decode cX7_digest 125 = .ok (.lstore_n 1, 1) := by decide +kernel
theorem dX7_digest_126 : decode cX7_digest 126 = .ok (.iinc 3 1, 3) := by decide +kernel
theorem dX7_digest_129 : decode cX7_digest 129 = .ok (.goto (-49), 3) := by decide +kernel
theorem dX7_digest_132 : decode cX7_digest 132 = .ok (.iconst 0, 1) := by decide +kernel
theorem dX7_digest_133 : decode cX7_digest 133 = .ok (.istore_n 3, 1) := by decide +kernel
theorem dX7_digest_134 : decode cX7_digest 134 = .ok (.iload_n 3, 1) := by decide +kernel
theorem dX7_digest_135 : decode cX7_digest 135 = .ok (.iconst 5, 1) := by decide +kernel
theorem dX7_digest_136 : decode cX7_digest 136 = .ok (.if_icmp .ge 58, 3) := by decide +kernel
theorem dX7_digest_139 : decode cX7_digest 139 = .ok (.iconst 0, 1) := by decide +kernel
theorem dX7_digest_140 : decode cX7_digest 140 = .ok (.istore 4, 2) := by decide +kernel
theorem dX7_digest_142 : decode cX7_digest 142 = .ok (.iload 4, 2) := by decide +kernel
theorem dX7_digest_144 : decode cX7_digest 144 = .ok (.aload_n 0, 1) := by decide +kernel
theorem dX7_digest_145 : decode cX7_digest 145 = .ok (.getfield 83, 3) := by decide +kernel
theorem dX7_digest_148 : decode cX7_digest 148 = .ok (.iload_n 3, 1) := by decide +kernel
theorem dX7_digest_149 : decode cX7_digest 149 = .ok (.iaload, 1) := by decide +kernel
theorem dX7_digest_150 : decode cX7_digest 150 = .ok (.if_icmp .ge 28, 3) := by decide +kernel
theorem dX7_digest_153 : decode cX7_digest 153 = .ok (.ldc2_w 227, 3) := by decide +kernel
theorem dX7_digest_156 : decode cX7_digest 156 = .ok (.lload_n 1, 1) := by decide +kernel
theorem dX7_digest_157 : decode cX7_digest 157 = .ok (.lmul, 1) := by decide +kernel
theorem dX7_digest_158 : decode cX7_digest 158 = .ok (.aload_n 0, 1) := by decide +kernel
theorem dX7_digest_159 : decode cX7_digest 159 = .ok (.getfield 80, 3) := by decide +kernel
theorem dX7_digest_162 : decode cX7_digest 162 = .ok (.iconst 5, 1) := by decide +kernel
theorem dX7_digest_163 : decode cX7_digest 163 = .ok (.iload_n 3, 1) := by decide +kernel
theorem dX7_digest_164 : decode cX7_digest 164 = .ok (.imul, 1) := by decide +kernel
theorem dX7_digest_165 : decode cX7_digest 165 = .ok (.iload 4, 2) := by decide +kernel
theorem dX7_digest_167 : decode cX7_digest 167 = .ok (.iadd, 1) := by decide +kernel
theorem dX7_digest_168 : decode cX7_digest 168 = .ok (.iaload, 1) := by decide +kernel
theorem dX7_digest_169 : decode cX7_digest 169 = .ok (.i2l, 1) := by decide +kernel
theorem dX7_digest_170 : decode cX7_digest 170 = .ok (.ladd, 1) := by decide +kernel
theorem dX7_digest_171 : decode cX7_digest 171 = .ok (.lstore_n 1, 1) := by decide +kernel
theorem dX7_digest_172 : decode cX7_digest 172 = .ok (.iinc 4 1, 3) := by decide +kernel
theorem dX7_digest_175 : decode cX7_digest 175 = .ok (.goto (-33), 3) := by decide +kernel
theorem dX7_digest_178 : decode cX7_digest 178 = .ok (.ldc2_w 227, 3) := by decide +kernel
theorem dX7_digest_181 : decode cX7_digest 181 = .ok (.lload_n 1, 1) := by decide +kernel
theorem dX7_digest_182 : decode cX7_digest 182 = .ok (.lmul, 1) := by decide +kernel
theorem dX7_digest_183 : decode cX7_digest 183 = .ok (.ldc2_w 232, 3) := by decide +kernel
theorem dX7_digest_186 : decode cX7_digest 186 = .ok (.ladd, 1) := by decide +kernel
theorem dX7_digest_187 : decode cX7_digest 187 = .ok (.lstore_n 1, 1) := by decide +kernel
theorem dX7_digest_188 : decode cX7_digest 188 = .ok (.iinc 3 1, 3) := by decide +kernel
theorem dX7_digest_191 : decode cX7_digest 191 = .ok (.goto (-57), 3) := by decide +kernel
theorem dX7_digest_194 : decode cX7_digest 194 = .ok (.lload_n 1, 1) := by decide +kernel
theorem dX7_digest_195 : decode cX7_digest 195 = .ok (.lreturn, 1) := by decide +kernel
