theorem dX3_keep_21 : decode cX3_keep 21 = .ok (.iastore, 1) := by decide +kernel
theorem dX3_keep_22 : decode cX3_keep 22 = .ok (.aload_n 0, 1) := by decide +kernel
theorem dX3_keep_23 : decode cX3_keep 23 = .ok (.dup, 1) := by decide +kernel
theorem dX3_keep_24 : decode cX3_keep 24 = .ok (.getfield 22, 3) := by decide +kernel
theorem dX3_keep_27 : decode cX3_keep 27 = .ok (.iconst 1, 1) := by decide +kernel
theorem dX3_keep_28 : decode cX3_keep 28 = .ok (.iadd, 1) := by decide +kernel
theorem dX3_keep_29 : decode cX3_keep 29 = .ok (.putfield 22, 3) := by decide +kernel
theorem dX3_keep_32 : decode cX3_keep 32 = .ok (.return_, 1) := by decide +kernel
theorem dX3_metLines_0 : decode cX3_metLines 0 = .ok (.iconst 0, 1) := by decide +kernel
theorem dX3_metLines_1 : decode cX3_metLines 1 = .ok (.istore_n 2, 1) := by decide +kernel
theorem dX3_metLines_2 : decode cX3_metLines 2 = .ok (.iconst 0, 1) := by decide +kernel
theorem dX3_metLines_3 : decode cX3_metLines 3 = .ok (.istore_n 3, 1) := by decide +kernel
theorem dX3_metLines_4 : decode cX3_metLines 4 = .ok (.iload_n 3, 1) := by decide +kernel
theorem dX3_metLines_5 : decode cX3_metLines 5 = .ok (.aload_n 0, 1) := by decide +kernel
theorem dX3_metLines_6 : decode cX3_metLines 6 = .ok (.getfield 29, 3) := by decide +kernel
theorem dX3_metLines_9 : decode cX3_metLines 9 = .ok (.invokevirtual 105, 3) := by decide +kernel
theorem dX3_metLines_12 : decode cX3_metLines 12 = .ok (.if_icmp .ge 84, 3) := by decide +kernel
theorem dX3_metLines_15 : decode cX3_metLines 15 = .ok (.aload_n 0, 1) := by decide +kernel
theorem dX3_metLines_16 : decode cX3_metLines 16 = .ok (.getfield 29, 3) := by decide +kernel
theorem dX3_metLines_19 : decode cX3_metLines 19 = .ok (.iload_n 3, 1) := by decide +kernel
theorem dX3_metLines_20 : decode cX3_metLines 20 = .ok (.invokevirtual 106, 3) := by decide +kernel
theorem dX3_metLines_23 : decode cX3_metLines 23 = .ok (.istore 4, 2) := by decide +kernel
theorem dX3_metLines_25 : decode cX3_metLines 25 = .ok (.iload 4, 2) := by decide +kernel
theorem dX3_metLines_27 : decode cX3_metLines 27 = .ok (.iconst 1, 1) := by decide +kernel
theorem dX3_metLines_28 : decode cX3_metLines 28 = .ok (.if_icmp .ne 18, 3) := by decide +kernel
theorem dX3_metLines_31 : decode cX3_metLines 31 = .ok (.aload_n 0, 1) := by decide +kernel
theorem dX3_metLines_32 : decode cX3_metLines 32 = .ok (.getfield 42, 3) := by decide +kernel
theorem dX3_metLines_35 : decode cX3_metLines 35 = .ok (.iload_n 3, 1) := by decide +kernel
theorem dX3_metLines_36 : decode cX3_metLines 36 = .ok (.invokevirtual 80, 3) := by decide +kernel
theorem dX3_metLines_39 : decode cX3_metLines 39 = .ok (.ifCond .ne 7, 3) := by decide +kernel
theorem dX3_metLines_42 : decode cX3_metLines 42 = .ok (.iconst 1, 1) := by decide +kernel
theorem dX3_metLines_43 : decode cX3_metLines 43 = .ok (.goto 4, 3) := by decide +kernel
theorem dX3_metLines_46 : decode cX3_metLines 46 = .ok (.iconst 0, 1) := by decide +kernel
theorem dX3_metLines_47 : decode cX3_metLines 47 = .ok (.istore 5, 2) := by decide +kernel
theorem dX3_metLines_49 : decode cX3_metLines 49 = .ok (.iload 4, 2) := by decide +kernel
theorem dX3_metLines_51 : decode cX3_metLines 51 = .ok (.iconst 2, 1) := by decide +kernel
theorem dX3_metLines_52 : decode cX3_metLines 52 = .ok (.if_icmp .ne 19, 3) := by decide +kernel
theorem dX3_metLines_55 : decode cX3_metLines 55 = .ok (.aload_n 0, 1) := by decide +kernel
theorem dX3_metLines_56 : decode cX3_metLines 56 = .ok (.getfield 42, 3) := by decide +kernel
theorem dX3_metLines_59 : decode cX3_metLines 59 = .ok (.iload_n 3, 1) := by decide +kernel
theorem dX3_metLines_60 : decode cX3_metLines 60 = .ok (.invokevirtual 77, 3) := by decide +kernel
theorem dX3_metLines_63 : decode cX3_metLines 63 = .ok (.iload_n 1, 1) := by decide +kernel
theorem dX3_metLines_64 : decode cX3_metLines 64 = .ok (.if_icmp .gt 7, 3) := by decide +kernel
theorem dX3_metLines_67 : decode cX3_metLines 67 = .ok (.iconst 1, 1) := by decide +kernel
theorem dX3_metLines_68 : decode cX3_metLines 68 = .ok (.goto 4, 3) := by decide +kernel
theorem dX3_metLines_71 : decode cX3_metLines 71 = .ok (.iconst 0, 1) := by decide +kernel
theorem dX3_metLines_72 : decode cX3_metLines 72 = .ok (.istore 6, 2) := by decide +kernel
theorem dX3_metLines_74 : decode cX3_metLines 74 = .ok (.iload 5, 2) := by decide +kernel
theorem dX3_metLines_76 : decode cX3_metLines 76 = .ok (.ifCond .ne 8, 3) := by decide +kernel
theorem dX3_metLines_79 : decode cX3_metLines 79 = .ok (.iload 6, 2) := by decide +kernel
theorem dX3_metLines_81 : decode cX3_metLines 81 = .ok (.ifCond .eq 9, 3) := by decide +kernel
theorem dX3_metLines_84 : decode cX3_metLines 84 = .ok (.iload_n 2, 1) := by decide +kernel
theorem dX3_metLines_85 : decode cX3_metLines 85 = .ok (.iconst 1, 1) := by decide +kernel
theorem dX3_metLines_86 : decode cX3_metLines 86 = .ok (.iload_n 3, 1) := by decide +kernel
theorem dX3_metLines_87 : decode cX3_metLines 87 = .ok (.ishl, 1) := by decide +kernel
theorem dX3_metLines_88 : decode cX3_metLines 88 = .ok (.ior, 1) := by decide +kernel
theorem dX3_metLines_89 : decode cX3_metLines 89 = .ok (.istore_n 2, 1) := by decide +kernel
theorem dX3_metLines_90 : decode cX3_metLines 90 = .ok (.iinc 3 1, 3) := by decide +kernel
theorem dX3_metLines_93 : decode cX3_metLines 93 = .ok (.goto (-89), 3) := by decide +kernel
theorem dX3_metLines_96 : decode cX3_metLines 96 = .ok (.iload_n 2, 1) := by decide +kernel
theorem dX3_metLines_97 : decode cX3_metLines 97 = .ok (.ireturn, 1) := by decide +kernel
theorem dX3_conflict_0 : decode cX3_conflict 0 = .ok (.iconst 0, 1) := by decide +kernel
theorem dX3_conflict_1 : decode cX3_conflict 1 = .ok (.istore_n 1, 1) := by decide +kernel
theorem dX3_conflict_2 : decode cX3_conflict 2 = .ok (.iload_n 1, 1) := by decide +kernel
theorem dX3_conflict_3 : decode cX3_conflict 3 = .ok (.aload_n 0, 1) := by decide +kernel
theorem dX3_conflict_4 : decode cX3_conflict 4 = .ok (.getfield 29, 3) := by decide +kernel
theorem dX3_conflict_7 : decode cX3_conflict 7 = .ok (.invokevirtual 105, 3) := by decide +kernel
theorem dX3_conflict_10 : decode cX3_conflict 10 = .ok (.if_icmp .ge 35, 3) := by decide +kernel
theorem dX3_conflict_13 : decode cX3_conflict 13 = .ok (.aload_n 0, 1) := by decide +kernel
theorem dX3_conflict_14 : decode cX3_conflict 14 = .ok (.getfield 29, 3) := by decide +kernel
theorem dX3_conflict_17 : decode cX3_conflict 17 = .ok (.iload_n 1, 1) := by decide +kernel
theorem dX3_conflict_18 : decode cX3_conflict 18 = .ok (.invokevirtual 106, 3) := by decide +kernel
theorem dX3_conflict_21 : decode cX3_conflict 21 = .ok (.ifCond .eq 18, 3) := by decide +kernel
theorem dX3_conflict_24 : decode cX3_conflict 24 = .ok (.aload_n 0, 1) := by decide +kernel
theorem dX3_conflict_25 : decode cX3_conflict 25 = .ok (.iload_n 1, 1) := by decide +kernel
theorem dX3_conflict_26 : decode cX3_conflict 26 = .ok (.iload_n 1, 1) := by decide +kernel
theorem dX3_conflict_27 : decode cX3_conflict 27 = .ok (.invokevirtual 109, 3) := by decide +kernel
theorem dX3_conflict_30 : decode cX3_conflict 30 = .ok (.ifCond .ne 9, 3) := by decide +kernel
theorem dX3_conflict_33 : decode cX3_conflict 33 = .ok (.iload_n 1, 1) := by decide +kernel
theorem dX3_conflict_34 : decode cX3_conflict 34 = .ok (.iload_n 1, 1) := by decide +kernel
theorem dX3_conflict_35 : decode cX3_conflict 35 = .ok (.invokestatic 113, 3) := by decide +kernel
theorem dX3_conflict_38 : decode cX3_conflict 38 = .ok (.ireturn, 1) := by decide +kernel
theorem dX3_conflict_39 : decode cX3_conflict 39 = .ok (.iinc 1 1, 3) := by decide +kernel
theorem dX3_conflict_42 : decode cX3_conflict 42 = .ok (.goto (-40), 3) := by decide +kernel
theorem dX3_conflict_45 : decode cX3_conflict 45 = .ok (.iconst 0, 1) := by decide +kernel
theorem dX3_conflict_46 : decode cX3_conflict 46 = .ok (.istore_n 1, 1) := by decide +kernel
theorem dX3_conflict_47 : decode cX3_conflict 47 = .ok (.iload_n 1, 1) := by decide +kernel
theorem dX3_conflict_48 : decode cX3_conflict 48 = .ok (.aload_n 0, 1) := by decide +kernel
theorem dX3_conflict_49 : decode cX3_conflict 49 = .ok (.getfield 29, 3) := by decide +kernel
theorem dX3_conflict_52 : decode cX3_conflict 52 = .ok (.invokevirtual 105, 3) := by decide +kernel
theorem dX3_conflict_55 : decode cX3_conflict 55 = .ok (.if_icmp .ge 77, 3) := by decide +kernel
theorem dX3_conflict_58 : decode cX3_conflict 58 = .ok (.iconst 0, 1) := by decide +kernel
theorem dX3_conflict_59 : decode cX3_conflict 59 = .ok (.istore_n 2, 1) := by decide +kernel
theorem dX3_conflict_60 : decode cX3_conflict 60 = .ok (.iload_n 2, 1) := by decide +kernel
theorem dX3_conflict_61 : decode cX3_conflict 61 = .ok (.aload_n 0, 1) := by decide +kernel
theorem dX3_conflict_62 : decode cX3_conflict 62 = .ok (.getfield 29, 3) := by decide +kernel
theorem dX3_conflict_65 : decode cX3_conflict 65 = .ok (.invokevirtual 105, 3) := by decide +kernel
theorem dX3_conflict_68 : decode cX3_conflict 68 = .ok (.if_icmp .ge 58, 3) := by decide +kernel
theorem dX3_conflict_71 : decode cX3_conflict 71 = .ok (.aload_n 0, 1) := by decide +kernel
theorem dX3_conflict_72 : decode cX3_conflict 72 = .ok (.getfield 29, 3) := by decide +kernel
theorem dX3_conflict_75 : decode cX3_conflict 75 = .ok (.iload_n 1, 1) := by decide +kernel
theorem dX3_conflict_76 : decode cX3_conflict 76 = .ok (.invokevirtual 106, 3) := by decide +kernel
theorem dX3_conflict_79 : decode cX3_conflict 79 = .ok (.iconst 1, 1) := by decide +kernel
theorem dX3_conflict_80 : decode cX3_conflict 80 = .ok (.if_icmp .ne 19, 3) := by decide +kernel
theorem dX3_conflict_83 : decode cX3_conflict 83 = .ok (.aload_n 0, 1) := by decide +kernel
theorem dX3_conflict_84 : decode cX3_conflict 84 = .ok (.getfield 29, 3) := by decide +kernel
theorem dX3_conflict_87 : decode cX3_conflict 87 = .ok (.iload_n 2, 1) := by decide +kernel
theorem dX3_conflict_88 : decode cX3_conflict 88 = .ok (.invokevirtual 106, 3) := by decide +kernel
theorem dX3_conflict_91 : decode cX3_conflict 91 = .ok (.iconst 2, 1) := by decide +kernel
theorem dX3_conflict_92 : decode cX3_conflict 92 = .ok (.if_icmp .ne 7, 3) := by decide +kernel
theorem dX3_conflict_95 : decode cX3_conflict 95 = .ok (.iconst 1, 1) := by decide +kernel
theorem dX3_conflict_96 : decode cX3_conflict 96 = .ok (.goto 4, 3) := by decide +kernel
theorem dX3_conflict_99 : decode cX3_conflict 99 = .ok (.iconst 0, 1) := by decide +kernel
theorem dX3_conflict_100 : decode cX3_conflict 100 = .ok (.istore_n 3, 1) := by decide +kernel
theorem dX3_conflict_101 : decode cX3_conflict 101 = .ok (.iload_n 3, 1) := by decide +kernel
theorem dX3_conflict_102 : decode cX3_conflict 102 = .ok (.ifCond .eq 18, 3) := by decide +kernel
theorem dX3_conflict_105 : decode cX3_conflict 105 = .ok (.aload_n 0, 1) := by decide +kernel
theorem dX3_conflict_106 : decode cX3_conflict 106 = .ok (.iload_n 1, 1) := by decide +kernel
theorem dX3_conflict_107 : decode cX3_conflict 107 = .ok (.iload_n 2, 1) := by decide +kernel
theorem dX3_conflict_108 : decode cX3_conflict 108 = .ok (.invokevirtual 109, 3) := by decide +kernel
theorem dX3_conflict_111 : decode cX3_conflict 111 = .ok (.ifCond .ne 9, 3) := by decide +kernel
theorem dX3_conflict_114 : decode cX3_conflict 114 = .ok (.iload_n 1, 1) := by decide +kernel
theorem dX3_conflict_115 : decode cX3_conflict 115 = .ok (.iload_n 2, 1) := by decide +kernel
theorem dX3_conflict_116 : decode cX3_conflict 116 = .ok (.invokestatic 113, 3) := by decide +kernel
theorem dX3_conflict_119 : decode cX3_conflict 119 = .ok (.ireturn, 1) := by decide +kernel
theorem dX3_conflict_120 : decode cX3_conflict 120 = .ok (.iinc 2 1, 3) := by decide +kernel
theorem dX3_conflict_123 : decode cX3_conflict 123 = .ok (.goto (-63), 3) := by decide +kernel
theorem dX3_conflict_126 : decode cX3_conflict 126 = .ok (.iinc 1 1, 3) := by decide +kernel
theorem dX3_conflict_129 : decode cX3_conflict 129 = .ok (.goto (-82), 3) := by decide +kernel
theorem dX3_conflict_132 : decode cX3_conflict 132 = .ok (.sipush (-999), 3) := by decide +kernel
theorem dX3_conflict_135 : decode cX3_conflict 135 = .ok (.ireturn, 1) := by decide +kernel
theorem dX3_canMeet_0 : decode cX3_canMeet 0 = .ok (.iconst 1, 1) := by decide +kernel
theorem dX3_canMeet_1 : decode cX3_canMeet 1 = .ok (.iload_n 1, 1) := by decide +kernel
theorem dX3_canMeet_2 : decode cX3_canMeet 2 = .ok (.ishl, 1) := by decide +kernel
theorem dX3_canMeet_3 : decode cX3_canMeet 3 = .ok (.iconst 1, 1) := by decide +kernel
theorem dX3_canMeet_4 : decode cX3_canMeet 4 = .ok (.iload_n 2, 1) := by decide +kernel
theorem dX3_canMeet_5 : decode cX3_canMeet 5 = .ok (.ishl, 1) := by decide +kernel
theorem dX3_canMeet_6 : decode cX3_canMeet 6 = .ok (.ior, 1) := by decide +kernel
theorem dX3_canMeet_7 : decode cX3_canMeet 7 = .ok (.istore_n 3, 1) := by decide +kernel
theorem dX3_canMeet_8 : decode cX3_canMeet 8 = .ok (.iconst 0, 1) := by decide +kernel
theorem dX3_canMeet_9 : decode cX3_canMeet 9 = .ok (.istore 4, 2) := by decide +kernel
theorem dX3_canMeet_11 : decode cX3_canMeet 11 = .ok (.iload 4, 2) := by decide +kernel
theorem dX3_canMeet_13 : decode cX3_canMeet 13 = .ok (.aload_n 0, 1) := by decide +kernel
theorem dX3_canMeet_14 : decode cX3_canMeet 14 = .ok (.getfield 22, 3) := by decide +kernel
theorem dX3_canMeet_17 : decode cX3_canMeet 17 = .ok (.if_icmp .ge 24, 3) := by decide +kernel
theorem dX3_canMeet_20 : decode cX3_canMeet 20 = .ok (.aload_n 0, 1) := by decide +kernel
theorem dX3_canMeet_21 : decode cX3_canMeet 21 = .ok (.getfield 18, 3) := by decide +kernel
theorem dX3_canMeet_24 : decode cX3_canMeet 24 = .ok (.iload 4, 2) := by decide +kernel
theorem dX3_canMeet_26 : decode cX3_canMeet 26 = .ok (.iaload, 1) := by decide +kernel
theorem dX3_canMeet_27 : decode cX3_canMeet 27 = .ok (.iload_n 3, 1) := by decide +kernel
theorem dX3_canMeet_28 : decode cX3_canMeet 28 = .ok (.iand, 1) := by decide +kernel
theorem dX3_canMeet_29 : decode cX3_canMeet 29 = .ok (.iload_n 3, 1) := by decide +kernel
theorem dX3_canMeet_30 : decode cX3_canMeet 30 = .ok (.if_icmp .ne 5, 3) := by decide +kernel
theorem dX3_canMeet_33 : decode cX3_canMeet 33 = .ok (.iconst 1, 1) := by decide +kernel
theorem dX3_canMeet_34 : decode cX3_canMeet 34 = .ok (.ireturn, 1) := by decide +kernel
theorem dX3_canMeet_35 : decode cX3_canMeet 35 = .ok (.iinc 4 1, 3) := by decide +kernel
theorem dX3_canMeet_38 : decode cX3_canMeet 38 = .ok (.goto (-27), 3) := by decide +kernel
theorem dX3_canMeet_41 : decode cX3_canMeet 41 = .ok (.iconst 0, 1) := by decide +kernel
theorem dX3_canMeet_42 : decode cX3_canMeet 42 = .ok (.ireturn, 1) := by decide +kernel
theorem dX3_told_0 : decode cX3_told 0 = .ok (.sipush (-1000), 3) := by decide +kernel
theorem dX3_told_3 : decode cX3_told 3 = .ok (.iload_n 0, 1) := by decide +kernel
theorem dX3_told_4 : decode cX3_told 4 = .ok (.bipush 16, 2) := by decide +kernel
theorem dX3_told_6 : decode cX3_told 6 = .ok (.imul, 1) := by decide +kernel
theorem dX3_told_7 : decode cX3_told 7 = .ok (.iload_n 1, 1) := by decide +kernel
theorem dX3_told_8 : decode cX3_told 8 = .ok (.iadd, 1) := by decide +kernel
theorem dX3_told_9 : decode cX3_told 9 = .ok (.isub, 1) := by decide +kernel
theorem dX3_told_10 : decode cX3_told 10 = .ok (.ireturn, 1) := by decide +kernel
theorem dX4_init_0 : decode cX4_init 0 = .ok (.aload_n 0, 1) := by decide +kernel
theorem dX4_init_1 : decode cX4_init 1 = .ok (.invokespecial 3, 3) := by decide +kernel
theorem dX4_init_4 : decode cX4_init 4 = .ok (.aload_n 0, 1) := by decide +kernel
theorem dX4_init_5 : decode cX4_init 5 = .ok (.bipush 12, 2) := by decide +kernel
theorem dX4_init_7 : decode cX4_init 7 = .ok (.newarray .int, 2) := by decide +kernel
theorem dX4_init_9 : decode cX4_init 9 = .ok (.putfield 9, 3) := by decide +kernel
theorem dX4_init_12 : decode cX4_init 12 = .ok (.aload_n 0, 1) := by decide +kernel
theorem dX4_init_13 : decode cX4_init 13 = .ok (.bipush 12, 2) := by decide +kernel
theorem dX4_init_15 : decode cX4_init 15 = .ok (.newarray .int, 2) := by decide +kernel
theorem dX4_init_17 : decode cX4_init 17 = .ok (.putfield 15, 3) := by decide +kernel
theorem dX4_init_20 : decode cX4_init 20 = .ok (.aload_n 0, 1) := by decide +kernel
theorem dX4_init_21 : decode cX4_init 21 = .ok (.bipush 12, 2) := by decide +kernel
theorem dX4_init_23 : decode cX4_init 23 = .ok (.newarray .int, 2) := by decide +kernel
theorem dX4_init_25 : decode cX4_init 25 = .ok (.putfield 18, 3) := by decide +kernel
theorem dX4_init_28 : decode cX4_init 28 = .ok (.aload_n 0, 1) := by decide +kernel
theorem dX4_init_29 : decode cX4_init 29 = .ok (.iconst 0, 1) := by decide +kernel
theorem dX4_init_30 : decode cX4_init 30 = .ok (.putfield 21, 3) := by decide +kernel
theorem dX4_init_33 : decode cX4_init 33 = .ok (.return_, 1) := by decide +kernel
theorem dX4_size_0 : decode cX4_size 0 = .ok (.aload_n 0, 1) := by decide +kernel
theorem dX4_size_1 : decode cX4_size 1 = .ok (.getfield 21, 3) := by decide +kernel
theorem dX4_size_4 : decode cX4_size 4 = .ok (.ireturn, 1) := by decide +kernel
theorem dX4_isFull_0 : decode cX4_isFull 0 = .ok (.aload_n 0, 1) := by decide +kernel
theorem dX4_isFull_1 : decode cX4_isFull 1 = .ok (.getfield 21, 3) := by decide +kernel
theorem dX4_isFull_4 : decode cX4_isFull 4 = .ok (.bipush 12, 2) := by decide +kernel
theorem dX4_isFull_6 : decode cX4_isFull 6 = .ok (.if_icmp .lt 7, 3) := by decide +kernel
theorem dX4_isFull_9 : decode cX4_isFull 9 = .ok (.iconst 1, 1) := by decide +kernel
theorem dX4_isFull_10 : decode cX4_isFull 10 = .ok (.goto 4, 3) := by decide +kernel
theorem dX4_isFull_13 : decode cX4_isFull 13 = .ok (.iconst 0, 1) := by decide +kernel
theorem dX4_isFull_14 : decode cX4_isFull 14 = .ok (.ireturn, 1) := by decide +kernel
theorem dX4_has_0 : decode cX4_has 0 = .ok (.iload_n 1, 1) := by decide +kernel
theorem dX4_has_1 : decode cX4_has 1 = .ok (.ifCond .lt 15, 3) := by decide +kernel
theorem dX4_has_4 : decode cX4_has 4 = .ok (.iload_n 1, 1) := by decide +kernel
theorem dX4_has_5 : decode cX4_has 5 = .ok (.aload_n 0, 1) := by decide +kernel
theorem dX4_has_6 : decode cX4_has 6 = .ok (.getfield 21, 3) := by decide +kernel
theorem dX4_has_9 : decode cX4_has 9 = .ok (.if_icmp .ge 7, 3) := by decide +kernel
theorem dX4_has_12 : decode cX4_has 12 = .ok (.iconst 1, 1) := by decide +kernel
theorem dX4_has_13 : decode cX4_has 13 = .ok (.goto 4, 3) := by decide +kernel
theorem dX4_has_16 : decode cX4_has 16 = .ok (.iconst 0, 1) := by decide +kernel
theorem dX4_has_17 : decode cX4_has 17 = .ok (.ireturn, 1) := by decide +kernel
theorem dX4_enter_0 : decode cX4_enter 0 = .ok (.aload_n 0, 1) := by decide +kernel
theorem dX4_enter_1 : decode cX4_enter 1 = .ok (.getfield 21, 3) := by decide +kernel
theorem dX4_enter_4 : decode cX4_enter 4 = .ok (.istore_n 3, 1) := by decide +kernel
theorem dX4_enter_5 : decode cX4_enter 5 = .ok (.aload_n 0, 1) := by decide +kernel
theorem dX4_enter_6 : decode cX4_enter 6 = .ok (.getfield 9, 3) := by decide +kernel
theorem dX4_enter_9 : decode cX4_enter 9 = .ok (.iload_n 3, 1) := by decide +kernel
theorem dX4_enter_10 : decode cX4_enter 10 = .ok (.iload_n 1, 1) := by decide +kernel
theorem dX4_enter_11 : decode cX4_enter 11 = .ok (.iastore, 1) := by decide +kernel
theorem dX4_enter_12 : decode cX4_enter 12 = .ok (.aload_n 0, 1) := by decide +kernel
theorem dX4_enter_13 : decode cX4_enter 13 = .ok (.getfield 15, 3) := by decide +kernel
theorem dX4_enter_16 : decode cX4_enter 16 = .ok (.iload_n 3, 1) := by decide +kernel
theorem dX4_enter_17 : decode cX4_enter 17 = .ok (.iload_n 1, 1) := by decide +kernel
theorem dX4_enter_18 : decode cX4_enter 18 = .ok (.iconst 1, 1) := by decide +kernel
theorem dX4_enter_19 : decode cX4_enter 19 = .ok (.if_icmp .ne 10, 3) := by decide +kernel
theorem dX4_enter_22 : decode cX4_enter 22 = .ok (.bipush 12, 2) := by decide +kernel
theorem dX4_enter_24 : decode cX4_enter 24 = .ok (.iload_n 2, 1) := by decide +kernel
theorem dX4_enter_25 : decode cX4_enter 25 = .ok (.iadd, 1) := by decide +kernel
theorem dX4_enter_26 : decode cX4_enter 26 = .ok (.goto 4, 3) := by decide +kernel
theorem dX4_enter_29 : decode cX4_enter 29 = .ok (.iload_n 3, 1) := by decide +kernel
theorem dX4_enter_30 : decode cX4_enter 30 = .ok (.iastore, 1) := by decide +kernel
theorem dX4_enter_31 : decode cX4_enter 31 = .ok (.aload_n 0, 1) := by decide +kernel
theorem dX4_enter_32 : decode cX4_enter 32 = .ok (.dup, 1) := by decide +kernel
theorem dX4_enter_33 : decode cX4_enter 33 = .ok (.getfield 21, 3) := by decide +kernel
theorem dX4_enter_36 : decode cX4_enter 36 = .ok (.iconst 1, 1) := by decide +kernel
theorem dX4_enter_37 : decode cX4_enter 37 = .ok (.iadd, 1) := by decide +kernel
theorem dX4_enter_38 : decode cX4_enter 38 = .ok (.putfield 21, 3) := by decide +kernel
theorem dX4_enter_41 : decode cX4_enter 41 = .ok (.iload_n 3, 1) := by decide +kernel
theorem dX4_enter_42 : decode cX4_enter 42 = .ok (.ireturn, 1) := by decide +kernel
theorem dX4_kindOf_0 : decode cX4_kindOf 0 = .ok (.aload_n 0, 1) := by decide +kernel
theorem dX4_kindOf_1 : decode cX4_kindOf 1 = .ok (.getfield 9, 3) := by decide +kernel
theorem dX4_kindOf_4 : decode cX4_kindOf 4 = .ok (.iload_n 1, 1) := by decide +kernel
theorem dX4_kindOf_5 : decode cX4_kindOf 5 = .ok (.iaload, 1) := by decide +kernel
theorem dX4_kindOf_6 : decode cX4_kindOf 6 = .ok (.ireturn, 1) := by decide +kernel
theorem dX4_slotOf_0 : decode cX4_slotOf 0 = .ok (.aload_n 0, 1) := by decide +kernel
theorem dX4_slotOf_1 : decode cX4_slotOf 1 = .ok (.getfield 15, 3) := by decide +kernel
theorem dX4_slotOf_4 : decode cX4_slotOf 4 = .ok (.iload_n 1, 1) := by decide +kernel
theorem dX4_slotOf_5 : decode cX4_slotOf 5 = .ok (.iaload, 1) := by decide +kernel
theorem dX4_slotOf_6 : decode cX4_slotOf 6 = .ok (.ireturn, 1) := by decide +kernel
theorem dX4_markOf_0 : decode cX4_markOf 0 = .ok (.aload_n 0, 1) := by decide +kernel
theorem dX4_markOf_1 : decode cX4_markOf 1 = .ok (.getfield 18, 3) := by decide +kernel
theorem dX4_markOf_4 : decode cX4_markOf 4 = .ok (.iload_n 1, 1) := by decide +kernel
theorem dX4_markOf_5 : decode cX4_markOf 5 = .ok (.iaload, 1) := by decide +kernel
theorem dX4_markOf_6 : decode cX4_markOf 6 = .ok (.ireturn, 1) := by decide +kernel
theorem dX4_putMark_0 : decode cX4_putMark 0 = .ok (.aload_n 0, 1) := by decide +kernel
theorem dX4_putMark_1 : decode cX4_putMark 1 = .ok (.getfield 18, 3) := by decide +kernel
theorem dX4_putMark_4 : decode cX4_putMark 4 = .ok (.iload_n 1, 1) := by decide +kernel
theorem dX4_putMark_5 : decode cX4_putMark 5 = .ok (.iaload, 1) := by decide +kernel
theorem dX4_putMark_6 : decode cX4_putMark 6 = .ok (.istore_n 3, 1) := by decide +kernel
theorem dX4_putMark_7 : decode cX4_putMark 7 = .ok (.aload_n 0, 1) := by decide +kernel
theorem dX4_putMark_8 : decode cX4_putMark 8 = .ok (.getfield 18, 3) := by decide +kernel
theorem dX4_putMark_11 : decode cX4_putMark 11 = .ok (.iload_n 1, 1) := by decide +kernel
theorem dX4_putMark_12 : decode cX4_putMark 12 = .ok (.iload_n 2, 1) := by decide +kernel
theorem dX4_putMark_13 : decode cX4_putMark 13 = .ok (.iastore, 1) := by decide +kernel
theorem dX4_putMark_14 : decode cX4_putMark 14 = .ok (.iload_n 3, 1) := by decide +kernel
theorem dX4_putMark_15 : decode cX4_putMark 15 = .ok (.ireturn, 1) := by decide +kernel
theorem dX4_markedLines_0 : decode cX4_markedLines 0 = .ok (.iconst 0, 1) := by decide +kernel
theorem dX4_markedLines_1 : decode cX4_markedLines 1 = .ok (.istore_n 1, 1) := by decide +kernel
theorem dX4_markedLines_2 : decode cX4_markedLines 2 = .ok (.iconst 0, 1) := by decide +kernel
theorem dX4_markedLines_3 : decode cX4_markedLines 3 = .ok (.istore_n 2, 1) := by decide +kernel
theorem dX4_markedLines_4 : decode cX4_markedLines 4 = .ok (.iload_n 2, 1) := by decide +kernel
theorem dX4_markedLines_5 : decode cX4_markedLines 5 = .ok (.aload_n 0, 1) := by decide +kernel
theorem dX4_markedLines_6 : decode cX4_markedLines 6 = .ok (.getfield 21, 3) := by decide +kernel
theorem dX4_markedLines_9 : decode cX4_markedLines 9 = .ok (.if_icmp .ge 24, 3) := by decide +kernel
theorem dX4_markedLines_12 : decode cX4_markedLines 12 = .ok (.aload_n 0, 1) := by decide +kernel
theorem dX4_markedLines_13 : decode cX4_markedLines 13 = .ok (.getfield 18, 3) := by decide +kernel
theorem dX4_markedLines_16 : decode cX4_markedLines 16 = .ok (.iload_n 2, 1) := by decide +kernel
theorem dX4_markedLines_17 : decode cX4_markedLines 17 = .ok (.iaload, 1) := by decide +kernel
theorem dX4_markedLines_18 : decode cX4_markedLines 18 = .ok (.ifCond .eq 9, 3) := by decide +kernel
theorem dX4_markedLines_21 : decode cX4_markedLines 21 = .ok (.iload_n 1, 1) := by decide +kernel
theorem dX4_markedLines_22 : decode cX4_markedLines 22 = .ok (.iconst 1, 1) := by decide +kernel
theorem dX4_markedLines_23 : decode cX4_markedLines 23 = .ok (.iload_n 2, 1) := by decide +kernel
theorem dX4_markedLines_24 : decode cX4_markedLines 24 = .ok (.ishl, 1) := by decide +kernel
theorem dX4_markedLines_25 : decode cX4_markedLines 25 = .ok (.ior, 1) := by decide +kernel
theorem dX4_markedLines_26 : decode cX4_markedLines 26 = .ok (.istore_n 1, 1) := by decide +kernel
theorem dX4_markedLines_27 : decode cX4_markedLines 27 = .ok (.iinc 2 1, 3) := by decide +kernel
theorem dX4_markedLines_30 : decode cX4_markedLines 30 = .ok (.goto (-26), 3) := by decide +kernel
theorem dX4_markedLines_33 : decode cX4_markedLines 33 = .ok (.iload_n 1, 1) := by decide +kernel
theorem dX4_markedLines_34 : decode cX4_markedLines 34 = .ok (.ireturn, 1) := by decide +kernel
theorem dX5_init_0 : decode cX5_init 0 = .ok (.aload_n 0, 1) := by decide +kernel
theorem dX5_init_1 : decode cX5_init 1 = .ok (.invokespecial 1, 3) := by decide +kernel
theorem dX5_init_4 : decode cX5_init 4 = .ok (.aload_n 0, 1) := by decide +kernel
theorem dX5_init_5 : decode cX5_init 5 = .ok (.getstatic 7, 3) := by decide +kernel
theorem dX5_init_8 : decode cX5_init 8 = .ok (.invokevirtual 13, 3) := by decide +kernel
theorem dX5_init_11 : decode cX5_init 11 = .ok (.checkcast 14, 3) := by decide +kernel
theorem dX5_init_14 : decode cX5_init 14 = .ok (.putfield 18, 3) := by decide +kernel
theorem dX5_init_17 : decode cX5_init 17 = .ok (.return_, 1) := by decide +kernel
theorem dX5_get_0 : decode cX5_get 0 = .ok (.aload_n 0, 1) := by decide +kernel
theorem dX5_get_1 : decode cX5_get 1 = .ok (.getfield 18, 3) := by decide +kernel
theorem dX5_get_4 : decode cX5_get 4 = .ok (.iload_n 1, 1) := by decide +kernel
theorem dX5_get_5 : decode cX5_get 5 = .ok (.iaload, 1) := by decide +kernel
theorem dX5_get_6 : decode cX5_get 6 = .ok (.ireturn, 1) := by decide +kernel
theorem dX5_admits_0 : decode cX5_admits 0 = .ok (.iload_n 1, 1) := by decide +kernel
theorem dX5_admits_1 : decode cX5_admits 1 = .ok (.ifCond .lt 30, 3) := by decide +kernel
theorem dX5_admits_4 : decode cX5_admits 4 = .ok (.iload_n 1, 1) := by decide +kernel
theorem dX5_admits_5 : decode cX5_admits 5 = .ok (.aload_n 0, 1) := by decide +kernel
theorem dX5_admits_6 : decode cX5_admits 6 = .ok (.getfield 18, 3) := by decide +kernel
theorem dX5_admits_9 : decode cX5_admits 9 = .ok (.arraylength, 1) := by decide +kernel
theorem dX5_admits_10 : decode cX5_admits 10 = .ok (.if_icmp .ge 21, 3) := by decide +kernel
theorem dX5_admits_13 : decode cX5_admits 13 = .ok (.iload_n 2, 1) := by decide +kernel
theorem dX5_admits_14 : decode cX5_admits 14 = .ok (.getstatic 21, 3) := by decide +kernel
theorem dX5_admits_17 : decode cX5_admits 17 = .ok (.iload_n 1, 1) := by decide +kernel
theorem dX5_admits_18 : decode cX5_admits 18 = .ok (.iaload, 1) := by decide +kernel
theorem dX5_admits_19 : decode cX5_admits 19 = .ok (.if_icmp .lt 12, 3) := by decide +kernel
theorem dX5_admits_22 : decode cX5_admits 22 = .ok (.iload_n 2, 1) := by decide +kernel
theorem dX5_admits_23 : decode cX5_admits 23 = .ok (.getstatic 24, 3) := by decide +kernel
theorem dX5_admits_26 : decode cX5_admits 26 = .ok (.iload_n 1, 1) := by decide +kernel
theorem dX5_admits_27 : decode cX5_admits 27 = .ok (.iaload, 1) := by decide +kernel
theorem dX5_admits_28 : decode cX5_admits 28 = .ok (.if_icmp .le 5, 3) := by decide +kernel
theorem dX5_admits_31 : decode cX5_admits 31 = .ok (.iconst 0, 1) := by decide +kernel
theorem dX5_admits_32 : decode cX5_admits 32 = .ok (.ireturn, 1) := by decide +kernel
theorem dX5_admits_33 : decode cX5_admits 33 = .ok (.iload_n 1, 1) := by decide +kernel
theorem dX5_admits_34 : decode cX5_admits 34 = .ok (.iconst 4, 1) := by decide +kernel
theorem dX5_admits_35 : decode cX5_admits 35 = .ok (.if_icmp .ne 19, 3) := by decide +kernel
theorem dX5_admits_38 : decode cX5_admits 38 = .ok (.aload_n 0, 1) := by decide +kernel
theorem dX5_admits_39 : decode cX5_admits 39 = .ok (.getfield 18, 3) := by decide +kernel
theorem dX5_admits_42 : decode cX5_admits 42 = .ok (.iconst 5, 1) := by decide +kernel
theorem dX5_admits_43 : decode cX5_admits 43 = .ok (.iaload, 1) := by decide +kernel
theorem dX5_admits_44 : decode cX5_admits 44 = .ok (.iload_n 2, 1) := by decide +kernel
theorem dX5_admits_45 : decode cX5_admits 45 = .ok (.if_icmp .gt 7, 3) := by decide +kernel
theorem dX5_admits_48 : decode cX5_admits 48 = .ok (.iconst 1, 1) := by decide +kernel
theorem dX5_admits_49 : decode cX5_admits 49 = .ok (.goto 4, 3) := by decide +kernel
theorem dX5_admits_52 : decode cX5_admits 52 = .ok (.iconst 0, 1) := by decide +kernel
theorem dX5_admits_53 : decode cX5_admits 53 = .ok (.ireturn, 1) := by decide +kernel
theorem dX5_admits_54 : decode cX5_admits 54 = .ok (.iload_n 1, 1) := by decide +kernel
theorem dX5_admits_55 : decode cX5_admits 55 = .ok (.iconst 5, 1) := by decide +kernel
theorem dX5_admits_56 : decode cX5_admits 56 = .ok (.if_icmp .ne 13, 3) := by decide +kernel
theorem dX5_admits_59 : decode cX5_admits 59 = .ok (.iload_n 2, 1) := by decide +kernel
theorem dX5_admits_60 : decode cX5_admits 60 = .ok (.aload_n 0, 1) := by decide +kernel
theorem dX5_admits_61 : decode cX5_admits 61 = .ok (.getfield 18, 3) := by decide +kernel
theorem dX5_admits_64 : decode cX5_admits 64 = .ok (.iconst 4, 1) := by decide +kernel
theorem dX5_admits_65 : decode cX5_admits 65 = .ok (.iaload, 1) := by decide +kernel
theorem dX5_admits_66 : decode cX5_admits 66 = .ok (.if_icmp .gt 7, 3) := by decide +kernel
theorem dX5_admits_69 : decode cX5_admits 69 = .ok (.iconst 1, 1) := by decide +kernel
theorem dX5_admits_70 : decode cX5_admits 70 = .ok (.goto 4, 3) := by decide +kernel
theorem dX5_admits_73 : decode cX5_admits 73 = .ok (.iconst 0, 1) := by decide +kernel
theorem dX5_admits_74 : decode cX5_admits 74 = .ok (.ireturn, 1) := by decide +kernel
theorem dX5_areMarks_0 : decode cX5_areMarks 0 = .ok (.iload_n 0, 1) := by decide +kernel
theorem dX5_areMarks_1 : decode cX5_areMarks 1 = .ok (.getstatic 21, 3) := by decide +kernel
theorem dX5_areMarks_4 : decode cX5_areMarks 4 = .ok (.iconst 4, 1) := by decide +kernel
theorem dX5_areMarks_5 : decode cX5_areMarks 5 = .ok (.iaload, 1) := by decide +kernel
theorem dX5_areMarks_6 : decode cX5_areMarks 6 = .ok (.if_icmp .lt 30, 3) := by decide +kernel
theorem dX5_areMarks_9 : decode cX5_areMarks 9 = .ok (.iload_n 0, 1) := by decide +kernel
theorem dX5_areMarks_10 : decode cX5_areMarks 10 = .ok (.getstatic 24, 3) := by decide +kernel
theorem dX5_areMarks_13 : decode cX5_areMarks 13 = .ok (.iconst 4, 1) := by decide +kernel
theorem dX5_areMarks_14 : decode cX5_areMarks 14 = .ok (.iaload, 1) := by decide +kernel
theorem dX5_areMarks_15 : decode cX5_areMarks 15 = .ok (.if_icmp .gt 21, 3) := by decide +kernel
theorem dX5_areMarks_18 : decode cX5_areMarks 18 = .ok (.iload_n 1, 1) := by decide +kernel
theorem dX5_areMarks_19 : decode cX5_areMarks 19 = .ok (.getstatic 21, 3) := by decide +kernel
theorem dX5_areMarks_22 : decode cX5_areMarks 22 = .ok (.iconst 5, 1) := by decide +kernel
theorem dX5_areMarks_23 : decode cX5_areMarks 23 = .ok (.iaload, 1) := by decide +kernel
theorem dX5_areMarks_24 : decode cX5_areMarks 24 = .ok (.if_icmp .lt 12, 3) := by decide +kernel
theorem dX5_areMarks_27 : decode cX5_areMarks 27 = .ok (.iload_n 1, 1) := by decide +kernel
theorem dX5_areMarks_28 : decode cX5_areMarks 28 = .ok (.iload_n 0, 1) := by decide +kernel
theorem dX5_areMarks_29 : decode cX5_areMarks 29 = .ok (.if_icmp .gt 7, 3) := by decide +kernel
theorem dX5_areMarks_32 : decode cX5_areMarks 32 = .ok (.iconst 1, 1) := by decide +kernel
theorem dX5_areMarks_33 : decode cX5_areMarks 33 = .ok (.goto 4, 3) := by decide +kernel
theorem dX5_areMarks_36 : decode cX5_areMarks 36 = .ok (.iconst 0, 1) := by decide +kernel
theorem dX5_areMarks_37 : decode cX5_areMarks 37 = .ok (.ireturn, 1) := by decide +kernel
theorem dX5_put_0 : decode cX5_put 0 = .ok (.aload_n 0, 1) := by decide +kernel
theorem dX5_put_1 : decode cX5_put 1 = .ok (.getfield 18, 3) := by decide +kernel
theorem dX5_put_4 : decode cX5_put 4 = .ok (.iload_n 1, 1) := by decide +kernel
theorem dX5_put_5 : decode cX5_put 5 = .ok (.iload_n 2, 1) := by decide +kernel
theorem dX5_put_6 : decode cX5_put 6 = .ok (.iastore, 1) := by decide +kernel
theorem dX5_put_7 : decode cX5_put 7 = .ok (.return_, 1) := by decide +kernel
theorem dX5_copyWithMarks_0 : decode cX5_copyWithMarks 0 = .ok (.aload_n 1, 1) := by decide +kernel
theorem dX5_copyWithMarks_1 : decode cX5_copyWithMarks 1 = .ok (.getfield 18, 3) := by decide +kernel
theorem dX5_copyWithMarks_4 : decode cX5_copyWithMarks 4 = .ok (.iconst 0, 1) := by decide +kernel
theorem dX5_copyWithMarks_5 : decode cX5_copyWithMarks 5 = .ok (.aload_n 0, 1) := by decide +kernel
theorem dX5_copyWithMarks_6 : decode cX5_copyWithMarks 6 = .ok (.getfield 18, 3) := by decide +kernel
theorem dX5_copyWithMarks_9 : decode cX5_copyWithMarks 9 = .ok (.iconst 0, 1) := by decide +kernel
theorem dX5_copyWithMarks_10 : decode cX5_copyWithMarks 10 = .ok (.aload_n 0, 1) := by decide +kernel
theorem dX5_copyWithMarks_11 : decode cX5_copyWithMarks 11 = .ok (.getfield 18, 3) := by decide +kernel
theorem dX5_copyWithMarks_14 : decode cX5_copyWithMarks 14 = .ok (.arraylength, 1) := by decide +kernel
theorem dX5_copyWithMarks_15 : decode cX5_copyWithMarks 15 = .ok (.invokestatic 27, 3) := by decide +kernel
theorem dX5_copyWithMarks_18 : decode cX5_copyWithMarks 18 = .ok (.aload_n 0, 1) := by decide +kernel
theorem dX5_copyWithMarks_19 : decode cX5_copyWithMarks 19 = .ok (.getfield 18, 3) := by decide +kernel
theorem dX5_copyWithMarks_22 : decode cX5_copyWithMarks 22 = .ok (.iconst 4, 1) := by decide +kernel
theorem dX5_copyWithMarks_23 : decode cX5_copyWithMarks 23 = .ok (.iload_n 2, 1) := by decide +kernel
theorem dX5_copyWithMarks_24 : decode cX5_copyWithMarks 24 = .ok (.iastore, 1) := by decide +kernel
theorem dX5_copyWithMarks_25 : decode cX5_copyWithMarks 25 = .ok (.aload_n 0, 1) := by decide +kernel
theorem dX5_copyWithMarks_26 : decode cX5_copyWithMarks 26 = .ok (.getfield 18, 3) := by decide +kernel
theorem dX5_copyWithMarks_29 : decode cX5_copyWithMarks 29 = .ok (.iconst 5, 1) := by decide +kernel
theorem dX5_copyWithMarks_30 : decode cX5_copyWithMarks 30 = .ok (.iload_n 3, 1) := by decide +kernel
theorem dX5_copyWithMarks_31 : decode cX5_copyWithMarks 31 = .ok (.iastore, 1) := by decide +kernel
theorem dX5_copyWithMarks_32 : decode cX5_copyWithMarks 32 = .ok (.return_, 1) := by decide +kernel
theorem dX5_fade_0 : decode cX5_fade 0 = .ok (.iconst 1, 1) := by decide +kernel
theorem dX5_fade_1 : decode cX5_fade 1 = .ok (.aload_n 0, 1) := by decide +kernel
theorem dX5_fade_2 : decode cX5_fade 2 = .ok (.getfield 18, 3) := by decide +kernel
theorem dX5_fade_5 : decode cX5_fade 5 = .ok (.iconst 3, 1) := by decide +kernel
theorem dX5_fade_6 : decode cX5_fade 6 = .ok (.iaload, 1) := by decide +kernel
theorem dX5_fade_7 : decode cX5_fade 7 = .ok (.invokestatic 33, 3) := by decide +kernel
theorem dX5_fade_10 : decode cX5_fade 10 = .ok (.istore_n 3, 1) := by decide +kernel
theorem dX5_fade_11 : decode cX5_fade 11 = .ok (.iload_n 2, 1) := by decide +kernel
theorem dX5_fade_12 : decode cX5_fade 12 = .ok (.iload_n 3, 1) := by decide +kernel
theorem dX5_fade_13 : decode cX5_fade 13 = .ok (.idiv, 1) := by decide +kernel
theorem dX5_fade_14 : decode cX5_fade 14 = .ok (.istore 4, 2) := by decide +kernel
theorem dX5_fade_16 : decode cX5_fade 16 = .ok (.iload 4, 2) := by decide +kernel
theorem dX5_fade_18 : decode cX5_fade 18 = .ok (.bipush 30, 2) := by decide +kernel
theorem dX5_fade_20 : decode cX5_fade 20 = .ok (.if_icmp .le 5, 3) := by decide +kernel
theorem dX5_fade_23 : decode cX5_fade 23 = .ok (.iconst 0, 1) := by decide +kernel
theorem dX5_fade_24 : decode cX5_fade 24 = .ok (.ireturn, 1) := by decide +kernel
theorem dX5_fade_25 : decode cX5_fade 25 = .ok (.iload_n 1, 1) := by decide +kernel
theorem dX5_fade_26 : decode cX5_fade 26 = .ok (.iload 4, 2) := by decide +kernel
theorem dX5_fade_28 : decode cX5_fade 28 = .ok (.ishr, 1) := by decide +kernel
theorem dX5_fade_29 : decode cX5_fade 29 = .ok (.istore 5, 2) := by decide +kernel
theorem dX5_fade_31 : decode cX5_fade 31 = .ok (.iload 5, 2) := by decide +kernel
theorem dX5_fade_33 : decode cX5_fade 33 = .ok (.iload 5, 2) := by decide +kernel
theorem dX5_fade_35 : decode cX5_fade 35 = .ok (.iload_n 2, 1) := by decide +kernel
theorem dX5_fade_36 : decode cX5_fade 36 = .ok (.iload_n 3, 1) := by decide +kernel
theorem dX5_fade_37 : decode cX5_fade 37 = .ok (.irem, 1) := by decide +kernel
theorem dX5_fade_38 : decode cX5_fade 38 = .ok (.imul, 1) := by decide +kernel
theorem dX5_fade_39 : decode cX5_fade 39 = .ok (.iconst 2, 1) := by decide +kernel
theorem dX5_fade_40 : decode cX5_fade 40 = .ok (.iload_n 3, 1) := by decide +kernel
theorem dX5_fade_41 : decode cX5_fade 41 = .ok (.imul, 1) := by decide +kernel
theorem dX5_fade_42 : decode cX5_fade 42 = .ok (.idiv, 1) := by decide +kernel
theorem dX5_fade_43 : decode cX5_fade 43 = .ok (.isub, 1) := by decide +kernel
theorem dX5_fade_44 : decode cX5_fade 44 = .ok (.ireturn, 1) := by decide +kernel
theorem dX5_ticksTillBelow_0 : decode cX5_ticksTillBelow 0 = .ok (.iload_n 1, 1) := by decide +kernel
theorem dX5_ticksTillBelow_1 : decode cX5_ticksTillBelow 1 = .ok (.iload_n 2, 1) := by decide +kernel
theorem dX5_ticksTillBelow_2 : decode cX5_ticksTillBelow 2 = .ok (.if_icmp .ge 5, 3) := by decide +kernel
theorem dX5_ticksTillBelow_5 : decode cX5_ticksTillBelow 5 = .ok (.iconst 0, 1) := by decide +kernel
theorem dX5_ticksTillBelow_6 : decode cX5_ticksTillBelow 6 = .ok (.ireturn, 1) := by decide +kernel
theorem dX5_ticksTillBelow_7 : decode cX5_ticksTillBelow 7 = .ok (.aload_n 0, 1) := by decide +kernel
theorem dX5_ticksTillBelow_8 : decode cX5_ticksTillBelow 8 = .ok (.getfield 18, 3) := by decide +kernel
theorem dX5_ticksTillBelow_11 : decode cX5_ticksTillBelow 11 = .ok (.iconst 3, 1) := by decide +kernel
theorem dX5_ticksTillBelow_12 : decode cX5_ticksTillBelow 12 = .ok (.iaload, 1) := by decide +kernel
theorem dX5_ticksTillBelow_13 : decode cX5_ticksTillBelow 13 = .ok (.istore_n 3, 1) := by decide +kernel
theorem dX5_ticksTillBelow_14 : decode cX5_ticksTillBelow 14 = .ok (.iload_n 1, 1) := by decide +kernel
theorem dX5_ticksTillBelow_15 : decode cX5_ticksTillBelow 15 = .ok (.istore 4, 2) := by decide +kernel
theorem dX5_ticksTillBelow_17 : decode cX5_ticksTillBelow 17 = .ok (.iconst 0, 1) := by decide +kernel
theorem dX5_ticksTillBelow_18 : decode cX5_ticksTillBelow 18 = .ok (.istore 5, 2) := by decide +kernel
theorem dX5_ticksTillBelow_20 : decode cX5_ticksTillBelow 20 = .ok (.iconst 0, 1) := by decide +kernel
theorem dX5_ticksTillBelow_21 : decode cX5_ticksTillBelow 21 = .ok (.istore 6, 2) := by decide +kernel
theorem dX5_ticksTillBelow_23 : decode cX5_ticksTillBelow 23 = .ok (.iload 6, 2) := by decide +kernel
theorem dX5_ticksTillBelow_25 : decode cX5_ticksTillBelow 25 = .ok (.bipush 30, 2) := by decide +kernel
theorem dX5_ticksTillBelow_27 : decode cX5_ticksTillBelow 27 = .ok (.if_icmp .ge 29, 3) := by decide +kernel
theorem dX5_ticksTillBelow_30 : decode cX5_ticksTillBelow 30 = .ok (.iload 4, 2) := by decide +kernel
theorem dX5_ticksTillBelow_32 : decode cX5_ticksTillBelow 32 = .ok (.iconst 2, 1) := by decide +kernel
theorem dX5_ticksTillBelow_33 : decode cX5_ticksTillBelow 33 = .ok (.idiv, 1) := by decide +kernel
theorem dX5_ticksTillBelow_34 : decode cX5_ticksTillBelow 34 = .ok (.iload_n 2, 1) := by decide +kernel
theorem dX5_ticksTillBelow_35 : decode cX5_ticksTillBelow 35 = .ok (.if_icmp .lt 21, 3) := by decide +kernel
theorem dX5_ticksTillBelow_38 : decode cX5_ticksTillBelow 38 = .ok (.iload 4, 2) := by decide +kernel
theorem dX5_ticksTillBelow_40 : decode cX5_ticksTillBelow 40 = .ok (.iconst 2, 1) := by decide +kernel
theorem dX5_ticksTillBelow_41 : decode cX5_ticksTillBelow 41 = .ok (.idiv, 1) := by decide +kernel
theorem dX5_ticksTillBelow_42 : decode cX5_ticksTillBelow 42 = .ok (.istore 4, 2) := by decide +kernel
theorem dX5_ticksTillBelow_44 : decode cX5_ticksTillBelow 44 = .ok (.iload 5, 2) := by decide +kernel
theorem dX5_ticksTillBelow_46 : decode cX5_ticksTillBelow 46 = .ok (.iload_n 3, 1) := by decide +kernel
theorem dX5_ticksTillBelow_47 : decode cX5_ticksTillBelow 47 = .ok (.iadd, 1) := by decide +kernel
theorem dX5_ticksTillBelow_48 : decode cX5_ticksTillBelow 48 = .ok (.istore 5, 2) := by decide +kernel
theorem dX5_ticksTillBelow_50 : decode cX5_ticksTillBelow 50 = .ok (.iinc 6 1, 3) := by decide +kernel
theorem dX5_ticksTillBelow_53 : decode cX5_ticksTillBelow 53 = .ok (.goto (-30), 3) := by decide +kernel
theorem dX5_ticksTillBelow_56 : decode cX5_ticksTillBelow 56 = .ok (.iload 4, 2) := by decide +kernel
theorem dX5_ticksTillBelow_58 : decode cX5_ticksTillBelow 58 = .ok (.iload_n 2, 1) := by decide +kernel
theorem dX5_ticksTillBelow_59 : decode cX5_ticksTillBelow 59 = .ok (.isub, 1) := by decide +kernel
theorem dX5_ticksTillBelow_60 : decode cX5_ticksTillBelow 60 = .ok (.iconst 1, 1) := by decide +kernel
theorem dX5_ticksTillBelow_61 : decode cX5_ticksTillBelow 61 = .ok (.iadd, 1) := by decide +kernel
theorem dX5_ticksTillBelow_62 : decode cX5_ticksTillBelow 62 = .ok (.istore 6, 2) := by decide +kernel
theorem dX5_ticksTillBelow_64 : decode cX5_ticksTillBelow 64 = .ok (.iconst 1, 1) := by decide +kernel
theorem dX5_ticksTillBelow_65 : decode cX5_ticksTillBelow 65 = .ok (.iload 4, 2) := by decide +kernel
theorem dX5_ticksTillBelow_67 : decode cX5_ticksTillBelow 67 = .ok (.invokestatic 33, 3) := by decide +kernel
theorem dX5_ticksTillBelow_70 : decode cX5_ticksTillBelow 70 = .ok (.istore 7, 2) := by decide +kernel
theorem dX5_ticksTillBelow_72 : decode cX5_ticksTillBelow 72 = .ok (.iload 6, 2) := by decide +kernel
theorem dX5_ticksTillBelow_74 : decode cX5_ticksTillBelow 74 = .ok (.iconst 2, 1) := by decide +kernel
theorem dX5_ticksTillBelow_75 : decode cX5_ticksTillBelow 75 = .ok (.imul, 1) := by decide +kernel
theorem dX5_ticksTillBelow_76 : decode cX5_ticksTillBelow 76 = .ok (.iload_n 3, 1) := by decide +kernel
theorem dX5_ticksTillBelow_77 : decode cX5_ticksTillBelow 77 = .ok (.imul, 1) := by decide +kernel
theorem dX5_ticksTillBelow_78 : decode cX5_ticksTillBelow 78 = .ok (.iload 7, 2) := by decide +kernel
theorem dX5_ticksTillBelow_80 : decode cX5_ticksTillBelow 80 = .ok (.iadd, 1) := by decide +kernel
theorem dX5_ticksTillBelow_81 : decode cX5_ticksTillBelow 81 = .ok (.iconst 1, 1) := by decide +kernel
theorem dX5_ticksTillBelow_82 : decode cX5_ticksTillBelow 82 = .ok (.isub, 1) := by decide +kernel
theorem dX5_ticksTillBelow_83 : decode cX5_ticksTillBelow 83 = .ok (.iload 7, 2) := by decide +kernel
theorem dX5_ticksTillBelow_85 : decode cX5_ticksTillBelow 85 = .ok (.idiv, 1) := by decide +kernel
theorem dX5_ticksTillBelow_86 : decode cX5_ticksTillBelow 86 = .ok (.istore 8, 2) := by decide +kernel
theorem dX5_ticksTillBelow_88 : decode cX5_ticksTillBelow 88 = .ok (.iload 5, 2) := by decide +kernel
theorem dX5_ticksTillBelow_90 : decode cX5_ticksTillBelow 90 = .ok (.iload_n 3, 1) := by decide +kernel
theorem dX5_ticksTillBelow_91 : decode cX5_ticksTillBelow 91 = .ok (.iload 8, 2) := by decide +kernel
theorem dX5_ticksTillBelow_93 : decode cX5_ticksTillBelow 93 = .ok (.invokestatic 39, 3) := by decide +kernel
theorem dX5_ticksTillBelow_96 : decode cX5_ticksTillBelow 96 = .ok (.iadd, 1) := by decide +kernel
theorem dX5_ticksTillBelow_97 : decode cX5_ticksTillBelow 97 = .ok (.ireturn, 1) := by decide +kernel
theorem dX6_init_0 : decode cX6_init 0 = .ok (.aload_n 0, 1) := by decide +kernel
theorem dX6_init_1 : decode cX6_init 1 = .ok (.invokespecial 1, 3) := by decide +kernel
theorem dX6_init_4 : decode cX6_init 4 = .ok (.aload_n 0, 1) := by decide +kernel
theorem dX6_init_5 : decode cX6_init 5 = .ok (.new 7, 3) := by decide +kernel
theorem dX6_init_8 : decode cX6_init 8 = .ok (.dup, 1) := by decide +kernel
theorem dX6_init_9 : decode cX6_init 9 = .ok (.invokespecial 9, 3) := by decide +kernel
theorem dX6_init_12 : decode cX6_init 12 = .ok (.putfield 10, 3) := by decide +kernel
theorem dX6_init_15 : decode cX6_init 15 = .ok (.aload_n 0, 1) := by decide +kernel
theorem dX6_init_16 : decode cX6_init 16 = .ok (.new 16, 3) := by decide +kernel
theorem dX6_init_19 : decode cX6_init 19 = .ok (.dup, 1) := by decide +kernel
theorem dX6_init_20 : decode cX6_init 20 = .ok (.invokespecial 18, 3) := by decide +kernel
theorem dX6_init_23 : decode cX6_init 23 = .ok (.putfield 19, 3) := by decide +kernel
theorem dX6_init_26 : decode cX6_init 26 = .ok (.aload_n 0, 1) := by decide +kernel
theorem dX6_init_27 : decode cX6_init 27 = .ok (.new 23, 3) := by decide +kernel
theorem dX6_init_30 : decode cX6_init 30 = .ok (.dup, 1) := by decide +kernel
theorem dX6_init_31 : decode cX6_init 31 = .ok (.invokespecial 25, 3) := by decide +kernel
theorem dX6_init_34 : decode cX6_init 34 = .ok (.putfield 26, 3) := by decide +kernel
theorem dX6_init_37 : decode cX6_init 37 = .ok (.aload_n 0, 1) := by decide +kernel
theorem dX6_init_38 : decode cX6_init 38 = .ok (.new 30, 3) := by decide +kernel
theorem dX6_init_41 : decode cX6_init 41 = .ok (.dup, 1) := by decide +kernel
theorem dX6_init_42 : decode cX6_init 42 = .ok (.aload_n 0, 1) := by decide +kernel
theorem dX6_init_43 : decode cX6_init 43 = .ok (.getfield 10, 3) := by decide +kernel
theorem dX6_init_46 : decode cX6_init 46 = .ok (.aload_n 0, 1) := by decide +kernel
theorem dX6_init_47 : decode cX6_init 47 = .ok (.getfield 19, 3) := by decide +kernel
theorem dX6_init_50 : decode cX6_init 50 = .ok (.invokespecial 32, 3) := by decide +kernel
theorem dX6_init_53 : decode cX6_init 53 = .ok (.putfield 35, 3) := by decide +kernel
theorem dX6_init_56 : decode cX6_init 56 = .ok (.aload_n 0, 1) := by decide +kernel
theorem dX6_init_57 : decode cX6_init 57 = .ok (.new 39, 3) := by decide +kernel
theorem dX6_init_60 : decode cX6_init 60 = .ok (.dup, 1) := by decide +kernel
theorem dX6_init_61 : decode cX6_init 61 = .ok (.aload_n 0, 1) := by decide +kernel
theorem dX6_init_62 : decode cX6_init 62 = .ok (.getfield 10, 3) := by decide +kernel
theorem dX6_init_65 : decode cX6_init 65 = .ok (.aload_n 0, 1) := by decide +kernel
theorem dX6_init_66 : decode cX6_init 66 = .ok (.getfield 19, 3) := by decide +kernel
theorem dX6_init_69 : decode cX6_init 69 = .ok (.aload_n 0, 1) := by decide +kernel
theorem dX6_init_70 : decode cX6_init 70 = .ok (.getfield 26, 3) := by decide +kernel
theorem dX6_init_73 : decode cX6_init 73 = .ok (.invokespecial 41, 3) := by decide +kernel
theorem dX6_init_76 : decode cX6_init 76 = .ok (.putfield 44, 3) := by decide +kernel
theorem dX6_init_79 : decode cX6_init 79 = .ok (.aload_n 0, 1) := by decide +kernel
theorem dX6_init_80 : decode cX6_init 80 = .ok (.new 48, 3) := by decide +kernel
theorem dX6_init_83 : decode cX6_init 83 = .ok (.dup, 1) := by decide +kernel
theorem dX6_init_84 : decode cX6_init 84 = .ok (.invokespecial 50, 3) := by decide +kernel
theorem dX6_init_87 : decode cX6_init 87 = .ok (.putfield 51, 3) := by decide +kernel
theorem dX6_init_90 : decode cX6_init 90 = .ok (.aload_n 0, 1) := by decide +kernel
theorem dX6_init_91 : decode cX6_init 91 = .ok (.iconst 0, 1) := by decide +kernel
theorem dX6_init_92 : decode cX6_init 92 = .ok (.putfield 55, 3) := by decide +kernel
theorem dX6_init_95 : decode cX6_init 95 = .ok (.return_, 1) := by decide +kernel
theorem dX6_line_0 : decode cX6_line 0 = .ok (.iload_n 1, 1) := by decide +kernel
theorem dX6_line_1 : decode cX6_line 1 = .ok (.ifCond .lt 8, 3) := by decide +kernel
theorem dX6_line_4 : decode cX6_line 4 = .ok (.iload_n 1, 1) := by decide +kernel
theorem dX6_line_5 : decode cX6_line 5 = .ok (.iconst 2, 1) := by decide +kernel
theorem dX6_line_6 : decode cX6_line 6 = .ok (.if_icmp .le 6, 3) := by decide +kernel
theorem dX6_line_9 : decode cX6_line 9 = .ok (.bipush (-2), 2) := by decide +kernel
theorem dX6_line_11 : decode cX6_line 11 = .ok (.ireturn, 1) := by decide +kernel
theorem dX6_line_12 : decode cX6_line 12 = .ok (.iload_n 1, 1) := by decide +kernel
theorem dX6_line_13 : decode cX6_line 13 = .ok (.iconst 1, 1) := by decide +kernel
theorem dX6_line_14 : decode cX6_line 14 = .ok (.if_icmp .ne 15, 3) := by decide +kernel
theorem dX6_line_17 : decode cX6_line 17 = .ok (.iload_n 2, 1) := by decide +kernel
theorem dX6_line_18 : decode cX6_line 18 = .ok (.ifCond .lt 8, 3) := by decide +kernel
theorem dX6_line_21 : decode cX6_line 21 = .ok (.iload_n 2, 1) := by decide +kernel
theorem dX6_line_22 : decode cX6_line 22 = .ok (.iconst 4, 1) := by decide +kernel
theorem dX6_line_23 : decode cX6_line 23 = .ok (.if_icmp .lt 6, 3) := by decide +kernel
theorem dX6_line_26 : decode cX6_line 26 = .ok (.bipush (-2), 2) := by decide +kernel
theorem dX6_line_28 : decode cX6_line 28 = .ok (.ireturn, 1) := by decide +kernel
theorem dX6_line_29 : decode cX6_line 29 = .ok (.aload_n 0, 1) := by decide +kernel
theorem dX6_line_30 : decode cX6_line 30 = .ok (.getfield 19, 3) := by decide +kernel
theorem dX6_line_33 : decode cX6_line 33 = .ok (.invokevirtual 59, 3) := by decide +kernel
theorem dX6_line_36 : decode cX6_line 36 = .ok (.ifCond .eq 6, 3) := by decide +kernel
theorem dX6_line_39 : decode cX6_line 39 = .ok (.bipush (-4), 2) := by decide +kernel
theorem dX6_line_41 : decode cX6_line 41 = .ok (.ireturn, 1) := by decide +kernel
theorem dX6_line_42 : decode cX6_line 42 = .ok (.aload_n 0, 1) := by decide +kernel
theorem dX6_line_43 : decode cX6_line 43 = .ok (.getfield 19, 3) := by decide +kernel
theorem dX6_line_46 : decode cX6_line 46 = .ok (.iload_n 1, 1) := by decide +kernel
theorem dX6_line_47 : decode cX6_line 47 = .ok (.iload_n 2, 1) := by decide +kernel
theorem dX6_line_48 : decode cX6_line 48 = .ok (.invokevirtual 63, 3) := by decide +kernel
theorem dX6_line_51 : decode cX6_line 51 = .ok (.istore_n 3, 1) := by decide +kernel
theorem dX6_line_52 : decode cX6_line 52 = .ok (.aload_n 0, 1) := by decide +kernel
theorem dX6_line_53 : decode cX6_line 53 = .ok (.getfield 35, 3) := by decide +kernel
theorem dX6_line_56 : decode cX6_line 56 = .ok (.iload_n 3, 1) := by decide +kernel
theorem dX6_line_57 : decode cX6_line 57 = .ok (.invokevirtual 67, 3) := by decide +kernel
theorem dX6_line_60 : decode cX6_line 60 = .ok (.iload_n 3, 1) := by decide +kernel
theorem dX6_line_61 : decode cX6_line 61 = .ok (.ireturn, 1) := by decide +kernel
theorem dX6_rule_0 : decode cX6_rule 0 = .ok (.aload_n 0, 1) := by decide +kernel
theorem dX6_rule_1 : decode cX6_rule 1 = .ok (.getfield 10, 3) := by decide +kernel
theorem dX6_rule_4 : decode cX6_rule 4 = .ok (.iload_n 1, 1) := by decide +kernel
theorem dX6_rule_5 : decode cX6_rule 5 = .ok (.iload_n 2, 1) := by decide +kernel
theorem dX6_rule_6 : decode cX6_rule 6 = .ok (.invokevirtual 71, 3) := by decide +kernel
theorem dX6_rule_9 : decode cX6_rule 9 = .ok (.ifCond .ne 6, 3) := by decide +kernel
theorem dX6_rule_12 : decode cX6_rule 12 = .ok (.bipush (-2), 2) := by decide +kernel
theorem dX6_rule_14 : decode cX6_rule 14 = .ok (.ireturn, 1) := by decide +kernel
theorem dX6_rule_15 : decode cX6_rule 15 = .ok (.aload_n 0, 1) := by decide +kernel
theorem dX6_rule_16 : decode cX6_rule 16 = .ok (.getfield 10, 3) := by decide +kernel
theorem dX6_rule_19 : decode cX6_rule 19 = .ok (.iload_n 1, 1) := by decide +kernel
theorem dX6_rule_20 : decode cX6_rule 20 = .ok (.invokevirtual 75, 3) := by decide +kernel
theorem dX6_rule_23 : decode cX6_rule 23 = .ok (.istore_n 3, 1) := by decide +kernel
theorem dX6_rule_24 : decode cX6_rule 24 = .ok (.aload_n 0, 1) := by decide +kernel
theorem dX6_rule_25 : decode cX6_rule 25 = .ok (.getfield 35, 3) := by decide +kernel
theorem dX6_rule_28 : decode cX6_rule 28 = .ok (.aload_n 0, 1) := by decide +kernel
theorem dX6_rule_29 : decode cX6_rule 29 = .ok (.getfield 55, 3) := by decide +kernel
theorem dX6_rule_32 : decode cX6_rule 32 = .ok (.invokevirtual 79, 3) := by decide +kernel
theorem dX6_rule_35 : decode cX6_rule 35 = .ok (.aload_n 0, 1) := by decide +kernel
theorem dX6_rule_36 : decode cX6_rule 36 = .ok (.getfield 10, 3) := by decide +kernel
theorem dX6_rule_39 : decode cX6_rule 39 = .ok (.iload_n 1, 1) := by decide +kernel
theorem dX6_rule_40 : decode cX6_rule 40 = .ok (.iload_n 2, 1) := by decide +kernel
theorem dX6_rule_41 : decode cX6_rule 41 = .ok (.invokevirtual 82, 3) := by decide +kernel
theorem dX6_rule_44 : decode cX6_rule 44 = .ok (.iload_n 3, 1) := by decide +kernel
theorem dX6_rule_45 : decode cX6_rule 45 = .ok (.ireturn, 1) := by decide +kernel
theorem dX6_faded_0 : decode cX6_faded 0 = .ok (.iload_n 1, 1) := by decide +kernel
theorem dX6_faded_1 : decode cX6_faded 1 = .ok (.ifCond .lt 19, 3) := by decide +kernel
theorem dX6_faded_4 : decode cX6_faded 4 = .ok (.iload_n 1, 1) := by decide +kernel
theorem dX6_faded_5 : decode cX6_faded 5 = .ok (.ldc 86, 2) := by decide +kernel
theorem dX6_faded_7 : decode cX6_faded 7 = .ok (.if_icmp .gt 13, 3) := by decide +kernel
theorem dX6_faded_10 : decode cX6_faded 10 = .ok (.iload_n 2, 1) := by decide +kernel
theorem dX6_faded_11 : decode cX6_faded 11 = .ok (.ifCond .lt 9, 3) := by decide +kernel
theorem dX6_faded_14 : decode cX6_faded 14 = .ok (.iload_n 2, 1) := by decide +kernel
theorem dX6_faded_15 : decode cX6_faded 15 = .ok (.ldc 86, 2) := by decide +kernel
theorem dX6_faded_17 : decode cX6_faded 17 = .ok (.if_icmp .le 6, 3) := by decide +kernel
theorem dX6_faded_20 : decode cX6_faded 20 = .ok (.bipush (-2), 2) := by decide +kernel
theorem dX6_faded_22 : decode cX6_faded 22 = .ok (.ireturn, 1) := by decide +kernel
theorem dX6_faded_23 : decode cX6_faded 23 = .ok (.aload_n 0, 1) := by decide +kernel
theorem dX6_faded_24 : decode cX6_faded 24 = .ok (.getfield 10, 3) := by decide +kernel
theorem dX6_faded_27 : decode cX6_faded 27 = .ok (.iload_n 1, 1) := by decide +kernel
theorem dX6_faded_28 : decode cX6_faded 28 = .ok (.iload_n 2, 1) := by decide +kernel
theorem dX6_faded_29 : decode cX6_faded 29 = .ok (.invokevirtual 87, 3) := by decide +kernel
theorem dX6_faded_32 : decode cX6_faded 32 = .ok (.ireturn, 1) := by decide +kernel
theorem dX6_change_0 : decode cX6_change 0 = .ok (.aload_n 0, 1) := by decide +kernel
theorem dX6_change_1 : decode cX6_change 1 = .ok (.getfield 19, 3) := by decide +kernel
theorem dX6_change_4 : decode cX6_change 4 = .ok (.iload_n 1, 1) := by decide +kernel
theorem dX6_change_5 : decode cX6_change 5 = .ok (.invokevirtual 90, 3) := by decide +kernel
theorem dX6_change_8 : decode cX6_change 8 = .ok (.ifCond .ne 6, 3) := by decide +kernel
theorem dX6_change_11 : decode cX6_change 11 = .ok (.bipush (-2), 2) := by decide +kernel
theorem dX6_change_13 : decode cX6_change 13 = .ok (.ireturn, 1) := by decide +kernel
theorem dX6_change_14 : decode cX6_change 14 = .ok (.aload_n 0, 1) := by decide +kernel
theorem dX6_change_15 : decode cX6_change 15 = .ok (.getfield 35, 3) := by decide +kernel
theorem dX6_change_18 : decode cX6_change 18 = .ok (.iload_n 1, 1) := by decide +kernel
theorem dX6_change_19 : decode cX6_change 19 = .ok (.invokevirtual 94, 3) := by decide +kernel
theorem dX6_change_22 : decode cX6_change 22 = .ok (.iload_n 2, 1) := by decide +kernel
theorem dX6_change_23 : decode cX6_change 23 = .ok (.if_icmp .ne 6, 3) := by decide +kernel
theorem dX6_change_26 : decode cX6_change 26 = .ok (.bipush (-3), 2) := by decide +kernel
theorem dX6_change_28 : decode cX6_change 28 = .ok (.ireturn, 1) := by decide +kernel
theorem dX6_change_29 : decode cX6_change 29 = .ok (.aload_n 0, 1) := by decide +kernel
theorem dX6_change_30 : decode cX6_change 30 = .ok (.iload_n 1, 1) := by decide +kernel
theorem dX6_change_31 : decode cX6_change 31 = .ok (.iload_n 2, 1) := by decide +kernel
theorem dX6_change_32 : decode cX6_change 32 = .ok (.ifCond .eq 7, 3) := by decide +kernel
theorem dX6_change_35 : decode cX6_change 35 = .ok (.iconst 1, 1) := by decide +kernel
theorem dX6_change_36 : decode cX6_change 36 = .ok (.goto 4, 3) := by decide +kernel
theorem dX6_change_39 : decode cX6_change 39 = .ok (.iconst 0, 1) := by decide +kernel
theorem dX6_change_40 : decode cX6_change 40 = .ok (.invokevirtual 97, 3) := by decide +kernel
theorem dX6_change_43 : decode cX6_change 43 = .ok (.ireturn, 1) := by decide +kernel
theorem dX6_echo_0 : decode cX6_echo 0 = .ok (.aload_n 0, 1) := by decide +kernel
theorem dX6_echo_1 : decode cX6_echo 1 = .ok (.getfield 19, 3) := by decide +kernel
theorem dX6_echo_4 : decode cX6_echo 4 = .ok (.iload_n 1, 1) := by decide +kernel
theorem dX6_echo_5 : decode cX6_echo 5 = .ok (.invokevirtual 90, 3) := by decide +kernel
theorem dX6_echo_8 : decode cX6_echo 8 = .ok (.ifCond .ne 6, 3) := by decide +kernel
theorem dX6_echo_11 : decode cX6_echo 11 = .ok (.bipush (-2), 2) := by decide +kernel
theorem dX6_echo_13 : decode cX6_echo 13 = .ok (.ireturn, 1) := by decide +kernel
theorem dX6_echo_14 : decode cX6_echo 14 = .ok (.aload_n 0, 1) := by decide +kernel
theorem dX6_echo_15 : decode cX6_echo 15 = .ok (.iload_n 1, 1) := by decide +kernel
theorem dX6_echo_16 : decode cX6_echo 16 = .ok (.iconst 2, 1) := by decide +kernel
theorem dX6_echo_17 : decode cX6_echo 17 = .ok (.invokevirtual 97, 3) := by decide +kernel
theorem dX6_echo_20 : decode cX6_echo 20 = .ok (.ireturn, 1) := by decide +kernel
theorem dX6_penaltyAfter_0 : decode cX6_penaltyAfter 0 = .ok (.aload_n 0, 1) := by decide +kernel
theorem dX6_penaltyAfter_1 : decode cX6_penaltyAfter 1 = .ok (.iload_n 1, 1) := by decide +kernel
theorem dX6_penaltyAfter_2 : decode cX6_penaltyAfter 2 = .ok (.iload_n 2, 1) := by decide +kernel
theorem dX6_penaltyAfter_3 : decode cX6_penaltyAfter 3 = .ok (.invokevirtual 100, 3) := by decide +kernel
theorem dX6_penaltyAfter_6 : decode cX6_penaltyAfter 6 = .ok (.ifCond .eq 18, 3) := by decide +kernel
theorem dX6_penaltyAfter_9 : decode cX6_penaltyAfter 9 = .ok (.aload_n 0, 1) := by decide +kernel
theorem dX6_penaltyAfter_10 : decode cX6_penaltyAfter 10 = .ok (.getfield 35, 3) := by decide +kernel
theorem dX6_penaltyAfter_13 : decode cX6_penaltyAfter 13 = .ok (.iload_n 1, 1) := by decide +kernel
theorem dX6_penaltyAfter_14 : decode cX6_penaltyAfter 14 = .ok (.aload_n 0, 1) := by decide +kernel
theorem dX6_penaltyAfter_15 : decode cX6_penaltyAfter 15 = .ok (.getfield 55, 3) := by decide +kernel
theorem dX6_penaltyAfter_18 : decode cX6_penaltyAfter 18 = .ok (.invokevirtual 103, 3) := by decide +kernel
theorem dX6_penaltyAfter_21 : decode cX6_penaltyAfter 21 = .ok (.goto 5, 3) := by decide +kernel
theorem dX6_penaltyAfter_24 : decode cX6_penaltyAfter 24 = .ok (.bipush (-4), 2) := by decide +kernel
theorem dX6_penaltyAfter_26 : decode cX6_penaltyAfter 26 = .ok (.ireturn, 1) := by decide +kernel
theorem dX6_happen_0 : decode cX6_happen 0 = .ok (.aload_n 0, 1) := by decide +kernel
theorem dX6_happen_1 : decode cX6_happen 1 = .ok (.getfield 26, 3) := by decide +kernel
theorem dX6_happen_4 : decode cX6_happen 4 = .ok (.invokevirtual 106, 3) := by decide +kernel
theorem dX6_happen_7 : decode cX6_happen 7 = .ok (.ifCond .eq 5, 3) := by decide +kernel
theorem dX6_happen_10 : decode cX6_happen 10 = .ok (.iconst 0, 1) := by decide +kernel
theorem dX6_happen_11 : decode cX6_happen 11 = .ok (.ireturn, 1) := by decide +kernel
theorem dX6_happen_12 : decode cX6_happen 12 = .ok (.aload_n 0, 1) := by decide +kernel
theorem dX6_happen_13 : decode cX6_happen 13 = .ok (.getfield 26, 3) := by decide +kernel
theorem dX6_happen_16 : decode cX6_happen 16 = .ok (.iload_n 1, 1) := by decide +kernel
theorem dX6_happen_17 : decode cX6_happen 17 = .ok (.iload_n 2, 1) := by decide +kernel
theorem dX6_happen_18 : decode cX6_happen 18 = .ok (.aload_n 0, 1) := by decide +kernel
theorem dX6_happen_19 : decode cX6_happen 19 = .ok (.getfield 55, 3) := by decide +kernel
theorem dX6_happen_22 : decode cX6_happen 22 = .ok (.invokevirtual 107, 3) := by decide +kernel
theorem dX6_happen_25 : decode cX6_happen 25 = .ok (.aload_n 0, 1) := by decide +kernel
theorem dX6_happen_26 : decode cX6_happen 26 = .ok (.getfield 35, 3) := by decide +kernel
theorem dX6_happen_29 : decode cX6_happen 29 = .ok (.iload_n 1, 1) := by decide +kernel
theorem dX6_happen_30 : decode cX6_happen 30 = .ok (.iload_n 2, 1) := by decide +kernel
theorem dX6_happen_31 : decode cX6_happen 31 = .ok (.aload_n 0, 1) := by decide +kernel
theorem dX6_happen_32 : decode cX6_happen 32 = .ok (.getfield 55, 3) := by decide +kernel
theorem dX6_happen_35 : decode cX6_happen 35 = .ok (.invokevirtual 111, 3) := by decide +kernel
theorem dX6_happen_38 : decode cX6_happen 38 = .ok (.iconst 1, 1) := by decide +kernel
theorem dX6_happen_39 : decode cX6_happen 39 = .ok (.ireturn, 1) := by decide +kernel
theorem dX6_tick_0 : decode cX6_tick 0 = .ok (.iload_n 1, 1) := by decide +kernel
theorem dX6_tick_1 : decode cX6_tick 1 = .ok (.iconst 1, 1) := by decide +kernel
theorem dX6_tick_2 : decode cX6_tick 2 = .ok (.if_icmp .lt 10, 3) := by decide +kernel
theorem dX6_tick_5 : decode cX6_tick 5 = .ok (.iload_n 1, 1) := by decide +kernel
theorem dX6_tick_6 : decode cX6_tick 6 = .ok (.sipush 200, 3) := by decide +kernel
theorem dX6_tick_9 : decode cX6_tick 9 = .ok (.if_icmp .le 6, 3) := by decide +kernel
theorem dX6_tick_12 : decode cX6_tick 12 = .ok (.bipush (-2), 2) := by decide +kernel
theorem dX6_tick_14 : decode cX6_tick 14 = .ok (.ireturn, 1) := by decide +kernel
theorem dX6_tick_15 : decode cX6_tick 15 = .ok (.aload_n 0, 1) := by decide +kernel
theorem dX6_tick_16 : decode cX6_tick 16 = .ok (.getfield 55, 3) := by decide +kernel
theorem dX6_tick_19 : decode cX6_tick 19 = .ok (.iload_n 1, 1) := by decide +kernel
theorem dX6_tick_20 : decode cX6_tick 20 = .ok (.iadd, 1) := by decide +kernel
theorem dX6_tick_21 : decode cX6_tick 21 = .ok (.sipush 2000, 3) := by decide +kernel
theorem dX6_tick_24 : decode cX6_tick 24 = .ok (.if_icmp .le 6, 3) := by decide +kernel
theorem dX6_tick_27 : decode cX6_tick 27 = .ok (.bipush (-4), 2) := by decide +kernel
theorem dX6_tick_29 : decode cX6_tick 29 = .ok (.ireturn, 1) := by decide +kernel
theorem dX6_tick_30 : decode cX6_tick 30 = .ok (.aload_n 0, 1) := by decide +kernel
theorem dX6_tick_31 : decode cX6_tick 31 = .ok (.dup, 1) := by decide +kernel
theorem dX6_tick_32 : decode cX6_tick 32 = .ok (.getfield 55, 3) := by decide +kernel
theorem dX6_tick_35 : decode cX6_tick 35 = .ok (.iload_n 1, 1) := by decide +kernel
theorem dX6_tick_36 : decode cX6_tick 36 = .ok (.iadd, 1) := by decide +kernel
theorem dX6_tick_37 : decode cX6_tick 37 = .ok (.putfield 55, 3) := by decide +kernel
theorem dX6_tick_40 : decode cX6_tick 40 = .ok (.aload_n 0, 1) := by decide +kernel
theorem dX6_tick_41 : decode cX6_tick 41 = .ok (.getfield 35, 3) := by decide +kernel
theorem dX6_tick_44 : decode cX6_tick 44 = .ok (.aload_n 0, 1) := by decide +kernel
theorem dX6_tick_45 : decode cX6_tick 45 = .ok (.getfield 55, 3) := by decide +kernel
theorem dX6_tick_48 : decode cX6_tick 48 = .ok (.invokevirtual 114, 3) := by decide +kernel
theorem dX6_tick_51 : decode cX6_tick 51 = .ok (.aload_n 0, 1) := by decide +kernel
theorem dX6_tick_52 : decode cX6_tick 52 = .ok (.getfield 55, 3) := by decide +kernel
theorem dX6_tick_55 : decode cX6_tick 55 = .ok (.ireturn, 1) := by decide +kernel
theorem dX6_about_0 : decode cX6_about 0 = .ok (.aload_n 0, 1) := by decide +kernel
theorem dX6_about_1 : decode cX6_about 1 = .ok (.getfield 19, 3) := by decide +kernel
theorem dX6_about_4 : decode cX6_about 4 = .ok (.iload_n 1, 1) := by decide +kernel
theorem dX6_about_5 : decode cX6_about 5 = .ok (.invokevirtual 90, 3) := by decide +kernel
theorem dX6_about_8 : decode cX6_about 8 = .ok (.ifCond .ne 6, 3) := by decide +kernel
theorem dX6_about_11 : decode cX6_about 11 = .ok (.bipush (-2), 2) := by decide +kernel
theorem dX6_about_13 : decode cX6_about 13 = .ok (.ireturn, 1) := by decide +kernel
theorem dX6_about_14 : decode cX6_about 14 = .ok (.iload_n 2, 1) := by decide +kernel
theorem dX6_about_15 : decode cX6_about 15 = .ok (.tableswitch 147 0 8 #[49, 62, 74, 86, 98, 107, 116, 125, 138], 49) := by decide +kernel
theorem dX6_about_64 : decode cX6_about 64 = .ok (.aload_n 0, 1) := by decide +kernel
theorem dX6_about_65 : decode cX6_about 65 = .ok (.getfield 35, 3) := by decide +kernel
theorem dX6_about_68 : decode cX6_about 68 = .ok (.iload_n 1, 1) := by decide +kernel
theorem dX6_about_69 : decode cX6_about 69 = .ok (.aload_n 0, 1) := by decide +kernel
theorem dX6_about_70 : decode cX6_about 70 = .ok (.getfield 55, 3) := by decide +kernel
theorem dX6_about_73 : decode cX6_about 73 = .ok (.invokevirtual 103, 3) := by decide +kernel
theorem dX6_about_76 : decode cX6_about 76 = .ok (.ireturn, 1) := by decide +kernel
theorem dX6_about_77 : decode cX6_about 77 = .ok (.aload_n 0, 1) := by decide +kernel
theorem dX6_about_78 : decode cX6_about 78 = .ok (.getfield 35, 3) := by decide +kernel
theorem dX6_about_81 : decode cX6_about 81 = .ok (.iload_n 1, 1) := by decide +kernel
theorem dX6_about_82 : decode cX6_about 82 = .ok (.invokevirtual 94, 3) := by decide +kernel
theorem dX6_about_85 : decode cX6_about 85 = .ok (.invokestatic 117, 3) := by decide +kernel
theorem dX6_about_88 : decode cX6_about 88 = .ok (.ireturn, 1) := by decide +kernel
theorem dX6_about_89 : decode cX6_about 89 = .ok (.aload_n 0, 1) := by decide +kernel
theorem dX6_about_90 : decode cX6_about 90 = .ok (.getfield 35, 3) := by decide +kernel
theorem dX6_about_93 : decode cX6_about 93 = .ok (.iload_n 1, 1) := by decide +kernel
theorem dX6_about_94 : decode cX6_about 94 = .ok (.invokevirtual 121, 3) := by decide +kernel
theorem dX6_about_97 : decode cX6_about 97 = .ok (.invokestatic 117, 3) := by decide +kernel
theorem dX6_about_100 : decode cX6_about 100 = .ok (.ireturn, 1) := by decide +kernel
theorem dX6_about_101 : decode cX6_about 101 = .ok (.aload_n 0, 1) := by decide +kernel
theorem dX6_about_102 : decode cX6_about 102 = .ok (.getfield 35, 3) := by decide +kernel
theorem dX6_about_105 : decode cX6_about 105 = .ok (.iload_n 1, 1) := by decide +kernel
theorem dX6_about_106 : decode cX6_about 106 = .ok (.invokevirtual 124, 3) := by decide +kernel
theorem dX6_about_109 : decode cX6_about 109 = .ok (.invokestatic 117, 3) := by decide +kernel
theorem dX6_about_112 : decode cX6_about 112 = .ok (.ireturn, 1) := by decide +kernel
theorem dX6_about_113 : decode cX6_about 113 = .ok (.aload_n 0, 1) := by decide +kernel
theorem dX6_about_114 : decode cX6_about 114 = .ok (.getfield 35, 3) := by decide +kernel
theorem dX6_about_117 : decode cX6_about 117 = .ok (.iload_n 1, 1) := by decide +kernel
theorem dX6_about_118 : decode cX6_about 118 = .ok (.invokevirtual 127, 3) := by decide +kernel
theorem dX6_about_121 : decode cX6_about 121 = .ok (.ireturn, 1) := by decide +kernel
theorem dX6_about_122 : decode cX6_about 122 = .ok (.aload_n 0, 1) := by decide +kernel
theorem dX6_about_123 : decode cX6_about 123 = .ok (.getfield 35, 3) := by decide +kernel
theorem dX6_about_126 : decode cX6_about 126 = .ok (.iload_n 1, 1) := by decide +kernel
theorem dX6_about_127 : decode cX6_about 127 = .ok (.invokevirtual 130, 3) := by decide +kernel
theorem dX6_about_130 : decode cX6_about 130 = .ok (.ireturn, 1) := by decide +kernel
theorem dX6_about_131 : decode cX6_about 131 = .ok (.aload_n 0, 1) := by decide +kernel
theorem dX6_about_132 : decode cX6_about 132 = .ok (.getfield 19, 3) := by decide +kernel
theorem dX6_about_135 : decode cX6_about 135 = .ok (.iload_n 1, 1) := by decide +kernel
theorem dX6_about_136 : decode cX6_about 136 = .ok (.invokevirtual 133, 3) := by decide +kernel
theorem dX6_about_139 : decode cX6_about 139 = .ok (.ireturn, 1) := by decide +kernel
theorem dX6_about_140 : decode cX6_about 140 = .ok (.aload_n 0, 1) := by decide +kernel
theorem dX6_about_141 : decode cX6_about 141 = .ok (.getfield 35, 3) := by decide +kernel
theorem dX6_about_144 : decode cX6_about 144 = .ok (.iload_n 1, 1) := by decide +kernel
theorem dX6_about_145 : decode cX6_about 145 = .ok (.aload_n 0, 1) := by decide +kernel
theorem dX6_about_146 : decode cX6_about 146 = .ok (.getfield 55, 3) := by decide +kernel
theorem dX6_about_149 : decode cX6_about 149 = .ok (.invokevirtual 136, 3) := by decide +kernel
theorem dX6_about_152 : decode cX6_about 152 = .ok (.ireturn, 1) := by decide +kernel
theorem dX6_about_153 : decode cX6_about 153 = .ok (.aload_n 0, 1) := by decide +kernel
theorem dX6_about_154 : decode cX6_about 154 = .ok (.getfield 19, 3) := by decide +kernel
theorem dX6_about_157 : decode cX6_about 157 = .ok (.iload_n 1, 1) := by decide +kernel
theorem dX6_about_158 : decode cX6_about 158 = .ok (.invokevirtual 139, 3) := by decide +kernel
theorem dX6_about_161 : decode cX6_about 161 = .ok (.ireturn, 1) := by decide +kernel
theorem dX6_about_162 : decode cX6_about 162 = .ok (.bipush (-2), 2) := by decide +kernel
theorem dX6_about_164 : decode cX6_about 164 = .ok (.ireturn, 1) := by decide +kernel
theorem dX6_asNumber_0 : decode cX6_asNumber 0 = .ok (.iload_n 0, 1) := by decide +kernel
theorem dX6_asNumber_1 : decode cX6_asNumber 1 = .ok (.ifCond .eq 7, 3) := by decide +kernel
theorem dX6_asNumber_4 : decode cX6_asNumber 4 = .ok (.iconst 1, 1) := by decide +kernel
theorem dX6_asNumber_5 : decode cX6_asNumber 5 = .ok (.goto 4, 3) := by decide +kernel
theorem dX6_asNumber_8 : decode cX6_asNumber 8 = .ok (.iconst 0, 1) := by decide +kernel
theorem dX6_asNumber_9 : decode cX6_asNumber 9 = .ok (.ireturn, 1) := by decide +kernel
theorem dX6_longest_0 : decode cX6_longest 0 = .ok (.aload_n 0, 1) := by decide +kernel
theorem dX6_longest_1 : decode cX6_longest 1 = .ok (.getfield 10, 3) := by decide +kernel
theorem dX6_longest_4 : decode cX6_longest 4 = .ok (.aload_n 0, 1) := by decide +kernel
theorem dX6_longest_5 : decode cX6_longest 5 = .ok (.getfield 10, 3) := by decide +kernel
theorem dX6_longest_8 : decode cX6_longest 8 = .ok (.bipush 6, 2) := by decide +kernel
theorem dX6_longest_10 : decode cX6_longest 10 = .ok (.invokevirtual 75, 3) := by decide +kernel
theorem dX6_longest_13 : decode cX6_longest 13 = .ok (.aload_n 0, 1) := by decide +kernel
theorem dX6_longest_14 : decode cX6_longest 14 = .ok (.getfield 10, 3) := by decide +kernel
theorem dX6_longest_17 : decode cX6_longest 17 = .ok (.iconst 5, 1) := by decide +kernel
theorem dX6_longest_18 : decode cX6_longest 18 = .ok (.invokevirtual 75, 3) := by decide +kernel
theorem dX6_longest_21 : decode cX6_longest 21 = .ok (.invokevirtual 142, 3) := by decide +kernel
theorem dX6_longest_24 : decode cX6_longest 24 = .ok (.ireturn, 1) := by decide +kernel
theorem dX6_event_0 : decode cX6_event 0 = .ok (.iload_n 1, 1) := by decide +kernel
theorem dX6_event_1 : decode cX6_event 1 = .ok (.ifCond .lt 12, 3) := by decide +kernel
theorem dX6_event_4 : decode cX6_event 4 = .ok (.iload_n 2, 1) := by decide +kernel
theorem dX6_event_5 : decode cX6_event 5 = .ok (.ifCond .lt 8, 3) := by decide +kernel
theorem dX6_event_8 : decode cX6_event 8 = .ok (.iload_n 2, 1) := by decide +kernel
theorem dX6_event_9 : decode cX6_event 9 = .ok (.iconst 2, 1) := by decide +kernel
theorem dX6_event_10 : decode cX6_event 10 = .ok (.if_icmp .le 6, 3) := by decide +kernel
theorem dX6_event_13 : decode cX6_event 13 = .ok (.bipush (-2), 2) := by decide +kernel
theorem dX6_event_15 : decode cX6_event 15 = .ok (.ireturn, 1) := by decide +kernel
theorem dX6_event_16 : decode cX6_event 16 = .ok (.iload_n 1, 1) := by decide +kernel
theorem dX6_event_17 : decode cX6_event 17 = .ok (.aload_n 0, 1) := by decide +kernel
theorem dX6_event_18 : decode cX6_event 18 = .ok (.getfield 26, 3) := by decide +kernel
theorem dX6_event_21 : decode cX6_event 21 = .ok (.invokevirtual 145, 3) := by decide +kernel
theorem dX6_event_24 : decode cX6_event 24 = .ok (.if_icmp .lt 5, 3) := by decide +kernel
theorem dX6_event_27 : decode cX6_event 27 = .ok (.iconst (-1), 1) := by decide +kernel
theorem dX6_event_28 : decode cX6_event 28 = .ok (.ireturn, 1) := by decide +kernel
theorem dX6_event_29 : decode cX6_event 29 = .ok (.iload_n 2, 1) := by decide +kernel
theorem dX6_event_30 : decode cX6_event 30 = .ok (.lookupswitch 44 #[(0, 26), (1, 35)], 26) := by decide +kernel
theorem dX6_event_56 : decode cX6_event 56 = .ok (.aload_n 0, 1) := by decide +kernel
theorem dX6_event_57 : decode cX6_event 57 = .ok (.getfield 26, 3) := by decide +kernel
theorem dX6_event_60 : decode cX6_event 60 = .ok (.iload_n 1, 1) := by decide +kernel
theorem dX6_event_61 : decode cX6_event 61 = .ok (.invokevirtual 149, 3) := by decide +kernel
theorem dX6_event_64 : decode cX6_event 64 = .ok (.ireturn, 1) := by decide +kernel
theorem dX6_event_65 : decode cX6_event 65 = .ok (.aload_n 0, 1) := by decide +kernel
theorem dX6_event_66 : decode cX6_event 66 = .ok (.getfield 26, 3) := by decide +kernel
theorem dX6_event_69 : decode cX6_event 69 = .ok (.iload_n 1, 1) := by decide +kernel
theorem dX6_event_70 : decode cX6_event 70 = .ok (.invokevirtual 152, 3) := by decide +kernel
theorem dX6_event_73 : decode cX6_event 73 = .ok (.ireturn, 1) := by decide +kernel
theorem dX6_event_74 : decode cX6_event 74 = .ok (.aload_n 0, 1) := by decide +kernel
theorem dX6_event_75 : decode cX6_event 75 = .ok (.getfield 26, 3) := by decide +kernel
theorem dX6_event_78 : decode cX6_event 78 = .ok (.iload_n 1, 1) := by decide +kernel
theorem dX6_event_79 : decode cX6_event 79 = .ok (.invokevirtual 155, 3) := by decide +kernel
theorem dX6_event_82 : decode cX6_event 82 = .ok (.ireturn, 1) := by decide +kernel
theorem dX6_again_0 : decode cX6_again 0 = .ok (.aload_n 0, 1) := by decide +kernel
theorem dX6_again_1 : decode cX6_again 1 = .ok (.getfield 19, 3) := by decide +kernel
theorem dX6_again_4 : decode cX6_again 4 = .ok (.iload_n 1, 1) := by decide +kernel
theorem dX6_again_5 : decode cX6_again 5 = .ok (.invokevirtual 90, 3) := by decide +kernel
theorem dX6_again_8 : decode cX6_again 8 = .ok (.ifCond .eq 22, 3) := by decide +kernel
theorem dX6_again_11 : decode cX6_again 11 = .ok (.iload_n 2, 1) := by decide +kernel
theorem dX6_again_12 : decode cX6_again 12 = .ok (.iload_n 3, 1) := by decide +kernel
theorem dX6_again_13 : decode cX6_again 13 = .ok (.invokestatic 158, 3) := by decide +kernel
theorem dX6_again_16 : decode cX6_again 16 = .ok (.ifCond .eq 14, 3) := by decide +kernel
theorem dX6_again_19 : decode cX6_again 19 = .ok (.iload 4, 2) := by decide +kernel
theorem dX6_again_21 : decode cX6_again 21 = .ok (.ifCond .lt 9, 3) := by decide +kernel
theorem dX6_again_24 : decode cX6_again 24 = .ok (.iload 4, 2) := by decide +kernel
theorem dX6_again_26 : decode cX6_again 26 = .ok (.iconst 1, 1) := by decide +kernel
theorem dX6_again_27 : decode cX6_again 27 = .ok (.if_icmp .le 6, 3) := by decide +kernel
theorem dX6_again_30 : decode cX6_again 30 = .ok (.bipush (-2), 2) := by decide +kernel
theorem dX6_again_32 : decode cX6_again 32 = .ok (.ireturn, 1) := by decide +kernel
theorem dX6_again_33 : decode cX6_again 33 = .ok (.aload_n 0, 1) := by decide +kernel
theorem dX6_again_34 : decode cX6_again 34 = .ok (.getfield 44, 3) := by decide +kernel
theorem dX6_again_37 : decode cX6_again 37 = .ok (.iload_n 2, 1) := by decide +kernel
theorem dX6_again_38 : decode cX6_again 38 = .ok (.iload_n 3, 1) := by decide +kernel
theorem dX6_again_39 : decode cX6_again 39 = .ok (.aload_n 0, 1) := by decide +kernel
theorem dX6_again_40 : decode cX6_again 40 = .ok (.getfield 55, 3) := by decide +kernel
theorem dX6_again_43 : decode cX6_again 43 = .ok (.invokevirtual 161, 3) := by decide +kernel
theorem dX6_again_46 : decode cX6_again 46 = .ok (.iload 4, 2) := by decide +kernel
theorem dX6_again_48 : decode cX6_again 48 = .ok (.ifCond .ne 14, 3) := by decide +kernel
theorem dX6_again_51 : decode cX6_again 51 = .ok (.aload_n 0, 1) := by decide +kernel
theorem dX6_again_52 : decode cX6_again 52 = .ok (.getfield 44, 3) := by decide +kernel
theorem dX6_again_55 : decode cX6_again 55 = .ok (.iload_n 1, 1) := by decide +kernel
theorem dX6_again_56 : decode cX6_again 56 = .ok (.invokevirtual 164, 3) := by decide +kernel
theorem dX6_again_59 : decode cX6_again 59 = .ok (.goto 11, 3) := by decide +kernel
theorem dX6_again_62 : decode cX6_again 62 = .ok (.aload_n 0, 1) := by decide +kernel
theorem dX6_again_63 : decode cX6_again 63 = .ok (.getfield 44, 3) := by decide +kernel
theorem dX6_again_66 : decode cX6_again 66 = .ok (.iload_n 1, 1) := by decide +kernel
theorem dX6_again_67 : decode cX6_again 67 = .ok (.invokevirtual 165, 3) := by decide +kernel
theorem dX6_again_70 : decode cX6_again 70 = .ok (.ireturn, 1) := by decide +kernel
theorem dX6_mark_0 : decode cX6_mark 0 = .ok (.aload_n 0, 1) := by decide +kernel
theorem dX6_mark_1 : decode cX6_mark 1 = .ok (.getfield 19, 3) := by decide +kernel
theorem dX6_mark_4 : decode cX6_mark 4 = .ok (.iload_n 1, 1) := by decide +kernel
theorem dX6_mark_5 : decode cX6_mark 5 = .ok (.invokevirtual 90, 3) := by decide +kernel
theorem dX6_mark_8 : decode cX6_mark 8 = .ok (.ifCond .eq 12, 3) := by decide +kernel
theorem dX6_mark_11 : decode cX6_mark 11 = .ok (.iload_n 2, 1) := by decide +kernel
theorem dX6_mark_12 : decode cX6_mark 12 = .ok (.ifCond .lt 8, 3) := by decide +kernel
theorem dX6_mark_15 : decode cX6_mark 15 = .ok (.iload_n 2, 1) := by decide +kernel
theorem dX6_mark_16 : decode cX6_mark 16 = .ok (.iconst 2, 1) := by decide +kernel
theorem dX6_mark_17 : decode cX6_mark 17 = .ok (.if_icmp .le 6, 3) := by decide +kernel
theorem dX6_mark_20 : decode cX6_mark 20 = .ok (.bipush (-2), 2) := by decide +kernel
theorem dX6_mark_22 : decode cX6_mark 22 = .ok (.ireturn, 1) := by decide +kernel
theorem dX6_mark_23 : decode cX6_mark 23 = .ok (.aload_n 0, 1) := by decide +kernel
theorem dX6_mark_24 : decode cX6_mark 24 = .ok (.getfield 19, 3) := by decide +kernel
theorem dX6_mark_27 : decode cX6_mark 27 = .ok (.iload_n 1, 1) := by decide +kernel
theorem dX6_mark_28 : decode cX6_mark 28 = .ok (.iload_n 2, 1) := by decide +kernel
theorem dX6_mark_29 : decode cX6_mark 29 = .ok (.invokevirtual 166, 3) := by decide +kernel
theorem dX6_mark_32 : decode cX6_mark 32 = .ok (.ireturn, 1) := by decide +kernel
theorem dX6_marks_0 : decode cX6_marks 0 = .ok (.iload_n 1, 1) := by decide +kernel
theorem dX6_marks_1 : decode cX6_marks 1 = .ok (.ifCond .lt 9, 3) := by decide +kernel
theorem dX6_marks_4 : decode cX6_marks 4 = .ok (.iload_n 1, 1) := by decide +kernel
theorem dX6_marks_5 : decode cX6_marks 5 = .ok (.bipush 100, 2) := by decide +kernel
theorem dX6_marks_7 : decode cX6_marks 7 = .ok (.if_icmp .le 6, 3) := by decide +kernel
theorem dX6_marks_10 : decode cX6_marks 10 = .ok (.bipush (-2), 2) := by decide +kernel
theorem dX6_marks_12 : decode cX6_marks 12 = .ok (.ireturn, 1) := by decide +kernel
theorem dX6_marks_13 : decode cX6_marks 13 = .ok (.aload_n 0, 1) := by decide +kernel
theorem dX6_marks_14 : decode cX6_marks 14 = .ok (.getfield 19, 3) := by decide +kernel
theorem dX6_marks_17 : decode cX6_marks 17 = .ok (.invokevirtual 169, 3) := by decide +kernel
theorem dX6_marks_20 : decode cX6_marks 20 = .ok (.ifCond .ne 6, 3) := by decide +kernel
theorem dX6_marks_23 : decode cX6_marks 23 = .ok (.bipush (-3), 2) := by decide +kernel
theorem dX6_marks_25 : decode cX6_marks 25 = .ok (.ireturn, 1) := by decide +kernel
theorem dX6_marks_26 : decode cX6_marks 26 = .ok (.aload_n 0, 1) := by decide +kernel
theorem dX6_marks_27 : decode cX6_marks 27 = .ok (.getfield 44, 3) := by decide +kernel
theorem dX6_marks_30 : decode cX6_marks 30 = .ok (.iload_n 1, 1) := by decide +kernel
theorem dX6_marks_31 : decode cX6_marks 31 = .ok (.aload_n 0, 1) := by decide +kernel
theorem dX6_marks_32 : decode cX6_marks 32 = .ok (.getfield 55, 3) := by decide +kernel
theorem dX6_marks_35 : decode cX6_marks 35 = .ok (.invokevirtual 172, 3) := by decide +kernel
theorem dX6_marks_38 : decode cX6_marks 38 = .ok (.ireturn, 1) := by decide +kernel
theorem dX6_way_0 : decode cX6_way 0 = .ok (.iload_n 1, 1) := by decide +kernel
theorem dX6_way_1 : decode cX6_way 1 = .ok (.invokestatic 175, 3) := by decide +kernel
theorem dX6_way_4 : decode cX6_way 4 = .ok (.ifCond .eq 15, 3) := by decide +kernel
theorem dX6_way_7 : decode cX6_way 7 = .ok (.iload_n 2, 1) := by decide +kernel
theorem dX6_way_8 : decode cX6_way 8 = .ok (.invokestatic 175, 3) := by decide +kernel
theorem dX6_way_11 : decode cX6_way 11 = .ok (.ifCond .eq 8, 3) := by decide +kernel
theorem dX6_way_14 : decode cX6_way 14 = .ok (.iload_n 1, 1) := by decide +kernel
theorem dX6_way_15 : decode cX6_way 15 = .ok (.iload_n 2, 1) := by decide +kernel
theorem dX6_way_16 : decode cX6_way 16 = .ok (.if_icmp .ne 6, 3) := by decide +kernel
theorem dX6_way_19 : decode cX6_way 19 = .ok (.bipush (-2), 2) := by decide +kernel
theorem dX6_way_21 : decode cX6_way 21 = .ok (.ireturn, 1) := by decide +kernel
theorem dX6_way_22 : decode cX6_way 22 = .ok (.aload_n 0, 1) := by decide +kernel
theorem dX6_way_23 : decode cX6_way 23 = .ok (.getfield 51, 3) := by decide +kernel
theorem dX6_way_26 : decode cX6_way 26 = .ok (.iload_n 1, 1) := by decide +kernel
theorem dX6_way_27 : decode cX6_way 27 = .ok (.iload_n 2, 1) := by decide +kernel
theorem dX6_way_28 : decode cX6_way 28 = .ok (.invokevirtual 178, 3) := by decide +kernel
theorem dX6_way_31 : decode cX6_way 31 = .ok (.iload_n 3, 1) := by decide +kernel
theorem dX6_way_32 : decode cX6_way 32 = .ok (.if_icmp .ne 6, 3) := by decide +kernel
theorem dX6_way_35 : decode cX6_way 35 = .ok (.bipush (-3), 2) := by decide +kernel
theorem dX6_way_37 : decode cX6_way 37 = .ok (.ireturn, 1) := by decide +kernel
theorem dX6_way_38 : decode cX6_way 38 = .ok (.aload_n 0, 1) := by decide +kernel
theorem dX6_way_39 : decode cX6_way 39 = .ok (.getfield 51, 3) := by decide +kernel
theorem dX6_way_42 : decode cX6_way 42 = .ok (.iload_n 1, 1) := by decide +kernel
theorem dX6_way_43 : decode cX6_way 43 = .ok (.iload_n 2, 1) := by decide +kernel
theorem dX6_way_44 : decode cX6_way 44 = .ok (.iload_n 3, 1) := by decide +kernel
theorem dX6_way_45 : decode cX6_way 45 = .ok (.invokevirtual 181, 3) := by decide +kernel
theorem dX6_way_48 : decode cX6_way 48 = .ok (.iconst 1, 1) := by decide +kernel
theorem dX6_way_49 : decode cX6_way 49 = .ok (.ireturn, 1) := by decide +kernel
theorem dX6_bind_0 : decode cX6_bind 0 = .ok (.aload_n 0, 1) := by decide +kernel
theorem dX6_bind_1 : decode cX6_bind 1 = .ok (.getfield 19, 3) := by decide +kernel
theorem dX6_bind_4 : decode cX6_bind 4 = .ok (.iload_n 1, 1) := by decide +kernel
theorem dX6_bind_5 : decode cX6_bind 5 = .ok (.invokevirtual 90, 3) := by decide +kernel
theorem dX6_bind_8 : decode cX6_bind 8 = .ok (.ifCond .eq 14, 3) := by decide +kernel
theorem dX6_bind_11 : decode cX6_bind 11 = .ok (.iload_n 2, 1) := by decide +kernel
theorem dX6_bind_12 : decode cX6_bind 12 = .ok (.invokestatic 175, 3) := by decide +kernel
theorem dX6_bind_15 : decode cX6_bind 15 = .ok (.ifCond .eq 7, 3) := by decide +kernel
theorem dX6_bind_18 : decode cX6_bind 18 = .ok (.iload_n 2, 1) := by decide +kernel
theorem dX6_bind_19 : decode cX6_bind 19 = .ok (.ifCond .ne 6, 3) := by decide +kernel
theorem dX6_bind_22 : decode cX6_bind 22 = .ok (.bipush (-2), 2) := by decide +kernel
theorem dX6_bind_24 : decode cX6_bind 24 = .ok (.ireturn, 1) := by decide +kernel
theorem dX6_bind_25 : decode cX6_bind 25 = .ok (.iload_n 3, 1) := by decide +kernel
theorem dX6_bind_26 : decode cX6_bind 26 = .ok (.invokestatic 175, 3) := by decide +kernel
theorem dX6_bind_29 : decode cX6_bind 29 = .ok (.ifCond .eq 8, 3) := by decide +kernel
theorem dX6_bind_32 : decode cX6_bind 32 = .ok (.iload_n 3, 1) := by decide +kernel
theorem dX6_bind_33 : decode cX6_bind 33 = .ok (.iload_n 2, 1) := by decide +kernel
theorem dX6_bind_34 : decode cX6_bind 34 = .ok (.if_icmp .ne 6, 3) := by decide +kernel
theorem dX6_bind_37 : decode cX6_bind 37 = .ok (.bipush (-2), 2) := by decide +kernel
theorem dX6_bind_39 : decode cX6_bind 39 = .ok (.ireturn, 1) := by decide +kernel
theorem dX6_bind_40 : decode cX6_bind 40 = .ok (.aload_n 0, 1) := by decide +kernel
theorem dX6_bind_41 : decode cX6_bind 41 = .ok (.getfield 51, 3) := by decide +kernel
theorem dX6_bind_44 : decode cX6_bind 44 = .ok (.iload_n 2, 1) := by decide +kernel
theorem dX6_bind_45 : decode cX6_bind 45 = .ok (.iload_n 3, 1) := by decide +kernel
theorem dX6_bind_46 : decode cX6_bind 46 = .ok (.iload_n 1, 1) := by decide +kernel
theorem dX6_bind_47 : decode cX6_bind 47 = .ok (.invokevirtual 185, 3) := by decide +kernel
theorem dX6_bind_50 : decode cX6_bind 50 = .ok (.iconst 1, 1) := by decide +kernel
theorem dX6_bind_51 : decode cX6_bind 51 = .ok (.ireturn, 1) := by decide +kernel
theorem dX6_flood_0 : decode cX6_flood 0 = .ok (.iconst 0, 1) := by decide +kernel
theorem dX6_flood_1 : decode cX6_flood 1 = .ok (.istore_n 2, 1) := by decide +kernel
theorem dX6_flood_2 : decode cX6_flood 2 = .ok (.iconst 0, 1) := by decide +kernel
theorem dX6_flood_3 : decode cX6_flood 3 = .ok (.istore_n 3, 1) := by decide +kernel
theorem dX6_flood_4 : decode cX6_flood 4 = .ok (.aload_n 0, 1) := by decide +kernel
theorem dX6_flood_5 : decode cX6_flood 5 = .ok (.getfield 51, 3) := by decide +kernel
theorem dX6_flood_8 : decode cX6_flood 8 = .ok (.iload_n 1, 1) := by decide +kernel
theorem dX6_flood_9 : decode cX6_flood 9 = .ok (.invokevirtual 188, 3) := by decide +kernel
theorem dX6_flood_12 : decode cX6_flood 12 = .ok (.iload_n 3, 1) := by decide +kernel
theorem dX6_flood_13 : decode cX6_flood 13 = .ok (.sipush 2000, 3) := by decide +kernel
theorem dX6_flood_16 : decode cX6_flood 16 = .ok (.if_icmp .ge 46, 3) := by decide +kernel
theorem dX6_flood_19 : decode cX6_flood 19 = .ok (.aload_n 0, 1) := by decide +kernel
theorem dX6_flood_20 : decode cX6_flood 20 = .ok (.getfield 51, 3) := by decide +kernel
theorem dX6_flood_23 : decode cX6_flood 23 = .ok (.invokevirtual 192, 3) := by decide +kernel
theorem dX6_flood_26 : decode cX6_flood 26 = .ok (.ifCond .eq 36, 3) := by decide +kernel
theorem dX6_flood_29 : decode cX6_flood 29 = .ok (.aload_n 0, 1) := by decide +kernel
theorem dX6_flood_30 : decode cX6_flood 30 = .ok (.getfield 51, 3) := by decide +kernel
theorem dX6_flood_33 : decode cX6_flood 33 = .ok (.invokevirtual 195, 3) := by decide +kernel
theorem dX6_flood_36 : decode cX6_flood 36 = .ok (.istore 4, 2) := by decide +kernel
theorem dX6_flood_38 : decode cX6_flood 38 = .ok (.iload 4, 2) := by decide +kernel
theorem dX6_flood_40 : decode cX6_flood 40 = .ok (.iconst (-1), 1) := by decide +kernel
theorem dX6_flood_41 : decode cX6_flood 41 = .ok (.if_icmp .eq 15, 3) := by decide +kernel
theorem dX6_flood_44 : decode cX6_flood 44 = .ok (.aload_n 0, 1) := by decide +kernel
theorem dX6_flood_45 : decode cX6_flood 45 = .ok (.iload 4, 2) := by decide +kernel
theorem dX6_flood_47 : decode cX6_flood 47 = .ok (.iconst 2, 1) := by decide +kernel
theorem dX6_flood_48 : decode cX6_flood 48 = .ok (.invokevirtual 100, 3) := by decide +kernel
theorem dX6_flood_51 : decode cX6_flood 51 = .ok (.ifCond .ne 5, 3) := by decide +kernel
theorem dX6_flood_54 : decode cX6_flood 54 = .ok (.iconst 1, 1) := by decide +kernel
theorem dX6_flood_55 : decode cX6_flood 55 = .ok (.istore_n 2, 1) := by decide +kernel
theorem dX6_flood_56 : decode cX6_flood 56 = .ok (.iinc 3 1, 3) := by decide +kernel
theorem dX6_flood_59 : decode cX6_flood 59 = .ok (.goto (-47), 3) := by decide +kernel
theorem dX6_flood_62 : decode cX6_flood 62 = .ok (.iload_n 2, 1) := by decide +kernel
theorem dX6_flood_63 : decode cX6_flood 63 = .ok (.ifCond .eq 8, 3) := by decide +kernel
theorem dX6_flood_66 : decode cX6_flood 66 = .ok (.bipush (-4), 2) := by decide +kernel
theorem dX6_flood_68 : decode cX6_flood 68 = .ok (.goto 4, 3) := by decide +kernel
theorem dX6_flood_71 : decode cX6_flood 71 = .ok (.iload_n 3, 1) := by decide +kernel
theorem dX6_flood_72 : decode cX6_flood 72 = .ok (.ireturn, 1) := by decide +kernel
theorem dX6_own_0 : decode cX6_own 0 = .ok (.iload_n 1, 1) := by decide +kernel
theorem dX6_own_1 : decode cX6_own 1 = .ok (.invokestatic 175, 3) := by decide +kernel
theorem dX6_own_4 : decode cX6_own 4 = .ok (.ifCond .eq 7, 3) := by decide +kernel
theorem dX6_own_7 : decode cX6_own 7 = .ok (.iload_n 2, 1) := by decide +kernel
theorem dX6_own_8 : decode cX6_own 8 = .ok (.ifCond .ge 6, 3) := by decide +kernel
theorem dX6_own_11 : decode cX6_own 11 = .ok (.bipush (-2), 2) := by decide +kernel
theorem dX6_own_13 : decode cX6_own 13 = .ok (.ireturn, 1) := by decide +kernel
theorem dX6_own_14 : decode cX6_own 14 = .ok (.aload_n 0, 1) := by decide +kernel
theorem dX6_own_15 : decode cX6_own 15 = .ok (.getfield 51, 3) := by decide +kernel
theorem dX6_own_18 : decode cX6_own 18 = .ok (.iload_n 1, 1) := by decide +kernel
theorem dX6_own_19 : decode cX6_own 19 = .ok (.iload_n 2, 1) := by decide +kernel
theorem dX6_own_20 : decode cX6_own 20 = .ok (.invokevirtual 198, 3) := by decide +kernel
theorem dX6_own_23 : decode cX6_own 23 = .ok (.ireturn, 1) := by decide +kernel
theorem dX6_echoes_0 : decode cX6_echoes 0 = .ok (.iload_n 1, 1) := by decide +kernel
theorem dX6_echoes_1 : decode cX6_echoes 1 = .ok (.invokestatic 175, 3) := by decide +kernel
theorem dX6_echoes_4 : decode cX6_echoes 4 = .ok (.ifCond .ne 6, 3) := by decide +kernel
theorem dX6_echoes_7 : decode cX6_echoes 7 = .ok (.bipush (-2), 2) := by decide +kernel
theorem dX6_echoes_9 : decode cX6_echoes 9 = .ok (.ireturn, 1) := by decide +kernel
theorem dX6_echoes_10 : decode cX6_echoes 10 = .ok (.aload_n 0, 1) := by decide +kernel
theorem dX6_echoes_11 : decode cX6_echoes 11 = .ok (.getfield 51, 3) := by decide +kernel
theorem dX6_echoes_14 : decode cX6_echoes 14 = .ok (.iload_n 1, 1) := by decide +kernel
theorem dX6_echoes_15 : decode cX6_echoes 15 = .ok (.invokevirtual 201, 3) := by decide +kernel
theorem dX6_echoes_18 : decode cX6_echoes 18 = .ok (.ireturn, 1) := by decide +kernel
theorem dX6_count_0 : decode cX6_count 0 = .ok (.iload_n 1, 1) := by decide +kernel
theorem dX6_count_1 : decode cX6_count 1 = .ok (.tableswitch 84 0 5 #[39, 47, 55, 60, 68, 76], 39) := by decide +kernel
theorem dX6_count_40 : decode cX6_count 40 = .ok (.aload_n 0, 1) := by decide +kernel
theorem dX6_count_41 : decode cX6_count 41 = .ok (.getfield 19, 3) := by decide +kernel
theorem dX6_count_44 : decode cX6_count 44 = .ok (.invokevirtual 204, 3) := by decide +kernel
theorem dX6_count_47 : decode cX6_count 47 = .ok (.ireturn, 1) := by decide +kernel
theorem dX6_count_48 : decode cX6_count 48 = .ok (.aload_n 0, 1) := by decide +kernel
theorem dX6_count_49 : decode cX6_count 49 = .ok (.getfield 26, 3) := by decide +kernel
theorem dX6_count_52 : decode cX6_count 52 = .ok (.invokevirtual 145, 3) := by decide +kernel
theorem dX6_count_55 : decode cX6_count 55 = .ok (.ireturn, 1) := by decide +kernel
theorem dX6_count_56 : decode cX6_count 56 = .ok (.aload_n 0, 1) := by decide +kernel
theorem dX6_count_57 : decode cX6_count 57 = .ok (.getfield 55, 3) := by decide +kernel
theorem dX6_count_60 : decode cX6_count 60 = .ok (.ireturn, 1) := by decide +kernel
theorem dX6_count_61 : decode cX6_count 61 = .ok (.aload_n 0, 1) := by decide +kernel
theorem dX6_count_62 : decode cX6_count 62 = .ok (.getfield 35, 3) := by decide +kernel
theorem dX6_count_65 : decode cX6_count 65 = .ok (.invokevirtual 205, 3) := by decide +kernel
theorem dX6_count_68 : decode cX6_count 68 = .ok (.ireturn, 1) := by decide +kernel
theorem dX6_count_69 : decode cX6_count 69 = .ok (.aload_n 0, 1) := by decide +kernel
theorem dX6_count_70 : decode cX6_count 70 = .ok (.getfield 51, 3) := by decide +kernel
theorem dX6_count_73 : decode cX6_count 73 = .ok (.invokevirtual 208, 3) := by decide +kernel
theorem dX6_count_76 : decode cX6_count 76 = .ok (.ireturn, 1) := by decide +kernel
theorem dX6_count_77 : decode cX6_count 77 = .ok (.aload_n 0, 1) := by decide +kernel
theorem dX6_count_78 : decode cX6_count 78 = .ok (.getfield 51, 3) := by decide +kernel
theorem dX6_count_81 : decode cX6_count 81 = .ok (.invokevirtual 211, 3) := by decide +kernel
theorem dX6_count_84 : decode cX6_count 84 = .ok (.ireturn, 1) := by decide +kernel
theorem dX6_count_85 : decode cX6_count 85 = .ok (.bipush (-2), 2) := by decide +kernel
theorem dX6_count_87 : decode cX6_count 87 = .ok (.ireturn, 1) := by decide +kernel
theorem dX6_digest_0 : decode cX6_digest 0 = .ok (.ldc2_w 214, 3) := by decide +kernel
theorem dX6_digest_3 : decode cX6_digest 3 = .ok (.lstore_n 1, 1) := by decide +kernel
theorem dX6_digest_4 : decode cX6_digest 4 = .ok (.iconst 0, 1) := by decide +kernel
theorem dX6_digest_5 : decode cX6_digest 5 = .ok (.istore_n 3, 1) := by decide +kernel
theorem dX6_digest_6 : decode cX6_digest 6 = .ok (.iload_n 3, 1) := by decide +kernel
theorem dX6_digest_7 : decode cX6_digest 7 = .ok (.iconst 5, 1) := by decide +kernel
theorem dX6_digest_8 : decode cX6_digest 8 = .ok (.if_icmp .gt 22, 3) := by decide +kernel
theorem dX6_digest_11 : decode cX6_digest 11 = .ok (.ldc2_w 216, 3) := by decide +kernel
theorem dX6_digest_14 : decode cX6_digest 14 = .ok (.lload_n 1, 1) := by decide +kernel
theorem dX6_digest_15 : decode cX6_digest 15 = .ok (.lmul, 1) := by decide +kernel
theorem dX6_digest_16 : decode cX6_digest 16 = .ok (.aload_n 0, 1) := by decide +kernel
theorem dX6_digest_17 : decode cX6_digest 17 = .ok (.iload_n 3, 1) := by decide +kernel
theorem dX6_digest_18 : decode cX6_digest 18 = .ok (.invokevirtual 218, 3) := by decide +kernel
theorem dX6_digest_21 : decode cX6_digest 21 = .ok (.i2l, 1) := by decide +kernel
theorem dX6_digest_22 : decode cX6_digest 22 = .ok (.ladd, 1) := by decide +kernel
theorem dX6_digest_23 : decode cX6_digest 23 = .ok (.lstore_n 1, 1) := by decide +kernel
theorem dX6_digest_24 : decode cX6_digest 24 = .ok (.iinc 3 1, 3) := by decide +kernel
theorem dX6_digest_27 : decode cX6_digest 27 = .ok (.goto (-21), 3) := by decide +kernel
theorem dX6_digest_30 : decode cX6_digest 30 = .ok (.iconst 0, 1) := by decide +kernel
theorem dX6_digest_31 : decode cX6_digest 31 = .ok (.istore_n 3, 1) := by decide +kernel
theorem dX6_digest_32 : decode cX6_digest 32 = .ok (.iload_n 3, 1) := by decide +kernel
theorem dX6_digest_33 : decode cX6_digest 33 = .ok (.aload_n 0, 1) := by decide +kernel
theorem dX6_digest_34 : decode cX6_digest 34 = .ok (.getfield 19, 3) := by decide +kernel
theorem dX6_digest_37 : decode cX6_digest 37 = .ok (.invokevirtual 204, 3) := by decide +kernel
theorem dX6_digest_40 : decode cX6_digest 40 = .ok (.if_icmp .ge 40, 3) := by decide +kernel
theorem dX6_digest_43 : decode cX6_digest 43 = .ok (.iconst 0, 1) := by decide +kernel
theorem dX6_digest_44 : decode cX6_digest 44 = .ok (.istore 4, 2) := by decide +kernel
theorem dX6_digest_46 : decode cX6_digest 46 = .ok (.iload 4, 2) := by decide +kernel
theorem dX6_digest_48 : decode cX6_digest 48 = .ok (.bipush 8, 2) := by decide +kernel
theorem dX6_digest_50 : decode cX6_digest 50 = .ok (.if_icmp .gt 24, 3) := by decide +kernel
theorem dX6_digest_53 : decode cX6_digest 53 = .ok (.ldc2_w 216, 3) := by decide +kernel
theorem dX6_digest_56 : decode cX6_digest 56 = .ok (.lload_n 1, 1) := by decide +kernel
theorem dX6_digest_57 : decode cX6_digest 57 = .ok (.lmul, 1) := by decide +kernel
theorem dX6_digest_58 : decode cX6_digest 58 = .ok (.aload_n 0, 1) := by decide +kernel
theorem dX6_digest_59 : decode cX6_digest 59 = .ok (.iload_n 3, 1) := by decide +kernel
theorem dX6_digest_60 : decode cX6_digest 60 = .ok (.iload 4, 2) := by decide +kernel
theorem dX6_digest_62 : decode cX6_digest 62 = .ok (.invokevirtual 221, 3) := by decide +kernel
theorem dX6_digest_65 : decode cX6_digest 65 = .ok (.i2l, 1) := by decide +kernel
theorem dX6_digest_66 : decode cX6_digest 66 = .ok (.ladd, 1) := by decide +kernel
theorem dX6_digest_67 : decode cX6_digest 67 = .ok (.lstore_n 1, 1) := by decide +kernel
theorem dX6_digest_68 : decode cX6_digest 68 = .ok (.iinc 4 1, 3) := by decide +kernel
theorem dX6_digest_71 : decode cX6_digest 71 = .ok (.goto (-25), 3) := by decide +kernel
theorem dX6_digest_74 : decode cX6_digest 74 = .ok (.iinc 3 1, 3) := by decide +kernel
theorem dX6_digest_77 : decode cX6_digest 77 = .ok (.goto (-45), 3) := by decide +kernel
theorem dX6_digest_80 : decode cX6_digest 80 = .ok (.iconst 0, 1) := by decide +kernel
theorem dX6_digest_81 : decode cX6_digest 81 = .ok (.istore_n 3, 1) := by decide +kernel
theorem dX6_digest_82 : decode cX6_digest 82 = .ok (.iload_n 3, 1) := by decide +kernel
theorem dX6_digest_83 : decode cX6_digest 83 = .ok (.aload_n 0, 1) := by decide +kernel
theorem dX6_digest_84 : decode cX6_digest 84 = .ok (.getfield 26, 3) := by decide +kernel
theorem dX6_digest_87 : decode cX6_digest 87 = .ok (.invokevirtual 145, 3) := by decide +kernel
theorem dX6_digest_90 : decode cX6_digest 90 = .ok (.if_icmp .ge 39, 3) := by decide +kernel
theorem dX6_digest_93 : decode cX6_digest 93 = .ok (.iconst 0, 1) := by decide +kernel
theorem dX6_digest_94 : decode cX6_digest 94 = .ok (.istore 4, 2) := by decide +kernel
theorem dX6_digest_96 : decode cX6_digest 96 = .ok (.iload 4, 2) := by decide +kernel
theorem dX6_digest_98 : decode cX6_digest 98 = .ok (.iconst 2, 1) := by decide +kernel
theorem dX6_digest_99 : decode cX6_digest 99 = .ok (.if_icmp .gt 24, 3) := by decide +kernel
theorem dX6_digest_102 : decode cX6_digest 102 = .ok (.ldc2_w 216, 3) := by decide +kernel
theorem dX6_digest_105 : decode cX6_digest 105 = .ok (.lload_n 1, 1) := by decide +kernel
theorem dX6_digest_106 : decode cX6_digest 106 = .ok (.lmul, 1) := by decide +kernel
theorem dX6_digest_107 : decode cX6_digest 107 = .ok (.aload_n 0, 1) := by decide +kernel
theorem dX6_digest_108 : decode cX6_digest 108 = .ok (.iload_n 3, 1) := by decide +kernel
theorem dX6_digest_109 : decode cX6_digest 109 = .ok (.iload 4, 2) := by decide +kernel
theorem dX6_digest_111 : decode cX6_digest 111 = .ok (.invokevirtual 224, 3) := by decide +kernel
theorem dX6_digest_114 : decode cX6_digest 114 = .ok (.i2l, 1) := by decide +kernel
theorem dX6_digest_115 : decode cX6_digest 115 = .ok (.ladd, 1) := by decide +kernel
theorem dX6_digest_116 : decode cX6_digest 116 = .ok (.lstore_n 1, 1) := by decide +kernel
theorem dX6_digest_117 : decode cX6_digest 117 = .ok (.iinc 4 1, 3) := by decide +kernel
theorem dX6_digest_120 : decode cX6_digest 120 = .ok (.goto (-24), 3) := by decide +kernel
theorem dX6_digest_123 : decode cX6_digest 123 = .ok (.iinc 3 1, 3) := by decide +kernel
theorem dX6_digest_126 : decode cX6_digest 126 = .ok (.goto (-44), 3) := by decide +kernel
theorem dX6_digest_129 : decode cX6_digest 129 = .ok (.iconst 0, 1) := by decide +kernel
theorem dX6_digest_130 : decode cX6_digest 130 = .ok (.istore_n 3, 1) := by decide +kernel
theorem dX6_digest_131 : decode cX6_digest 131 = .ok (.iload_n 3, 1) := by decide +kernel
theorem dX6_digest_132 : decode cX6_digest 132 = .ok (.iconst 5, 1) := by decide +kernel
theorem dX6_digest_133 : decode cX6_digest 133 = .ok (.if_icmp .ge 66, 3) := by decide +kernel
theorem dX6_digest_136 : decode cX6_digest 136 = .ok (.iconst 0, 1) := by decide +kernel
theorem dX6_digest_137 : decode cX6_digest 137 = .ok (.istore 4, 2) := by decide +kernel
theorem dX6_digest_139 : decode cX6_digest 139 = .ok (.iload 4, 2) := by decide +kernel
theorem dX6_digest_141 : decode cX6_digest 141 = .ok (.iconst 5, 1) := by decide +kernel
theorem dX6_digest_142 : decode cX6_digest 142 = .ok (.if_icmp .ge 41, 3) := by decide +kernel
theorem dX6_digest_145 : decode cX6_digest 145 = .ok (.aload_n 0, 1) := by decide +kernel
theorem dX6_digest_146 : decode cX6_digest 146 = .ok (.getfield 51, 3) := by decide +kernel
theorem dX6_digest_149 : decode cX6_digest 149 = .ok (.iload_n 3, 1) := by decide +kernel
theorem dX6_digest_150 : decode cX6_digest 150 = .ok (.iload 4, 2) := by decide +kernel
theorem dX6_digest_152 : decode cX6_digest 152 = .ok (.invokevirtual 198, 3) := by decide +kernel
theorem dX6_digest_155 : decode cX6_digest 155 = .ok (.iconst (-1), 1) := by decide +kernel
theorem dX6_digest_156 : decode cX6_digest 156 = .ok (.if_icmp .eq 27, 3) := by decide +kernel
theorem dX6_digest_159 : decode cX6_digest 159 = .ok (.ldc2_w 216, 3) := by decide +kernel
theorem dX6_digest_162 : decode cX6_digest 162 = .ok (.lload_n 1, 1) := by decide +kernel
theorem dX6_digest_163 : decode cX6_digest 163 = .ok (.lmul, 1) := by decide +kernel
theorem dX6_digest_164 : decode cX6_digest 164 = .ok (.aload_n 0, 1) := by decide +kernel
theorem dX6_digest_165 : decode cX6_digest 165 = .ok (.getfield 51, 3) := by decide +kernel
theorem dX6_digest_168 : decode cX6_digest 168 = .ok (.iload_n 3, 1) := by decide +kernel
theorem dX6_digest_169 : decode cX6_digest 169 = .ok (.iload 4, 2) := by decide +kernel
theorem dX6_digest_171 : decode cX6_digest 171 = .ok (.invokevirtual 198, 3) := by decide +kernel
theorem dX6_digest_174 : decode cX6_digest 174 = .ok (.i2l, 1) := by decide +kernel
theorem dX6_digest_175 : decode cX6_digest 175 = .ok (.ladd, 1) := by decide +kernel
theorem dX6_digest_176 : decode cX6_digest 176 = .ok (.lstore_n 1, 1) := by decide +kernel
theorem dX6_digest_177 : decode cX6_digest 177 = .ok (.iinc 4 1, 3) := by decide +kernel
theorem dX6_digest_180 : decode cX6_digest 180 = .ok (.goto (-41), 3) := by decide +kernel
theorem dX6_digest_183 : decode cX6_digest 183 = .ok (.ldc2_w 216, 3) := by decide +kernel
theorem dX6_digest_186 : decode cX6_digest 186 = .ok (.lload_n 1, 1) := by decide +kernel
theorem dX6_digest_187 : decode cX6_digest 187 = .ok (.lmul, 1) := by decide +kernel
theorem dX6_digest_188 : decode cX6_digest 188 = .ok (.ldc2_w 227, 3) := by decide +kernel
theorem dX6_digest_191 : decode cX6_digest 191 = .ok (.ladd, 1) := by decide +kernel
theorem dX6_digest_192 : decode cX6_digest 192 = .ok (.lstore_n 1, 1) := by decide +kernel
theorem dX6_digest_193 : decode cX6_digest 193 = .ok (.iinc 3 1, 3) := by decide +kernel
theorem dX6_digest_196 : decode cX6_digest 196 = .ok (.goto (-65), 3) := by decide +kernel
theorem dX6_digest_199 : decode cX6_digest 199 = .ok (.lload_n 1, 1) := by decide +kernel
theorem dX6_digest_200 : decode cX6_digest 200 = .ok (.lreturn, 1) := by decide +kernel
