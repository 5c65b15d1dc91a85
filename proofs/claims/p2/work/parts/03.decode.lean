theorem dX0_init_0 : decode cX0_init 0 = .ok (.aload_n 0, 1) := by decide +kernel
theorem dX0_init_1 : decode cX0_init 1 = .ok (.invokespecial 3, 3) := by decide +kernel
theorem dX0_init_4 : decode cX0_init 4 = .ok (.aload_n 0, 1) := by decide +kernel
theorem dX0_init_5 : decode cX0_init 5 = .ok (.bipush 16, 2) := by decide +kernel
theorem dX0_init_7 : decode cX0_init 7 = .ok (.newarray .int, 2) := by decide +kernel
theorem dX0_init_9 : decode cX0_init 9 = .ok (.putfield 11, 3) := by decide +kernel
theorem dX0_init_12 : decode cX0_init 12 = .ok (.aload_n 0, 1) := by decide +kernel
theorem dX0_init_13 : decode cX0_init 13 = .ok (.bipush 16, 2) := by decide +kernel
theorem dX0_init_15 : decode cX0_init 15 = .ok (.newarray .int, 2) := by decide +kernel
theorem dX0_init_17 : decode cX0_init 17 = .ok (.putfield 17, 3) := by decide +kernel
theorem dX0_init_20 : decode cX0_init 20 = .ok (.aload_n 0, 1) := by decide +kernel
theorem dX0_init_21 : decode cX0_init 21 = .ok (.bipush 16, 2) := by decide +kernel
theorem dX0_init_23 : decode cX0_init 23 = .ok (.newarray .int, 2) := by decide +kernel
theorem dX0_init_25 : decode cX0_init 25 = .ok (.putfield 20, 3) := by decide +kernel
theorem dX0_init_28 : decode cX0_init 28 = .ok (.aload_n 0, 1) := by decide +kernel
theorem dX0_init_29 : decode cX0_init 29 = .ok (.bipush 16, 2) := by decide +kernel
theorem dX0_init_31 : decode cX0_init 31 = .ok (.newarray .boolean, 2) := by decide +kernel
theorem dX0_init_33 : decode cX0_init 33 = .ok (.putfield 23, 3) := by decide +kernel
theorem dX0_init_36 : decode cX0_init 36 = .ok (.aload_n 0, 1) := by decide +kernel
theorem dX0_init_37 : decode cX0_init 37 = .ok (.bipush 12, 2) := by decide +kernel
theorem dX0_init_39 : decode cX0_init 39 = .ok (.newarray .boolean, 2) := by decide +kernel
theorem dX0_init_41 : decode cX0_init 41 = .ok (.putfield 27, 3) := by decide +kernel
theorem dX0_init_44 : decode cX0_init 44 = .ok (.aload_n 0, 1) := by decide +kernel
theorem dX0_init_45 : decode cX0_init 45 = .ok (.bipush 12, 2) := by decide +kernel
theorem dX0_init_47 : decode cX0_init 47 = .ok (.newarray .boolean, 2) := by decide +kernel
theorem dX0_init_49 : decode cX0_init 49 = .ok (.putfield 30, 3) := by decide +kernel
theorem dX0_init_52 : decode cX0_init 52 = .ok (.aload_n 0, 1) := by decide +kernel
theorem dX0_init_53 : decode cX0_init 53 = .ok (.bipush 12, 2) := by decide +kernel
theorem dX0_init_55 : decode cX0_init 55 = .ok (.newarray .int, 2) := by decide +kernel
theorem dX0_init_57 : decode cX0_init 57 = .ok (.putfield 33, 3) := by decide +kernel
theorem dX0_init_60 : decode cX0_init 60 = .ok (.aload_n 0, 1) := by decide +kernel
theorem dX0_init_61 : decode cX0_init 61 = .ok (.bipush 12, 2) := by decide +kernel
theorem dX0_init_63 : decode cX0_init 63 = .ok (.newarray .int, 2) := by decide +kernel
theorem dX0_init_65 : decode cX0_init 65 = .ok (.putfield 36, 3) := by decide +kernel
theorem dX0_init_68 : decode cX0_init 68 = .ok (.aload_n 0, 1) := by decide +kernel
theorem dX0_init_69 : decode cX0_init 69 = .ok (.bipush 12, 2) := by decide +kernel
theorem dX0_init_71 : decode cX0_init 71 = .ok (.newarray .int, 2) := by decide +kernel
theorem dX0_init_73 : decode cX0_init 73 = .ok (.putfield 39, 3) := by decide +kernel
theorem dX0_init_76 : decode cX0_init 76 = .ok (.aload_n 0, 1) := by decide +kernel
theorem dX0_init_77 : decode cX0_init 77 = .ok (.aload_n 1, 1) := by decide +kernel
theorem dX0_init_78 : decode cX0_init 78 = .ok (.putfield 42, 3) := by decide +kernel
theorem dX0_init_81 : decode cX0_init 81 = .ok (.aload_n 0, 1) := by decide +kernel
theorem dX0_init_82 : decode cX0_init 82 = .ok (.aload_n 2, 1) := by decide +kernel
theorem dX0_init_83 : decode cX0_init 83 = .ok (.putfield 46, 3) := by decide +kernel
theorem dX0_init_86 : decode cX0_init 86 = .ok (.aload_n 0, 1) := by decide +kernel
theorem dX0_init_87 : decode cX0_init 87 = .ok (.invokevirtual 50, 3) := by decide +kernel
theorem dX0_init_90 : decode cX0_init 90 = .ok (.return_, 1) := by decide +kernel
theorem dX0_restart_0 : decode cX0_restart 0 = .ok (.aload_n 0, 1) := by decide +kernel
theorem dX0_restart_1 : decode cX0_restart 1 = .ok (.iconst 0, 1) := by decide +kernel
theorem dX0_restart_2 : decode cX0_restart 2 = .ok (.putfield 53, 3) := by decide +kernel
theorem dX0_restart_5 : decode cX0_restart 5 = .ok (.iconst 0, 1) := by decide +kernel
theorem dX0_restart_6 : decode cX0_restart 6 = .ok (.istore_n 1, 1) := by decide +kernel
theorem dX0_restart_7 : decode cX0_restart 7 = .ok (.iload_n 1, 1) := by decide +kernel
theorem dX0_restart_8 : decode cX0_restart 8 = .ok (.bipush 16, 2) := by decide +kernel
theorem dX0_restart_10 : decode cX0_restart 10 = .ok (.if_icmp .ge 37, 3) := by decide +kernel
theorem dX0_restart_13 : decode cX0_restart 13 = .ok (.aload_n 0, 1) := by decide +kernel
theorem dX0_restart_14 : decode cX0_restart 14 = .ok (.getfield 11, 3) := by decide +kernel
theorem dX0_restart_17 : decode cX0_restart 17 = .ok (.iload_n 1, 1) := by decide +kernel
theorem dX0_restart_18 : decode cX0_restart 18 = .ok (.iconst 0, 1) := by decide +kernel
theorem dX0_restart_19 : decode cX0_restart 19 = .ok (.iastore, 1) := by decide +kernel
theorem dX0_restart_20 : decode cX0_restart 20 = .ok (.aload_n 0, 1) := by decide +kernel
theorem dX0_restart_21 : decode cX0_restart 21 = .ok (.getfield 17, 3) := by decide +kernel
theorem dX0_restart_24 : decode cX0_restart 24 = .ok (.iload_n 1, 1) := by decide +kernel
theorem dX0_restart_25 : decode cX0_restart 25 = .ok (.iconst 0, 1) := by decide +kernel
theorem dX0_restart_26 : decode cX0_restart 26 = .ok (.iastore, 1) := by decide +kernel
theorem dX0_restart_27 : decode cX0_restart 27 = .ok (.aload_n 0, 1) := by decide +kernel
theorem dX0_restart_28 : decode cX0_restart 28 = .ok (.getfield 20, 3) := by decide +kernel
theorem dX0_restart_31 : decode cX0_restart 31 = .ok (.iload_n 1, 1) := by decide +kernel
theorem dX0_restart_32 : decode cX0_restart 32 = .ok (.iconst 0, 1) := by decide +kernel
theorem dX0_restart_33 : decode cX0_restart 33 = .ok (.iastore, 1) := by decide +kernel
theorem dX0_restart_34 : decode cX0_restart 34 = .ok (.aload_n 0, 1) := by decide +kernel
theorem dX0_restart_35 : decode cX0_restart 35 = .ok (.getfield 23, 3) := by decide +kernel
theorem dX0_restart_38 : decode cX0_restart 38 = .ok (.iload_n 1, 1) := by decide +kernel
theorem dX0_restart_39 : decode cX0_restart 39 = .ok (.iconst 0, 1) := by decide +kernel
theorem dX0_restart_40 : decode cX0_restart 40 = .ok (.bastore, 1) := by decide +kernel
theorem dX0_restart_41 : decode cX0_restart 41 = .ok (.iinc 1 1, 3) := by decide +kernel
theorem dX0_restart_44 : decode cX0_restart 44 = .ok (.goto (-37), 3) := by decide +kernel
theorem dX0_restart_47 : decode cX0_restart 47 = .ok (.iconst 0, 1) := by decide +kernel
theorem dX0_restart_48 : decode cX0_restart 48 = .ok (.istore_n 1, 1) := by decide +kernel
theorem dX0_restart_49 : decode cX0_restart 49 = .ok (.iload_n 1, 1) := by decide +kernel
theorem dX0_restart_50 : decode cX0_restart 50 = .ok (.bipush 12, 2) := by decide +kernel
theorem dX0_restart_52 : decode cX0_restart 52 = .ok (.if_icmp .ge 45, 3) := by decide +kernel
theorem dX0_restart_55 : decode cX0_restart 55 = .ok (.aload_n 0, 1) := by decide +kernel
theorem dX0_restart_56 : decode cX0_restart 56 = .ok (.getfield 27, 3) := by decide +kernel
theorem dX0_restart_59 : decode cX0_restart 59 = .ok (.iload_n 1, 1) := by decide +kernel
theorem dX0_restart_60 : decode cX0_restart 60 = .ok (.iconst 1, 1) := by decide +kernel
theorem dX0_restart_61 : decode cX0_restart 61 = .ok (.bastore, 1) := by decide +kernel
theorem dX0_restart_62 : decode cX0_restart 62 = .ok (.aload_n 0, 1) := by decide +kernel
theorem dX0_restart_63 : decode cX0_restart 63 = .ok (.getfield 30, 3) := by decide +kernel
theorem dX0_restart_66 : decode cX0_restart 66 = .ok (.iload_n 1, 1) := by decide +kernel
theorem dX0_restart_67 : decode cX0_restart 67 = .ok (.iconst 1, 1) := by decide +kernel
theorem dX0_restart_68 : decode cX0_restart 68 = .ok (.bastore, 1) := by decide +kernel
theorem dX0_restart_69 : decode cX0_restart 69 = .ok (.aload_n 0, 1) := by decide +kernel
theorem dX0_restart_70 : decode cX0_restart 70 = .ok (.getfield 33, 3) := by decide +kernel
theorem dX0_restart_73 : decode cX0_restart 73 = .ok (.iload_n 1, 1) := by decide +kernel
theorem dX0_restart_74 : decode cX0_restart 74 = .ok (.iconst 0, 1) := by decide +kernel
theorem dX0_restart_75 : decode cX0_restart 75 = .ok (.iastore, 1) := by decide +kernel
theorem dX0_restart_76 : decode cX0_restart 76 = .ok (.aload_n 0, 1) := by decide +kernel
theorem dX0_restart_77 : decode cX0_restart 77 = .ok (.getfield 36, 3) := by decide +kernel
theorem dX0_restart_80 : decode cX0_restart 80 = .ok (.iload_n 1, 1) := by decide +kernel
theorem dX0_restart_81 : decode cX0_restart 81 = .ok (.iconst 0, 1) := by decide +kernel
theorem dX0_restart_82 : decode cX0_restart 82 = .ok (.iastore, 1) := by decide +kernel
theorem dX0_restart_83 : decode cX0_restart 83 = .ok (.aload_n 0, 1) := by decide +kernel
theorem dX0_restart_84 : decode cX0_restart 84 = .ok (.getfield 39, 3) := by decide +kernel
theorem dX0_restart_87 : decode cX0_restart 87 = .ok (.iload_n 1, 1) := by decide +kernel
theorem dX0_restart_88 : decode cX0_restart 88 = .ok (.ldc 57, 2) := by decide +kernel
theorem dX0_restart_90 : decode cX0_restart 90 = .ok (.iastore, 1) := by decide +kernel
theorem dX0_restart_91 : decode cX0_restart 91 = .ok (.iinc 1 1, 3) := by decide +kernel
theorem dX0_restart_94 : decode cX0_restart 94 = .ok (.goto (-45), 3) := by decide +kernel
theorem dX0_restart_97 : decode cX0_restart 97 = .ok (.return_, 1) := by decide +kernel
theorem dX0_join_0 : decode cX0_join 0 = .ok (.aload_n 0, 1) := by decide +kernel
theorem dX0_join_1 : decode cX0_join 1 = .ok (.getfield 30, 3) := by decide +kernel
theorem dX0_join_4 : decode cX0_join 4 = .ok (.iload_n 1, 1) := by decide +kernel
theorem dX0_join_5 : decode cX0_join 5 = .ok (.aload_n 0, 1) := by decide +kernel
theorem dX0_join_6 : decode cX0_join 6 = .ok (.iload_n 1, 1) := by decide +kernel
theorem dX0_join_7 : decode cX0_join 7 = .ok (.invokevirtual 58, 3) := by decide +kernel
theorem dX0_join_10 : decode cX0_join 10 = .ok (.bastore, 1) := by decide +kernel
theorem dX0_join_11 : decode cX0_join 11 = .ok (.return_, 1) := by decide +kernel
theorem dX0_isUp_0 : decode cX0_isUp 0 = .ok (.aload_n 0, 1) := by decide +kernel
theorem dX0_isUp_1 : decode cX0_isUp 1 = .ok (.getfield 27, 3) := by decide +kernel
theorem dX0_isUp_4 : decode cX0_isUp 4 = .ok (.iload_n 1, 1) := by decide +kernel
theorem dX0_isUp_5 : decode cX0_isUp 5 = .ok (.baload, 1) := by decide +kernel
theorem dX0_isUp_6 : decode cX0_isUp 6 = .ok (.ireturn, 1) := by decide +kernel
theorem dX0_isShut_0 : decode cX0_isShut 0 = .ok (.aload_n 0, 1) := by decide +kernel
theorem dX0_isShut_1 : decode cX0_isShut 1 = .ok (.getfield 23, 3) := by decide +kernel
theorem dX0_isShut_4 : decode cX0_isShut 4 = .ok (.aload_n 0, 1) := by decide +kernel
theorem dX0_isShut_5 : decode cX0_isShut 5 = .ok (.getfield 46, 3) := by decide +kernel
theorem dX0_isShut_8 : decode cX0_isShut 8 = .ok (.iload_n 1, 1) := by decide +kernel
theorem dX0_isShut_9 : decode cX0_isShut 9 = .ok (.invokevirtual 62, 3) := by decide +kernel
theorem dX0_isShut_12 : decode cX0_isShut 12 = .ok (.baload, 1) := by decide +kernel
theorem dX0_isShut_13 : decode cX0_isShut 13 = .ok (.ireturn, 1) := by decide +kernel
theorem dX0_isSeen_0 : decode cX0_isSeen 0 = .ok (.aload_n 0, 1) := by decide +kernel
theorem dX0_isSeen_1 : decode cX0_isSeen 1 = .ok (.getfield 27, 3) := by decide +kernel
theorem dX0_isSeen_4 : decode cX0_isSeen 4 = .ok (.iload_n 1, 1) := by decide +kernel
theorem dX0_isSeen_5 : decode cX0_isSeen 5 = .ok (.baload, 1) := by decide +kernel
theorem dX0_isSeen_6 : decode cX0_isSeen 6 = .ok (.ifCond .eq 15, 3) := by decide +kernel
theorem dX0_isSeen_9 : decode cX0_isSeen 9 = .ok (.aload_n 0, 1) := by decide +kernel
theorem dX0_isSeen_10 : decode cX0_isSeen 10 = .ok (.iload_n 1, 1) := by decide +kernel
theorem dX0_isSeen_11 : decode cX0_isSeen 11 = .ok (.invokevirtual 66, 3) := by decide +kernel
theorem dX0_isSeen_14 : decode cX0_isSeen 14 = .ok (.ifCond .ne 7, 3) := by decide +kernel
theorem dX0_isSeen_17 : decode cX0_isSeen 17 = .ok (.iconst 1, 1) := by decide +kernel
theorem dX0_isSeen_18 : decode cX0_isSeen 18 = .ok (.goto 4, 3) := by decide +kernel
theorem dX0_isSeen_21 : decode cX0_isSeen 21 = .ok (.iconst 0, 1) := by decide +kernel
theorem dX0_isSeen_22 : decode cX0_isSeen 22 = .ok (.ireturn, 1) := by decide +kernel
theorem dX0_flipsOf_0 : decode cX0_flipsOf 0 = .ok (.aload_n 0, 1) := by decide +kernel
theorem dX0_flipsOf_1 : decode cX0_flipsOf 1 = .ok (.getfield 33, 3) := by decide +kernel
theorem dX0_flipsOf_4 : decode cX0_flipsOf 4 = .ok (.iload_n 1, 1) := by decide +kernel
theorem dX0_flipsOf_5 : decode cX0_flipsOf 5 = .ok (.iaload, 1) := by decide +kernel
theorem dX0_flipsOf_6 : decode cX0_flipsOf 6 = .ok (.ireturn, 1) := by decide +kernel
theorem dX0_lostOf_0 : decode cX0_lostOf 0 = .ok (.aload_n 0, 1) := by decide +kernel
theorem dX0_lostOf_1 : decode cX0_lostOf 1 = .ok (.getfield 36, 3) := by decide +kernel
theorem dX0_lostOf_4 : decode cX0_lostOf 4 = .ok (.iload_n 1, 1) := by decide +kernel
theorem dX0_lostOf_5 : decode cX0_lostOf 5 = .ok (.iaload, 1) := by decide +kernel
theorem dX0_lostOf_6 : decode cX0_lostOf 6 = .ok (.ireturn, 1) := by decide +kernel
theorem dX0_wasEverShut_0 : decode cX0_wasEverShut 0 = .ok (.aload_n 0, 1) := by decide +kernel
theorem dX0_wasEverShut_1 : decode cX0_wasEverShut 1 = .ok (.getfield 53, 3) := by decide +kernel
theorem dX0_wasEverShut_4 : decode cX0_wasEverShut 4 = .ok (.ireturn, 1) := by decide +kernel
theorem dX0_shutLines_0 : decode cX0_shutLines 0 = .ok (.iconst 0, 1) := by decide +kernel
theorem dX0_shutLines_1 : decode cX0_shutLines 1 = .ok (.istore_n 1, 1) := by decide +kernel
theorem dX0_shutLines_2 : decode cX0_shutLines 2 = .ok (.iconst 0, 1) := by decide +kernel
theorem dX0_shutLines_3 : decode cX0_shutLines 3 = .ok (.istore_n 2, 1) := by decide +kernel
theorem dX0_shutLines_4 : decode cX0_shutLines 4 = .ok (.iload_n 2, 1) := by decide +kernel
theorem dX0_shutLines_5 : decode cX0_shutLines 5 = .ok (.aload_n 0, 1) := by decide +kernel
theorem dX0_shutLines_6 : decode cX0_shutLines 6 = .ok (.getfield 46, 3) := by decide +kernel
theorem dX0_shutLines_9 : decode cX0_shutLines 9 = .ok (.invokevirtual 69, 3) := by decide +kernel
theorem dX0_shutLines_12 : decode cX0_shutLines 12 = .ok (.if_icmp .ge 20, 3) := by decide +kernel
theorem dX0_shutLines_15 : decode cX0_shutLines 15 = .ok (.aload_n 0, 1) := by decide +kernel
theorem dX0_shutLines_16 : decode cX0_shutLines 16 = .ok (.iload_n 2, 1) := by decide +kernel
theorem dX0_shutLines_17 : decode cX0_shutLines 17 = .ok (.invokevirtual 66, 3) := by decide +kernel
theorem dX0_shutLines_20 : decode cX0_shutLines 20 = .ok (.ifCond .eq 6, 3) := by decide +kernel
theorem dX0_shutLines_23 : decode cX0_shutLines 23 = .ok (.iinc 1 1, 3) := by decide +kernel
theorem dX0_shutLines_26 : decode cX0_shutLines 26 = .ok (.iinc 2 1, 3) := by decide +kernel
theorem dX0_shutLines_29 : decode cX0_shutLines 29 = .ok (.goto (-25), 3) := by decide +kernel
theorem dX0_shutLines_32 : decode cX0_shutLines 32 = .ok (.iload_n 1, 1) := by decide +kernel
theorem dX0_shutLines_33 : decode cX0_shutLines 33 = .ok (.ireturn, 1) := by decide +kernel
theorem dX0_penaltyOf_0 : decode cX0_penaltyOf 0 = .ok (.aload_n 0, 1) := by decide +kernel
theorem dX0_penaltyOf_1 : decode cX0_penaltyOf 1 = .ok (.aload_n 0, 1) := by decide +kernel
theorem dX0_penaltyOf_2 : decode cX0_penaltyOf 2 = .ok (.getfield 46, 3) := by decide +kernel
theorem dX0_penaltyOf_5 : decode cX0_penaltyOf 5 = .ok (.iload_n 1, 1) := by decide +kernel
theorem dX0_penaltyOf_6 : decode cX0_penaltyOf 6 = .ok (.invokevirtual 62, 3) := by decide +kernel
theorem dX0_penaltyOf_9 : decode cX0_penaltyOf 9 = .ok (.iload_n 2, 1) := by decide +kernel
theorem dX0_penaltyOf_10 : decode cX0_penaltyOf 10 = .ok (.invokevirtual 73, 3) := by decide +kernel
theorem dX0_penaltyOf_13 : decode cX0_penaltyOf 13 = .ok (.ireturn, 1) := by decide +kernel
theorem dX0_penaltyAt_0 : decode cX0_penaltyAt 0 = .ok (.aload_n 0, 1) := by decide +kernel
theorem dX0_penaltyAt_1 : decode cX0_penaltyAt 1 = .ok (.getfield 42, 3) := by decide +kernel
theorem dX0_penaltyAt_4 : decode cX0_penaltyAt 4 = .ok (.aload_n 0, 1) := by decide +kernel
theorem dX0_penaltyAt_5 : decode cX0_penaltyAt 5 = .ok (.getfield 11, 3) := by decide +kernel
theorem dX0_penaltyAt_8 : decode cX0_penaltyAt 8 = .ok (.iload_n 1, 1) := by decide +kernel
theorem dX0_penaltyAt_9 : decode cX0_penaltyAt 9 = .ok (.iaload, 1) := by decide +kernel
theorem dX0_penaltyAt_10 : decode cX0_penaltyAt 10 = .ok (.iload_n 2, 1) := by decide +kernel
theorem dX0_penaltyAt_11 : decode cX0_penaltyAt 11 = .ok (.aload_n 0, 1) := by decide +kernel
theorem dX0_penaltyAt_12 : decode cX0_penaltyAt 12 = .ok (.getfield 17, 3) := by decide +kernel
theorem dX0_penaltyAt_15 : decode cX0_penaltyAt 15 = .ok (.iload_n 1, 1) := by decide +kernel
theorem dX0_penaltyAt_16 : decode cX0_penaltyAt 16 = .ok (.iaload, 1) := by decide +kernel
theorem dX0_penaltyAt_17 : decode cX0_penaltyAt 17 = .ok (.isub, 1) := by decide +kernel
theorem dX0_penaltyAt_18 : decode cX0_penaltyAt 18 = .ok (.invokevirtual 77, 3) := by decide +kernel
theorem dX0_penaltyAt_21 : decode cX0_penaltyAt 21 = .ok (.ireturn, 1) := by decide +kernel
theorem dX0_restPenalties_0 : decode cX0_restPenalties 0 = .ok (.iconst 0, 1) := by decide +kernel
theorem dX0_restPenalties_1 : decode cX0_restPenalties 1 = .ok (.istore_n 2, 1) := by decide +kernel
theorem dX0_restPenalties_2 : decode cX0_restPenalties 2 = .ok (.iload_n 2, 1) := by decide +kernel
theorem dX0_restPenalties_3 : decode cX0_restPenalties 3 = .ok (.bipush 16, 2) := by decide +kernel
theorem dX0_restPenalties_5 : decode cX0_restPenalties 5 = .ok (.if_icmp .ge 28, 3) := by decide +kernel
theorem dX0_restPenalties_8 : decode cX0_restPenalties 8 = .ok (.aload_n 0, 1) := by decide +kernel
theorem dX0_restPenalties_9 : decode cX0_restPenalties 9 = .ok (.getfield 11, 3) := by decide +kernel
theorem dX0_restPenalties_12 : decode cX0_restPenalties 12 = .ok (.iload_n 2, 1) := by decide +kernel
theorem dX0_restPenalties_13 : decode cX0_restPenalties 13 = .ok (.aload_n 0, 1) := by decide +kernel
theorem dX0_restPenalties_14 : decode cX0_restPenalties 14 = .ok (.iload_n 2, 1) := by decide +kernel
theorem dX0_restPenalties_15 : decode cX0_restPenalties 15 = .ok (.iload_n 1, 1) := by decide +kernel
theorem dX0_restPenalties_16 : decode cX0_restPenalties 16 = .ok (.invokevirtual 73, 3) := by decide +kernel
theorem dX0_restPenalties_19 : decode cX0_restPenalties 19 = .ok (.iastore, 1) := by decide +kernel
theorem dX0_restPenalties_20 : decode cX0_restPenalties 20 = .ok (.aload_n 0, 1) := by decide +kernel
theorem dX0_restPenalties_21 : decode cX0_restPenalties 21 = .ok (.getfield 17, 3) := by decide +kernel
theorem dX0_restPenalties_24 : decode cX0_restPenalties 24 = .ok (.iload_n 2, 1) := by decide +kernel
theorem dX0_restPenalties_25 : decode cX0_restPenalties 25 = .ok (.iload_n 1, 1) := by decide +kernel
theorem dX0_restPenalties_26 : decode cX0_restPenalties 26 = .ok (.iastore, 1) := by decide +kernel
theorem dX0_restPenalties_27 : decode cX0_restPenalties 27 = .ok (.iinc 2 1, 3) := by decide +kernel
theorem dX0_restPenalties_30 : decode cX0_restPenalties 30 = .ok (.goto (-28), 3) := by decide +kernel
theorem dX0_restPenalties_33 : decode cX0_restPenalties 33 = .ok (.return_, 1) := by decide +kernel
theorem dX0_ticksTillOpen_0 : decode cX0_ticksTillOpen 0 = .ok (.aload_n 0, 1) := by decide +kernel
theorem dX0_ticksTillOpen_1 : decode cX0_ticksTillOpen 1 = .ok (.getfield 46, 3) := by decide +kernel
theorem dX0_ticksTillOpen_4 : decode cX0_ticksTillOpen 4 = .ok (.iload_n 1, 1) := by decide +kernel
theorem dX0_ticksTillOpen_5 : decode cX0_ticksTillOpen 5 = .ok (.invokevirtual 62, 3) := by decide +kernel
theorem dX0_ticksTillOpen_8 : decode cX0_ticksTillOpen 8 = .ok (.istore_n 3, 1) := by decide +kernel
theorem dX0_ticksTillOpen_9 : decode cX0_ticksTillOpen 9 = .ok (.aload_n 0, 1) := by decide +kernel
theorem dX0_ticksTillOpen_10 : decode cX0_ticksTillOpen 10 = .ok (.getfield 23, 3) := by decide +kernel
theorem dX0_ticksTillOpen_13 : decode cX0_ticksTillOpen 13 = .ok (.iload_n 3, 1) := by decide +kernel
theorem dX0_ticksTillOpen_14 : decode cX0_ticksTillOpen 14 = .ok (.baload, 1) := by decide +kernel
theorem dX0_ticksTillOpen_15 : decode cX0_ticksTillOpen 15 = .ok (.ifCond .eq 14, 3) := by decide +kernel
theorem dX0_ticksTillOpen_18 : decode cX0_ticksTillOpen 18 = .ok (.aload_n 0, 1) := by decide +kernel
theorem dX0_ticksTillOpen_19 : decode cX0_ticksTillOpen 19 = .ok (.iload_n 3, 1) := by decide +kernel
theorem dX0_ticksTillOpen_20 : decode cX0_ticksTillOpen 20 = .ok (.iload_n 2, 1) := by decide +kernel
theorem dX0_ticksTillOpen_21 : decode cX0_ticksTillOpen 21 = .ok (.invokevirtual 82, 3) := by decide +kernel
theorem dX0_ticksTillOpen_24 : decode cX0_ticksTillOpen 24 = .ok (.iload_n 2, 1) := by decide +kernel
theorem dX0_ticksTillOpen_25 : decode cX0_ticksTillOpen 25 = .ok (.isub, 1) := by decide +kernel
theorem dX0_ticksTillOpen_26 : decode cX0_ticksTillOpen 26 = .ok (.goto 4, 3) := by decide +kernel
theorem dX0_ticksTillOpen_29 : decode cX0_ticksTillOpen 29 = .ok (.iconst 0, 1) := by decide +kernel
theorem dX0_ticksTillOpen_30 : decode cX0_ticksTillOpen 30 = .ok (.ireturn, 1) := by decide +kernel
theorem dX0_openingTick_0 : decode cX0_openingTick 0 = .ok (.aload_n 0, 1) := by decide +kernel
theorem dX0_openingTick_1 : decode cX0_openingTick 1 = .ok (.getfield 17, 3) := by decide +kernel
theorem dX0_openingTick_4 : decode cX0_openingTick 4 = .ok (.iload_n 1, 1) := by decide +kernel
theorem dX0_openingTick_5 : decode cX0_openingTick 5 = .ok (.iaload, 1) := by decide +kernel
theorem dX0_openingTick_6 : decode cX0_openingTick 6 = .ok (.aload_n 0, 1) := by decide +kernel
theorem dX0_openingTick_7 : decode cX0_openingTick 7 = .ok (.getfield 42, 3) := by decide +kernel
theorem dX0_openingTick_10 : decode cX0_openingTick 10 = .ok (.aload_n 0, 1) := by decide +kernel
theorem dX0_openingTick_11 : decode cX0_openingTick 11 = .ok (.getfield 11, 3) := by decide +kernel
theorem dX0_openingTick_14 : decode cX0_openingTick 14 = .ok (.iload_n 1, 1) := by decide +kernel
theorem dX0_openingTick_15 : decode cX0_openingTick 15 = .ok (.iaload, 1) := by decide +kernel
theorem dX0_openingTick_16 : decode cX0_openingTick 16 = .ok (.aload_n 0, 1) := by decide +kernel
theorem dX0_openingTick_17 : decode cX0_openingTick 17 = .ok (.getfield 42, 3) := by decide +kernel
theorem dX0_openingTick_20 : decode cX0_openingTick 20 = .ok (.iconst 5, 1) := by decide +kernel
theorem dX0_openingTick_21 : decode cX0_openingTick 21 = .ok (.invokevirtual 85, 3) := by decide +kernel
theorem dX0_openingTick_24 : decode cX0_openingTick 24 = .ok (.invokevirtual 88, 3) := by decide +kernel
theorem dX0_openingTick_27 : decode cX0_openingTick 27 = .ok (.iadd, 1) := by decide +kernel
theorem dX0_openingTick_28 : decode cX0_openingTick 28 = .ok (.istore_n 3, 1) := by decide +kernel
theorem dX0_openingTick_29 : decode cX0_openingTick 29 = .ok (.iload_n 2, 1) := by decide +kernel
theorem dX0_openingTick_30 : decode cX0_openingTick 30 = .ok (.iconst 1, 1) := by decide +kernel
theorem dX0_openingTick_31 : decode cX0_openingTick 31 = .ok (.iadd, 1) := by decide +kernel
theorem dX0_openingTick_32 : decode cX0_openingTick 32 = .ok (.iload_n 3, 1) := by decide +kernel
theorem dX0_openingTick_33 : decode cX0_openingTick 33 = .ok (.invokestatic 91, 3) := by decide +kernel
theorem dX0_openingTick_36 : decode cX0_openingTick 36 = .ok (.ireturn, 1) := by decide +kernel
theorem dX0_settleAll_0 : decode cX0_settleAll 0 = .ok (.iconst 0, 1) := by decide +kernel
theorem dX0_settleAll_1 : decode cX0_settleAll 1 = .ok (.istore_n 2, 1) := by decide +kernel
theorem dX0_settleAll_2 : decode cX0_settleAll 2 = .ok (.iload_n 2, 1) := by decide +kernel
theorem dX0_settleAll_3 : decode cX0_settleAll 3 = .ok (.bipush 16, 2) := by decide +kernel
theorem dX0_settleAll_5 : decode cX0_settleAll 5 = .ok (.if_icmp .ge 15, 3) := by decide +kernel
theorem dX0_settleAll_8 : decode cX0_settleAll 8 = .ok (.aload_n 0, 1) := by decide +kernel
theorem dX0_settleAll_9 : decode cX0_settleAll 9 = .ok (.iload_n 2, 1) := by decide +kernel
theorem dX0_settleAll_10 : decode cX0_settleAll 10 = .ok (.iload_n 1, 1) := by decide +kernel
theorem dX0_settleAll_11 : decode cX0_settleAll 11 = .ok (.invokevirtual 96, 3) := by decide +kernel
theorem dX0_settleAll_14 : decode cX0_settleAll 14 = .ok (.iinc 2 1, 3) := by decide +kernel
theorem dX0_settleAll_17 : decode cX0_settleAll 17 = .ok (.goto (-15), 3) := by decide +kernel
theorem dX0_settleAll_20 : decode cX0_settleAll 20 = .ok (.return_, 1) := by decide +kernel
theorem dX0_settle_0 : decode cX0_settle 0 = .ok (.aload_n 0, 1) := by decide +kernel
theorem dX0_settle_1 : decode cX0_settle 1 = .ok (.getfield 20, 3) := by decide +kernel
theorem dX0_settle_4 : decode cX0_settle 4 = .ok (.iload_n 1, 1) := by decide +kernel
theorem dX0_settle_5 : decode cX0_settle 5 = .ok (.iaload, 1) := by decide +kernel
theorem dX0_settle_6 : decode cX0_settle 6 = .ok (.istore_n 3, 1) := by decide +kernel
theorem dX0_settle_7 : decode cX0_settle 7 = .ok (.aload_n 0, 1) := by decide +kernel
theorem dX0_settle_8 : decode cX0_settle 8 = .ok (.getfield 20, 3) := by decide +kernel
theorem dX0_settle_11 : decode cX0_settle 11 = .ok (.iload_n 1, 1) := by decide +kernel
theorem dX0_settle_12 : decode cX0_settle 12 = .ok (.iload_n 2, 1) := by decide +kernel
theorem dX0_settle_13 : decode cX0_settle 13 = .ok (.iastore, 1) := by decide +kernel
theorem dX0_settle_14 : decode cX0_settle 14 = .ok (.aload_n 0, 1) := by decide +kernel
theorem dX0_settle_15 : decode cX0_settle 15 = .ok (.getfield 23, 3) := by decide +kernel
theorem dX0_settle_18 : decode cX0_settle 18 = .ok (.iload_n 1, 1) := by decide +kernel
theorem dX0_settle_19 : decode cX0_settle 19 = .ok (.baload, 1) := by decide +kernel
theorem dX0_settle_20 : decode cX0_settle 20 = .ok (.ifCond .eq 8, 3) := by decide +kernel
theorem dX0_settle_23 : decode cX0_settle 23 = .ok (.iload_n 2, 1) := by decide +kernel
theorem dX0_settle_24 : decode cX0_settle 24 = .ok (.iload_n 3, 1) := by decide +kernel
theorem dX0_settle_25 : decode cX0_settle 25 = .ok (.if_icmp .gt 4, 3) := by decide +kernel
theorem dX0_settle_28 : decode cX0_settle 28 = .ok (.return_, 1) := by decide +kernel
theorem dX0_settle_29 : decode cX0_settle 29 = .ok (.aload_n 0, 1) := by decide +kernel
theorem dX0_settle_30 : decode cX0_settle 30 = .ok (.iload_n 1, 1) := by decide +kernel
theorem dX0_settle_31 : decode cX0_settle 31 = .ok (.iload_n 3, 1) := by decide +kernel
theorem dX0_settle_32 : decode cX0_settle 32 = .ok (.invokevirtual 82, 3) := by decide +kernel
theorem dX0_settle_35 : decode cX0_settle 35 = .ok (.istore 4, 2) := by decide +kernel
theorem dX0_settle_37 : decode cX0_settle 37 = .ok (.aload_n 0, 1) := by decide +kernel
theorem dX0_settle_38 : decode cX0_settle 38 = .ok (.getfield 23, 3) := by decide +kernel
theorem dX0_settle_41 : decode cX0_settle 41 = .ok (.iload_n 1, 1) := by decide +kernel
theorem dX0_settle_42 : decode cX0_settle 42 = .ok (.iload 4, 2) := by decide +kernel
theorem dX0_settle_44 : decode cX0_settle 44 = .ok (.iload_n 2, 1) := by decide +kernel
theorem dX0_settle_45 : decode cX0_settle 45 = .ok (.if_icmp .le 7, 3) := by decide +kernel
theorem dX0_settle_48 : decode cX0_settle 48 = .ok (.iconst 1, 1) := by decide +kernel
theorem dX0_settle_49 : decode cX0_settle 49 = .ok (.goto 4, 3) := by decide +kernel
theorem dX0_settle_52 : decode cX0_settle 52 = .ok (.iconst 0, 1) := by decide +kernel
theorem dX0_settle_53 : decode cX0_settle 53 = .ok (.bastore, 1) := by decide +kernel
theorem dX0_settle_54 : decode cX0_settle 54 = .ok (.iload_n 2, 1) := by decide +kernel
theorem dX0_settle_55 : decode cX0_settle 55 = .ok (.iload 4, 2) := by decide +kernel
theorem dX0_settle_57 : decode cX0_settle 57 = .ok (.iconst 1, 1) := by decide +kernel
theorem dX0_settle_58 : decode cX0_settle 58 = .ok (.isub, 1) := by decide +kernel
theorem dX0_settle_59 : decode cX0_settle 59 = .ok (.invokestatic 100, 3) := by decide +kernel
theorem dX0_settle_62 : decode cX0_settle 62 = .ok (.iload_n 3, 1) := by decide +kernel
theorem dX0_settle_63 : decode cX0_settle 63 = .ok (.isub, 1) := by decide +kernel
theorem dX0_settle_64 : decode cX0_settle 64 = .ok (.istore 5, 2) := by decide +kernel
theorem dX0_settle_66 : decode cX0_settle 66 = .ok (.aload_n 0, 1) := by decide +kernel
theorem dX0_settle_67 : decode cX0_settle 67 = .ok (.iload_n 1, 1) := by decide +kernel
theorem dX0_settle_68 : decode cX0_settle 68 = .ok (.invokevirtual 103, 3) := by decide +kernel
theorem dX0_settle_71 : decode cX0_settle 71 = .ok (.istore 6, 2) := by decide +kernel
theorem dX0_settle_73 : decode cX0_settle 73 = .ok (.iload 6, 2) := by decide +kernel
theorem dX0_settle_75 : decode cX0_settle 75 = .ok (.aload_n 0, 1) := by decide +kernel
theorem dX0_settle_76 : decode cX0_settle 76 = .ok (.iload_n 1, 1) := by decide +kernel
theorem dX0_settle_77 : decode cX0_settle 77 = .ok (.invokevirtual 106, 3) := by decide +kernel
theorem dX0_settle_80 : decode cX0_settle 80 = .ok (.if_icmp .ge 44, 3) := by decide +kernel
theorem dX0_settle_83 : decode cX0_settle 83 = .ok (.aload_n 0, 1) := by decide +kernel
theorem dX0_settle_84 : decode cX0_settle 84 = .ok (.getfield 27, 3) := by decide +kernel
theorem dX0_settle_87 : decode cX0_settle 87 = .ok (.iload 6, 2) := by decide +kernel
theorem dX0_settle_89 : decode cX0_settle 89 = .ok (.baload, 1) := by decide +kernel
theorem dX0_settle_90 : decode cX0_settle 90 = .ok (.ifCond .eq 28, 3) := by decide +kernel
theorem dX0_settle_93 : decode cX0_settle 93 = .ok (.aload_n 0, 1) := by decide +kernel
theorem dX0_settle_94 : decode cX0_settle 94 = .ok (.getfield 46, 3) := by decide +kernel
theorem dX0_settle_97 : decode cX0_settle 97 = .ok (.iload 6, 2) := by decide +kernel
theorem dX0_settle_99 : decode cX0_settle 99 = .ok (.invokevirtual 62, 3) := by decide +kernel
theorem dX0_settle_102 : decode cX0_settle 102 = .ok (.iload_n 1, 1) := by decide +kernel
theorem dX0_settle_103 : decode cX0_settle 103 = .ok (.if_icmp .ne 15, 3) := by decide +kernel
theorem dX0_settle_106 : decode cX0_settle 106 = .ok (.aload_n 0, 1) := by decide +kernel
theorem dX0_settle_107 : decode cX0_settle 107 = .ok (.getfield 36, 3) := by decide +kernel
theorem dX0_settle_110 : decode cX0_settle 110 = .ok (.iload 6, 2) := by decide +kernel
theorem dX0_settle_112 : decode cX0_settle 112 = .ok (.dup2, 1) := by decide +kernel
theorem dX0_settle_113 : decode cX0_settle 113 = .ok (.iaload, 1) := by decide +kernel
theorem dX0_settle_114 : decode cX0_settle 114 = .ok (.iload 5, 2) := by decide +kernel
theorem dX0_settle_116 : decode cX0_settle 116 = .ok (.iadd, 1) := by decide +kernel
theorem dX0_settle_117 : decode cX0_settle 117 = .ok (.iastore, 1) := by decide +kernel
theorem dX0_settle_118 : decode cX0_settle 118 = .ok (.iinc 6 1, 3) := by decide +kernel
theorem dX0_settle_121 : decode cX0_settle 121 = .ok (.goto (-48), 3) := by decide +kernel
theorem dX0_settle_124 : decode cX0_settle 124 = .ok (.aload_n 0, 1) := by decide +kernel
theorem dX0_settle_125 : decode cX0_settle 125 = .ok (.iload_n 1, 1) := by decide +kernel
theorem dX0_settle_126 : decode cX0_settle 126 = .ok (.invokevirtual 109, 3) := by decide +kernel
theorem dX0_settle_129 : decode cX0_settle 129 = .ok (.return_, 1) := by decide +kernel
theorem dX0_take_0 : decode cX0_take 0 = .ok (.aload_n 0, 1) := by decide +kernel
theorem dX0_take_1 : decode cX0_take 1 = .ok (.getfield 46, 3) := by decide +kernel
theorem dX0_take_4 : decode cX0_take 4 = .ok (.iload_n 1, 1) := by decide +kernel
theorem dX0_take_5 : decode cX0_take 5 = .ok (.invokevirtual 62, 3) := by decide +kernel
theorem dX0_take_8 : decode cX0_take 8 = .ok (.istore 4, 2) := by decide +kernel
theorem dX0_take_10 : decode cX0_take 10 = .ok (.aload_n 0, 1) := by decide +kernel
theorem dX0_take_11 : decode cX0_take 11 = .ok (.iload 4, 2) := by decide +kernel
theorem dX0_take_13 : decode cX0_take 13 = .ok (.iload_n 3, 1) := by decide +kernel
theorem dX0_take_14 : decode cX0_take 14 = .ok (.invokevirtual 96, 3) := by decide +kernel
theorem dX0_take_17 : decode cX0_take 17 = .ok (.aload_n 0, 1) := by decide +kernel
theorem dX0_take_18 : decode cX0_take 18 = .ok (.iload 4, 2) := by decide +kernel
theorem dX0_take_20 : decode cX0_take 20 = .ok (.iload_n 3, 1) := by decide +kernel
theorem dX0_take_21 : decode cX0_take 21 = .ok (.invokevirtual 73, 3) := by decide +kernel
theorem dX0_take_24 : decode cX0_take 24 = .ok (.aload_n 0, 1) := by decide +kernel
theorem dX0_take_25 : decode cX0_take 25 = .ok (.iload_n 1, 1) := by decide +kernel
theorem dX0_take_26 : decode cX0_take 26 = .ok (.iload_n 2, 1) := by decide +kernel
theorem dX0_take_27 : decode cX0_take 27 = .ok (.iload_n 3, 1) := by decide +kernel
theorem dX0_take_28 : decode cX0_take 28 = .ok (.invokevirtual 113, 3) := by decide +kernel
theorem dX0_take_31 : decode cX0_take 31 = .ok (.iadd, 1) := by decide +kernel
theorem dX0_take_32 : decode cX0_take 32 = .ok (.istore 5, 2) := by decide +kernel
theorem dX0_take_34 : decode cX0_take 34 = .ok (.aload_n 0, 1) := by decide +kernel
theorem dX0_take_35 : decode cX0_take 35 = .ok (.getfield 11, 3) := by decide +kernel
theorem dX0_take_38 : decode cX0_take 38 = .ok (.iload 4, 2) := by decide +kernel
theorem dX0_take_40 : decode cX0_take 40 = .ok (.aload_n 0, 1) := by decide +kernel
theorem dX0_take_41 : decode cX0_take 41 = .ok (.getfield 42, 3) := by decide +kernel
theorem dX0_take_44 : decode cX0_take 44 = .ok (.bipush 6, 2) := by decide +kernel
theorem dX0_take_46 : decode cX0_take 46 = .ok (.invokevirtual 85, 3) := by decide +kernel
theorem dX0_take_49 : decode cX0_take 49 = .ok (.iload 5, 2) := by decide +kernel
theorem dX0_take_51 : decode cX0_take 51 = .ok (.invokestatic 100, 3) := by decide +kernel
theorem dX0_take_54 : decode cX0_take 54 = .ok (.iastore, 1) := by decide +kernel
theorem dX0_take_55 : decode cX0_take 55 = .ok (.aload_n 0, 1) := by decide +kernel
theorem dX0_take_56 : decode cX0_take 56 = .ok (.getfield 17, 3) := by decide +kernel
theorem dX0_take_59 : decode cX0_take 59 = .ok (.iload 4, 2) := by decide +kernel
theorem dX0_take_61 : decode cX0_take 61 = .ok (.iload_n 3, 1) := by decide +kernel
theorem dX0_take_62 : decode cX0_take 62 = .ok (.iastore, 1) := by decide +kernel
theorem dX0_take_63 : decode cX0_take 63 = .ok (.aload_n 0, 1) := by decide +kernel
theorem dX0_take_64 : decode cX0_take 64 = .ok (.getfield 39, 3) := by decide +kernel
theorem dX0_take_67 : decode cX0_take 67 = .ok (.iload_n 1, 1) := by decide +kernel
theorem dX0_take_68 : decode cX0_take 68 = .ok (.iload_n 3, 1) := by decide +kernel
theorem dX0_take_69 : decode cX0_take 69 = .ok (.iastore, 1) := by decide +kernel
theorem dX0_take_70 : decode cX0_take 70 = .ok (.iload_n 2, 1) := by decide +kernel
theorem dX0_take_71 : decode cX0_take 71 = .ok (.iconst 2, 1) := by decide +kernel
theorem dX0_take_72 : decode cX0_take 72 = .ok (.if_icmp .eq 19, 3) := by decide +kernel
theorem dX0_take_75 : decode cX0_take 75 = .ok (.aload_n 0, 1) := by decide +kernel
theorem dX0_take_76 : decode cX0_take 76 = .ok (.getfield 27, 3) := by decide +kernel
theorem dX0_take_79 : decode cX0_take 79 = .ok (.iload_n 1, 1) := by decide +kernel
theorem dX0_take_80 : decode cX0_take 80 = .ok (.iload_n 2, 1) := by decide +kernel
theorem dX0_take_81 : decode cX0_take 81 = .ok (.iconst 1, 1) := by decide +kernel
theorem dX0_take_82 : decode cX0_take 82 = .ok (.if_icmp .ne 7, 3) := by decide +kernel
theorem dX0_take_85 : decode cX0_take 85 = .ok (.iconst 1, 1) := by decide +kernel
theorem dX0_take_86 : decode cX0_take 86 = .ok (.goto 4, 3) := by decide +kernel
theorem dX0_take_89 : decode cX0_take 89 = .ok (.iconst 0, 1) := by decide +kernel
theorem dX0_take_90 : decode cX0_take 90 = .ok (.bastore, 1) := by decide +kernel
theorem dX0_take_91 : decode cX0_take 91 = .ok (.aload_n 0, 1) := by decide +kernel
theorem dX0_take_92 : decode cX0_take 92 = .ok (.getfield 11, 3) := by decide +kernel
theorem dX0_take_95 : decode cX0_take 95 = .ok (.iload 4, 2) := by decide +kernel
theorem dX0_take_97 : decode cX0_take 97 = .ok (.iaload, 1) := by decide +kernel
theorem dX0_take_98 : decode cX0_take 98 = .ok (.aload_n 0, 1) := by decide +kernel
theorem dX0_take_99 : decode cX0_take 99 = .ok (.getfield 42, 3) := by decide +kernel
theorem dX0_take_102 : decode cX0_take 102 = .ok (.iconst 4, 1) := by decide +kernel
theorem dX0_take_103 : decode cX0_take 103 = .ok (.invokevirtual 85, 3) := by decide +kernel
theorem dX0_take_106 : decode cX0_take 106 = .ok (.if_icmp .le 16, 3) := by decide +kernel
theorem dX0_take_109 : decode cX0_take 109 = .ok (.aload_n 0, 1) := by decide +kernel
theorem dX0_take_110 : decode cX0_take 110 = .ok (.getfield 23, 3) := by decide +kernel
theorem dX0_take_113 : decode cX0_take 113 = .ok (.iload 4, 2) := by decide +kernel
theorem dX0_take_115 : decode cX0_take 115 = .ok (.iconst 1, 1) := by decide +kernel
theorem dX0_take_116 : decode cX0_take 116 = .ok (.bastore, 1) := by decide +kernel
theorem dX0_take_117 : decode cX0_take 117 = .ok (.aload_n 0, 1) := by decide +kernel
theorem dX0_take_118 : decode cX0_take 118 = .ok (.iconst 1, 1) := by decide +kernel
theorem dX0_take_119 : decode cX0_take 119 = .ok (.putfield 53, 3) := by decide +kernel
theorem dX0_take_122 : decode cX0_take 122 = .ok (.aload_n 0, 1) := by decide +kernel
theorem dX0_take_123 : decode cX0_take 123 = .ok (.iload 4, 2) := by decide +kernel
theorem dX0_take_125 : decode cX0_take 125 = .ok (.invokevirtual 109, 3) := by decide +kernel
theorem dX0_take_128 : decode cX0_take 128 = .ok (.return_, 1) := by decide +kernel
theorem dX0_weightOf_0 : decode cX0_weightOf 0 = .ok (.iload_n 2, 1) := by decide +kernel
theorem dX0_weightOf_1 : decode cX0_weightOf 1 = .ok (.ifCond .ne 19, 3) := by decide +kernel
theorem dX0_weightOf_4 : decode cX0_weightOf 4 = .ok (.aload_n 0, 1) := by decide +kernel
theorem dX0_weightOf_5 : decode cX0_weightOf 5 = .ok (.getfield 46, 3) := by decide +kernel
theorem dX0_weightOf_8 : decode cX0_weightOf 8 = .ok (.iload_n 1, 1) := by decide +kernel
theorem dX0_weightOf_9 : decode cX0_weightOf 9 = .ok (.invokevirtual 117, 3) := by decide +kernel
theorem dX0_weightOf_12 : decode cX0_weightOf 12 = .ok (.iconst 2, 1) := by decide +kernel
theorem dX0_weightOf_13 : decode cX0_weightOf 13 = .ok (.if_icmp .ne 7, 3) := by decide +kernel
theorem dX0_weightOf_16 : decode cX0_weightOf 16 = .ok (.iconst 1, 1) := by decide +kernel
theorem dX0_weightOf_17 : decode cX0_weightOf 17 = .ok (.goto 4, 3) := by decide +kernel
theorem dX0_weightOf_20 : decode cX0_weightOf 20 = .ok (.iconst 0, 1) := by decide +kernel
theorem dX0_weightOf_21 : decode cX0_weightOf 21 = .ok (.istore 4, 2) := by decide +kernel
theorem dX0_weightOf_23 : decode cX0_weightOf 23 = .ok (.iload 4, 2) := by decide +kernel
theorem dX0_weightOf_25 : decode cX0_weightOf 25 = .ok (.ifCond .eq 25, 3) := by decide +kernel
theorem dX0_weightOf_28 : decode cX0_weightOf 28 = .ok (.aload_n 0, 1) := by decide +kernel
theorem dX0_weightOf_29 : decode cX0_weightOf 29 = .ok (.getfield 39, 3) := by decide +kernel
theorem dX0_weightOf_32 : decode cX0_weightOf 32 = .ok (.iload_n 1, 1) := by decide +kernel
theorem dX0_weightOf_33 : decode cX0_weightOf 33 = .ok (.iaload, 1) := by decide +kernel
theorem dX0_weightOf_34 : decode cX0_weightOf 34 = .ok (.iload_n 3, 1) := by decide +kernel
theorem dX0_weightOf_35 : decode cX0_weightOf 35 = .ok (.aload_n 0, 1) := by decide +kernel
theorem dX0_weightOf_36 : decode cX0_weightOf 36 = .ok (.getfield 42, 3) := by decide +kernel
theorem dX0_weightOf_39 : decode cX0_weightOf 39 = .ok (.bipush 7, 2) := by decide +kernel
theorem dX0_weightOf_41 : decode cX0_weightOf 41 = .ok (.invokevirtual 85, 3) := by decide +kernel
theorem dX0_weightOf_44 : decode cX0_weightOf 44 = .ok (.isub, 1) := by decide +kernel
theorem dX0_weightOf_45 : decode cX0_weightOf 45 = .ok (.if_icmp .ge 5, 3) := by decide +kernel
theorem dX0_weightOf_48 : decode cX0_weightOf 48 = .ok (.iconst 0, 1) := by decide +kernel
theorem dX0_weightOf_49 : decode cX0_weightOf 49 = .ok (.ireturn, 1) := by decide +kernel
theorem dX0_weightOf_50 : decode cX0_weightOf 50 = .ok (.aload_n 0, 1) := by decide +kernel
theorem dX0_weightOf_51 : decode cX0_weightOf 51 = .ok (.getfield 42, 3) := by decide +kernel
theorem dX0_weightOf_54 : decode cX0_weightOf 54 = .ok (.iload_n 2, 1) := by decide +kernel
theorem dX0_weightOf_55 : decode cX0_weightOf 55 = .ok (.invokevirtual 85, 3) := by decide +kernel
theorem dX0_weightOf_58 : decode cX0_weightOf 58 = .ok (.ireturn, 1) := by decide +kernel
theorem dX0_lookAt_0 : decode cX0_lookAt 0 = .ok (.aload_n 0, 1) := by decide +kernel
theorem dX0_lookAt_1 : decode cX0_lookAt 1 = .ok (.iload_n 1, 1) := by decide +kernel
theorem dX0_lookAt_2 : decode cX0_lookAt 2 = .ok (.invokevirtual 103, 3) := by decide +kernel
theorem dX0_lookAt_5 : decode cX0_lookAt 5 = .ok (.istore_n 2, 1) := by decide +kernel
theorem dX0_lookAt_6 : decode cX0_lookAt 6 = .ok (.iload_n 2, 1) := by decide +kernel
theorem dX0_lookAt_7 : decode cX0_lookAt 7 = .ok (.aload_n 0, 1) := by decide +kernel
theorem dX0_lookAt_8 : decode cX0_lookAt 8 = .ok (.iload_n 1, 1) := by decide +kernel
theorem dX0_lookAt_9 : decode cX0_lookAt 9 = .ok (.invokevirtual 106, 3) := by decide +kernel
theorem dX0_lookAt_12 : decode cX0_lookAt 12 = .ok (.if_icmp .ge 72, 3) := by decide +kernel
theorem dX0_lookAt_15 : decode cX0_lookAt 15 = .ok (.aload_n 0, 1) := by decide +kernel
theorem dX0_lookAt_16 : decode cX0_lookAt 16 = .ok (.getfield 27, 3) := by decide +kernel
theorem dX0_lookAt_19 : decode cX0_lookAt 19 = .ok (.iload_n 2, 1) := by decide +kernel
theorem dX0_lookAt_20 : decode cX0_lookAt 20 = .ok (.baload, 1) := by decide +kernel
theorem dX0_lookAt_21 : decode cX0_lookAt 21 = .ok (.ifCond .eq 16, 3) := by decide +kernel
theorem dX0_lookAt_24 : decode cX0_lookAt 24 = .ok (.aload_n 0, 1) := by decide +kernel
theorem dX0_lookAt_25 : decode cX0_lookAt 25 = .ok (.getfield 23, 3) := by decide +kernel
theorem dX0_lookAt_28 : decode cX0_lookAt 28 = .ok (.iload_n 1, 1) := by decide +kernel
theorem dX0_lookAt_29 : decode cX0_lookAt 29 = .ok (.baload, 1) := by decide +kernel
theorem dX0_lookAt_30 : decode cX0_lookAt 30 = .ok (.ifCond .ne 7, 3) := by decide +kernel
theorem dX0_lookAt_33 : decode cX0_lookAt 33 = .ok (.iconst 1, 1) := by decide +kernel
theorem dX0_lookAt_34 : decode cX0_lookAt 34 = .ok (.goto 4, 3) := by decide +kernel
theorem dX0_lookAt_37 : decode cX0_lookAt 37 = .ok (.iconst 0, 1) := by decide +kernel
theorem dX0_lookAt_38 : decode cX0_lookAt 38 = .ok (.istore_n 3, 1) := by decide +kernel
theorem dX0_lookAt_39 : decode cX0_lookAt 39 = .ok (.aload_n 0, 1) := by decide +kernel
theorem dX0_lookAt_40 : decode cX0_lookAt 40 = .ok (.getfield 46, 3) := by decide +kernel
theorem dX0_lookAt_43 : decode cX0_lookAt 43 = .ok (.iload_n 2, 1) := by decide +kernel
theorem dX0_lookAt_44 : decode cX0_lookAt 44 = .ok (.invokevirtual 62, 3) := by decide +kernel
theorem dX0_lookAt_47 : decode cX0_lookAt 47 = .ok (.iload_n 1, 1) := by decide +kernel
theorem dX0_lookAt_48 : decode cX0_lookAt 48 = .ok (.if_icmp .ne 30, 3) := by decide +kernel
theorem dX0_lookAt_51 : decode cX0_lookAt 51 = .ok (.iload_n 3, 1) := by decide +kernel
theorem dX0_lookAt_52 : decode cX0_lookAt 52 = .ok (.aload_n 0, 1) := by decide +kernel
theorem dX0_lookAt_53 : decode cX0_lookAt 53 = .ok (.getfield 30, 3) := by decide +kernel
theorem dX0_lookAt_56 : decode cX0_lookAt 56 = .ok (.iload_n 2, 1) := by decide +kernel
theorem dX0_lookAt_57 : decode cX0_lookAt 57 = .ok (.baload, 1) := by decide +kernel
theorem dX0_lookAt_58 : decode cX0_lookAt 58 = .ok (.if_icmp .eq 20, 3) := by decide +kernel
theorem dX0_lookAt_61 : decode cX0_lookAt 61 = .ok (.aload_n 0, 1) := by decide +kernel
theorem dX0_lookAt_62 : decode cX0_lookAt 62 = .ok (.getfield 30, 3) := by decide +kernel
theorem dX0_lookAt_65 : decode cX0_lookAt 65 = .ok (.iload_n 2, 1) := by decide +kernel
theorem dX0_lookAt_66 : decode cX0_lookAt 66 = .ok (.iload_n 3, 1) := by decide +kernel
theorem dX0_lookAt_67 : decode cX0_lookAt 67 = .ok (.bastore, 1) := by decide +kernel
theorem dX0_lookAt_68 : decode cX0_lookAt 68 = .ok (.aload_n 0, 1) := by decide +kernel
theorem dX0_lookAt_69 : decode cX0_lookAt 69 = .ok (.getfield 33, 3) := by decide +kernel
theorem dX0_lookAt_72 : decode cX0_lookAt 72 = .ok (.iload_n 2, 1) := by decide +kernel
theorem dX0_lookAt_73 : decode cX0_lookAt 73 = .ok (.dup2, 1) := by decide +kernel
theorem dX0_lookAt_74 : decode cX0_lookAt 74 = .ok (.iaload, 1) := by decide +kernel
theorem dX0_lookAt_75 : decode cX0_lookAt 75 = .ok (.iconst 1, 1) := by decide +kernel
theorem dX0_lookAt_76 : decode cX0_lookAt 76 = .ok (.iadd, 1) := by decide +kernel
theorem dX0_lookAt_77 : decode cX0_lookAt 77 = .ok (.iastore, 1) := by decide +kernel
theorem dX0_lookAt_78 : decode cX0_lookAt 78 = .ok (.iinc 2 1, 3) := by decide +kernel
theorem dX0_lookAt_81 : decode cX0_lookAt 81 = .ok (.goto (-75), 3) := by decide +kernel
theorem dX0_lookAt_84 : decode cX0_lookAt 84 = .ok (.return_, 1) := by decide +kernel
theorem dX0_firstOf_0 : decode cX0_firstOf 0 = .ok (.iload_n 1, 1) := by decide +kernel
theorem dX0_firstOf_1 : decode cX0_firstOf 1 = .ok (.bipush 12, 2) := by decide +kernel
theorem dX0_firstOf_3 : decode cX0_firstOf 3 = .ok (.if_icmp .ge 7, 3) := by decide +kernel
theorem dX0_firstOf_6 : decode cX0_firstOf 6 = .ok (.iload_n 1, 1) := by decide +kernel
theorem dX0_firstOf_7 : decode cX0_firstOf 7 = .ok (.goto 4, 3) := by decide +kernel
theorem dX0_firstOf_10 : decode cX0_firstOf 10 = .ok (.iconst 0, 1) := by decide +kernel
theorem dX0_firstOf_11 : decode cX0_firstOf 11 = .ok (.ireturn, 1) := by decide +kernel
theorem dX0_endOf_0 : decode cX0_endOf 0 = .ok (.aload_n 0, 1) := by decide +kernel
theorem dX0_endOf_1 : decode cX0_endOf 1 = .ok (.getfield 46, 3) := by decide +kernel
theorem dX0_endOf_4 : decode cX0_endOf 4 = .ok (.invokevirtual 69, 3) := by decide +kernel
theorem dX0_endOf_7 : decode cX0_endOf 7 = .ok (.iload_n 1, 1) := by decide +kernel
theorem dX0_endOf_8 : decode cX0_endOf 8 = .ok (.bipush 12, 2) := by decide +kernel
theorem dX0_endOf_10 : decode cX0_endOf 10 = .ok (.if_icmp .ge 9, 3) := by decide +kernel
theorem dX0_endOf_13 : decode cX0_endOf 13 = .ok (.iload_n 1, 1) := by decide +kernel
theorem dX0_endOf_14 : decode cX0_endOf 14 = .ok (.iconst 1, 1) := by decide +kernel
theorem dX0_endOf_15 : decode cX0_endOf 15 = .ok (.iadd, 1) := by decide +kernel
theorem dX0_endOf_16 : decode cX0_endOf 16 = .ok (.goto 5, 3) := by decide +kernel
theorem dX0_endOf_19 : decode cX0_endOf 19 = .ok (.bipush 12, 2) := by decide +kernel
theorem dX0_endOf_21 : decode cX0_endOf 21 = .ok (.invokestatic 100, 3) := by decide +kernel
theorem dX0_endOf_24 : decode cX0_endOf 24 = .ok (.ireturn, 1) := by decide +kernel
theorem dX1_init_0 : decode cX1_init 0 = .ok (.aload_n 0, 1) := by decide +kernel
theorem dX1_init_1 : decode cX1_init 1 = .ok (.invokespecial 3, 3) := by decide +kernel
theorem dX1_init_4 : decode cX1_init 4 = .ok (.aload_n 0, 1) := by decide +kernel
theorem dX1_init_5 : decode cX1_init 5 = .ok (.sipush 300, 3) := by decide +kernel
theorem dX1_init_8 : decode cX1_init 8 = .ok (.newarray .int, 2) := by decide +kernel
theorem dX1_init_10 : decode cX1_init 10 = .ok (.putfield 9, 3) := by decide +kernel
theorem dX1_init_13 : decode cX1_init 13 = .ok (.aload_n 0, 1) := by decide +kernel
theorem dX1_init_14 : decode cX1_init 14 = .ok (.sipush 300, 3) := by decide +kernel
theorem dX1_init_17 : decode cX1_init 17 = .ok (.newarray .int, 2) := by decide +kernel
theorem dX1_init_19 : decode cX1_init 19 = .ok (.putfield 15, 3) := by decide +kernel
theorem dX1_init_22 : decode cX1_init 22 = .ok (.aload_n 0, 1) := by decide +kernel
theorem dX1_init_23 : decode cX1_init 23 = .ok (.sipush 300, 3) := by decide +kernel
theorem dX1_init_26 : decode cX1_init 26 = .ok (.newarray .int, 2) := by decide +kernel
theorem dX1_init_28 : decode cX1_init 28 = .ok (.putfield 18, 3) := by decide +kernel
theorem dX1_init_31 : decode cX1_init 31 = .ok (.aload_n 0, 1) := by decide +kernel
theorem dX1_init_32 : decode cX1_init 32 = .ok (.iconst 0, 1) := by decide +kernel
theorem dX1_init_33 : decode cX1_init 33 = .ok (.putfield 21, 3) := by decide +kernel
theorem dX1_init_36 : decode cX1_init 36 = .ok (.return_, 1) := by decide +kernel
theorem dX1_size_0 : decode cX1_size 0 = .ok (.aload_n 0, 1) := by decide +kernel
theorem dX1_size_1 : decode cX1_size 1 = .ok (.getfield 21, 3) := by decide +kernel
theorem dX1_size_4 : decode cX1_size 4 = .ok (.ireturn, 1) := by decide +kernel
theorem dX1_isFull_0 : decode cX1_isFull 0 = .ok (.aload_n 0, 1) := by decide +kernel
theorem dX1_isFull_1 : decode cX1_isFull 1 = .ok (.getfield 21, 3) := by decide +kernel
theorem dX1_isFull_4 : decode cX1_isFull 4 = .ok (.sipush 300, 3) := by decide +kernel
theorem dX1_isFull_7 : decode cX1_isFull 7 = .ok (.if_icmp .lt 7, 3) := by decide +kernel
theorem dX1_isFull_10 : decode cX1_isFull 10 = .ok (.iconst 1, 1) := by decide +kernel
theorem dX1_isFull_11 : decode cX1_isFull 11 = .ok (.goto 4, 3) := by decide +kernel
theorem dX1_isFull_14 : decode cX1_isFull 14 = .ok (.iconst 0, 1) := by decide +kernel
theorem dX1_isFull_15 : decode cX1_isFull 15 = .ok (.ireturn, 1) := by decide +kernel
theorem dX1_write_0 : decode cX1_write 0 = .ok (.aload_n 0, 1) := by decide +kernel
theorem dX1_write_1 : decode cX1_write 1 = .ok (.getfield 9, 3) := by decide +kernel
theorem dX1_write_4 : decode cX1_write 4 = .ok (.aload_n 0, 1) := by decide +kernel
theorem dX1_write_5 : decode cX1_write 5 = .ok (.getfield 21, 3) := by decide +kernel
theorem dX1_write_8 : decode cX1_write 8 = .ok (.iload_n 1, 1) := by decide +kernel
theorem dX1_write_9 : decode cX1_write 9 = .ok (.iastore, 1) := by decide +kernel
theorem dX1_write_10 : decode cX1_write 10 = .ok (.aload_n 0, 1) := by decide +kernel
theorem dX1_write_11 : decode cX1_write 11 = .ok (.getfield 15, 3) := by decide +kernel
theorem dX1_write_14 : decode cX1_write 14 = .ok (.aload_n 0, 1) := by decide +kernel
theorem dX1_write_15 : decode cX1_write 15 = .ok (.getfield 21, 3) := by decide +kernel
theorem dX1_write_18 : decode cX1_write 18 = .ok (.iload_n 2, 1) := by decide +kernel
theorem dX1_write_19 : decode cX1_write 19 = .ok (.iastore, 1) := by decide +kernel
theorem dX1_write_20 : decode cX1_write 20 = .ok (.aload_n 0, 1) := by decide +kernel
theorem dX1_write_21 : decode cX1_write 21 = .ok (.getfield 18, 3) := by decide +kernel
theorem dX1_write_24 : decode cX1_write 24 = .ok (.aload_n 0, 1) := by decide +kernel
theorem dX1_write_25 : decode cX1_write 25 = .ok (.getfield 21, 3) := by decide +kernel
theorem dX1_write_28 : decode cX1_write 28 = .ok (.iload_n 3, 1) := by decide +kernel
theorem dX1_write_29 : decode cX1_write 29 = .ok (.iastore, 1) := by decide +kernel
theorem dX1_write_30 : decode cX1_write 30 = .ok (.aload_n 0, 1) := by decide +kernel
theorem dX1_write_31 : decode cX1_write 31 = .ok (.dup, 1) := by decide +kernel
theorem dX1_write_32 : decode cX1_write 32 = .ok (.getfield 21, 3) := by decide +kernel
theorem dX1_write_35 : decode cX1_write 35 = .ok (.iconst 1, 1) := by decide +kernel
theorem dX1_write_36 : decode cX1_write 36 = .ok (.iadd, 1) := by decide +kernel
theorem dX1_write_37 : decode cX1_write 37 = .ok (.putfield 21, 3) := by decide +kernel
theorem dX1_write_40 : decode cX1_write 40 = .ok (.return_, 1) := by decide +kernel
theorem dX1_lineAt_0 : decode cX1_lineAt 0 = .ok (.aload_n 0, 1) := by decide +kernel
theorem dX1_lineAt_1 : decode cX1_lineAt 1 = .ok (.getfield 9, 3) := by decide +kernel
theorem dX1_lineAt_4 : decode cX1_lineAt 4 = .ok (.iload_n 1, 1) := by decide +kernel
theorem dX1_lineAt_5 : decode cX1_lineAt 5 = .ok (.iaload, 1) := by decide +kernel
theorem dX1_lineAt_6 : decode cX1_lineAt 6 = .ok (.ireturn, 1) := by decide +kernel
theorem dX1_whatAt_0 : decode cX1_whatAt 0 = .ok (.aload_n 0, 1) := by decide +kernel
theorem dX1_whatAt_1 : decode cX1_whatAt 1 = .ok (.getfield 15, 3) := by decide +kernel
theorem dX1_whatAt_4 : decode cX1_whatAt 4 = .ok (.iload_n 1, 1) := by decide +kernel
theorem dX1_whatAt_5 : decode cX1_whatAt 5 = .ok (.iaload, 1) := by decide +kernel
theorem dX1_whatAt_6 : decode cX1_whatAt 6 = .ok (.ireturn, 1) := by decide +kernel
theorem dX1_tickAt_0 : decode cX1_tickAt 0 = .ok (.aload_n 0, 1) := by decide +kernel
theorem dX1_tickAt_1 : decode cX1_tickAt 1 = .ok (.getfield 18, 3) := by decide +kernel
theorem dX1_tickAt_4 : decode cX1_tickAt 4 = .ok (.iload_n 1, 1) := by decide +kernel
theorem dX1_tickAt_5 : decode cX1_tickAt 5 = .ok (.iaload, 1) := by decide +kernel
theorem dX1_tickAt_6 : decode cX1_tickAt 6 = .ok (.ireturn, 1) := by decide +kernel
theorem dX2_init_0 : decode cX2_init 0 = .ok (.aload_n 0, 1) := by decide +kernel
theorem dX2_init_1 : decode cX2_init 1 = .ok (.invokespecial 3, 3) := by decide +kernel
theorem dX2_init_4 : decode cX2_init 4 = .ok (.aload_n 0, 1) := by decide +kernel
theorem dX2_init_5 : decode cX2_init 5 = .ok (.bipush 25, 2) := by decide +kernel
theorem dX2_init_7 : decode cX2_init 7 = .ok (.newarray .boolean, 2) := by decide +kernel
theorem dX2_init_9 : decode cX2_init 9 = .ok (.putfield 11, 3) := by decide +kernel
theorem dX2_init_12 : decode cX2_init 12 = .ok (.aload_n 0, 1) := by decide +kernel
theorem dX2_init_13 : decode cX2_init 13 = .ok (.bipush 25, 2) := by decide +kernel
theorem dX2_init_15 : decode cX2_init 15 = .ok (.newarray .int, 2) := by decide +kernel
theorem dX2_init_17 : decode cX2_init 17 = .ok (.putfield 15, 3) := by decide +kernel
theorem dX2_init_20 : decode cX2_init 20 = .ok (.aload_n 0, 1) := by decide +kernel
theorem dX2_init_21 : decode cX2_init 21 = .ok (.bipush 25, 2) := by decide +kernel
theorem dX2_init_23 : decode cX2_init 23 = .ok (.newarray .int, 2) := by decide +kernel
theorem dX2_init_25 : decode cX2_init 25 = .ok (.putfield 19, 3) := by decide +kernel
theorem dX2_init_28 : decode cX2_init 28 = .ok (.aload_n 0, 1) := by decide +kernel
theorem dX2_init_29 : decode cX2_init 29 = .ok (.iconst 5, 1) := by decide +kernel
theorem dX2_init_30 : decode cX2_init 30 = .ok (.newarray .int, 2) := by decide +kernel
theorem dX2_init_32 : decode cX2_init 32 = .ok (.putfield 22, 3) := by decide +kernel
theorem dX2_init_35 : decode cX2_init 35 = .ok (.aload_n 0, 1) := by decide +kernel
theorem dX2_init_36 : decode cX2_init 36 = .ok (.iconst 5, 1) := by decide +kernel
theorem dX2_init_37 : decode cX2_init 37 = .ok (.newarray .int, 2) := by decide +kernel
theorem dX2_init_39 : decode cX2_init 39 = .ok (.putfield 25, 3) := by decide +kernel
theorem dX2_init_42 : decode cX2_init 42 = .ok (.aload_n 0, 1) := by decide +kernel
theorem dX2_init_43 : decode cX2_init 43 = .ok (.sipush 2000, 3) := by decide +kernel
theorem dX2_init_46 : decode cX2_init 46 = .ok (.newarray .int, 2) := by decide +kernel
theorem dX2_init_48 : decode cX2_init 48 = .ok (.putfield 28, 3) := by decide +kernel
theorem dX2_init_51 : decode cX2_init 51 = .ok (.aload_n 0, 1) := by decide +kernel
theorem dX2_init_52 : decode cX2_init 52 = .ok (.iconst 0, 1) := by decide +kernel
theorem dX2_init_53 : decode cX2_init 53 = .ok (.putfield 31, 3) := by decide +kernel
theorem dX2_init_56 : decode cX2_init 56 = .ok (.aload_n 0, 1) := by decide +kernel
theorem dX2_init_57 : decode cX2_init 57 = .ok (.iconst 0, 1) := by decide +kernel
theorem dX2_init_58 : decode cX2_init 58 = .ok (.putfield 35, 3) := by decide +kernel
theorem dX2_init_61 : decode cX2_init 61 = .ok (.aload_n 0, 1) := by decide +kernel
theorem dX2_init_62 : decode cX2_init 62 = .ok (.iconst 0, 1) := by decide +kernel
theorem dX2_init_63 : decode cX2_init 63 = .ok (.putfield 38, 3) := by decide +kernel
theorem dX2_init_66 : decode cX2_init 66 = .ok (.aload_n 0, 1) := by decide +kernel
theorem dX2_init_67 : decode cX2_init 67 = .ok (.iconst 0, 1) := by decide +kernel
theorem dX2_init_68 : decode cX2_init 68 = .ok (.putfield 41, 3) := by decide +kernel
theorem dX2_init_71 : decode cX2_init 71 = .ok (.aload_n 0, 1) := by decide +kernel
theorem dX2_init_72 : decode cX2_init 72 = .ok (.iconst 0, 1) := by decide +kernel
theorem dX2_init_73 : decode cX2_init 73 = .ok (.putfield 44, 3) := by decide +kernel
theorem dX2_init_76 : decode cX2_init 76 = .ok (.iconst 0, 1) := by decide +kernel
theorem dX2_init_77 : decode cX2_init 77 = .ok (.istore_n 1, 1) := by decide +kernel
theorem dX2_init_78 : decode cX2_init 78 = .ok (.iload_n 1, 1) := by decide +kernel
theorem dX2_init_79 : decode cX2_init 79 = .ok (.aload_n 0, 1) := by decide +kernel
theorem dX2_init_80 : decode cX2_init 80 = .ok (.getfield 19, 3) := by decide +kernel
theorem dX2_init_83 : decode cX2_init 83 = .ok (.arraylength, 1) := by decide +kernel
theorem dX2_init_84 : decode cX2_init 84 = .ok (.if_icmp .ge 16, 3) := by decide +kernel
theorem dX2_init_87 : decode cX2_init 87 = .ok (.aload_n 0, 1) := by decide +kernel
theorem dX2_init_88 : decode cX2_init 88 = .ok (.getfield 19, 3) := by decide +kernel
theorem dX2_init_91 : decode cX2_init 91 = .ok (.iload_n 1, 1) := by decide +kernel
theorem dX2_init_92 : decode cX2_init 92 = .ok (.iconst (-1), 1) := by decide +kernel
theorem dX2_init_93 : decode cX2_init 93 = .ok (.iastore, 1) := by decide +kernel
theorem dX2_init_94 : decode cX2_init 94 = .ok (.iinc 1 1, 3) := by decide +kernel
theorem dX2_init_97 : decode cX2_init 97 = .ok (.goto (-19), 3) := by decide +kernel
theorem dX2_init_100 : decode cX2_init 100 = .ok (.return_, 1) := by decide +kernel
theorem dX2_isHouse_0 : decode cX2_isHouse 0 = .ok (.iload_n 0, 1) := by decide +kernel
theorem dX2_isHouse_1 : decode cX2_isHouse 1 = .ok (.ifCond .lt 12, 3) := by decide +kernel
theorem dX2_isHouse_4 : decode cX2_isHouse 4 = .ok (.iload_n 0, 1) := by decide +kernel
theorem dX2_isHouse_5 : decode cX2_isHouse 5 = .ok (.iconst 5, 1) := by decide +kernel
theorem dX2_isHouse_6 : decode cX2_isHouse 6 = .ok (.if_icmp .ge 7, 3) := by decide +kernel
theorem dX2_isHouse_9 : decode cX2_isHouse 9 = .ok (.iconst 1, 1) := by decide +kernel
theorem dX2_isHouse_10 : decode cX2_isHouse 10 = .ok (.goto 4, 3) := by decide +kernel
theorem dX2_isHouse_13 : decode cX2_isHouse 13 = .ok (.iconst 0, 1) := by decide +kernel
theorem dX2_isHouse_14 : decode cX2_isHouse 14 = .ok (.ireturn, 1) := by decide +kernel
theorem dX2_place_0 : decode cX2_place 0 = .ok (.iload_n 0, 1) := by decide +kernel
theorem dX2_place_1 : decode cX2_place 1 = .ok (.iconst 5, 1) := by decide +kernel
theorem dX2_place_2 : decode cX2_place 2 = .ok (.imul, 1) := by decide +kernel
theorem dX2_place_3 : decode cX2_place 3 = .ok (.iload_n 1, 1) := by decide +kernel
theorem dX2_place_4 : decode cX2_place 4 = .ok (.iadd, 1) := by decide +kernel
theorem dX2_place_5 : decode cX2_place 5 = .ok (.ireturn, 1) := by decide +kernel
theorem dX2_hasWay_0 : decode cX2_hasWay 0 = .ok (.aload_n 0, 1) := by decide +kernel
theorem dX2_hasWay_1 : decode cX2_hasWay 1 = .ok (.getfield 11, 3) := by decide +kernel
theorem dX2_hasWay_4 : decode cX2_hasWay 4 = .ok (.iload_n 1, 1) := by decide +kernel
theorem dX2_hasWay_5 : decode cX2_hasWay 5 = .ok (.iload_n 2, 1) := by decide +kernel
theorem dX2_hasWay_6 : decode cX2_hasWay 6 = .ok (.invokestatic 48, 3) := by decide +kernel
theorem dX2_hasWay_9 : decode cX2_hasWay 9 = .ok (.baload, 1) := by decide +kernel
theorem dX2_hasWay_10 : decode cX2_hasWay 10 = .ok (.ireturn, 1) := by decide +kernel
theorem dX2_putWay_0 : decode cX2_putWay 0 = .ok (.aload_n 0, 1) := by decide +kernel
theorem dX2_putWay_1 : decode cX2_putWay 1 = .ok (.getfield 11, 3) := by decide +kernel
theorem dX2_putWay_4 : decode cX2_putWay 4 = .ok (.iload_n 1, 1) := by decide +kernel
theorem dX2_putWay_5 : decode cX2_putWay 5 = .ok (.iload_n 2, 1) := by decide +kernel
theorem dX2_putWay_6 : decode cX2_putWay 6 = .ok (.invokestatic 48, 3) := by decide +kernel
theorem dX2_putWay_9 : decode cX2_putWay 9 = .ok (.iload_n 3, 1) := by decide +kernel
theorem dX2_putWay_10 : decode cX2_putWay 10 = .ok (.bastore, 1) := by decide +kernel
theorem dX2_putWay_11 : decode cX2_putWay 11 = .ok (.aload_n 0, 1) := by decide +kernel
theorem dX2_putWay_12 : decode cX2_putWay 12 = .ok (.getfield 11, 3) := by decide +kernel
theorem dX2_putWay_15 : decode cX2_putWay 15 = .ok (.iload_n 2, 1) := by decide +kernel
theorem dX2_putWay_16 : decode cX2_putWay 16 = .ok (.iload_n 1, 1) := by decide +kernel
theorem dX2_putWay_17 : decode cX2_putWay 17 = .ok (.invokestatic 48, 3) := by decide +kernel
theorem dX2_putWay_20 : decode cX2_putWay 20 = .ok (.iload_n 3, 1) := by decide +kernel
theorem dX2_putWay_21 : decode cX2_putWay 21 = .ok (.bastore, 1) := by decide +kernel
theorem dX2_putWay_22 : decode cX2_putWay 22 = .ok (.aload_n 0, 1) := by decide +kernel
theorem dX2_putWay_23 : decode cX2_putWay 23 = .ok (.dup, 1) := by decide +kernel
theorem dX2_putWay_24 : decode cX2_putWay 24 = .ok (.getfield 41, 3) := by decide +kernel
theorem dX2_putWay_27 : decode cX2_putWay 27 = .ok (.iload_n 3, 1) := by decide +kernel
theorem dX2_putWay_28 : decode cX2_putWay 28 = .ok (.ifCond .eq 7, 3) := by decide +kernel
theorem dX2_putWay_31 : decode cX2_putWay 31 = .ok (.iconst 1, 1) := by decide +kernel
theorem dX2_putWay_32 : decode cX2_putWay 32 = .ok (.goto 4, 3) := by decide +kernel
theorem dX2_putWay_35 : decode cX2_putWay 35 = .ok (.iconst (-1), 1) := by decide +kernel
theorem dX2_putWay_36 : decode cX2_putWay 36 = .ok (.iadd, 1) := by decide +kernel
theorem dX2_putWay_37 : decode cX2_putWay 37 = .ok (.putfield 41, 3) := by decide +kernel
theorem dX2_putWay_40 : decode cX2_putWay 40 = .ok (.iload_n 3, 1) := by decide +kernel
theorem dX2_putWay_41 : decode cX2_putWay 41 = .ok (.ifCond .ne 25, 3) := by decide +kernel
theorem dX2_putWay_44 : decode cX2_putWay 44 = .ok (.aload_n 0, 1) := by decide +kernel
theorem dX2_putWay_45 : decode cX2_putWay 45 = .ok (.getfield 15, 3) := by decide +kernel
theorem dX2_putWay_48 : decode cX2_putWay 48 = .ok (.iload_n 1, 1) := by decide +kernel
theorem dX2_putWay_49 : decode cX2_putWay 49 = .ok (.iload_n 2, 1) := by decide +kernel
theorem dX2_putWay_50 : decode cX2_putWay 50 = .ok (.invokestatic 48, 3) := by decide +kernel
theorem dX2_putWay_53 : decode cX2_putWay 53 = .ok (.iconst 0, 1) := by decide +kernel
theorem dX2_putWay_54 : decode cX2_putWay 54 = .ok (.iastore, 1) := by decide +kernel
theorem dX2_putWay_55 : decode cX2_putWay 55 = .ok (.aload_n 0, 1) := by decide +kernel
theorem dX2_putWay_56 : decode cX2_putWay 56 = .ok (.getfield 15, 3) := by decide +kernel
theorem dX2_putWay_59 : decode cX2_putWay 59 = .ok (.iload_n 2, 1) := by decide +kernel
theorem dX2_putWay_60 : decode cX2_putWay 60 = .ok (.iload_n 1, 1) := by decide +kernel
theorem dX2_putWay_61 : decode cX2_putWay 61 = .ok (.invokestatic 48, 3) := by decide +kernel
theorem dX2_putWay_64 : decode cX2_putWay 64 = .ok (.iconst 0, 1) := by decide +kernel
theorem dX2_putWay_65 : decode cX2_putWay 65 = .ok (.iastore, 1) := by decide +kernel
theorem dX2_putWay_66 : decode cX2_putWay 66 = .ok (.return_, 1) := by decide +kernel
theorem dX2_ways_0 : decode cX2_ways 0 = .ok (.aload_n 0, 1) := by decide +kernel
theorem dX2_ways_1 : decode cX2_ways 1 = .ok (.getfield 41, 3) := by decide +kernel
theorem dX2_ways_4 : decode cX2_ways 4 = .ok (.ireturn, 1) := by decide +kernel
theorem dX2_putBound_0 : decode cX2_putBound 0 = .ok (.aload_n 0, 1) := by decide +kernel
theorem dX2_putBound_1 : decode cX2_putBound 1 = .ok (.getfield 19, 3) := by decide +kernel
theorem dX2_putBound_4 : decode cX2_putBound 4 = .ok (.iload_n 1, 1) := by decide +kernel
theorem dX2_putBound_5 : decode cX2_putBound 5 = .ok (.iload_n 2, 1) := by decide +kernel
theorem dX2_putBound_6 : decode cX2_putBound 6 = .ok (.invokestatic 48, 3) := by decide +kernel
theorem dX2_putBound_9 : decode cX2_putBound 9 = .ok (.iload_n 3, 1) := by decide +kernel
theorem dX2_putBound_10 : decode cX2_putBound 10 = .ok (.iastore, 1) := by decide +kernel
theorem dX2_putBound_11 : decode cX2_putBound 11 = .ok (.return_, 1) := by decide +kernel
theorem dX2_echoesOf_0 : decode cX2_echoesOf 0 = .ok (.aload_n 0, 1) := by decide +kernel
theorem dX2_echoesOf_1 : decode cX2_echoesOf 1 = .ok (.getfield 25, 3) := by decide +kernel
theorem dX2_echoesOf_4 : decode cX2_echoesOf 4 = .ok (.iload_n 1, 1) := by decide +kernel
theorem dX2_echoesOf_5 : decode cX2_echoesOf 5 = .ok (.iaload, 1) := by decide +kernel
theorem dX2_echoesOf_6 : decode cX2_echoesOf 6 = .ok (.ireturn, 1) := by decide +kernel
theorem dX2_lettersOfAll_0 : decode cX2_lettersOfAll 0 = .ok (.aload_n 0, 1) := by decide +kernel
theorem dX2_lettersOfAll_1 : decode cX2_lettersOfAll 1 = .ok (.getfield 38, 3) := by decide +kernel
theorem dX2_lettersOfAll_4 : decode cX2_lettersOfAll 4 = .ok (.ireturn, 1) := by decide +kernel
theorem dX2_ownAt_0 : decode cX2_ownAt 0 = .ok (.iload_n 2, 1) := by decide +kernel
theorem dX2_ownAt_1 : decode cX2_ownAt 1 = .ok (.iconst 5, 1) := by decide +kernel
theorem dX2_ownAt_2 : decode cX2_ownAt 2 = .ok (.if_icmp .lt 5, 3) := by decide +kernel
theorem dX2_ownAt_5 : decode cX2_ownAt 5 = .ok (.iconst (-1), 1) := by decide +kernel
theorem dX2_ownAt_6 : decode cX2_ownAt 6 = .ok (.ireturn, 1) := by decide +kernel
theorem dX2_ownAt_7 : decode cX2_ownAt 7 = .ok (.aload_n 0, 1) := by decide +kernel
theorem dX2_ownAt_8 : decode cX2_ownAt 8 = .ok (.getfield 22, 3) := by decide +kernel
theorem dX2_ownAt_11 : decode cX2_ownAt 11 = .ok (.iload_n 1, 1) := by decide +kernel
theorem dX2_ownAt_12 : decode cX2_ownAt 12 = .ok (.iaload, 1) := by decide +kernel
theorem dX2_ownAt_13 : decode cX2_ownAt 13 = .ok (.iconst 3, 1) := by decide +kernel
theorem dX2_ownAt_14 : decode cX2_ownAt 14 = .ok (.iload_n 2, 1) := by decide +kernel
theorem dX2_ownAt_15 : decode cX2_ownAt 15 = .ok (.imul, 1) := by decide +kernel
theorem dX2_ownAt_16 : decode cX2_ownAt 16 = .ok (.ishr, 1) := by decide +kernel
theorem dX2_ownAt_17 : decode cX2_ownAt 17 = .ok (.bipush 7, 2) := by decide +kernel
theorem dX2_ownAt_19 : decode cX2_ownAt 19 = .ok (.iand, 1) := by decide +kernel
theorem dX2_ownAt_20 : decode cX2_ownAt 20 = .ok (.iconst 1, 1) := by decide +kernel
theorem dX2_ownAt_21 : decode cX2_ownAt 21 = .ok (.isub, 1) := by decide +kernel
theorem dX2_ownAt_22 : decode cX2_ownAt 22 = .ok (.ireturn, 1) := by decide +kernel
theorem dX2_startFlood_0 : decode cX2_startFlood 0 = .ok (.aload_n 0, 1) := by decide +kernel
theorem dX2_startFlood_1 : decode cX2_startFlood 1 = .ok (.iload_n 1, 1) := by decide +kernel
theorem dX2_startFlood_2 : decode cX2_startFlood 2 = .ok (.putfield 44, 3) := by decide +kernel
theorem dX2_startFlood_5 : decode cX2_startFlood 5 = .ok (.aload_n 0, 1) := by decide +kernel
theorem dX2_startFlood_6 : decode cX2_startFlood 6 = .ok (.iconst 0, 1) := by decide +kernel
theorem dX2_startFlood_7 : decode cX2_startFlood 7 = .ok (.putfield 31, 3) := by decide +kernel
theorem dX2_startFlood_10 : decode cX2_startFlood 10 = .ok (.aload_n 0, 1) := by decide +kernel
theorem dX2_startFlood_11 : decode cX2_startFlood 11 = .ok (.iconst 0, 1) := by decide +kernel
theorem dX2_startFlood_12 : decode cX2_startFlood 12 = .ok (.putfield 35, 3) := by decide +kernel
theorem dX2_startFlood_15 : decode cX2_startFlood 15 = .ok (.iconst 0, 1) := by decide +kernel
theorem dX2_startFlood_16 : decode cX2_startFlood 16 = .ok (.istore_n 2, 1) := by decide +kernel
theorem dX2_startFlood_17 : decode cX2_startFlood 17 = .ok (.iload_n 2, 1) := by decide +kernel
theorem dX2_startFlood_18 : decode cX2_startFlood 18 = .ok (.iconst 5, 1) := by decide +kernel
theorem dX2_startFlood_19 : decode cX2_startFlood 19 = .ok (.if_icmp .ge 16, 3) := by decide +kernel
theorem dX2_startFlood_22 : decode cX2_startFlood 22 = .ok (.aload_n 0, 1) := by decide +kernel
theorem dX2_startFlood_23 : decode cX2_startFlood 23 = .ok (.getfield 25, 3) := by decide +kernel
theorem dX2_startFlood_26 : decode cX2_startFlood 26 = .ok (.iload_n 2, 1) := by decide +kernel
theorem dX2_startFlood_27 : decode cX2_startFlood 27 = .ok (.iconst 0, 1) := by decide +kernel
theorem dX2_startFlood_28 : decode cX2_startFlood 28 = .ok (.iastore, 1) := by decide +kernel
theorem dX2_startFlood_29 : decode cX2_startFlood 29 = .ok (.iinc 2 1, 3) := by decide +kernel
theorem dX2_startFlood_32 : decode cX2_startFlood 32 = .ok (.goto (-15), 3) := by decide +kernel
theorem dX2_startFlood_35 : decode cX2_startFlood 35 = .ok (.iconst 0, 1) := by decide +kernel
theorem dX2_startFlood_36 : decode cX2_startFlood 36 = .ok (.istore_n 2, 1) := by decide +kernel
theorem dX2_startFlood_37 : decode cX2_startFlood 37 = .ok (.iload_n 2, 1) := by decide +kernel
theorem dX2_startFlood_38 : decode cX2_startFlood 38 = .ok (.iconst 5, 1) := by decide +kernel
theorem dX2_startFlood_39 : decode cX2_startFlood 39 = .ok (.if_icmp .ge 14, 3) := by decide +kernel
theorem dX2_startFlood_42 : decode cX2_startFlood 42 = .ok (.aload_n 0, 1) := by decide +kernel
theorem dX2_startFlood_43 : decode cX2_startFlood 43 = .ok (.iload_n 2, 1) := by decide +kernel
theorem dX2_startFlood_44 : decode cX2_startFlood 44 = .ok (.invokevirtual 52, 3) := by decide +kernel
theorem dX2_startFlood_47 : decode cX2_startFlood 47 = .ok (.iinc 2 1, 3) := by decide +kernel
theorem dX2_startFlood_50 : decode cX2_startFlood 50 = .ok (.goto (-13), 3) := by decide +kernel
theorem dX2_startFlood_53 : decode cX2_startFlood 53 = .ok (.return_, 1) := by decide +kernel
theorem dX2_hasLetter_0 : decode cX2_hasLetter 0 = .ok (.aload_n 0, 1) := by decide +kernel
theorem dX2_hasLetter_1 : decode cX2_hasLetter 1 = .ok (.getfield 35, 3) := by decide +kernel
theorem dX2_hasLetter_4 : decode cX2_hasLetter 4 = .ok (.aload_n 0, 1) := by decide +kernel
theorem dX2_hasLetter_5 : decode cX2_hasLetter 5 = .ok (.getfield 31, 3) := by decide +kernel
theorem dX2_hasLetter_8 : decode cX2_hasLetter 8 = .ok (.if_icmp .ge 7, 3) := by decide +kernel
theorem dX2_hasLetter_11 : decode cX2_hasLetter 11 = .ok (.iconst 1, 1) := by decide +kernel
theorem dX2_hasLetter_12 : decode cX2_hasLetter 12 = .ok (.goto 4, 3) := by decide +kernel
theorem dX2_hasLetter_15 : decode cX2_hasLetter 15 = .ok (.iconst 0, 1) := by decide +kernel
theorem dX2_hasLetter_16 : decode cX2_hasLetter 16 = .ok (.ireturn, 1) := by decide +kernel
theorem dX2_takeLetter_0 : decode cX2_takeLetter 0 = .ok (.aload_n 0, 1) := by decide +kernel
theorem dX2_takeLetter_1 : decode cX2_takeLetter 1 = .ok (.invokevirtual 56, 3) := by decide +kernel
theorem dX2_takeLetter_4 : decode cX2_takeLetter 4 = .ok (.ifCond .ne 5, 3) := by decide +kernel
theorem dX2_takeLetter_7 : decode cX2_takeLetter 7 = .ok (.iconst (-1), 1) := by decide +kernel
theorem dX2_takeLetter_8 : decode cX2_takeLetter 8 = .ok (.ireturn, 1) := by decide +kernel
theorem dX2_takeLetter_9 : decode cX2_takeLetter 9 = .ok (.aload_n 0, 1) := by decide +kernel
theorem dX2_takeLetter_10 : decode cX2_takeLetter 10 = .ok (.getfield 28, 3) := by decide +kernel
theorem dX2_takeLetter_13 : decode cX2_takeLetter 13 = .ok (.aload_n 0, 1) := by decide +kernel
theorem dX2_takeLetter_14 : decode cX2_takeLetter 14 = .ok (.getfield 35, 3) := by decide +kernel
theorem dX2_takeLetter_17 : decode cX2_takeLetter 17 = .ok (.iaload, 1) := by decide +kernel
theorem dX2_takeLetter_18 : decode cX2_takeLetter 18 = .ok (.istore_n 1, 1) := by decide +kernel
theorem dX2_takeLetter_19 : decode cX2_takeLetter 19 = .ok (.aload_n 0, 1) := by decide +kernel
theorem dX2_takeLetter_20 : decode cX2_takeLetter 20 = .ok (.dup, 1) := by decide +kernel
theorem dX2_takeLetter_21 : decode cX2_takeLetter 21 = .ok (.getfield 35, 3) := by decide +kernel
theorem dX2_takeLetter_24 : decode cX2_takeLetter 24 = .ok (.iconst 1, 1) := by decide +kernel
theorem dX2_takeLetter_25 : decode cX2_takeLetter 25 = .ok (.iadd, 1) := by decide +kernel
theorem dX2_takeLetter_26 : decode cX2_takeLetter 26 = .ok (.putfield 35, 3) := by decide +kernel
theorem dX2_takeLetter_29 : decode cX2_takeLetter 29 = .ok (.aload_n 0, 1) := by decide +kernel
theorem dX2_takeLetter_30 : decode cX2_takeLetter 30 = .ok (.dup, 1) := by decide +kernel
theorem dX2_takeLetter_31 : decode cX2_takeLetter 31 = .ok (.getfield 38, 3) := by decide +kernel
theorem dX2_takeLetter_34 : decode cX2_takeLetter 34 = .ok (.iconst 1, 1) := by decide +kernel
theorem dX2_takeLetter_35 : decode cX2_takeLetter 35 = .ok (.iadd, 1) := by decide +kernel
theorem dX2_takeLetter_36 : decode cX2_takeLetter 36 = .ok (.putfield 38, 3) := by decide +kernel
theorem dX2_takeLetter_39 : decode cX2_takeLetter 39 = .ok (.iload_n 1, 1) := by decide +kernel
theorem dX2_takeLetter_40 : decode cX2_takeLetter 40 = .ok (.bipush 25, 2) := by decide +kernel
theorem dX2_takeLetter_42 : decode cX2_takeLetter 42 = .ok (.irem, 1) := by decide +kernel
theorem dX2_takeLetter_43 : decode cX2_takeLetter 43 = .ok (.istore_n 2, 1) := by decide +kernel
theorem dX2_takeLetter_44 : decode cX2_takeLetter 44 = .ok (.iload_n 1, 1) := by decide +kernel
theorem dX2_takeLetter_45 : decode cX2_takeLetter 45 = .ok (.bipush 25, 2) := by decide +kernel
theorem dX2_takeLetter_47 : decode cX2_takeLetter 47 = .ok (.idiv, 1) := by decide +kernel
theorem dX2_takeLetter_48 : decode cX2_takeLetter 48 = .ok (.istore_n 3, 1) := by decide +kernel
theorem dX2_takeLetter_49 : decode cX2_takeLetter 49 = .ok (.aload_n 0, 1) := by decide +kernel
theorem dX2_takeLetter_50 : decode cX2_takeLetter 50 = .ok (.getfield 15, 3) := by decide +kernel
theorem dX2_takeLetter_53 : decode cX2_takeLetter 53 = .ok (.iload_n 2, 1) := by decide +kernel
theorem dX2_takeLetter_54 : decode cX2_takeLetter 54 = .ok (.iaload, 1) := by decide +kernel
theorem dX2_takeLetter_55 : decode cX2_takeLetter 55 = .ok (.iload_n 3, 1) := by decide +kernel
theorem dX2_takeLetter_56 : decode cX2_takeLetter 56 = .ok (.if_icmp .ne 5, 3) := by decide +kernel
theorem dX2_takeLetter_59 : decode cX2_takeLetter 59 = .ok (.iconst (-1), 1) := by decide +kernel
theorem dX2_takeLetter_60 : decode cX2_takeLetter 60 = .ok (.ireturn, 1) := by decide +kernel
theorem dX2_takeLetter_61 : decode cX2_takeLetter 61 = .ok (.iload_n 2, 1) := by decide +kernel
theorem dX2_takeLetter_62 : decode cX2_takeLetter 62 = .ok (.iconst 5, 1) := by decide +kernel
theorem dX2_takeLetter_63 : decode cX2_takeLetter 63 = .ok (.idiv, 1) := by decide +kernel
theorem dX2_takeLetter_64 : decode cX2_takeLetter 64 = .ok (.istore 4, 2) := by decide +kernel
theorem dX2_takeLetter_66 : decode cX2_takeLetter 66 = .ok (.aload_n 0, 1) := by decide +kernel
theorem dX2_takeLetter_67 : decode cX2_takeLetter 67 = .ok (.getfield 15, 3) := by decide +kernel
theorem dX2_takeLetter_70 : decode cX2_takeLetter 70 = .ok (.iload_n 2, 1) := by decide +kernel
theorem dX2_takeLetter_71 : decode cX2_takeLetter 71 = .ok (.iload_n 3, 1) := by decide +kernel
theorem dX2_takeLetter_72 : decode cX2_takeLetter 72 = .ok (.iastore, 1) := by decide +kernel
theorem dX2_takeLetter_73 : decode cX2_takeLetter 73 = .ok (.aload_n 0, 1) := by decide +kernel
theorem dX2_takeLetter_74 : decode cX2_takeLetter 74 = .ok (.getfield 25, 3) := by decide +kernel
theorem dX2_takeLetter_77 : decode cX2_takeLetter 77 = .ok (.iload 4, 2) := by decide +kernel
theorem dX2_takeLetter_79 : decode cX2_takeLetter 79 = .ok (.dup2, 1) := by decide +kernel
theorem dX2_takeLetter_80 : decode cX2_takeLetter 80 = .ok (.iaload, 1) := by decide +kernel
theorem dX2_takeLetter_81 : decode cX2_takeLetter 81 = .ok (.iconst 1, 1) := by decide +kernel
theorem dX2_takeLetter_82 : decode cX2_takeLetter 82 = .ok (.iadd, 1) := by decide +kernel
theorem dX2_takeLetter_83 : decode cX2_takeLetter 83 = .ok (.iastore, 1) := by decide +kernel
theorem dX2_takeLetter_84 : decode cX2_takeLetter 84 = .ok (.aload_n 0, 1) := by decide +kernel
theorem dX2_takeLetter_85 : decode cX2_takeLetter 85 = .ok (.iload 4, 2) := by decide +kernel
theorem dX2_takeLetter_87 : decode cX2_takeLetter 87 = .ok (.invokevirtual 52, 3) := by decide +kernel
theorem dX2_takeLetter_90 : decode cX2_takeLetter 90 = .ok (.aload_n 0, 1) := by decide +kernel
theorem dX2_takeLetter_91 : decode cX2_takeLetter 91 = .ok (.getfield 19, 3) := by decide +kernel
theorem dX2_takeLetter_94 : decode cX2_takeLetter 94 = .ok (.iload_n 2, 1) := by decide +kernel
theorem dX2_takeLetter_95 : decode cX2_takeLetter 95 = .ok (.iaload, 1) := by decide +kernel
theorem dX2_takeLetter_96 : decode cX2_takeLetter 96 = .ok (.ireturn, 1) := by decide +kernel
theorem dX2_findOwn_0 : decode cX2_findOwn 0 = .ok (.iload_n 1, 1) := by decide +kernel
theorem dX2_findOwn_1 : decode cX2_findOwn 1 = .ok (.ifCond .ne 10, 3) := by decide +kernel
theorem dX2_findOwn_4 : decode cX2_findOwn 4 = .ok (.aload_n 0, 1) := by decide +kernel
theorem dX2_findOwn_5 : decode cX2_findOwn 5 = .ok (.invokevirtual 60, 3) := by decide +kernel
theorem dX2_findOwn_8 : decode cX2_findOwn 8 = .ok (.goto 8, 3) := by decide +kernel
theorem dX2_findOwn_11 : decode cX2_findOwn 11 = .ok (.aload_n 0, 1) := by decide +kernel
theorem dX2_findOwn_12 : decode cX2_findOwn 12 = .ok (.iload_n 1, 1) := by decide +kernel
theorem dX2_findOwn_13 : decode cX2_findOwn 13 = .ok (.invokevirtual 64, 3) := by decide +kernel
theorem dX2_findOwn_16 : decode cX2_findOwn 16 = .ok (.istore_n 2, 1) := by decide +kernel
theorem dX2_findOwn_17 : decode cX2_findOwn 17 = .ok (.iload_n 2, 1) := by decide +kernel
theorem dX2_findOwn_18 : decode cX2_findOwn 18 = .ok (.aload_n 0, 1) := by decide +kernel
theorem dX2_findOwn_19 : decode cX2_findOwn 19 = .ok (.getfield 22, 3) := by decide +kernel
theorem dX2_findOwn_22 : decode cX2_findOwn 22 = .ok (.iload_n 1, 1) := by decide +kernel
theorem dX2_findOwn_23 : decode cX2_findOwn 23 = .ok (.iaload, 1) := by decide +kernel
theorem dX2_findOwn_24 : decode cX2_findOwn 24 = .ok (.if_icmp .eq 16, 3) := by decide +kernel
theorem dX2_findOwn_27 : decode cX2_findOwn 27 = .ok (.aload_n 0, 1) := by decide +kernel
theorem dX2_findOwn_28 : decode cX2_findOwn 28 = .ok (.getfield 22, 3) := by decide +kernel
theorem dX2_findOwn_31 : decode cX2_findOwn 31 = .ok (.iload_n 1, 1) := by decide +kernel
theorem dX2_findOwn_32 : decode cX2_findOwn 32 = .ok (.iload_n 2, 1) := by decide +kernel
theorem dX2_findOwn_33 : decode cX2_findOwn 33 = .ok (.iastore, 1) := by decide +kernel
theorem dX2_findOwn_34 : decode cX2_findOwn 34 = .ok (.aload_n 0, 1) := by decide +kernel
theorem dX2_findOwn_35 : decode cX2_findOwn 35 = .ok (.iload_n 1, 1) := by decide +kernel
theorem dX2_findOwn_36 : decode cX2_findOwn 36 = .ok (.iload_n 2, 1) := by decide +kernel
theorem dX2_findOwn_37 : decode cX2_findOwn 37 = .ok (.invokevirtual 68, 3) := by decide +kernel
theorem dX2_findOwn_40 : decode cX2_findOwn 40 = .ok (.return_, 1) := by decide +kernel
theorem dX2_goalRow_0 : decode cX2_goalRow 0 = .ok (.aload_n 0, 1) := by decide +kernel
theorem dX2_goalRow_1 : decode cX2_goalRow 1 = .ok (.getfield 44, 3) := by decide +kernel
theorem dX2_goalRow_4 : decode cX2_goalRow 4 = .ok (.ifCond .eq 7, 3) := by decide +kernel
theorem dX2_goalRow_7 : decode cX2_goalRow 7 = .ok (.iconst 0, 1) := by decide +kernel
theorem dX2_goalRow_8 : decode cX2_goalRow 8 = .ok (.goto 4, 3) := by decide +kernel
theorem dX2_goalRow_11 : decode cX2_goalRow 11 = .ok (.iconst 1, 1) := by decide +kernel
theorem dX2_goalRow_12 : decode cX2_goalRow 12 = .ok (.ireturn, 1) := by decide +kernel
theorem dX2_shortestRow_0 : decode cX2_shortestRow 0 = .ok (.iconst 0, 1) := by decide +kernel
theorem dX2_shortestRow_1 : decode cX2_shortestRow 1 = .ok (.istore_n 2, 1) := by decide +kernel
theorem dX2_shortestRow_2 : decode cX2_shortestRow 2 = .ok (.iconst 0, 1) := by decide +kernel
theorem dX2_shortestRow_3 : decode cX2_shortestRow 3 = .ok (.istore_n 3, 1) := by decide +kernel
theorem dX2_shortestRow_4 : decode cX2_shortestRow 4 = .ok (.iload_n 3, 1) := by decide +kernel
theorem dX2_shortestRow_5 : decode cX2_shortestRow 5 = .ok (.iconst 5, 1) := by decide +kernel
theorem dX2_shortestRow_6 : decode cX2_shortestRow 6 = .ok (.if_icmp .ge 57, 3) := by decide +kernel
theorem dX2_shortestRow_9 : decode cX2_shortestRow 9 = .ok (.aload_n 0, 1) := by decide +kernel
theorem dX2_shortestRow_10 : decode cX2_shortestRow 10 = .ok (.getfield 15, 3) := by decide +kernel
theorem dX2_shortestRow_13 : decode cX2_shortestRow 13 = .ok (.iload_n 1, 1) := by decide +kernel
theorem dX2_shortestRow_14 : decode cX2_shortestRow 14 = .ok (.iload_n 3, 1) := by decide +kernel
theorem dX2_shortestRow_15 : decode cX2_shortestRow 15 = .ok (.invokestatic 48, 3) := by decide +kernel
theorem dX2_shortestRow_18 : decode cX2_shortestRow 18 = .ok (.iaload, 1) := by decide +kernel
theorem dX2_shortestRow_19 : decode cX2_shortestRow 19 = .ok (.istore 4, 2) := by decide +kernel
theorem dX2_shortestRow_21 : decode cX2_shortestRow 21 = .ok (.iload 4, 2) := by decide +kernel
theorem dX2_shortestRow_23 : decode cX2_shortestRow 23 = .ok (.ifCond .eq 34, 3) := by decide +kernel
theorem dX2_shortestRow_26 : decode cX2_shortestRow 26 = .ok (.iload 4, 2) := by decide +kernel
theorem dX2_shortestRow_28 : decode cX2_shortestRow 28 = .ok (.iload_n 1, 1) := by decide +kernel
theorem dX2_shortestRow_29 : decode cX2_shortestRow 29 = .ok (.invokestatic 72, 3) := by decide +kernel
theorem dX2_shortestRow_32 : decode cX2_shortestRow 32 = .ok (.ifCond .eq 6, 3) := by decide +kernel
theorem dX2_shortestRow_35 : decode cX2_shortestRow 35 = .ok (.goto 22, 3) := by decide +kernel
theorem dX2_shortestRow_38 : decode cX2_shortestRow 38 = .ok (.iload_n 2, 1) := by decide +kernel
theorem dX2_shortestRow_39 : decode cX2_shortestRow 39 = .ok (.ifCond .eq 15, 3) := by decide +kernel
theorem dX2_shortestRow_42 : decode cX2_shortestRow 42 = .ok (.iload 4, 2) := by decide +kernel
theorem dX2_shortestRow_44 : decode cX2_shortestRow 44 = .ok (.invokestatic 76, 3) := by decide +kernel
theorem dX2_shortestRow_47 : decode cX2_shortestRow 47 = .ok (.iload_n 2, 1) := by decide +kernel
theorem dX2_shortestRow_48 : decode cX2_shortestRow 48 = .ok (.invokestatic 76, 3) := by decide +kernel
theorem dX2_shortestRow_51 : decode cX2_shortestRow 51 = .ok (.if_icmp .ge 6, 3) := by decide +kernel
theorem dX2_shortestRow_54 : decode cX2_shortestRow 54 = .ok (.iload 4, 2) := by decide +kernel
theorem dX2_shortestRow_56 : decode cX2_shortestRow 56 = .ok (.istore_n 2, 1) := by decide +kernel
theorem dX2_shortestRow_57 : decode cX2_shortestRow 57 = .ok (.iinc 3 1, 3) := by decide +kernel
theorem dX2_shortestRow_60 : decode cX2_shortestRow 60 = .ok (.goto (-56), 3) := by decide +kernel
theorem dX2_shortestRow_63 : decode cX2_shortestRow 63 = .ok (.iload_n 2, 1) := by decide +kernel
theorem dX2_shortestRow_64 : decode cX2_shortestRow 64 = .ok (.ifCond .ne 7, 3) := by decide +kernel
theorem dX2_shortestRow_67 : decode cX2_shortestRow 67 = .ok (.iconst 0, 1) := by decide +kernel
theorem dX2_shortestRow_68 : decode cX2_shortestRow 68 = .ok (.goto 10, 3) := by decide +kernel
theorem dX2_shortestRow_71 : decode cX2_shortestRow 71 = .ok (.iload_n 2, 1) := by decide +kernel
theorem dX2_shortestRow_72 : decode cX2_shortestRow 72 = .ok (.iconst 3, 1) := by decide +kernel
theorem dX2_shortestRow_73 : decode cX2_shortestRow 73 = .ok (.ishl, 1) := by decide +kernel
theorem dX2_shortestRow_74 : decode cX2_shortestRow 74 = .ok (.iload_n 1, 1) := by decide +kernel
theorem dX2_shortestRow_75 : decode cX2_shortestRow 75 = .ok (.iconst 1, 1) := by decide +kernel
theorem dX2_shortestRow_76 : decode cX2_shortestRow 76 = .ok (.iadd, 1) := by decide +kernel
theorem dX2_shortestRow_77 : decode cX2_shortestRow 77 = .ok (.ior, 1) := by decide +kernel
theorem dX2_shortestRow_78 : decode cX2_shortestRow 78 = .ok (.ireturn, 1) := by decide +kernel
theorem dX2_holds_0 : decode cX2_holds 0 = .ok (.iconst 0, 1) := by decide +kernel
theorem dX2_holds_1 : decode cX2_holds 1 = .ok (.istore_n 2, 1) := by decide +kernel
theorem dX2_holds_2 : decode cX2_holds 2 = .ok (.iload_n 2, 1) := by decide +kernel
theorem dX2_holds_3 : decode cX2_holds 3 = .ok (.iconst 5, 1) := by decide +kernel
theorem dX2_holds_4 : decode cX2_holds 4 = .ok (.if_icmp .ge 25, 3) := by decide +kernel
theorem dX2_holds_7 : decode cX2_holds 7 = .ok (.iload_n 0, 1) := by decide +kernel
theorem dX2_holds_8 : decode cX2_holds 8 = .ok (.iconst 3, 1) := by decide +kernel
theorem dX2_holds_9 : decode cX2_holds 9 = .ok (.iload_n 2, 1) := by decide +kernel
theorem dX2_holds_10 : decode cX2_holds 10 = .ok (.imul, 1) := by decide +kernel
theorem dX2_holds_11 : decode cX2_holds 11 = .ok (.ishr, 1) := by decide +kernel
theorem dX2_holds_12 : decode cX2_holds 12 = .ok (.bipush 7, 2) := by decide +kernel
theorem dX2_holds_14 : decode cX2_holds 14 = .ok (.iand, 1) := by decide +kernel
theorem dX2_holds_15 : decode cX2_holds 15 = .ok (.iload_n 1, 1) := by decide +kernel
theorem dX2_holds_16 : decode cX2_holds 16 = .ok (.iconst 1, 1) := by decide +kernel
theorem dX2_holds_17 : decode cX2_holds 17 = .ok (.iadd, 1) := by decide +kernel
theorem dX2_holds_18 : decode cX2_holds 18 = .ok (.if_icmp .ne 5, 3) := by decide +kernel
theorem dX2_holds_21 : decode cX2_holds 21 = .ok (.iconst 1, 1) := by decide +kernel
theorem dX2_holds_22 : decode cX2_holds 22 = .ok (.ireturn, 1) := by decide +kernel
theorem dX2_holds_23 : decode cX2_holds 23 = .ok (.iinc 2 1, 3) := by decide +kernel
theorem dX2_holds_26 : decode cX2_holds 26 = .ok (.goto (-24), 3) := by decide +kernel
theorem dX2_holds_29 : decode cX2_holds 29 = .ok (.iconst 0, 1) := by decide +kernel
theorem dX2_holds_30 : decode cX2_holds 30 = .ok (.ireturn, 1) := by decide +kernel
theorem dX2_lengthOf_0 : decode cX2_lengthOf 0 = .ok (.iconst 0, 1) := by decide +kernel
theorem dX2_lengthOf_1 : decode cX2_lengthOf 1 = .ok (.istore_n 1, 1) := by decide +kernel
theorem dX2_lengthOf_2 : decode cX2_lengthOf 2 = .ok (.iload_n 1, 1) := by decide +kernel
theorem dX2_lengthOf_3 : decode cX2_lengthOf 3 = .ok (.iconst 5, 1) := by decide +kernel
theorem dX2_lengthOf_4 : decode cX2_lengthOf 4 = .ok (.if_icmp .ge 17, 3) := by decide +kernel
theorem dX2_lengthOf_7 : decode cX2_lengthOf 7 = .ok (.iload_n 0, 1) := by decide +kernel
theorem dX2_lengthOf_8 : decode cX2_lengthOf 8 = .ok (.iconst 3, 1) := by decide +kernel
theorem dX2_lengthOf_9 : decode cX2_lengthOf 9 = .ok (.iload_n 1, 1) := by decide +kernel
theorem dX2_lengthOf_10 : decode cX2_lengthOf 10 = .ok (.imul, 1) := by decide +kernel
theorem dX2_lengthOf_11 : decode cX2_lengthOf 11 = .ok (.ishr, 1) := by decide +kernel
theorem dX2_lengthOf_12 : decode cX2_lengthOf 12 = .ok (.ifCond .eq 9, 3) := by decide +kernel
theorem dX2_lengthOf_15 : decode cX2_lengthOf 15 = .ok (.iinc 1 1, 3) := by decide +kernel
theorem dX2_lengthOf_18 : decode cX2_lengthOf 18 = .ok (.goto (-16), 3) := by decide +kernel
theorem dX2_lengthOf_21 : decode cX2_lengthOf 21 = .ok (.iload_n 1, 1) := by decide +kernel
theorem dX2_lengthOf_22 : decode cX2_lengthOf 22 = .ok (.ireturn, 1) := by decide +kernel
theorem dX2_send_0 : decode cX2_send 0 = .ok (.iconst 0, 1) := by decide +kernel
theorem dX2_send_1 : decode cX2_send 1 = .ok (.istore_n 3, 1) := by decide +kernel
theorem dX2_send_2 : decode cX2_send 2 = .ok (.iload_n 3, 1) := by decide +kernel
theorem dX2_send_3 : decode cX2_send 3 = .ok (.iconst 5, 1) := by decide +kernel
theorem dX2_send_4 : decode cX2_send 4 = .ok (.if_icmp .ge 57, 3) := by decide +kernel
theorem dX2_send_7 : decode cX2_send 7 = .ok (.aload_n 0, 1) := by decide +kernel
theorem dX2_send_8 : decode cX2_send 8 = .ok (.iload_n 1, 1) := by decide +kernel
theorem dX2_send_9 : decode cX2_send 9 = .ok (.iload_n 3, 1) := by decide +kernel
theorem dX2_send_10 : decode cX2_send 10 = .ok (.invokevirtual 79, 3) := by decide +kernel
theorem dX2_send_13 : decode cX2_send 13 = .ok (.ifCond .eq 42, 3) := by decide +kernel
theorem dX2_send_16 : decode cX2_send 16 = .ok (.aload_n 0, 1) := by decide +kernel
theorem dX2_send_17 : decode cX2_send 17 = .ok (.getfield 31, 3) := by decide +kernel
theorem dX2_send_20 : decode cX2_send 20 = .ok (.sipush 2000, 3) := by decide +kernel
theorem dX2_send_23 : decode cX2_send 23 = .ok (.if_icmp .ge 32, 3) := by decide +kernel
theorem dX2_send_26 : decode cX2_send 26 = .ok (.aload_n 0, 1) := by decide +kernel
theorem dX2_send_27 : decode cX2_send 27 = .ok (.getfield 28, 3) := by decide +kernel
theorem dX2_send_30 : decode cX2_send 30 = .ok (.aload_n 0, 1) := by decide +kernel
theorem dX2_send_31 : decode cX2_send 31 = .ok (.getfield 31, 3) := by decide +kernel
theorem dX2_send_34 : decode cX2_send 34 = .ok (.iload_n 2, 1) := by decide +kernel
theorem dX2_send_35 : decode cX2_send 35 = .ok (.bipush 25, 2) := by decide +kernel
theorem dX2_send_37 : decode cX2_send 37 = .ok (.imul, 1) := by decide +kernel
theorem dX2_send_38 : decode cX2_send 38 = .ok (.iload_n 3, 1) := by decide +kernel
theorem dX2_send_39 : decode cX2_send 39 = .ok (.iload_n 1, 1) := by decide +kernel
theorem dX2_send_40 : decode cX2_send 40 = .ok (.invokestatic 48, 3) := by decide +kernel
theorem dX2_send_43 : decode cX2_send 43 = .ok (.iadd, 1) := by decide +kernel
theorem dX2_send_44 : decode cX2_send 44 = .ok (.iastore, 1) := by decide +kernel
theorem dX2_send_45 : decode cX2_send 45 = .ok (.aload_n 0, 1) := by decide +kernel
theorem dX2_send_46 : decode cX2_send 46 = .ok (.dup, 1) := by decide +kernel
theorem dX2_send_47 : decode cX2_send 47 = .ok (.getfield 31, 3) := by decide +kernel
theorem dX2_send_50 : decode cX2_send 50 = .ok (.iconst 1, 1) := by decide +kernel
theorem dX2_send_51 : decode cX2_send 51 = .ok (.iadd, 1) := by decide +kernel
theorem dX2_send_52 : decode cX2_send 52 = .ok (.putfield 31, 3) := by decide +kernel
theorem dX2_send_55 : decode cX2_send 55 = .ok (.iinc 3 1, 3) := by decide +kernel
theorem dX2_send_58 : decode cX2_send 58 = .ok (.goto (-56), 3) := by decide +kernel
theorem dX2_send_61 : decode cX2_send 61 = .ok (.return_, 1) := by decide +kernel
theorem dX3_init_0 : decode cX3_init 0 = .ok (.aload_n 0, 1) := by decide +kernel
theorem dX3_init_1 : decode cX3_init 1 = .ok (.invokespecial 3, 3) := by decide +kernel
theorem dX3_init_4 : decode cX3_init 4 = .ok (.aload_n 0, 1) := by decide +kernel
theorem dX3_init_5 : decode cX3_init 5 = .ok (.new 9, 3) := by decide +kernel
theorem dX3_init_8 : decode cX3_init 8 = .ok (.dup, 1) := by decide +kernel
theorem dX3_init_9 : decode cX3_init 9 = .ok (.invokespecial 11, 3) := by decide +kernel
theorem dX3_init_12 : decode cX3_init 12 = .ok (.putfield 12, 3) := by decide +kernel
theorem dX3_init_15 : decode cX3_init 15 = .ok (.aload_n 0, 1) := by decide +kernel
theorem dX3_init_16 : decode cX3_init 16 = .ok (.sipush 420, 3) := by decide +kernel
theorem dX3_init_19 : decode cX3_init 19 = .ok (.newarray .int, 2) := by decide +kernel
theorem dX3_init_21 : decode cX3_init 21 = .ok (.putfield 18, 3) := by decide +kernel
theorem dX3_init_24 : decode cX3_init 24 = .ok (.aload_n 0, 1) := by decide +kernel
theorem dX3_init_25 : decode cX3_init 25 = .ok (.iconst 0, 1) := by decide +kernel
theorem dX3_init_26 : decode cX3_init 26 = .ok (.putfield 22, 3) := by decide +kernel
theorem dX3_init_29 : decode cX3_init 29 = .ok (.aload_n 0, 1) := by decide +kernel
theorem dX3_init_30 : decode cX3_init 30 = .ok (.aload_n 1, 1) := by decide +kernel
theorem dX3_init_31 : decode cX3_init 31 = .ok (.putfield 26, 3) := by decide +kernel
theorem dX3_init_34 : decode cX3_init 34 = .ok (.aload_n 0, 1) := by decide +kernel
theorem dX3_init_35 : decode cX3_init 35 = .ok (.aload_n 2, 1) := by decide +kernel
theorem dX3_init_36 : decode cX3_init 36 = .ok (.putfield 29, 3) := by decide +kernel
theorem dX3_init_39 : decode cX3_init 39 = .ok (.aload_n 0, 1) := by decide +kernel
theorem dX3_init_40 : decode cX3_init 40 = .ok (.aload_n 3, 1) := by decide +kernel
theorem dX3_init_41 : decode cX3_init 41 = .ok (.putfield 33, 3) := by decide +kernel
theorem dX3_init_44 : decode cX3_init 44 = .ok (.aload_n 0, 1) := by decide +kernel
theorem dX3_init_45 : decode cX3_init 45 = .ok (.new 37, 3) := by decide +kernel
theorem dX3_init_48 : decode cX3_init 48 = .ok (.dup, 1) := by decide +kernel
theorem dX3_init_49 : decode cX3_init 49 = .ok (.aload_n 0, 1) := by decide +kernel
theorem dX3_init_50 : decode cX3_init 50 = .ok (.getfield 12, 3) := by decide +kernel
theorem dX3_init_53 : decode cX3_init 53 = .ok (.aload_n 2, 1) := by decide +kernel
theorem dX3_init_54 : decode cX3_init 54 = .ok (.invokespecial 39, 3) := by decide +kernel
theorem dX3_init_57 : decode cX3_init 57 = .ok (.putfield 42, 3) := by decide +kernel
theorem dX3_init_60 : decode cX3_init 60 = .ok (.return_, 1) := by decide +kernel
theorem dX3_goOver_0 : decode cX3_goOver 0 = .ok (.aload_n 0, 1) := by decide +kernel
theorem dX3_goOver_1 : decode cX3_goOver 1 = .ok (.getfield 12, 3) := by decide +kernel
theorem dX3_goOver_4 : decode cX3_goOver 4 = .ok (.aload_n 0, 1) := by decide +kernel
theorem dX3_goOver_5 : decode cX3_goOver 5 = .ok (.getfield 26, 3) := by decide +kernel
theorem dX3_goOver_8 : decode cX3_goOver 8 = .ok (.iload_n 1, 1) := by decide +kernel
theorem dX3_goOver_9 : decode cX3_goOver 9 = .ok (.iload_n 2, 1) := by decide +kernel
theorem dX3_goOver_10 : decode cX3_goOver 10 = .ok (.invokevirtual 46, 3) := by decide +kernel
theorem dX3_goOver_13 : decode cX3_goOver 13 = .ok (.aload_n 0, 1) := by decide +kernel
theorem dX3_goOver_14 : decode cX3_goOver 14 = .ok (.getfield 42, 3) := by decide +kernel
theorem dX3_goOver_17 : decode cX3_goOver 17 = .ok (.invokevirtual 50, 3) := by decide +kernel
theorem dX3_goOver_20 : decode cX3_goOver 20 = .ok (.iconst 0, 1) := by decide +kernel
theorem dX3_goOver_21 : decode cX3_goOver 21 = .ok (.istore 4, 2) := by decide +kernel
theorem dX3_goOver_23 : decode cX3_goOver 23 = .ok (.iload 4, 2) := by decide +kernel
theorem dX3_goOver_25 : decode cX3_goOver 25 = .ok (.aload_n 0, 1) := by decide +kernel
theorem dX3_goOver_26 : decode cX3_goOver 26 = .ok (.getfield 33, 3) := by decide +kernel
theorem dX3_goOver_29 : decode cX3_goOver 29 = .ok (.invokevirtual 53, 3) := by decide +kernel
theorem dX3_goOver_32 : decode cX3_goOver 32 = .ok (.if_icmp .ge 43, 3) := by decide +kernel
theorem dX3_goOver_35 : decode cX3_goOver 35 = .ok (.aload_n 0, 1) := by decide +kernel
theorem dX3_goOver_36 : decode cX3_goOver 36 = .ok (.getfield 42, 3) := by decide +kernel
theorem dX3_goOver_39 : decode cX3_goOver 39 = .ok (.aload_n 0, 1) := by decide +kernel
theorem dX3_goOver_40 : decode cX3_goOver 40 = .ok (.getfield 33, 3) := by decide +kernel
theorem dX3_goOver_43 : decode cX3_goOver 43 = .ok (.iload 4, 2) := by decide +kernel
theorem dX3_goOver_45 : decode cX3_goOver 45 = .ok (.invokevirtual 59, 3) := by decide +kernel
theorem dX3_goOver_48 : decode cX3_goOver 48 = .ok (.aload_n 0, 1) := by decide +kernel
theorem dX3_goOver_49 : decode cX3_goOver 49 = .ok (.getfield 33, 3) := by decide +kernel
theorem dX3_goOver_52 : decode cX3_goOver 52 = .ok (.iload 4, 2) := by decide +kernel
theorem dX3_goOver_54 : decode cX3_goOver 54 = .ok (.invokevirtual 63, 3) := by decide +kernel
theorem dX3_goOver_57 : decode cX3_goOver 57 = .ok (.aload_n 0, 1) := by decide +kernel
theorem dX3_goOver_58 : decode cX3_goOver 58 = .ok (.getfield 33, 3) := by decide +kernel
theorem dX3_goOver_61 : decode cX3_goOver 61 = .ok (.iload 4, 2) := by decide +kernel
theorem dX3_goOver_63 : decode cX3_goOver 63 = .ok (.invokevirtual 66, 3) := by decide +kernel
theorem dX3_goOver_66 : decode cX3_goOver 66 = .ok (.invokevirtual 69, 3) := by decide +kernel
theorem dX3_goOver_69 : decode cX3_goOver 69 = .ok (.iinc 4 1, 3) := by decide +kernel
theorem dX3_goOver_72 : decode cX3_goOver 72 = .ok (.goto (-49), 3) := by decide +kernel
theorem dX3_goOver_75 : decode cX3_goOver 75 = .ok (.aload_n 0, 1) := by decide +kernel
theorem dX3_goOver_76 : decode cX3_goOver 76 = .ok (.getfield 42, 3) := by decide +kernel
theorem dX3_goOver_79 : decode cX3_goOver 79 = .ok (.iload_n 3, 1) := by decide +kernel
theorem dX3_goOver_80 : decode cX3_goOver 80 = .ok (.invokevirtual 73, 3) := by decide +kernel
theorem dX3_goOver_83 : decode cX3_goOver 83 = .ok (.return_, 1) := by decide +kernel
theorem dX3_flipsOf_0 : decode cX3_flipsOf 0 = .ok (.aload_n 0, 1) := by decide +kernel
theorem dX3_flipsOf_1 : decode cX3_flipsOf 1 = .ok (.getfield 42, 3) := by decide +kernel
theorem dX3_flipsOf_4 : decode cX3_flipsOf 4 = .ok (.iload_n 1, 1) := by decide +kernel
theorem dX3_flipsOf_5 : decode cX3_flipsOf 5 = .ok (.invokevirtual 77, 3) := by decide +kernel
theorem dX3_flipsOf_8 : decode cX3_flipsOf 8 = .ok (.ireturn, 1) := by decide +kernel
theorem dX3_lostOf_0 : decode cX3_lostOf 0 = .ok (.aload_n 0, 1) := by decide +kernel
theorem dX3_lostOf_1 : decode cX3_lostOf 1 = .ok (.getfield 42, 3) := by decide +kernel
theorem dX3_lostOf_4 : decode cX3_lostOf 4 = .ok (.iload_n 1, 1) := by decide +kernel
theorem dX3_lostOf_5 : decode cX3_lostOf 5 = .ok (.invokevirtual 80, 3) := by decide +kernel
theorem dX3_lostOf_8 : decode cX3_lostOf 8 = .ok (.ireturn, 1) := by decide +kernel
theorem dX3_findMarks_0 : decode cX3_findMarks 0 = .ok (.aload_n 0, 1) := by decide +kernel
theorem dX3_findMarks_1 : decode cX3_findMarks 1 = .ok (.getfield 29, 3) := by decide +kernel
theorem dX3_findMarks_4 : decode cX3_findMarks 4 = .ok (.invokevirtual 83, 3) := by decide +kernel
theorem dX3_findMarks_7 : decode cX3_findMarks 7 = .ok (.istore_n 3, 1) := by decide +kernel
theorem dX3_findMarks_8 : decode cX3_findMarks 8 = .ok (.iconst 1, 1) := by decide +kernel
theorem dX3_findMarks_9 : decode cX3_findMarks 9 = .ok (.istore 4, 2) := by decide +kernel
theorem dX3_findMarks_11 : decode cX3_findMarks 11 = .ok (.aload_n 0, 1) := by decide +kernel
theorem dX3_findMarks_12 : decode cX3_findMarks 12 = .ok (.iconst 0, 1) := by decide +kernel
theorem dX3_findMarks_13 : decode cX3_findMarks 13 = .ok (.putfield 22, 3) := by decide +kernel
theorem dX3_findMarks_16 : decode cX3_findMarks 16 = .ok (.sipush 500, 3) := by decide +kernel
theorem dX3_findMarks_19 : decode cX3_findMarks 19 = .ok (.istore 5, 2) := by decide +kernel
theorem dX3_findMarks_21 : decode cX3_findMarks 21 = .ok (.iload 5, 2) := by decide +kernel
theorem dX3_findMarks_23 : decode cX3_findMarks 23 = .ok (.sipush 10000, 3) := by decide +kernel
theorem dX3_findMarks_26 : decode cX3_findMarks 26 = .ok (.if_icmp .gt 89, 3) := by decide +kernel
theorem dX3_findMarks_29 : decode cX3_findMarks 29 = .ok (.iload 4, 2) := by decide +kernel
theorem dX3_findMarks_31 : decode cX3_findMarks 31 = .ok (.ifCond .eq 84, 3) := by decide +kernel
theorem dX3_findMarks_34 : decode cX3_findMarks 34 = .ok (.sipush 250, 3) := by decide +kernel
theorem dX3_findMarks_37 : decode cX3_findMarks 37 = .ok (.istore 6, 2) := by decide +kernel
theorem dX3_findMarks_39 : decode cX3_findMarks 39 = .ok (.iload 6, 2) := by decide +kernel
theorem dX3_findMarks_41 : decode cX3_findMarks 41 = .ok (.iload 5, 2) := by decide +kernel
theorem dX3_findMarks_43 : decode cX3_findMarks 43 = .ok (.if_icmp .gt 63, 3) := by decide +kernel
theorem dX3_findMarks_46 : decode cX3_findMarks 46 = .ok (.iload 4, 2) := by decide +kernel
theorem dX3_findMarks_48 : decode cX3_findMarks 48 = .ok (.ifCond .eq 58, 3) := by decide +kernel
theorem dX3_findMarks_51 : decode cX3_findMarks 51 = .ok (.aload_n 0, 1) := by decide +kernel
theorem dX3_findMarks_52 : decode cX3_findMarks 52 = .ok (.iload 5, 2) := by decide +kernel
theorem dX3_findMarks_54 : decode cX3_findMarks 54 = .ok (.iload 6, 2) := by decide +kernel
theorem dX3_findMarks_56 : decode cX3_findMarks 56 = .ok (.iload_n 2, 1) := by decide +kernel
theorem dX3_findMarks_57 : decode cX3_findMarks 57 = .ok (.invokevirtual 88, 3) := by decide +kernel
theorem dX3_findMarks_60 : decode cX3_findMarks 60 = .ok (.aload_n 0, 1) := by decide +kernel
theorem dX3_findMarks_61 : decode cX3_findMarks 61 = .ok (.iload_n 1, 1) := by decide +kernel
theorem dX3_findMarks_62 : decode cX3_findMarks 62 = .ok (.invokevirtual 91, 3) := by decide +kernel
theorem dX3_findMarks_65 : decode cX3_findMarks 65 = .ok (.istore 7, 2) := by decide +kernel
theorem dX3_findMarks_67 : decode cX3_findMarks 67 = .ok (.iload 7, 2) := by decide +kernel
theorem dX3_findMarks_69 : decode cX3_findMarks 69 = .ok (.iload_n 3, 1) := by decide +kernel
theorem dX3_findMarks_70 : decode cX3_findMarks 70 = .ok (.if_icmp .ne 12, 3) := by decide +kernel
theorem dX3_findMarks_73 : decode cX3_findMarks 73 = .ok (.iload 5, 2) := by decide +kernel
theorem dX3_findMarks_75 : decode cX3_findMarks 75 = .ok (.ldc 94, 2) := by decide +kernel
theorem dX3_findMarks_77 : decode cX3_findMarks 77 = .ok (.imul, 1) := by decide +kernel
theorem dX3_findMarks_78 : decode cX3_findMarks 78 = .ok (.iload 6, 2) := by decide +kernel
theorem dX3_findMarks_80 : decode cX3_findMarks 80 = .ok (.iadd, 1) := by decide +kernel
theorem dX3_findMarks_81 : decode cX3_findMarks 81 = .ok (.ireturn, 1) := by decide +kernel
theorem dX3_findMarks_82 : decode cX3_findMarks 82 = .ok (.aload_n 0, 1) := by decide +kernel
theorem dX3_findMarks_83 : decode cX3_findMarks 83 = .ok (.iload 7, 2) := by decide +kernel
theorem dX3_findMarks_85 : decode cX3_findMarks 85 = .ok (.invokevirtual 95, 3) := by decide +kernel
theorem dX3_findMarks_88 : decode cX3_findMarks 88 = .ok (.aload_n 0, 1) := by decide +kernel
theorem dX3_findMarks_89 : decode cX3_findMarks 89 = .ok (.getfield 42, 3) := by decide +kernel
theorem dX3_findMarks_92 : decode cX3_findMarks 92 = .ok (.invokevirtual 98, 3) := by decide +kernel
theorem dX3_findMarks_95 : decode cX3_findMarks 95 = .ok (.istore 4, 2) := by decide +kernel
theorem dX3_findMarks_97 : decode cX3_findMarks 97 = .ok (.iinc 6 250, 6) := by decide +kernel
theorem dX3_findMarks_103 : decode cX3_findMarks 103 = .ok (.goto (-64), 3) := by decide +kernel
theorem dX3_findMarks_106 : decode cX3_findMarks 106 = .ok (.iinc 5 500, 6) := by decide +kernel
theorem dX3_findMarks_112 : decode cX3_findMarks 112 = .ok (.goto (-91), 3) := by decide +kernel
theorem dX3_findMarks_115 : decode cX3_findMarks 115 = .ok (.aload_n 0, 1) := by decide +kernel
theorem dX3_findMarks_116 : decode cX3_findMarks 116 = .ok (.invokevirtual 102, 3) := by decide +kernel
theorem dX3_findMarks_119 : decode cX3_findMarks 119 = .ok (.ireturn, 1) := by decide +kernel
theorem dX3_keep_0 : decode cX3_keep 0 = .ok (.aload_n 0, 1) := by decide +kernel
theorem dX3_keep_1 : decode cX3_keep 1 = .ok (.getfield 22, 3) := by decide +kernel
theorem dX3_keep_4 : decode cX3_keep 4 = .ok (.aload_n 0, 1) := by decide +kernel
theorem dX3_keep_5 : decode cX3_keep 5 = .ok (.getfield 18, 3) := by decide +kernel
theorem dX3_keep_8 : decode cX3_keep 8 = .ok (.arraylength, 1) := by decide +kernel
theorem dX3_keep_9 : decode cX3_keep 9 = .ok (.if_icmp .ge 23, 3) := by decide +kernel
theorem dX3_keep_12 : decode cX3_keep 12 = .ok (.aload_n 0, 1) := by decide +kernel
theorem dX3_keep_13 : decode cX3_keep 13 = .ok (.getfield 18, 3) := by decide +kernel
theorem dX3_keep_16 : decode cX3_keep 16 = .ok (.aload_n 0, 1) := by decide +kernel
theorem dX3_keep_17 : decode cX3_keep 17 = .ok (.getfield 22, 3) := by decide +kernel
theorem dX3_keep_20 : decode cX3_keep 20 = .ok (.iload_n 1, 1) := by decide +kernel
