theorem dX4_restsOf_52 : decode cX4_restsOf 52 = .ok (.aload_n 0, 1) := by decide +kernel
theorem dX4_restsOf_53 : decode cX4_restsOf 53 = .ok (.getfield 78, 3) := by decide +kernel
theorem dX4_restsOf_56 : decode cX4_restsOf 56 = .ok (.idiv, 1) := by decide +kernel
theorem dX4_restsOf_57 : decode cX4_restsOf 57 = .ok (.isub, 1) := by decide +kernel
theorem dX4_restsOf_58 : decode cX4_restsOf 58 = .ok (.istore 4, 2) := by decide +kernel
theorem dX4_restsOf_60 : decode cX4_restsOf 60 = .ok (.iload_n 2, 1) := by decide +kernel
theorem dX4_restsOf_61 : decode cX4_restsOf 61 = .ok (.ifCond .ne 7, 3) := by decide +kernel
theorem dX4_restsOf_64 : decode cX4_restsOf 64 = .ok (.iload_n 3, 1) := by decide +kernel
theorem dX4_restsOf_65 : decode cX4_restsOf 65 = .ok (.goto 16, 3) := by decide +kernel
theorem dX4_restsOf_68 : decode cX4_restsOf 68 = .ok (.iload 4, 2) := by decide +kernel
theorem dX4_restsOf_70 : decode cX4_restsOf 70 = .ok (.ifCond .ge 9, 3) := by decide +kernel
theorem dX4_restsOf_73 : decode cX4_restsOf 73 = .ok (.iload 4, 2) := by decide +kernel
theorem dX4_restsOf_75 : decode cX4_restsOf 75 = .ok (.ineg, 1) := by decide +kernel
theorem dX4_restsOf_76 : decode cX4_restsOf 76 = .ok (.goto 5, 3) := by decide +kernel
theorem dX4_restsOf_79 : decode cX4_restsOf 79 = .ok (.iload 4, 2) := by decide +kernel
theorem dX4_restsOf_81 : decode cX4_restsOf 81 = .ok (.ireturn, 1) := by decide +kernel
theorem dX4_rests_0 : decode cX4_rests 0 = .ok (.aload_n 0, 1) := by decide +kernel
theorem dX4_rests_1 : decode cX4_rests 1 = .ok (.iload_n 1, 1) := by decide +kernel
theorem dX4_rests_2 : decode cX4_rests 2 = .ok (.invokevirtual 124, 3) := by decide +kernel
theorem dX4_rests_5 : decode cX4_rests 5 = .ok (.ifCond .eq 21, 3) := by decide +kernel
theorem dX4_rests_8 : decode cX4_rests 8 = .ok (.iload_n 2, 1) := by decide +kernel
theorem dX4_rests_9 : decode cX4_rests 9 = .ok (.iconst 0, 1) := by decide +kernel
theorem dX4_rests_10 : decode cX4_rests 10 = .ok (.iconst 1, 1) := by decide +kernel
theorem dX4_rests_11 : decode cX4_rests 11 = .ok (.invokestatic 65, 3) := by decide +kernel
theorem dX4_rests_14 : decode cX4_rests 14 = .ok (.ifCond .eq 12, 3) := by decide +kernel
theorem dX4_rests_17 : decode cX4_rests 17 = .ok (.aload_n 0, 1) := by decide +kernel
theorem dX4_rests_18 : decode cX4_rests 18 = .ok (.iload_n 1, 1) := by decide +kernel
theorem dX4_rests_19 : decode cX4_rests 19 = .ok (.iload_n 2, 1) := by decide +kernel
theorem dX4_rests_20 : decode cX4_rests 20 = .ok (.invokevirtual 130, 3) := by decide +kernel
theorem dX4_rests_23 : decode cX4_rests 23 = .ok (.goto 5, 3) := by decide +kernel
theorem dX4_rests_26 : decode cX4_rests 26 = .ok (.bipush (-2), 2) := by decide +kernel
theorem dX4_rests_28 : decode cX4_rests 28 = .ok (.ireturn, 1) := by decide +kernel
theorem dX4_longestNow_0 : decode cX4_longestNow 0 = .ok (.iconst (-1), 1) := by decide +kernel
theorem dX4_longestNow_1 : decode cX4_longestNow 1 = .ok (.istore_n 1, 1) := by decide +kernel
theorem dX4_longestNow_2 : decode cX4_longestNow 2 = .ok (.iconst 0, 1) := by decide +kernel
theorem dX4_longestNow_3 : decode cX4_longestNow 3 = .ok (.istore_n 2, 1) := by decide +kernel
theorem dX4_longestNow_4 : decode cX4_longestNow 4 = .ok (.iload_n 2, 1) := by decide +kernel
theorem dX4_longestNow_5 : decode cX4_longestNow 5 = .ok (.aload_n 0, 1) := by decide +kernel
theorem dX4_longestNow_6 : decode cX4_longestNow 6 = .ok (.getfield 108, 3) := by decide +kernel
theorem dX4_longestNow_9 : decode cX4_longestNow 9 = .ok (.if_icmp .ge 55, 3) := by decide +kernel
theorem dX4_longestNow_12 : decode cX4_longestNow 12 = .ok (.aload_n 0, 1) := by decide +kernel
theorem dX4_longestNow_13 : decode cX4_longestNow 13 = .ok (.iload_n 2, 1) := by decide +kernel
theorem dX4_longestNow_14 : decode cX4_longestNow 14 = .ok (.iconst 0, 1) := by decide +kernel
theorem dX4_longestNow_15 : decode cX4_longestNow 15 = .ok (.invokevirtual 130, 3) := by decide +kernel
theorem dX4_longestNow_18 : decode cX4_longestNow 18 = .ok (.iconst (-1), 1) := by decide +kernel
theorem dX4_longestNow_19 : decode cX4_longestNow 19 = .ok (.if_icmp .eq 7, 3) := by decide +kernel
theorem dX4_longestNow_22 : decode cX4_longestNow 22 = .ok (.iconst 1, 1) := by decide +kernel
theorem dX4_longestNow_23 : decode cX4_longestNow 23 = .ok (.goto 4, 3) := by decide +kernel
theorem dX4_longestNow_26 : decode cX4_longestNow 26 = .ok (.iconst 0, 1) := by decide +kernel
theorem dX4_longestNow_27 : decode cX4_longestNow 27 = .ok (.istore_n 3, 1) := by decide +kernel
theorem dX4_longestNow_28 : decode cX4_longestNow 28 = .ok (.iload_n 3, 1) := by decide +kernel
theorem dX4_longestNow_29 : decode cX4_longestNow 29 = .ok (.ifCond .eq 27, 3) := by decide +kernel
theorem dX4_longestNow_32 : decode cX4_longestNow 32 = .ok (.iload_n 1, 1) := by decide +kernel
theorem dX4_longestNow_33 : decode cX4_longestNow 33 = .ok (.iconst (-1), 1) := by decide +kernel
theorem dX4_longestNow_34 : decode cX4_longestNow 34 = .ok (.if_icmp .eq 18, 3) := by decide +kernel
theorem dX4_longestNow_37 : decode cX4_longestNow 37 = .ok (.aload_n 0, 1) := by decide +kernel
theorem dX4_longestNow_38 : decode cX4_longestNow 38 = .ok (.iload_n 2, 1) := by decide +kernel
theorem dX4_longestNow_39 : decode cX4_longestNow 39 = .ok (.iconst 1, 1) := by decide +kernel
theorem dX4_longestNow_40 : decode cX4_longestNow 40 = .ok (.invokevirtual 130, 3) := by decide +kernel
theorem dX4_longestNow_43 : decode cX4_longestNow 43 = .ok (.aload_n 0, 1) := by decide +kernel
theorem dX4_longestNow_44 : decode cX4_longestNow 44 = .ok (.iload_n 1, 1) := by decide +kernel
theorem dX4_longestNow_45 : decode cX4_longestNow 45 = .ok (.iconst 1, 1) := by decide +kernel
theorem dX4_longestNow_46 : decode cX4_longestNow 46 = .ok (.invokevirtual 130, 3) := by decide +kernel
theorem dX4_longestNow_49 : decode cX4_longestNow 49 = .ok (.if_icmp .le 7, 3) := by decide +kernel
theorem dX4_longestNow_52 : decode cX4_longestNow 52 = .ok (.iload_n 2, 1) := by decide +kernel
theorem dX4_longestNow_53 : decode cX4_longestNow 53 = .ok (.goto 4, 3) := by decide +kernel
theorem dX4_longestNow_56 : decode cX4_longestNow 56 = .ok (.iload_n 1, 1) := by decide +kernel
theorem dX4_longestNow_57 : decode cX4_longestNow 57 = .ok (.istore_n 1, 1) := by decide +kernel
theorem dX4_longestNow_58 : decode cX4_longestNow 58 = .ok (.iinc 2 1, 3) := by decide +kernel
theorem dX4_longestNow_61 : decode cX4_longestNow 61 = .ok (.goto (-57), 3) := by decide +kernel
theorem dX4_longestNow_64 : decode cX4_longestNow 64 = .ok (.iload_n 1, 1) := by decide +kernel
theorem dX4_longestNow_65 : decode cX4_longestNow 65 = .ok (.ireturn, 1) := by decide +kernel
theorem dX4_longest_0 : decode cX4_longest 0 = .ok (.aload_n 0, 1) := by decide +kernel
theorem dX4_longest_1 : decode cX4_longest 1 = .ok (.invokevirtual 133, 3) := by decide +kernel
theorem dX4_longest_4 : decode cX4_longest 4 = .ok (.ireturn, 1) := by decide +kernel
theorem dX4_meetOf_0 : decode cX4_meetOf 0 = .ok (.iconst 0, 1) := by decide +kernel
theorem dX4_meetOf_1 : decode cX4_meetOf 1 = .ok (.istore_n 3, 1) := by decide +kernel
theorem dX4_meetOf_2 : decode cX4_meetOf 2 = .ok (.iload_n 3, 1) := by decide +kernel
theorem dX4_meetOf_3 : decode cX4_meetOf 3 = .ok (.bipush 100, 2) := by decide +kernel
theorem dX4_meetOf_5 : decode cX4_meetOf 5 = .ok (.if_icmp .ge 36, 3) := by decide +kernel
theorem dX4_meetOf_8 : decode cX4_meetOf 8 = .ok (.aload_n 0, 1) := by decide +kernel
theorem dX4_meetOf_9 : decode cX4_meetOf 9 = .ok (.iload_n 1, 1) := by decide +kernel
theorem dX4_meetOf_10 : decode cX4_meetOf 10 = .ok (.iload_n 3, 1) := by decide +kernel
theorem dX4_meetOf_11 : decode cX4_meetOf 11 = .ok (.invokevirtual 127, 3) := by decide +kernel
theorem dX4_meetOf_14 : decode cX4_meetOf 14 = .ok (.istore 4, 2) := by decide +kernel
theorem dX4_meetOf_16 : decode cX4_meetOf 16 = .ok (.iload 4, 2) := by decide +kernel
theorem dX4_meetOf_18 : decode cX4_meetOf 18 = .ok (.iconst (-1), 1) := by decide +kernel
theorem dX4_meetOf_19 : decode cX4_meetOf 19 = .ok (.if_icmp .eq 16, 3) := by decide +kernel
theorem dX4_meetOf_22 : decode cX4_meetOf 22 = .ok (.iload 4, 2) := by decide +kernel
theorem dX4_meetOf_24 : decode cX4_meetOf 24 = .ok (.aload_n 0, 1) := by decide +kernel
theorem dX4_meetOf_25 : decode cX4_meetOf 25 = .ok (.iload_n 2, 1) := by decide +kernel
theorem dX4_meetOf_26 : decode cX4_meetOf 26 = .ok (.iload_n 3, 1) := by decide +kernel
theorem dX4_meetOf_27 : decode cX4_meetOf 27 = .ok (.invokevirtual 127, 3) := by decide +kernel
theorem dX4_meetOf_30 : decode cX4_meetOf 30 = .ok (.if_icmp .ne 5, 3) := by decide +kernel
theorem dX4_meetOf_33 : decode cX4_meetOf 33 = .ok (.iload_n 3, 1) := by decide +kernel
theorem dX4_meetOf_34 : decode cX4_meetOf 34 = .ok (.ireturn, 1) := by decide +kernel
theorem dX4_meetOf_35 : decode cX4_meetOf 35 = .ok (.iinc 3 1, 3) := by decide +kernel
theorem dX4_meetOf_38 : decode cX4_meetOf 38 = .ok (.goto (-36), 3) := by decide +kernel
theorem dX4_meetOf_41 : decode cX4_meetOf 41 = .ok (.iconst (-1), 1) := by decide +kernel
theorem dX4_meetOf_42 : decode cX4_meetOf 42 = .ok (.ireturn, 1) := by decide +kernel
theorem dX4_meet_0 : decode cX4_meet 0 = .ok (.aload_n 0, 1) := by decide +kernel
theorem dX4_meet_1 : decode cX4_meet 1 = .ok (.iload_n 1, 1) := by decide +kernel
theorem dX4_meet_2 : decode cX4_meet 2 = .ok (.invokevirtual 124, 3) := by decide +kernel
theorem dX4_meet_5 : decode cX4_meet 5 = .ok (.ifCond .eq 25, 3) := by decide +kernel
theorem dX4_meet_8 : decode cX4_meet 8 = .ok (.aload_n 0, 1) := by decide +kernel
theorem dX4_meet_9 : decode cX4_meet 9 = .ok (.iload_n 2, 1) := by decide +kernel
theorem dX4_meet_10 : decode cX4_meet 10 = .ok (.invokevirtual 124, 3) := by decide +kernel
theorem dX4_meet_13 : decode cX4_meet 13 = .ok (.ifCond .eq 17, 3) := by decide +kernel
theorem dX4_meet_16 : decode cX4_meet 16 = .ok (.iload_n 1, 1) := by decide +kernel
theorem dX4_meet_17 : decode cX4_meet 17 = .ok (.iload_n 2, 1) := by decide +kernel
theorem dX4_meet_18 : decode cX4_meet 18 = .ok (.if_icmp .eq 12, 3) := by decide +kernel
theorem dX4_meet_21 : decode cX4_meet 21 = .ok (.aload_n 0, 1) := by decide +kernel
theorem dX4_meet_22 : decode cX4_meet 22 = .ok (.iload_n 1, 1) := by decide +kernel
theorem dX4_meet_23 : decode cX4_meet 23 = .ok (.iload_n 2, 1) := by decide +kernel
theorem dX4_meet_24 : decode cX4_meet 24 = .ok (.invokevirtual 136, 3) := by decide +kernel
theorem dX4_meet_27 : decode cX4_meet 27 = .ok (.goto 5, 3) := by decide +kernel
theorem dX4_meet_30 : decode cX4_meet 30 = .ok (.bipush (-2), 2) := by decide +kernel
theorem dX4_meet_32 : decode cX4_meet 32 = .ok (.ireturn, 1) := by decide +kernel
theorem dX4_cost_0 : decode cX4_cost 0 = .ok (.aload_n 0, 1) := by decide +kernel
theorem dX4_cost_1 : decode cX4_cost 1 = .ok (.iload_n 1, 1) := by decide +kernel
theorem dX4_cost_2 : decode cX4_cost 2 = .ok (.iload_n 2, 1) := by decide +kernel
theorem dX4_cost_3 : decode cX4_cost 3 = .ok (.invokevirtual 139, 3) := by decide +kernel
theorem dX4_cost_6 : decode cX4_cost 6 = .ok (.istore_n 3, 1) := by decide +kernel
theorem dX4_cost_7 : decode cX4_cost 7 = .ok (.aload_n 0, 1) := by decide +kernel
theorem dX4_cost_8 : decode cX4_cost 8 = .ok (.iload_n 1, 1) := by decide +kernel
theorem dX4_cost_9 : decode cX4_cost 9 = .ok (.invokevirtual 99, 3) := by decide +kernel
theorem dX4_cost_12 : decode cX4_cost 12 = .ok (.ifCond .eq 11, 3) := by decide +kernel
theorem dX4_cost_15 : decode cX4_cost 15 = .ok (.aload_n 0, 1) := by decide +kernel
theorem dX4_cost_16 : decode cX4_cost 16 = .ok (.iload_n 3, 1) := by decide +kernel
theorem dX4_cost_17 : decode cX4_cost 17 = .ok (.invokevirtual 99, 3) := by decide +kernel
theorem dX4_cost_20 : decode cX4_cost 20 = .ok (.ifCond .ne 6, 3) := by decide +kernel
theorem dX4_cost_23 : decode cX4_cost 23 = .ok (.ldc 142, 2) := by decide +kernel
theorem dX4_cost_25 : decode cX4_cost 25 = .ok (.ireturn, 1) := by decide +kernel
theorem dX4_cost_26 : decode cX4_cost 26 = .ok (.aload_n 0, 1) := by decide +kernel
theorem dX4_cost_27 : decode cX4_cost 27 = .ok (.iload_n 1, 1) := by decide +kernel
theorem dX4_cost_28 : decode cX4_cost 28 = .ok (.invokevirtual 105, 3) := by decide +kernel
theorem dX4_cost_31 : decode cX4_cost 31 = .ok (.ifCond .ne 19, 3) := by decide +kernel
theorem dX4_cost_34 : decode cX4_cost 34 = .ok (.iload_n 3, 1) := by decide +kernel
theorem dX4_cost_35 : decode cX4_cost 35 = .ok (.aload_n 0, 1) := by decide +kernel
theorem dX4_cost_36 : decode cX4_cost 36 = .ok (.iload_n 1, 1) := by decide +kernel
theorem dX4_cost_37 : decode cX4_cost 37 = .ok (.invokevirtual 96, 3) := by decide +kernel
theorem dX4_cost_40 : decode cX4_cost 40 = .ok (.if_icmp .ne 7, 3) := by decide +kernel
theorem dX4_cost_43 : decode cX4_cost 43 = .ok (.iconst 1, 1) := by decide +kernel
theorem dX4_cost_44 : decode cX4_cost 44 = .ok (.goto 5, 3) := by decide +kernel
theorem dX4_cost_47 : decode cX4_cost 47 = .ok (.ldc 142, 2) := by decide +kernel
theorem dX4_cost_49 : decode cX4_cost 49 = .ok (.ireturn, 1) := by decide +kernel
theorem dX4_cost_50 : decode cX4_cost 50 = .ok (.iload_n 2, 1) := by decide +kernel
theorem dX4_cost_51 : decode cX4_cost 51 = .ok (.iconst 2, 1) := by decide +kernel
theorem dX4_cost_52 : decode cX4_cost 52 = .ok (.if_icmp .ge 25, 3) := by decide +kernel
theorem dX4_cost_55 : decode cX4_cost 55 = .ok (.iload_n 3, 1) := by decide +kernel
theorem dX4_cost_56 : decode cX4_cost 56 = .ok (.aload_n 0, 1) := by decide +kernel
theorem dX4_cost_57 : decode cX4_cost 57 = .ok (.getfield 78, 3) := by decide +kernel
theorem dX4_cost_60 : decode cX4_cost 60 = .ok (.idiv, 1) := by decide +kernel
theorem dX4_cost_61 : decode cX4_cost 61 = .ok (.iload_n 1, 1) := by decide +kernel
theorem dX4_cost_62 : decode cX4_cost 62 = .ok (.aload_n 0, 1) := by decide +kernel
theorem dX4_cost_63 : decode cX4_cost 63 = .ok (.getfield 78, 3) := by decide +kernel
theorem dX4_cost_66 : decode cX4_cost 66 = .ok (.idiv, 1) := by decide +kernel
theorem dX4_cost_67 : decode cX4_cost 67 = .ok (.if_icmp .ne 7, 3) := by decide +kernel
theorem dX4_cost_70 : decode cX4_cost 70 = .ok (.iconst 1, 1) := by decide +kernel
theorem dX4_cost_71 : decode cX4_cost 71 = .ok (.goto 5, 3) := by decide +kernel
theorem dX4_cost_74 : decode cX4_cost 74 = .ok (.ldc 142, 2) := by decide +kernel
theorem dX4_cost_76 : decode cX4_cost 76 = .ok (.ireturn, 1) := by decide +kernel
theorem dX4_cost_77 : decode cX4_cost 77 = .ok (.aload_n 0, 1) := by decide +kernel
theorem dX4_cost_78 : decode cX4_cost 78 = .ok (.getfield 13, 3) := by decide +kernel
theorem dX4_cost_81 : decode cX4_cost 81 = .ok (.iload_n 1, 1) := by decide +kernel
theorem dX4_cost_82 : decode cX4_cost 82 = .ok (.iaload, 1) := by decide +kernel
theorem dX4_cost_83 : decode cX4_cost 83 = .ok (.iconst 2, 1) := by decide +kernel
theorem dX4_cost_84 : decode cX4_cost 84 = .ok (.if_icmp .eq 18, 3) := by decide +kernel
theorem dX4_cost_87 : decode cX4_cost 87 = .ok (.aload_n 0, 1) := by decide +kernel
theorem dX4_cost_88 : decode cX4_cost 88 = .ok (.getfield 13, 3) := by decide +kernel
theorem dX4_cost_91 : decode cX4_cost 91 = .ok (.iload_n 3, 1) := by decide +kernel
theorem dX4_cost_92 : decode cX4_cost 92 = .ok (.iaload, 1) := by decide +kernel
theorem dX4_cost_93 : decode cX4_cost 93 = .ok (.iconst 2, 1) := by decide +kernel
theorem dX4_cost_94 : decode cX4_cost 94 = .ok (.if_icmp .eq 8, 3) := by decide +kernel
theorem dX4_cost_97 : decode cX4_cost 97 = .ok (.ldc 142, 2) := by decide +kernel
theorem dX4_cost_99 : decode cX4_cost 99 = .ok (.goto 26, 3) := by decide +kernel
theorem dX4_cost_102 : decode cX4_cost 102 = .ok (.aload_n 0, 1) := by decide +kernel
theorem dX4_cost_103 : decode cX4_cost 103 = .ok (.iload_n 1, 1) := by decide +kernel
theorem dX4_cost_104 : decode cX4_cost 104 = .ok (.invokevirtual 92, 3) := by decide +kernel
theorem dX4_cost_107 : decode cX4_cost 107 = .ok (.aload_n 0, 1) := by decide +kernel
theorem dX4_cost_108 : decode cX4_cost 108 = .ok (.iload_n 3, 1) := by decide +kernel
theorem dX4_cost_109 : decode cX4_cost 109 = .ok (.invokevirtual 92, 3) := by decide +kernel
theorem dX4_cost_112 : decode cX4_cost 112 = .ok (.if_icmp .eq 12, 3) := by decide +kernel
theorem dX4_cost_115 : decode cX4_cost 115 = .ok (.iconst 1, 1) := by decide +kernel
theorem dX4_cost_116 : decode cX4_cost 116 = .ok (.aload_n 0, 1) := by decide +kernel
theorem dX4_cost_117 : decode cX4_cost 117 = .ok (.getfield 60, 3) := by decide +kernel
theorem dX4_cost_120 : decode cX4_cost 120 = .ok (.iadd, 1) := by decide +kernel
theorem dX4_cost_121 : decode cX4_cost 121 = .ok (.goto 4, 3) := by decide +kernel
theorem dX4_cost_124 : decode cX4_cost 124 = .ok (.iconst 1, 1) := by decide +kernel
theorem dX4_cost_125 : decode cX4_cost 125 = .ok (.ireturn, 1) := by decide +kernel
theorem dX4_target_0 : decode cX4_target 0 = .ok (.iload_n 2, 1) := by decide +kernel
theorem dX4_target_1 : decode cX4_target 1 = .ok (.ifCond .ne 22, 3) := by decide +kernel
theorem dX4_target_4 : decode cX4_target 4 = .ok (.iload_n 1, 1) := by decide +kernel
theorem dX4_target_5 : decode cX4_target 5 = .ok (.aload_n 0, 1) := by decide +kernel
theorem dX4_target_6 : decode cX4_target 6 = .ok (.getfield 78, 3) := by decide +kernel
theorem dX4_target_9 : decode cX4_target 9 = .ok (.irem, 1) := by decide +kernel
theorem dX4_target_10 : decode cX4_target 10 = .ok (.ifCond .le 9, 3) := by decide +kernel
theorem dX4_target_13 : decode cX4_target 13 = .ok (.iload_n 1, 1) := by decide +kernel
theorem dX4_target_14 : decode cX4_target 14 = .ok (.iconst 1, 1) := by decide +kernel
theorem dX4_target_15 : decode cX4_target 15 = .ok (.isub, 1) := by decide +kernel
theorem dX4_target_16 : decode cX4_target 16 = .ok (.goto 57, 3) := by decide +kernel
theorem dX4_target_19 : decode cX4_target 19 = .ok (.iconst (-1), 1) := by decide +kernel
theorem dX4_target_20 : decode cX4_target 20 = .ok (.goto 53, 3) := by decide +kernel
theorem dX4_target_23 : decode cX4_target 23 = .ok (.iload_n 2, 1) := by decide +kernel
theorem dX4_target_24 : decode cX4_target 24 = .ok (.iconst 1, 1) := by decide +kernel
theorem dX4_target_25 : decode cX4_target 25 = .ok (.if_icmp .ne 28, 3) := by decide +kernel
theorem dX4_target_28 : decode cX4_target 28 = .ok (.iload_n 1, 1) := by decide +kernel
theorem dX4_target_29 : decode cX4_target 29 = .ok (.aload_n 0, 1) := by decide +kernel
theorem dX4_target_30 : decode cX4_target 30 = .ok (.getfield 78, 3) := by decide +kernel
theorem dX4_target_33 : decode cX4_target 33 = .ok (.irem, 1) := by decide +kernel
theorem dX4_target_34 : decode cX4_target 34 = .ok (.aload_n 0, 1) := by decide +kernel
theorem dX4_target_35 : decode cX4_target 35 = .ok (.getfield 78, 3) := by decide +kernel
theorem dX4_target_38 : decode cX4_target 38 = .ok (.iconst 1, 1) := by decide +kernel
theorem dX4_target_39 : decode cX4_target 39 = .ok (.isub, 1) := by decide +kernel
theorem dX4_target_40 : decode cX4_target 40 = .ok (.if_icmp .ge 9, 3) := by decide +kernel
theorem dX4_target_43 : decode cX4_target 43 = .ok (.iload_n 1, 1) := by decide +kernel
theorem dX4_target_44 : decode cX4_target 44 = .ok (.iconst 1, 1) := by decide +kernel
theorem dX4_target_45 : decode cX4_target 45 = .ok (.iadd, 1) := by decide +kernel
theorem dX4_target_46 : decode cX4_target 46 = .ok (.goto 27, 3) := by decide +kernel
theorem dX4_target_49 : decode cX4_target 49 = .ok (.iconst (-1), 1) := by decide +kernel
theorem dX4_target_50 : decode cX4_target 50 = .ok (.goto 23, 3) := by decide +kernel
theorem dX4_target_53 : decode cX4_target 53 = .ok (.iload_n 2, 1) := by decide +kernel
theorem dX4_target_54 : decode cX4_target 54 = .ok (.iconst 2, 1) := by decide +kernel
theorem dX4_target_55 : decode cX4_target 55 = .ok (.if_icmp .ne 12, 3) := by decide +kernel
theorem dX4_target_58 : decode cX4_target 58 = .ok (.iload_n 1, 1) := by decide +kernel
theorem dX4_target_59 : decode cX4_target 59 = .ok (.aload_n 0, 1) := by decide +kernel
theorem dX4_target_60 : decode cX4_target 60 = .ok (.getfield 78, 3) := by decide +kernel
theorem dX4_target_63 : decode cX4_target 63 = .ok (.isub, 1) := by decide +kernel
theorem dX4_target_64 : decode cX4_target 64 = .ok (.goto 9, 3) := by decide +kernel
theorem dX4_target_67 : decode cX4_target 67 = .ok (.iload_n 1, 1) := by decide +kernel
theorem dX4_target_68 : decode cX4_target 68 = .ok (.aload_n 0, 1) := by decide +kernel
theorem dX4_target_69 : decode cX4_target 69 = .ok (.getfield 78, 3) := by decide +kernel
theorem dX4_target_72 : decode cX4_target 72 = .ok (.iadd, 1) := by decide +kernel
theorem dX4_target_73 : decode cX4_target 73 = .ok (.ireturn, 1) := by decide +kernel
theorem dX4_laysFar_0 : decode cX4_laysFar 0 = .ok (.iconst 0, 1) := by decide +kernel
theorem dX4_laysFar_1 : decode cX4_laysFar 1 = .ok (.istore_n 2, 1) := by decide +kernel
theorem dX4_laysFar_2 : decode cX4_laysFar 2 = .ok (.iload_n 2, 1) := by decide +kernel
theorem dX4_laysFar_3 : decode cX4_laysFar 3 = .ok (.aload_n 0, 1) := by decide +kernel
theorem dX4_laysFar_4 : decode cX4_laysFar 4 = .ok (.getfield 72, 3) := by decide +kernel
theorem dX4_laysFar_7 : decode cX4_laysFar 7 = .ok (.if_icmp .ge 34, 3) := by decide +kernel
theorem dX4_laysFar_10 : decode cX4_laysFar 10 = .ok (.aload_n 0, 1) := by decide +kernel
theorem dX4_laysFar_11 : decode cX4_laysFar 11 = .ok (.getfield 22, 3) := by decide +kernel
theorem dX4_laysFar_14 : decode cX4_laysFar 14 = .ok (.iload_n 2, 1) := by decide +kernel
theorem dX4_laysFar_15 : decode cX4_laysFar 15 = .ok (.iload_n 2, 1) := by decide +kernel
theorem dX4_laysFar_16 : decode cX4_laysFar 16 = .ok (.iload_n 1, 1) := by decide +kernel
theorem dX4_laysFar_17 : decode cX4_laysFar 17 = .ok (.if_icmp .ne 15, 3) := by decide +kernel
theorem dX4_laysFar_20 : decode cX4_laysFar 20 = .ok (.aload_n 0, 1) := by decide +kernel
theorem dX4_laysFar_21 : decode cX4_laysFar 21 = .ok (.iload_n 2, 1) := by decide +kernel
theorem dX4_laysFar_22 : decode cX4_laysFar 22 = .ok (.invokevirtual 99, 3) := by decide +kernel
theorem dX4_laysFar_25 : decode cX4_laysFar 25 = .ok (.ifCond .eq 7, 3) := by decide +kernel
theorem dX4_laysFar_28 : decode cX4_laysFar 28 = .ok (.iconst 0, 1) := by decide +kernel
theorem dX4_laysFar_29 : decode cX4_laysFar 29 = .ok (.goto 5, 3) := by decide +kernel
theorem dX4_laysFar_32 : decode cX4_laysFar 32 = .ok (.ldc 142, 2) := by decide +kernel
theorem dX4_laysFar_34 : decode cX4_laysFar 34 = .ok (.iastore, 1) := by decide +kernel
theorem dX4_laysFar_35 : decode cX4_laysFar 35 = .ok (.iinc 2 1, 3) := by decide +kernel
theorem dX4_laysFar_38 : decode cX4_laysFar 38 = .ok (.goto (-36), 3) := by decide +kernel
theorem dX4_laysFar_41 : decode cX4_laysFar 41 = .ok (.iconst 1, 1) := by decide +kernel
theorem dX4_laysFar_42 : decode cX4_laysFar 42 = .ok (.istore_n 2, 1) := by decide +kernel
theorem dX4_laysFar_43 : decode cX4_laysFar 43 = .ok (.iload_n 2, 1) := by decide +kernel
theorem dX4_laysFar_44 : decode cX4_laysFar 44 = .ok (.ifCond .eq 102, 3) := by decide +kernel
theorem dX4_laysFar_47 : decode cX4_laysFar 47 = .ok (.iconst 0, 1) := by decide +kernel
theorem dX4_laysFar_48 : decode cX4_laysFar 48 = .ok (.istore_n 2, 1) := by decide +kernel
theorem dX4_laysFar_49 : decode cX4_laysFar 49 = .ok (.iconst 0, 1) := by decide +kernel
theorem dX4_laysFar_50 : decode cX4_laysFar 50 = .ok (.istore_n 3, 1) := by decide +kernel
theorem dX4_laysFar_51 : decode cX4_laysFar 51 = .ok (.iload_n 3, 1) := by decide +kernel
theorem dX4_laysFar_52 : decode cX4_laysFar 52 = .ok (.aload_n 0, 1) := by decide +kernel
theorem dX4_laysFar_53 : decode cX4_laysFar 53 = .ok (.getfield 72, 3) := by decide +kernel
theorem dX4_laysFar_56 : decode cX4_laysFar 56 = .ok (.if_icmp .ge 87, 3) := by decide +kernel
theorem dX4_laysFar_59 : decode cX4_laysFar 59 = .ok (.iconst 0, 1) := by decide +kernel
theorem dX4_laysFar_60 : decode cX4_laysFar 60 = .ok (.istore 4, 2) := by decide +kernel
theorem dX4_laysFar_62 : decode cX4_laysFar 62 = .ok (.iload 4, 2) := by decide +kernel
theorem dX4_laysFar_64 : decode cX4_laysFar 64 = .ok (.iconst 4, 1) := by decide +kernel
theorem dX4_laysFar_65 : decode cX4_laysFar 65 = .ok (.if_icmp .ge 72, 3) := by decide +kernel
theorem dX4_laysFar_68 : decode cX4_laysFar 68 = .ok (.aload_n 0, 1) := by decide +kernel
theorem dX4_laysFar_69 : decode cX4_laysFar 69 = .ok (.iload_n 3, 1) := by decide +kernel
theorem dX4_laysFar_70 : decode cX4_laysFar 70 = .ok (.iload 4, 2) := by decide +kernel
theorem dX4_laysFar_72 : decode cX4_laysFar 72 = .ok (.invokevirtual 143, 3) := by decide +kernel
theorem dX4_laysFar_75 : decode cX4_laysFar 75 = .ok (.istore 5, 2) := by decide +kernel
theorem dX4_laysFar_77 : decode cX4_laysFar 77 = .ok (.iload 5, 2) := by decide +kernel
theorem dX4_laysFar_79 : decode cX4_laysFar 79 = .ok (.ldc 142, 2) := by decide +kernel
theorem dX4_laysFar_81 : decode cX4_laysFar 81 = .ok (.if_icmp .ge 50, 3) := by decide +kernel
theorem dX4_laysFar_84 : decode cX4_laysFar 84 = .ok (.iload 5, 2) := by decide +kernel
theorem dX4_laysFar_86 : decode cX4_laysFar 86 = .ok (.aload_n 0, 1) := by decide +kernel
theorem dX4_laysFar_87 : decode cX4_laysFar 87 = .ok (.getfield 22, 3) := by decide +kernel
theorem dX4_laysFar_90 : decode cX4_laysFar 90 = .ok (.aload_n 0, 1) := by decide +kernel
theorem dX4_laysFar_91 : decode cX4_laysFar 91 = .ok (.iload_n 3, 1) := by decide +kernel
theorem dX4_laysFar_92 : decode cX4_laysFar 92 = .ok (.iload 4, 2) := by decide +kernel
theorem dX4_laysFar_94 : decode cX4_laysFar 94 = .ok (.invokevirtual 139, 3) := by decide +kernel
theorem dX4_laysFar_97 : decode cX4_laysFar 97 = .ok (.iaload, 1) := by decide +kernel
theorem dX4_laysFar_98 : decode cX4_laysFar 98 = .ok (.iadd, 1) := by decide +kernel
theorem dX4_laysFar_99 : decode cX4_laysFar 99 = .ok (.aload_n 0, 1) := by decide +kernel
theorem dX4_laysFar_100 : decode cX4_laysFar 100 = .ok (.getfield 22, 3) := by decide +kernel
theorem dX4_laysFar_103 : decode cX4_laysFar 103 = .ok (.iload_n 3, 1) := by decide +kernel
theorem dX4_laysFar_104 : decode cX4_laysFar 104 = .ok (.iaload, 1) := by decide +kernel
theorem dX4_laysFar_105 : decode cX4_laysFar 105 = .ok (.if_icmp .ge 26, 3) := by decide +kernel
theorem dX4_laysFar_108 : decode cX4_laysFar 108 = .ok (.aload_n 0, 1) := by decide +kernel
theorem dX4_laysFar_109 : decode cX4_laysFar 109 = .ok (.getfield 22, 3) := by decide +kernel
theorem dX4_laysFar_112 : decode cX4_laysFar 112 = .ok (.iload_n 3, 1) := by decide +kernel
theorem dX4_laysFar_113 : decode cX4_laysFar 113 = .ok (.iload 5, 2) := by decide +kernel
theorem dX4_laysFar_115 : decode cX4_laysFar 115 = .ok (.aload_n 0, 1) := by decide +kernel
theorem dX4_laysFar_116 : decode cX4_laysFar 116 = .ok (.getfield 22, 3) := by decide +kernel
theorem dX4_laysFar_119 : decode cX4_laysFar 119 = .ok (.aload_n 0, 1) := by decide +kernel
theorem dX4_laysFar_120 : decode cX4_laysFar 120 = .ok (.iload_n 3, 1) := by decide +kernel
theorem dX4_laysFar_121 : decode cX4_laysFar 121 = .ok (.iload 4, 2) := by decide +kernel
theorem dX4_laysFar_123 : decode cX4_laysFar 123 = .ok (.invokevirtual 139, 3) := by decide +kernel
theorem dX4_laysFar_126 : decode cX4_laysFar 126 = .ok (.iaload, 1) := by decide +kernel
theorem dX4_laysFar_127 : decode cX4_laysFar 127 = .ok (.iadd, 1) := by decide +kernel
theorem dX4_laysFar_128 : decode cX4_laysFar 128 = .ok (.iastore, 1) := by decide +kernel
theorem dX4_laysFar_129 : decode cX4_laysFar 129 = .ok (.iconst 1, 1) := by decide +kernel
theorem dX4_laysFar_130 : decode cX4_laysFar 130 = .ok (.istore_n 2, 1) := by decide +kernel
theorem dX4_laysFar_131 : decode cX4_laysFar 131 = .ok (.iinc 4 1, 3) := by decide +kernel
theorem dX4_laysFar_134 : decode cX4_laysFar 134 = .ok (.goto (-72), 3) := by decide +kernel
theorem dX4_laysFar_137 : decode cX4_laysFar 137 = .ok (.iinc 3 1, 3) := by decide +kernel
theorem dX4_laysFar_140 : decode cX4_laysFar 140 = .ok (.goto (-89), 3) := by decide +kernel
theorem dX4_laysFar_143 : decode cX4_laysFar 143 = .ok (.goto (-100), 3) := by decide +kernel
theorem dX4_laysFar_146 : decode cX4_laysFar 146 = .ok (.return_, 1) := by decide +kernel
theorem dX4_wayOf_0 : decode cX4_wayOf 0 = .ok (.aload_n 0, 1) := by decide +kernel
theorem dX4_wayOf_1 : decode cX4_wayOf 1 = .ok (.iload_n 2, 1) := by decide +kernel
theorem dX4_wayOf_2 : decode cX4_wayOf 2 = .ok (.invokevirtual 146, 3) := by decide +kernel
theorem dX4_wayOf_5 : decode cX4_wayOf 5 = .ok (.aload_n 0, 1) := by decide +kernel
theorem dX4_wayOf_6 : decode cX4_wayOf 6 = .ok (.getfield 22, 3) := by decide +kernel
theorem dX4_wayOf_9 : decode cX4_wayOf 9 = .ok (.iload_n 1, 1) := by decide +kernel
theorem dX4_wayOf_10 : decode cX4_wayOf 10 = .ok (.iaload, 1) := by decide +kernel
theorem dX4_wayOf_11 : decode cX4_wayOf 11 = .ok (.ldc 142, 2) := by decide +kernel
theorem dX4_wayOf_13 : decode cX4_wayOf 13 = .ok (.if_icmp .ge 12, 3) := by decide +kernel
theorem dX4_wayOf_16 : decode cX4_wayOf 16 = .ok (.aload_n 0, 1) := by decide +kernel
theorem dX4_wayOf_17 : decode cX4_wayOf 17 = .ok (.getfield 22, 3) := by decide +kernel
theorem dX4_wayOf_20 : decode cX4_wayOf 20 = .ok (.iload_n 1, 1) := by decide +kernel
theorem dX4_wayOf_21 : decode cX4_wayOf 21 = .ok (.iaload, 1) := by decide +kernel
theorem dX4_wayOf_22 : decode cX4_wayOf 22 = .ok (.goto 4, 3) := by decide +kernel
theorem dX4_wayOf_25 : decode cX4_wayOf 25 = .ok (.iconst (-1), 1) := by decide +kernel
theorem dX4_wayOf_26 : decode cX4_wayOf 26 = .ok (.ireturn, 1) := by decide +kernel
theorem dX4_way_0 : decode cX4_way 0 = .ok (.aload_n 0, 1) := by decide +kernel
theorem dX4_way_1 : decode cX4_way 1 = .ok (.iload_n 1, 1) := by decide +kernel
theorem dX4_way_2 : decode cX4_way 2 = .ok (.invokevirtual 102, 3) := by decide +kernel
theorem dX4_way_5 : decode cX4_way 5 = .ok (.ifCond .eq 20, 3) := by decide +kernel
theorem dX4_way_8 : decode cX4_way 8 = .ok (.aload_n 0, 1) := by decide +kernel
theorem dX4_way_9 : decode cX4_way 9 = .ok (.iload_n 2, 1) := by decide +kernel
theorem dX4_way_10 : decode cX4_way 10 = .ok (.invokevirtual 102, 3) := by decide +kernel
theorem dX4_way_13 : decode cX4_way 13 = .ok (.ifCond .eq 12, 3) := by decide +kernel
theorem dX4_way_16 : decode cX4_way 16 = .ok (.aload_n 0, 1) := by decide +kernel
theorem dX4_way_17 : decode cX4_way 17 = .ok (.iload_n 1, 1) := by decide +kernel
theorem dX4_way_18 : decode cX4_way 18 = .ok (.iload_n 2, 1) := by decide +kernel
theorem dX4_way_19 : decode cX4_way 19 = .ok (.invokevirtual 150, 3) := by decide +kernel
theorem dX4_way_22 : decode cX4_way 22 = .ok (.goto 5, 3) := by decide +kernel
theorem dX4_way_25 : decode cX4_way 25 = .ok (.bipush (-2), 2) := by decide +kernel
theorem dX4_way_27 : decode cX4_way 27 = .ok (.ireturn, 1) := by decide +kernel
theorem dX4_nextOf_0 : decode cX4_nextOf 0 = .ok (.aload_n 0, 1) := by decide +kernel
theorem dX4_nextOf_1 : decode cX4_nextOf 1 = .ok (.iload_n 2, 1) := by decide +kernel
theorem dX4_nextOf_2 : decode cX4_nextOf 2 = .ok (.invokevirtual 146, 3) := by decide +kernel
theorem dX4_nextOf_5 : decode cX4_nextOf 5 = .ok (.iconst (-1), 1) := by decide +kernel
theorem dX4_nextOf_6 : decode cX4_nextOf 6 = .ok (.istore_n 3, 1) := by decide +kernel
theorem dX4_nextOf_7 : decode cX4_nextOf 7 = .ok (.iconst 0, 1) := by decide +kernel
theorem dX4_nextOf_8 : decode cX4_nextOf 8 = .ok (.istore 4, 2) := by decide +kernel
theorem dX4_nextOf_10 : decode cX4_nextOf 10 = .ok (.iload 4, 2) := by decide +kernel
theorem dX4_nextOf_12 : decode cX4_nextOf 12 = .ok (.iconst 4, 1) := by decide +kernel
theorem dX4_nextOf_13 : decode cX4_nextOf 13 = .ok (.if_icmp .ge 109, 3) := by decide +kernel
theorem dX4_nextOf_16 : decode cX4_nextOf 16 = .ok (.aload_n 0, 1) := by decide +kernel
theorem dX4_nextOf_17 : decode cX4_nextOf 17 = .ok (.getfield 22, 3) := by decide +kernel
theorem dX4_nextOf_20 : decode cX4_nextOf 20 = .ok (.iload_n 1, 1) := by decide +kernel
theorem dX4_nextOf_21 : decode cX4_nextOf 21 = .ok (.iaload, 1) := by decide +kernel
theorem dX4_nextOf_22 : decode cX4_nextOf 22 = .ok (.ifCond .le 100, 3) := by decide +kernel
theorem dX4_nextOf_25 : decode cX4_nextOf 25 = .ok (.aload_n 0, 1) := by decide +kernel
theorem dX4_nextOf_26 : decode cX4_nextOf 26 = .ok (.getfield 22, 3) := by decide +kernel
theorem dX4_nextOf_29 : decode cX4_nextOf 29 = .ok (.iload_n 1, 1) := by decide +kernel
theorem dX4_nextOf_30 : decode cX4_nextOf 30 = .ok (.iaload, 1) := by decide +kernel
theorem dX4_nextOf_31 : decode cX4_nextOf 31 = .ok (.ldc 142, 2) := by decide +kernel
theorem dX4_nextOf_33 : decode cX4_nextOf 33 = .ok (.if_icmp .ge 89, 3) := by decide +kernel
theorem dX4_nextOf_36 : decode cX4_nextOf 36 = .ok (.aload_n 0, 1) := by decide +kernel
theorem dX4_nextOf_37 : decode cX4_nextOf 37 = .ok (.iload_n 1, 1) := by decide +kernel
theorem dX4_nextOf_38 : decode cX4_nextOf 38 = .ok (.iload 4, 2) := by decide +kernel
theorem dX4_nextOf_40 : decode cX4_nextOf 40 = .ok (.invokevirtual 143, 3) := by decide +kernel
theorem dX4_nextOf_43 : decode cX4_nextOf 43 = .ok (.istore 5, 2) := by decide +kernel
theorem dX4_nextOf_45 : decode cX4_nextOf 45 = .ok (.iload 5, 2) := by decide +kernel
theorem dX4_nextOf_47 : decode cX4_nextOf 47 = .ok (.ldc 142, 2) := by decide +kernel
theorem dX4_nextOf_49 : decode cX4_nextOf 49 = .ok (.if_icmp .ge 31, 3) := by decide +kernel
theorem dX4_nextOf_52 : decode cX4_nextOf 52 = .ok (.iload 5, 2) := by decide +kernel
theorem dX4_nextOf_54 : decode cX4_nextOf 54 = .ok (.aload_n 0, 1) := by decide +kernel
theorem dX4_nextOf_55 : decode cX4_nextOf 55 = .ok (.getfield 22, 3) := by decide +kernel
theorem dX4_nextOf_58 : decode cX4_nextOf 58 = .ok (.aload_n 0, 1) := by decide +kernel
theorem dX4_nextOf_59 : decode cX4_nextOf 59 = .ok (.iload_n 1, 1) := by decide +kernel
theorem dX4_nextOf_60 : decode cX4_nextOf 60 = .ok (.iload 4, 2) := by decide +kernel
theorem dX4_nextOf_62 : decode cX4_nextOf 62 = .ok (.invokevirtual 139, 3) := by decide +kernel
theorem dX4_nextOf_65 : decode cX4_nextOf 65 = .ok (.iaload, 1) := by decide +kernel
theorem dX4_nextOf_66 : decode cX4_nextOf 66 = .ok (.iadd, 1) := by decide +kernel
theorem dX4_nextOf_67 : decode cX4_nextOf 67 = .ok (.aload_n 0, 1) := by decide +kernel
theorem dX4_nextOf_68 : decode cX4_nextOf 68 = .ok (.getfield 22, 3) := by decide +kernel
theorem dX4_nextOf_71 : decode cX4_nextOf 71 = .ok (.iload_n 1, 1) := by decide +kernel
theorem dX4_nextOf_72 : decode cX4_nextOf 72 = .ok (.iaload, 1) := by decide +kernel
theorem dX4_nextOf_73 : decode cX4_nextOf 73 = .ok (.if_icmp .ne 7, 3) := by decide +kernel
theorem dX4_nextOf_76 : decode cX4_nextOf 76 = .ok (.iconst 1, 1) := by decide +kernel
theorem dX4_nextOf_77 : decode cX4_nextOf 77 = .ok (.goto 4, 3) := by decide +kernel
theorem dX4_nextOf_80 : decode cX4_nextOf 80 = .ok (.iconst 0, 1) := by decide +kernel
theorem dX4_nextOf_81 : decode cX4_nextOf 81 = .ok (.istore 6, 2) := by decide +kernel
theorem dX4_nextOf_83 : decode cX4_nextOf 83 = .ok (.iload 6, 2) := by decide +kernel
theorem dX4_nextOf_85 : decode cX4_nextOf 85 = .ok (.ifCond .eq 29, 3) := by decide +kernel
theorem dX4_nextOf_88 : decode cX4_nextOf 88 = .ok (.iload_n 3, 1) := by decide +kernel
theorem dX4_nextOf_89 : decode cX4_nextOf 89 = .ok (.iconst (-1), 1) := by decide +kernel
theorem dX4_nextOf_90 : decode cX4_nextOf 90 = .ok (.if_icmp .eq 14, 3) := by decide +kernel
theorem dX4_nextOf_93 : decode cX4_nextOf 93 = .ok (.aload_n 0, 1) := by decide +kernel
theorem dX4_nextOf_94 : decode cX4_nextOf 94 = .ok (.iload_n 1, 1) := by decide +kernel
theorem dX4_nextOf_95 : decode cX4_nextOf 95 = .ok (.iload 4, 2) := by decide +kernel
theorem dX4_nextOf_97 : decode cX4_nextOf 97 = .ok (.invokevirtual 139, 3) := by decide +kernel
theorem dX4_nextOf_100 : decode cX4_nextOf 100 = .ok (.iload_n 3, 1) := by decide +kernel
theorem dX4_nextOf_101 : decode cX4_nextOf 101 = .ok (.if_icmp .ge 13, 3) := by decide +kernel
theorem dX4_nextOf_104 : decode cX4_nextOf 104 = .ok (.aload_n 0, 1) := by decide +kernel
theorem dX4_nextOf_105 : decode cX4_nextOf 105 = .ok (.iload_n 1, 1) := by decide +kernel
theorem dX4_nextOf_106 : decode cX4_nextOf 106 = .ok (.iload 4, 2) := by decide +kernel
theorem dX4_nextOf_108 : decode cX4_nextOf 108 = .ok (.invokevirtual 139, 3) := by decide +kernel
theorem dX4_nextOf_111 : decode cX4_nextOf 111 = .ok (.goto 4, 3) := by decide +kernel
theorem dX4_nextOf_114 : decode cX4_nextOf 114 = .ok (.iload_n 3, 1) := by decide +kernel
theorem dX4_nextOf_115 : decode cX4_nextOf 115 = .ok (.istore_n 3, 1) := by decide +kernel
theorem dX4_nextOf_116 : decode cX4_nextOf 116 = .ok (.iinc 4 1, 3) := by decide +kernel
theorem dX4_nextOf_119 : decode cX4_nextOf 119 = .ok (.goto (-109), 3) := by decide +kernel
theorem dX4_nextOf_122 : decode cX4_nextOf 122 = .ok (.iload_n 3, 1) := by decide +kernel
theorem dX4_nextOf_123 : decode cX4_nextOf 123 = .ok (.ireturn, 1) := by decide +kernel
theorem dX4_next_0 : decode cX4_next 0 = .ok (.aload_n 0, 1) := by decide +kernel
theorem dX4_next_1 : decode cX4_next 1 = .ok (.iload_n 1, 1) := by decide +kernel
theorem dX4_next_2 : decode cX4_next 2 = .ok (.invokevirtual 102, 3) := by decide +kernel
theorem dX4_next_5 : decode cX4_next 5 = .ok (.ifCond .eq 20, 3) := by decide +kernel
theorem dX4_next_8 : decode cX4_next 8 = .ok (.aload_n 0, 1) := by decide +kernel
theorem dX4_next_9 : decode cX4_next 9 = .ok (.iload_n 2, 1) := by decide +kernel
theorem dX4_next_10 : decode cX4_next 10 = .ok (.invokevirtual 102, 3) := by decide +kernel
theorem dX4_next_13 : decode cX4_next 13 = .ok (.ifCond .eq 12, 3) := by decide +kernel
theorem dX4_next_16 : decode cX4_next 16 = .ok (.aload_n 0, 1) := by decide +kernel
theorem dX4_next_17 : decode cX4_next 17 = .ok (.iload_n 1, 1) := by decide +kernel
theorem dX4_next_18 : decode cX4_next 18 = .ok (.iload_n 2, 1) := by decide +kernel
theorem dX4_next_19 : decode cX4_next 19 = .ok (.invokevirtual 153, 3) := by decide +kernel
theorem dX4_next_22 : decode cX4_next 22 = .ok (.goto 5, 3) := by decide +kernel
theorem dX4_next_25 : decode cX4_next 25 = .ok (.bipush (-2), 2) := by decide +kernel
theorem dX4_next_27 : decode cX4_next 27 = .ok (.ireturn, 1) := by decide +kernel
theorem dX4_raceOf_0 : decode cX4_raceOf 0 = .ok (.aload_n 0, 1) := by decide +kernel
theorem dX4_raceOf_1 : decode cX4_raceOf 1 = .ok (.iload_n 3, 1) := by decide +kernel
theorem dX4_raceOf_2 : decode cX4_raceOf 2 = .ok (.invokevirtual 146, 3) := by decide +kernel
theorem dX4_raceOf_5 : decode cX4_raceOf 5 = .ok (.aload_n 0, 1) := by decide +kernel
theorem dX4_raceOf_6 : decode cX4_raceOf 6 = .ok (.getfield 22, 3) := by decide +kernel
theorem dX4_raceOf_9 : decode cX4_raceOf 9 = .ok (.iload_n 1, 1) := by decide +kernel
theorem dX4_raceOf_10 : decode cX4_raceOf 10 = .ok (.iaload, 1) := by decide +kernel
theorem dX4_raceOf_11 : decode cX4_raceOf 11 = .ok (.ldc 142, 2) := by decide +kernel
theorem dX4_raceOf_13 : decode cX4_raceOf 13 = .ok (.if_icmp .ne 18, 3) := by decide +kernel
theorem dX4_raceOf_16 : decode cX4_raceOf 16 = .ok (.aload_n 0, 1) := by decide +kernel
theorem dX4_raceOf_17 : decode cX4_raceOf 17 = .ok (.getfield 22, 3) := by decide +kernel
theorem dX4_raceOf_20 : decode cX4_raceOf 20 = .ok (.iload_n 2, 1) := by decide +kernel
theorem dX4_raceOf_21 : decode cX4_raceOf 21 = .ok (.iaload, 1) := by decide +kernel
theorem dX4_raceOf_22 : decode cX4_raceOf 22 = .ok (.ldc 142, 2) := by decide +kernel
theorem dX4_raceOf_24 : decode cX4_raceOf 24 = .ok (.if_icmp .ne 7, 3) := by decide +kernel
theorem dX4_raceOf_27 : decode cX4_raceOf 27 = .ok (.iconst (-1), 1) := by decide +kernel
theorem dX4_raceOf_28 : decode cX4_raceOf 28 = .ok (.goto 42, 3) := by decide +kernel
theorem dX4_raceOf_31 : decode cX4_raceOf 31 = .ok (.aload_n 0, 1) := by decide +kernel
theorem dX4_raceOf_32 : decode cX4_raceOf 32 = .ok (.getfield 22, 3) := by decide +kernel
theorem dX4_raceOf_35 : decode cX4_raceOf 35 = .ok (.iload_n 1, 1) := by decide +kernel
theorem dX4_raceOf_36 : decode cX4_raceOf 36 = .ok (.iaload, 1) := by decide +kernel
theorem dX4_raceOf_37 : decode cX4_raceOf 37 = .ok (.aload_n 0, 1) := by decide +kernel
theorem dX4_raceOf_38 : decode cX4_raceOf 38 = .ok (.getfield 22, 3) := by decide +kernel
theorem dX4_raceOf_41 : decode cX4_raceOf 41 = .ok (.iload_n 2, 1) := by decide +kernel
theorem dX4_raceOf_42 : decode cX4_raceOf 42 = .ok (.iaload, 1) := by decide +kernel
theorem dX4_raceOf_43 : decode cX4_raceOf 43 = .ok (.if_icmp .ge 7, 3) := by decide +kernel
theorem dX4_raceOf_46 : decode cX4_raceOf 46 = .ok (.iconst 0, 1) := by decide +kernel
theorem dX4_raceOf_47 : decode cX4_raceOf 47 = .ok (.goto 23, 3) := by decide +kernel
theorem dX4_raceOf_50 : decode cX4_raceOf 50 = .ok (.aload_n 0, 1) := by decide +kernel
theorem dX4_raceOf_51 : decode cX4_raceOf 51 = .ok (.getfield 22, 3) := by decide +kernel
theorem dX4_raceOf_54 : decode cX4_raceOf 54 = .ok (.iload_n 1, 1) := by decide +kernel
theorem dX4_raceOf_55 : decode cX4_raceOf 55 = .ok (.iaload, 1) := by decide +kernel
theorem dX4_raceOf_56 : decode cX4_raceOf 56 = .ok (.aload_n 0, 1) := by decide +kernel
theorem dX4_raceOf_57 : decode cX4_raceOf 57 = .ok (.getfield 22, 3) := by decide +kernel
theorem dX4_raceOf_60 : decode cX4_raceOf 60 = .ok (.iload_n 2, 1) := by decide +kernel
theorem dX4_raceOf_61 : decode cX4_raceOf 61 = .ok (.iaload, 1) := by decide +kernel
theorem dX4_raceOf_62 : decode cX4_raceOf 62 = .ok (.if_icmp .le 7, 3) := by decide +kernel
theorem dX4_raceOf_65 : decode cX4_raceOf 65 = .ok (.iconst 1, 1) := by decide +kernel
theorem dX4_raceOf_66 : decode cX4_raceOf 66 = .ok (.goto 4, 3) := by decide +kernel
theorem dX4_raceOf_69 : decode cX4_raceOf 69 = .ok (.iconst 2, 1) := by decide +kernel
theorem dX4_raceOf_70 : decode cX4_raceOf 70 = .ok (.ireturn, 1) := by decide +kernel
theorem dX4_race_0 : decode cX4_race 0 = .ok (.aload_n 0, 1) := by decide +kernel
theorem dX4_race_1 : decode cX4_race 1 = .ok (.iload_n 1, 1) := by decide +kernel
theorem dX4_race_2 : decode cX4_race 2 = .ok (.invokevirtual 102, 3) := by decide +kernel
theorem dX4_race_5 : decode cX4_race 5 = .ok (.ifCond .eq 29, 3) := by decide +kernel
theorem dX4_race_8 : decode cX4_race 8 = .ok (.aload_n 0, 1) := by decide +kernel
theorem dX4_race_9 : decode cX4_race 9 = .ok (.iload_n 2, 1) := by decide +kernel
theorem dX4_race_10 : decode cX4_race 10 = .ok (.invokevirtual 102, 3) := by decide +kernel
theorem dX4_race_13 : decode cX4_race 13 = .ok (.ifCond .eq 21, 3) := by decide +kernel
theorem dX4_race_16 : decode cX4_race 16 = .ok (.aload_n 0, 1) := by decide +kernel
theorem dX4_race_17 : decode cX4_race 17 = .ok (.iload_n 3, 1) := by decide +kernel
theorem dX4_race_18 : decode cX4_race 18 = .ok (.invokevirtual 102, 3) := by decide +kernel
theorem dX4_race_21 : decode cX4_race 21 = .ok (.ifCond .eq 13, 3) := by decide +kernel
theorem dX4_race_24 : decode cX4_race 24 = .ok (.aload_n 0, 1) := by decide +kernel
theorem dX4_race_25 : decode cX4_race 25 = .ok (.iload_n 1, 1) := by decide +kernel
theorem dX4_race_26 : decode cX4_race 26 = .ok (.iload_n 2, 1) := by decide +kernel
theorem dX4_race_27 : decode cX4_race 27 = .ok (.iload_n 3, 1) := by decide +kernel
theorem dX4_race_28 : decode cX4_race 28 = .ok (.invokevirtual 156, 3) := by decide +kernel
theorem dX4_race_31 : decode cX4_race 31 = .ok (.goto 5, 3) := by decide +kernel
theorem dX4_race_34 : decode cX4_race 34 = .ok (.bipush (-2), 2) := by decide +kernel
theorem dX4_race_36 : decode cX4_race 36 = .ok (.ireturn, 1) := by decide +kernel
theorem dX4_reachOf_0 : decode cX4_reachOf 0 = .ok (.iconst 0, 1) := by decide +kernel
theorem dX4_reachOf_1 : decode cX4_reachOf 1 = .ok (.istore_n 2, 1) := by decide +kernel
theorem dX4_reachOf_2 : decode cX4_reachOf 2 = .ok (.iload_n 2, 1) := by decide +kernel
theorem dX4_reachOf_3 : decode cX4_reachOf 3 = .ok (.aload_n 0, 1) := by decide +kernel
theorem dX4_reachOf_4 : decode cX4_reachOf 4 = .ok (.getfield 72, 3) := by decide +kernel
theorem dX4_reachOf_7 : decode cX4_reachOf 7 = .ok (.if_icmp .ge 33, 3) := by decide +kernel
theorem dX4_reachOf_10 : decode cX4_reachOf 10 = .ok (.aload_n 0, 1) := by decide +kernel
theorem dX4_reachOf_11 : decode cX4_reachOf 11 = .ok (.getfield 25, 3) := by decide +kernel
theorem dX4_reachOf_14 : decode cX4_reachOf 14 = .ok (.iload_n 2, 1) := by decide +kernel
theorem dX4_reachOf_15 : decode cX4_reachOf 15 = .ok (.iload_n 2, 1) := by decide +kernel
theorem dX4_reachOf_16 : decode cX4_reachOf 16 = .ok (.iload_n 1, 1) := by decide +kernel
theorem dX4_reachOf_17 : decode cX4_reachOf 17 = .ok (.if_icmp .ne 15, 3) := by decide +kernel
theorem dX4_reachOf_20 : decode cX4_reachOf 20 = .ok (.aload_n 0, 1) := by decide +kernel
theorem dX4_reachOf_21 : decode cX4_reachOf 21 = .ok (.iload_n 2, 1) := by decide +kernel
theorem dX4_reachOf_22 : decode cX4_reachOf 22 = .ok (.invokevirtual 99, 3) := by decide +kernel
theorem dX4_reachOf_25 : decode cX4_reachOf 25 = .ok (.ifCond .eq 7, 3) := by decide +kernel
theorem dX4_reachOf_28 : decode cX4_reachOf 28 = .ok (.iconst 1, 1) := by decide +kernel
theorem dX4_reachOf_29 : decode cX4_reachOf 29 = .ok (.goto 4, 3) := by decide +kernel
theorem dX4_reachOf_32 : decode cX4_reachOf 32 = .ok (.iconst 0, 1) := by decide +kernel
theorem dX4_reachOf_33 : decode cX4_reachOf 33 = .ok (.bastore, 1) := by decide +kernel
theorem dX4_reachOf_34 : decode cX4_reachOf 34 = .ok (.iinc 2 1, 3) := by decide +kernel
theorem dX4_reachOf_37 : decode cX4_reachOf 37 = .ok (.goto (-35), 3) := by decide +kernel
theorem dX4_reachOf_40 : decode cX4_reachOf 40 = .ok (.iconst 1, 1) := by decide +kernel
theorem dX4_reachOf_41 : decode cX4_reachOf 41 = .ok (.istore_n 2, 1) := by decide +kernel
theorem dX4_reachOf_42 : decode cX4_reachOf 42 = .ok (.iload_n 2, 1) := by decide +kernel
theorem dX4_reachOf_43 : decode cX4_reachOf 43 = .ok (.ifCond .eq 90, 3) := by decide +kernel
theorem dX4_reachOf_46 : decode cX4_reachOf 46 = .ok (.iconst 0, 1) := by decide +kernel
theorem dX4_reachOf_47 : decode cX4_reachOf 47 = .ok (.istore_n 2, 1) := by decide +kernel
theorem dX4_reachOf_48 : decode cX4_reachOf 48 = .ok (.iconst 0, 1) := by decide +kernel
theorem dX4_reachOf_49 : decode cX4_reachOf 49 = .ok (.istore_n 3, 1) := by decide +kernel
theorem dX4_reachOf_50 : decode cX4_reachOf 50 = .ok (.iload_n 3, 1) := by decide +kernel
theorem dX4_reachOf_51 : decode cX4_reachOf 51 = .ok (.aload_n 0, 1) := by decide +kernel
theorem dX4_reachOf_52 : decode cX4_reachOf 52 = .ok (.getfield 72, 3) := by decide +kernel
theorem dX4_reachOf_55 : decode cX4_reachOf 55 = .ok (.if_icmp .ge 75, 3) := by decide +kernel
theorem dX4_reachOf_58 : decode cX4_reachOf 58 = .ok (.iconst 0, 1) := by decide +kernel
theorem dX4_reachOf_59 : decode cX4_reachOf 59 = .ok (.istore 4, 2) := by decide +kernel
theorem dX4_reachOf_61 : decode cX4_reachOf 61 = .ok (.iload 4, 2) := by decide +kernel
theorem dX4_reachOf_63 : decode cX4_reachOf 63 = .ok (.iconst 4, 1) := by decide +kernel
theorem dX4_reachOf_64 : decode cX4_reachOf 64 = .ok (.if_icmp .ge 60, 3) := by decide +kernel
theorem dX4_reachOf_67 : decode cX4_reachOf 67 = .ok (.aload_n 0, 1) := by decide +kernel
theorem dX4_reachOf_68 : decode cX4_reachOf 68 = .ok (.getfield 25, 3) := by decide +kernel
theorem dX4_reachOf_71 : decode cX4_reachOf 71 = .ok (.iload_n 3, 1) := by decide +kernel
theorem dX4_reachOf_72 : decode cX4_reachOf 72 = .ok (.baload, 1) := by decide +kernel
theorem dX4_reachOf_73 : decode cX4_reachOf 73 = .ok (.ifCond .eq 51, 3) := by decide +kernel
theorem dX4_reachOf_76 : decode cX4_reachOf 76 = .ok (.aload_n 0, 1) := by decide +kernel
theorem dX4_reachOf_77 : decode cX4_reachOf 77 = .ok (.iload_n 3, 1) := by decide +kernel
theorem dX4_reachOf_78 : decode cX4_reachOf 78 = .ok (.iload 4, 2) := by decide +kernel
theorem dX4_reachOf_80 : decode cX4_reachOf 80 = .ok (.invokevirtual 143, 3) := by decide +kernel
theorem dX4_reachOf_83 : decode cX4_reachOf 83 = .ok (.ldc 142, 2) := by decide +kernel
theorem dX4_reachOf_85 : decode cX4_reachOf 85 = .ok (.if_icmp .ge 33, 3) := by decide +kernel
theorem dX4_reachOf_88 : decode cX4_reachOf 88 = .ok (.aload_n 0, 1) := by decide +kernel
theorem dX4_reachOf_89 : decode cX4_reachOf 89 = .ok (.getfield 25, 3) := by decide +kernel
theorem dX4_reachOf_92 : decode cX4_reachOf 92 = .ok (.aload_n 0, 1) := by decide +kernel
theorem dX4_reachOf_93 : decode cX4_reachOf 93 = .ok (.iload_n 3, 1) := by decide +kernel
theorem dX4_reachOf_94 : decode cX4_reachOf 94 = .ok (.iload 4, 2) := by decide +kernel
theorem dX4_reachOf_96 : decode cX4_reachOf 96 = .ok (.invokevirtual 139, 3) := by decide +kernel
theorem dX4_reachOf_99 : decode cX4_reachOf 99 = .ok (.baload, 1) := by decide +kernel
theorem dX4_reachOf_100 : decode cX4_reachOf 100 = .ok (.ifCond .ne 18, 3) := by decide +kernel
theorem dX4_reachOf_103 : decode cX4_reachOf 103 = .ok (.aload_n 0, 1) := by decide +kernel
theorem dX4_reachOf_104 : decode cX4_reachOf 104 = .ok (.getfield 25, 3) := by decide +kernel
theorem dX4_reachOf_107 : decode cX4_reachOf 107 = .ok (.aload_n 0, 1) := by decide +kernel
theorem dX4_reachOf_108 : decode cX4_reachOf 108 = .ok (.iload_n 3, 1) := by decide +kernel
theorem dX4_reachOf_109 : decode cX4_reachOf 109 = .ok (.iload 4, 2) := by decide +kernel
theorem dX4_reachOf_111 : decode cX4_reachOf 111 = .ok (.invokevirtual 139, 3) := by decide +kernel
theorem dX4_reachOf_114 : decode cX4_reachOf 114 = .ok (.iconst 1, 1) := by decide +kernel
theorem dX4_reachOf_115 : decode cX4_reachOf 115 = .ok (.bastore, 1) := by decide +kernel
theorem dX4_reachOf_116 : decode cX4_reachOf 116 = .ok (.iconst 1, 1) := by decide +kernel
theorem dX4_reachOf_117 : decode cX4_reachOf 117 = .ok (.istore_n 2, 1) := by decide +kernel
theorem dX4_reachOf_118 : decode cX4_reachOf 118 = .ok (.iinc 4 1, 3) := by decide +kernel
theorem dX4_reachOf_121 : decode cX4_reachOf 121 = .ok (.goto (-60), 3) := by decide +kernel
theorem dX4_reachOf_124 : decode cX4_reachOf 124 = .ok (.iinc 3 1, 3) := by decide +kernel
theorem dX4_reachOf_127 : decode cX4_reachOf 127 = .ok (.goto (-77), 3) := by decide +kernel
theorem dX4_reachOf_130 : decode cX4_reachOf 130 = .ok (.goto (-88), 3) := by decide +kernel
theorem dX4_reachOf_133 : decode cX4_reachOf 133 = .ok (.iconst 0, 1) := by decide +kernel
theorem dX4_reachOf_134 : decode cX4_reachOf 134 = .ok (.istore_n 3, 1) := by decide +kernel
theorem dX4_reachOf_135 : decode cX4_reachOf 135 = .ok (.iconst 0, 1) := by decide +kernel
theorem dX4_reachOf_136 : decode cX4_reachOf 136 = .ok (.istore 4, 2) := by decide +kernel
theorem dX4_reachOf_138 : decode cX4_reachOf 138 = .ok (.iload 4, 2) := by decide +kernel
theorem dX4_reachOf_140 : decode cX4_reachOf 140 = .ok (.aload_n 0, 1) := by decide +kernel
theorem dX4_reachOf_141 : decode cX4_reachOf 141 = .ok (.getfield 72, 3) := by decide +kernel
theorem dX4_reachOf_144 : decode cX4_reachOf 144 = .ok (.if_icmp .ge 27, 3) := by decide +kernel
theorem dX4_reachOf_147 : decode cX4_reachOf 147 = .ok (.iload_n 3, 1) := by decide +kernel
theorem dX4_reachOf_148 : decode cX4_reachOf 148 = .ok (.aload_n 0, 1) := by decide +kernel
theorem dX4_reachOf_149 : decode cX4_reachOf 149 = .ok (.getfield 25, 3) := by decide +kernel
theorem dX4_reachOf_152 : decode cX4_reachOf 152 = .ok (.iload 4, 2) := by decide +kernel
theorem dX4_reachOf_154 : decode cX4_reachOf 154 = .ok (.baload, 1) := by decide +kernel
theorem dX4_reachOf_155 : decode cX4_reachOf 155 = .ok (.ifCond .eq 7, 3) := by decide +kernel
theorem dX4_reachOf_158 : decode cX4_reachOf 158 = .ok (.iconst 1, 1) := by decide +kernel
theorem dX4_reachOf_159 : decode cX4_reachOf 159 = .ok (.goto 4, 3) := by decide +kernel
theorem dX4_reachOf_162 : decode cX4_reachOf 162 = .ok (.iconst 0, 1) := by decide +kernel
theorem dX4_reachOf_163 : decode cX4_reachOf 163 = .ok (.iadd, 1) := by decide +kernel
theorem dX4_reachOf_164 : decode cX4_reachOf 164 = .ok (.istore_n 3, 1) := by decide +kernel
theorem dX4_reachOf_165 : decode cX4_reachOf 165 = .ok (.iinc 4 1, 3) := by decide +kernel
theorem dX4_reachOf_168 : decode cX4_reachOf 168 = .ok (.goto (-30), 3) := by decide +kernel
theorem dX4_reachOf_171 : decode cX4_reachOf 171 = .ok (.iload_n 3, 1) := by decide +kernel
theorem dX4_reachOf_172 : decode cX4_reachOf 172 = .ok (.ireturn, 1) := by decide +kernel
theorem dX4_reach_0 : decode cX4_reach 0 = .ok (.aload_n 0, 1) := by decide +kernel
theorem dX4_reach_1 : decode cX4_reach 1 = .ok (.iload_n 1, 1) := by decide +kernel
theorem dX4_reach_2 : decode cX4_reach 2 = .ok (.invokevirtual 102, 3) := by decide +kernel
theorem dX4_reach_5 : decode cX4_reach 5 = .ok (.ifCond .eq 11, 3) := by decide +kernel
theorem dX4_reach_8 : decode cX4_reach 8 = .ok (.aload_n 0, 1) := by decide +kernel
theorem dX4_reach_9 : decode cX4_reach 9 = .ok (.iload_n 1, 1) := by decide +kernel
theorem dX4_reach_10 : decode cX4_reach 10 = .ok (.invokevirtual 160, 3) := by decide +kernel
theorem dX4_reach_13 : decode cX4_reach 13 = .ok (.goto 5, 3) := by decide +kernel
theorem dX4_reach_16 : decode cX4_reach 16 = .ok (.bipush (-2), 2) := by decide +kernel
theorem dX4_reach_18 : decode cX4_reach 18 = .ok (.ireturn, 1) := by decide +kernel
theorem dX4_flows_0 : decode cX4_flows 0 = .ok (.iconst 0, 1) := by decide +kernel
theorem dX4_flows_1 : decode cX4_flows 1 = .ok (.istore_n 2, 1) := by decide +kernel
theorem dX4_flows_2 : decode cX4_flows 2 = .ok (.iconst 0, 1) := by decide +kernel
theorem dX4_flows_3 : decode cX4_flows 3 = .ok (.istore_n 3, 1) := by decide +kernel
theorem dX4_flows_4 : decode cX4_flows 4 = .ok (.iload_n 3, 1) := by decide +kernel
theorem dX4_flows_5 : decode cX4_flows 5 = .ok (.aload_n 0, 1) := by decide +kernel
theorem dX4_flows_6 : decode cX4_flows 6 = .ok (.getfield 72, 3) := by decide +kernel
theorem dX4_flows_9 : decode cX4_flows 9 = .ok (.if_icmp .ge 56, 3) := by decide +kernel
theorem dX4_flows_12 : decode cX4_flows 12 = .ok (.aload_n 0, 1) := by decide +kernel
theorem dX4_flows_13 : decode cX4_flows 13 = .ok (.getfield 29, 3) := by decide +kernel
theorem dX4_flows_16 : decode cX4_flows 16 = .ok (.iload_n 3, 1) := by decide +kernel
theorem dX4_flows_17 : decode cX4_flows 17 = .ok (.aload_n 0, 1) := by decide +kernel
theorem dX4_flows_18 : decode cX4_flows 18 = .ok (.getfield 13, 3) := by decide +kernel
theorem dX4_flows_21 : decode cX4_flows 21 = .ok (.iload_n 3, 1) := by decide +kernel
theorem dX4_flows_22 : decode cX4_flows 22 = .ok (.iaload, 1) := by decide +kernel
theorem dX4_flows_23 : decode cX4_flows 23 = .ok (.iconst 3, 1) := by decide +kernel
theorem dX4_flows_24 : decode cX4_flows 24 = .ok (.if_icmp .ne 15, 3) := by decide +kernel
theorem dX4_flows_27 : decode cX4_flows 27 = .ok (.iload_n 1, 1) := by decide +kernel
theorem dX4_flows_28 : decode cX4_flows 28 = .ok (.iload_n 2, 1) := by decide +kernel
theorem dX4_flows_29 : decode cX4_flows 29 = .ok (.invokestatic 163, 3) := by decide +kernel
theorem dX4_flows_32 : decode cX4_flows 32 = .ok (.ifCond .eq 7, 3) := by decide +kernel
theorem dX4_flows_35 : decode cX4_flows 35 = .ok (.iconst 1, 1) := by decide +kernel
theorem dX4_flows_36 : decode cX4_flows 36 = .ok (.goto 4, 3) := by decide +kernel
theorem dX4_flows_39 : decode cX4_flows 39 = .ok (.iconst 0, 1) := by decide +kernel
theorem dX4_flows_40 : decode cX4_flows 40 = .ok (.bastore, 1) := by decide +kernel
theorem dX4_flows_41 : decode cX4_flows 41 = .ok (.iload_n 2, 1) := by decide +kernel
theorem dX4_flows_42 : decode cX4_flows 42 = .ok (.aload_n 0, 1) := by decide +kernel
theorem dX4_flows_43 : decode cX4_flows 43 = .ok (.getfield 13, 3) := by decide +kernel
theorem dX4_flows_46 : decode cX4_flows 46 = .ok (.iload_n 3, 1) := by decide +kernel
theorem dX4_flows_47 : decode cX4_flows 47 = .ok (.iaload, 1) := by decide +kernel
theorem dX4_flows_48 : decode cX4_flows 48 = .ok (.iconst 3, 1) := by decide +kernel
theorem dX4_flows_49 : decode cX4_flows 49 = .ok (.if_icmp .ne 7, 3) := by decide +kernel
theorem dX4_flows_52 : decode cX4_flows 52 = .ok (.iconst 1, 1) := by decide +kernel
theorem dX4_flows_53 : decode cX4_flows 53 = .ok (.goto 4, 3) := by decide +kernel
theorem dX4_flows_56 : decode cX4_flows 56 = .ok (.iconst 0, 1) := by decide +kernel
theorem dX4_flows_57 : decode cX4_flows 57 = .ok (.iadd, 1) := by decide +kernel
theorem dX4_flows_58 : decode cX4_flows 58 = .ok (.istore_n 2, 1) := by decide +kernel
theorem dX4_flows_59 : decode cX4_flows 59 = .ok (.iinc 3 1, 3) := by decide +kernel
theorem dX4_flows_62 : decode cX4_flows 62 = .ok (.goto (-58), 3) := by decide +kernel
theorem dX4_flows_65 : decode cX4_flows 65 = .ok (.iconst 1, 1) := by decide +kernel
theorem dX4_flows_66 : decode cX4_flows 66 = .ok (.istore_n 3, 1) := by decide +kernel
theorem dX4_flows_67 : decode cX4_flows 67 = .ok (.iload_n 3, 1) := by decide +kernel
theorem dX4_flows_68 : decode cX4_flows 68 = .ok (.ifCond .eq 145, 3) := by decide +kernel
theorem dX4_flows_71 : decode cX4_flows 71 = .ok (.iconst 0, 1) := by decide +kernel
theorem dX4_flows_72 : decode cX4_flows 72 = .ok (.istore_n 3, 1) := by decide +kernel
theorem dX4_flows_73 : decode cX4_flows 73 = .ok (.iconst 0, 1) := by decide +kernel
theorem dX4_flows_74 : decode cX4_flows 74 = .ok (.istore 4, 2) := by decide +kernel
theorem dX4_flows_76 : decode cX4_flows 76 = .ok (.iload 4, 2) := by decide +kernel
theorem dX4_flows_78 : decode cX4_flows 78 = .ok (.aload_n 0, 1) := by decide +kernel
theorem dX4_flows_79 : decode cX4_flows 79 = .ok (.getfield 72, 3) := by decide +kernel
theorem dX4_flows_82 : decode cX4_flows 82 = .ok (.if_icmp .ge 128, 3) := by decide +kernel
theorem dX4_flows_85 : decode cX4_flows 85 = .ok (.iconst 0, 1) := by decide +kernel
theorem dX4_flows_86 : decode cX4_flows 86 = .ok (.istore 5, 2) := by decide +kernel
theorem dX4_flows_88 : decode cX4_flows 88 = .ok (.iload 5, 2) := by decide +kernel
theorem dX4_flows_90 : decode cX4_flows 90 = .ok (.iconst 4, 1) := by decide +kernel
theorem dX4_flows_91 : decode cX4_flows 91 = .ok (.if_icmp .ge 113, 3) := by decide +kernel
theorem dX4_flows_94 : decode cX4_flows 94 = .ok (.aload_n 0, 1) := by decide +kernel
theorem dX4_flows_95 : decode cX4_flows 95 = .ok (.getfield 29, 3) := by decide +kernel
theorem dX4_flows_98 : decode cX4_flows 98 = .ok (.iload 4, 2) := by decide +kernel
theorem dX4_flows_100 : decode cX4_flows 100 = .ok (.baload, 1) := by decide +kernel
theorem dX4_flows_101 : decode cX4_flows 101 = .ok (.ifCond .eq 103, 3) := by decide +kernel
theorem dX4_flows_104 : decode cX4_flows 104 = .ok (.aload_n 0, 1) := by decide +kernel
theorem dX4_flows_105 : decode cX4_flows 105 = .ok (.iload 4, 2) := by decide +kernel
theorem dX4_flows_107 : decode cX4_flows 107 = .ok (.iload 5, 2) := by decide +kernel
theorem dX4_flows_109 : decode cX4_flows 109 = .ok (.invokevirtual 139, 3) := by decide +kernel
theorem dX4_flows_112 : decode cX4_flows 112 = .ok (.istore 6, 2) := by decide +kernel
theorem dX4_flows_114 : decode cX4_flows 114 = .ok (.aload_n 0, 1) := by decide +kernel
theorem dX4_flows_115 : decode cX4_flows 115 = .ok (.aload_n 0, 1) := by decide +kernel
theorem dX4_flows_116 : decode cX4_flows 116 = .ok (.iload 4, 2) := by decide +kernel
theorem dX4_flows_118 : decode cX4_flows 118 = .ok (.invokevirtual 96, 3) := by decide +kernel
theorem dX4_flows_121 : decode cX4_flows 121 = .ok (.invokevirtual 99, 3) := by decide +kernel
theorem dX4_flows_124 : decode cX4_flows 124 = .ok (.istore 7, 2) := by decide +kernel
theorem dX4_flows_126 : decode cX4_flows 126 = .ok (.aload_n 0, 1) := by decide +kernel
theorem dX4_flows_127 : decode cX4_flows 127 = .ok (.iload 6, 2) := by decide +kernel
theorem dX4_flows_129 : decode cX4_flows 129 = .ok (.invokevirtual 99, 3) := by decide +kernel
theorem dX4_flows_132 : decode cX4_flows 132 = .ok (.ifCond .eq 38, 3) := by decide +kernel
theorem dX4_flows_135 : decode cX4_flows 135 = .ok (.iload 7, 2) := by decide +kernel
theorem dX4_flows_137 : decode cX4_flows 137 = .ok (.ifCond .eq 23, 3) := by decide +kernel
theorem dX4_flows_140 : decode cX4_flows 140 = .ok (.iload 5, 2) := by decide +kernel
theorem dX4_flows_142 : decode cX4_flows 142 = .ok (.iconst 1, 1) := by decide +kernel
theorem dX4_flows_143 : decode cX4_flows 143 = .ok (.if_icmp .le 27, 3) := by decide +kernel
theorem dX4_flows_146 : decode cX4_flows 146 = .ok (.iload 6, 2) := by decide +kernel
theorem dX4_flows_148 : decode cX4_flows 148 = .ok (.aload_n 0, 1) := by decide +kernel
theorem dX4_flows_149 : decode cX4_flows 149 = .ok (.iload 4, 2) := by decide +kernel
theorem dX4_flows_151 : decode cX4_flows 151 = .ok (.invokevirtual 96, 3) := by decide +kernel
theorem dX4_flows_154 : decode cX4_flows 154 = .ok (.if_icmp .ne 16, 3) := by decide +kernel
theorem dX4_flows_157 : decode cX4_flows 157 = .ok (.goto 9, 3) := by decide +kernel
theorem dX4_flows_160 : decode cX4_flows 160 = .ok (.iload 5, 2) := by decide +kernel
theorem dX4_flows_162 : decode cX4_flows 162 = .ok (.iconst 2, 1) := by decide +kernel
theorem dX4_flows_163 : decode cX4_flows 163 = .ok (.if_icmp .ge 7, 3) := by decide +kernel
theorem dX4_flows_166 : decode cX4_flows 166 = .ok (.iconst 1, 1) := by decide +kernel
theorem dX4_flows_167 : decode cX4_flows 167 = .ok (.goto 4, 3) := by decide +kernel
theorem dX4_flows_170 : decode cX4_flows 170 = .ok (.iconst 0, 1) := by decide +kernel
theorem dX4_flows_171 : decode cX4_flows 171 = .ok (.istore 8, 2) := by decide +kernel
theorem dX4_flows_173 : decode cX4_flows 173 = .ok (.iload 8, 2) := by decide +kernel
theorem dX4_flows_175 : decode cX4_flows 175 = .ok (.ifCond .eq 23, 3) := by decide +kernel
theorem dX4_flows_178 : decode cX4_flows 178 = .ok (.aload_n 0, 1) := by decide +kernel
theorem dX4_flows_179 : decode cX4_flows 179 = .ok (.getfield 29, 3) := by decide +kernel
theorem dX4_flows_182 : decode cX4_flows 182 = .ok (.iload 6, 2) := by decide +kernel
theorem dX4_flows_184 : decode cX4_flows 184 = .ok (.baload, 1) := by decide +kernel
theorem dX4_flows_185 : decode cX4_flows 185 = .ok (.ifCond .ne 13, 3) := by decide +kernel
theorem dX4_flows_188 : decode cX4_flows 188 = .ok (.aload_n 0, 1) := by decide +kernel
theorem dX4_flows_189 : decode cX4_flows 189 = .ok (.getfield 29, 3) := by decide +kernel
theorem dX4_flows_192 : decode cX4_flows 192 = .ok (.iload 6, 2) := by decide +kernel
theorem dX4_flows_194 : decode cX4_flows 194 = .ok (.iconst 1, 1) := by decide +kernel
theorem dX4_flows_195 : decode cX4_flows 195 = .ok (.bastore, 1) := by decide +kernel
theorem dX4_flows_196 : decode cX4_flows 196 = .ok (.iconst 1, 1) := by decide +kernel
theorem dX4_flows_197 : decode cX4_flows 197 = .ok (.istore_n 3, 1) := by decide +kernel
theorem dX4_flows_198 : decode cX4_flows 198 = .ok (.iinc 5 1, 3) := by decide +kernel
theorem dX4_flows_201 : decode cX4_flows 201 = .ok (.goto (-113), 3) := by decide +kernel
theorem dX4_flows_204 : decode cX4_flows 204 = .ok (.iinc 4 1, 3) := by decide +kernel
theorem dX4_flows_207 : decode cX4_flows 207 = .ok (.goto (-131), 3) := by decide +kernel
theorem dX4_flows_210 : decode cX4_flows 210 = .ok (.goto (-143), 3) := by decide +kernel
theorem dX4_flows_213 : decode cX4_flows 213 = .ok (.return_, 1) := by decide +kernel
theorem dX4_wetOf_0 : decode cX4_wetOf 0 = .ok (.aload_n 0, 1) := by decide +kernel
theorem dX4_wetOf_1 : decode cX4_wetOf 1 = .ok (.iconst (-1), 1) := by decide +kernel
theorem dX4_wetOf_2 : decode cX4_wetOf 2 = .ok (.invokevirtual 167, 3) := by decide +kernel
theorem dX4_wetOf_5 : decode cX4_wetOf 5 = .ok (.aload_n 0, 1) := by decide +kernel
theorem dX4_wetOf_6 : decode cX4_wetOf 6 = .ok (.getfield 29, 3) := by decide +kernel
theorem dX4_wetOf_9 : decode cX4_wetOf 9 = .ok (.iload_n 1, 1) := by decide +kernel
theorem dX4_wetOf_10 : decode cX4_wetOf 10 = .ok (.baload, 1) := by decide +kernel
theorem dX4_wetOf_11 : decode cX4_wetOf 11 = .ok (.ifCond .eq 7, 3) := by decide +kernel
theorem dX4_wetOf_14 : decode cX4_wetOf 14 = .ok (.iconst 1, 1) := by decide +kernel
theorem dX4_wetOf_15 : decode cX4_wetOf 15 = .ok (.goto 4, 3) := by decide +kernel
theorem dX4_wetOf_18 : decode cX4_wetOf 18 = .ok (.iconst 0, 1) := by decide +kernel
theorem dX4_wetOf_19 : decode cX4_wetOf 19 = .ok (.ireturn, 1) := by decide +kernel
theorem dX4_wet_0 : decode cX4_wet 0 = .ok (.aload_n 0, 1) := by decide +kernel
theorem dX4_wet_1 : decode cX4_wet 1 = .ok (.iload_n 1, 1) := by decide +kernel
theorem dX4_wet_2 : decode cX4_wet 2 = .ok (.invokevirtual 102, 3) := by decide +kernel
theorem dX4_wet_5 : decode cX4_wet 5 = .ok (.ifCond .eq 11, 3) := by decide +kernel
theorem dX4_wet_8 : decode cX4_wet 8 = .ok (.aload_n 0, 1) := by decide +kernel
theorem dX4_wet_9 : decode cX4_wet 9 = .ok (.iload_n 1, 1) := by decide +kernel
theorem dX4_wet_10 : decode cX4_wet 10 = .ok (.invokevirtual 170, 3) := by decide +kernel
theorem dX4_wet_13 : decode cX4_wet 13 = .ok (.goto 5, 3) := by decide +kernel
theorem dX4_wet_16 : decode cX4_wet 16 = .ok (.bipush (-2), 2) := by decide +kernel
theorem dX4_wet_18 : decode cX4_wet 18 = .ok (.ireturn, 1) := by decide +kernel
theorem dX4_plugs_0 : decode cX4_plugs 0 = .ok (.iload_n 2, 1) := by decide +kernel
theorem dX4_plugs_1 : decode cX4_plugs 1 = .ok (.iconst (-1), 1) := by decide +kernel
theorem dX4_plugs_2 : decode cX4_plugs 2 = .ok (.if_icmp .ne 7, 3) := by decide +kernel
theorem dX4_plugs_5 : decode cX4_plugs 5 = .ok (.iconst 0, 1) := by decide +kernel
theorem dX4_plugs_6 : decode cX4_plugs 6 = .ok (.goto 9, 3) := by decide +kernel
theorem dX4_plugs_9 : decode cX4_plugs 9 = .ok (.aload_n 0, 1) := by decide +kernel
theorem dX4_plugs_10 : decode cX4_plugs 10 = .ok (.getfield 13, 3) := by decide +kernel
theorem dX4_plugs_13 : decode cX4_plugs 13 = .ok (.iload_n 2, 1) := by decide +kernel
theorem dX4_plugs_14 : decode cX4_plugs 14 = .ok (.iaload, 1) := by decide +kernel
theorem dX4_plugs_15 : decode cX4_plugs 15 = .ok (.istore 4, 2) := by decide +kernel
theorem dX4_plugs_17 : decode cX4_plugs 17 = .ok (.iload_n 3, 1) := by decide +kernel
theorem dX4_plugs_18 : decode cX4_plugs 18 = .ok (.iconst (-1), 1) := by decide +kernel
theorem dX4_plugs_19 : decode cX4_plugs 19 = .ok (.if_icmp .ne 7, 3) := by decide +kernel
theorem dX4_plugs_22 : decode cX4_plugs 22 = .ok (.iconst 0, 1) := by decide +kernel
theorem dX4_plugs_23 : decode cX4_plugs 23 = .ok (.goto 9, 3) := by decide +kernel
theorem dX4_plugs_26 : decode cX4_plugs 26 = .ok (.aload_n 0, 1) := by decide +kernel
theorem dX4_plugs_27 : decode cX4_plugs 27 = .ok (.getfield 13, 3) := by decide +kernel
theorem dX4_plugs_30 : decode cX4_plugs 30 = .ok (.iload_n 3, 1) := by decide +kernel
theorem dX4_plugs_31 : decode cX4_plugs 31 = .ok (.iaload, 1) := by decide +kernel
theorem dX4_plugs_32 : decode cX4_plugs 32 = .ok (.istore 5, 2) := by decide +kernel
theorem dX4_plugs_34 : decode cX4_plugs 34 = .ok (.aload_n 0, 1) := by decide +kernel
theorem dX4_plugs_35 : decode cX4_plugs 35 = .ok (.getfield 13, 3) := by decide +kernel
theorem dX4_plugs_38 : decode cX4_plugs 38 = .ok (.iload_n 2, 1) := by decide +kernel
theorem dX4_plugs_39 : decode cX4_plugs 39 = .ok (.iconst (-1), 1) := by decide +kernel
theorem dX4_plugs_40 : decode cX4_plugs 40 = .ok (.if_icmp .ne 8, 3) := by decide +kernel
theorem dX4_plugs_43 : decode cX4_plugs 43 = .ok (.bipush 35, 2) := by decide +kernel
theorem dX4_plugs_45 : decode cX4_plugs 45 = .ok (.goto 4, 3) := by decide +kernel
theorem dX4_plugs_48 : decode cX4_plugs 48 = .ok (.iload_n 2, 1) := by decide +kernel
theorem dX4_plugs_49 : decode cX4_plugs 49 = .ok (.iconst 0, 1) := by decide +kernel
theorem dX4_plugs_50 : decode cX4_plugs 50 = .ok (.iastore, 1) := by decide +kernel
theorem dX4_plugs_51 : decode cX4_plugs 51 = .ok (.aload_n 0, 1) := by decide +kernel
theorem dX4_plugs_52 : decode cX4_plugs 52 = .ok (.getfield 13, 3) := by decide +kernel
theorem dX4_plugs_55 : decode cX4_plugs 55 = .ok (.iload_n 3, 1) := by decide +kernel
theorem dX4_plugs_56 : decode cX4_plugs 56 = .ok (.iconst (-1), 1) := by decide +kernel
theorem dX4_plugs_57 : decode cX4_plugs 57 = .ok (.if_icmp .ne 8, 3) := by decide +kernel
theorem dX4_plugs_60 : decode cX4_plugs 60 = .ok (.bipush 35, 2) := by decide +kernel
theorem dX4_plugs_62 : decode cX4_plugs 62 = .ok (.goto 4, 3) := by decide +kernel
theorem dX4_plugs_65 : decode cX4_plugs 65 = .ok (.iload_n 3, 1) := by decide +kernel
theorem dX4_plugs_66 : decode cX4_plugs 66 = .ok (.iconst 0, 1) := by decide +kernel
theorem dX4_plugs_67 : decode cX4_plugs 67 = .ok (.iastore, 1) := by decide +kernel
theorem dX4_plugs_68 : decode cX4_plugs 68 = .ok (.aload_n 0, 1) := by decide +kernel
theorem dX4_plugs_69 : decode cX4_plugs 69 = .ok (.iconst (-1), 1) := by decide +kernel
theorem dX4_plugs_70 : decode cX4_plugs 70 = .ok (.invokevirtual 167, 3) := by decide +kernel
theorem dX4_plugs_73 : decode cX4_plugs 73 = .ok (.aload_n 0, 1) := by decide +kernel
theorem dX4_plugs_74 : decode cX4_plugs 74 = .ok (.getfield 13, 3) := by decide +kernel
theorem dX4_plugs_77 : decode cX4_plugs 77 = .ok (.iload_n 2, 1) := by decide +kernel
theorem dX4_plugs_78 : decode cX4_plugs 78 = .ok (.iconst (-1), 1) := by decide +kernel
theorem dX4_plugs_79 : decode cX4_plugs 79 = .ok (.if_icmp .ne 8, 3) := by decide +kernel
theorem dX4_plugs_82 : decode cX4_plugs 82 = .ok (.bipush 35, 2) := by decide +kernel
theorem dX4_plugs_84 : decode cX4_plugs 84 = .ok (.goto 4, 3) := by decide +kernel
theorem dX4_plugs_87 : decode cX4_plugs 87 = .ok (.iload_n 2, 1) := by decide +kernel
theorem dX4_plugs_88 : decode cX4_plugs 88 = .ok (.iload 4, 2) := by decide +kernel
theorem dX4_plugs_90 : decode cX4_plugs 90 = .ok (.iastore, 1) := by decide +kernel
theorem dX4_plugs_91 : decode cX4_plugs 91 = .ok (.aload_n 0, 1) := by decide +kernel
theorem dX4_plugs_92 : decode cX4_plugs 92 = .ok (.getfield 13, 3) := by decide +kernel
theorem dX4_plugs_95 : decode cX4_plugs 95 = .ok (.iload_n 3, 1) := by decide +kernel
theorem dX4_plugs_96 : decode cX4_plugs 96 = .ok (.iconst (-1), 1) := by decide +kernel
theorem dX4_plugs_97 : decode cX4_plugs 97 = .ok (.if_icmp .ne 8, 3) := by decide +kernel
theorem dX4_plugs_100 : decode cX4_plugs 100 = .ok (.bipush 35, 2) := by decide +kernel
theorem dX4_plugs_102 : decode cX4_plugs 102 = .ok (.goto 4, 3) := by decide +kernel
theorem dX4_plugs_105 : decode cX4_plugs 105 = .ok (.iload_n 3, 1) := by decide +kernel
theorem dX4_plugs_106 : decode cX4_plugs 106 = .ok (.iload 5, 2) := by decide +kernel
theorem dX4_plugs_108 : decode cX4_plugs 108 = .ok (.iastore, 1) := by decide +kernel
theorem dX4_plugs_109 : decode cX4_plugs 109 = .ok (.aload_n 0, 1) := by decide +kernel
theorem dX4_plugs_110 : decode cX4_plugs 110 = .ok (.getfield 32, 3) := by decide +kernel
theorem dX4_plugs_113 : decode cX4_plugs 113 = .ok (.iconst 0, 1) := by decide +kernel
theorem dX4_plugs_114 : decode cX4_plugs 114 = .ok (.iload_n 2, 1) := by decide +kernel
theorem dX4_plugs_115 : decode cX4_plugs 115 = .ok (.iastore, 1) := by decide +kernel
theorem dX4_plugs_116 : decode cX4_plugs 116 = .ok (.aload_n 0, 1) := by decide +kernel
theorem dX4_plugs_117 : decode cX4_plugs 117 = .ok (.getfield 32, 3) := by decide +kernel
theorem dX4_plugs_120 : decode cX4_plugs 120 = .ok (.iconst 1, 1) := by decide +kernel
theorem dX4_plugs_121 : decode cX4_plugs 121 = .ok (.iload_n 3, 1) := by decide +kernel
theorem dX4_plugs_122 : decode cX4_plugs 122 = .ok (.iastore, 1) := by decide +kernel
theorem dX4_plugs_123 : decode cX4_plugs 123 = .ok (.aload_n 0, 1) := by decide +kernel
theorem dX4_plugs_124 : decode cX4_plugs 124 = .ok (.getfield 29, 3) := by decide +kernel
theorem dX4_plugs_127 : decode cX4_plugs 127 = .ok (.iload_n 1, 1) := by decide +kernel
theorem dX4_plugs_128 : decode cX4_plugs 128 = .ok (.baload, 1) := by decide +kernel
theorem dX4_plugs_129 : decode cX4_plugs 129 = .ok (.ifCond .ne 7, 3) := by decide +kernel
theorem dX4_plugs_132 : decode cX4_plugs 132 = .ok (.iconst 1, 1) := by decide +kernel
theorem dX4_plugs_133 : decode cX4_plugs 133 = .ok (.goto 4, 3) := by decide +kernel
theorem dX4_plugs_136 : decode cX4_plugs 136 = .ok (.iconst 0, 1) := by decide +kernel
theorem dX4_plugs_137 : decode cX4_plugs 137 = .ok (.ireturn, 1) := by decide +kernel
theorem dX4_mayPlug_0 : decode cX4_mayPlug 0 = .ok (.iload_n 1, 1) := by decide +kernel
theorem dX4_mayPlug_1 : decode cX4_mayPlug 1 = .ok (.iload_n 2, 1) := by decide +kernel
theorem dX4_mayPlug_2 : decode cX4_mayPlug 2 = .ok (.if_icmp .eq 21, 3) := by decide +kernel
theorem dX4_mayPlug_5 : decode cX4_mayPlug 5 = .ok (.aload_n 0, 1) := by decide +kernel
theorem dX4_mayPlug_6 : decode cX4_mayPlug 6 = .ok (.getfield 13, 3) := by decide +kernel
theorem dX4_mayPlug_9 : decode cX4_mayPlug 9 = .ok (.iload_n 1, 1) := by decide +kernel
theorem dX4_mayPlug_10 : decode cX4_mayPlug 10 = .ok (.iaload, 1) := by decide +kernel
theorem dX4_mayPlug_11 : decode cX4_mayPlug 11 = .ok (.iconst 1, 1) := by decide +kernel
theorem dX4_mayPlug_12 : decode cX4_mayPlug 12 = .ok (.iconst 2, 1) := by decide +kernel
theorem dX4_mayPlug_13 : decode cX4_mayPlug 13 = .ok (.invokestatic 65, 3) := by decide +kernel
theorem dX4_mayPlug_16 : decode cX4_mayPlug 16 = .ok (.ifCond .eq 7, 3) := by decide +kernel
theorem dX4_mayPlug_19 : decode cX4_mayPlug 19 = .ok (.iconst 1, 1) := by decide +kernel
theorem dX4_mayPlug_20 : decode cX4_mayPlug 20 = .ok (.goto 4, 3) := by decide +kernel
theorem dX4_mayPlug_23 : decode cX4_mayPlug 23 = .ok (.iconst 0, 1) := by decide +kernel
theorem dX4_mayPlug_24 : decode cX4_mayPlug 24 = .ok (.ireturn, 1) := by decide +kernel
theorem dX4_plugBy_0 : decode cX4_plugBy 0 = .ok (.aload_n 0, 1) := by decide +kernel
theorem dX4_plugBy_1 : decode cX4_plugBy 1 = .ok (.iload_n 1, 1) := by decide +kernel
theorem dX4_plugBy_2 : decode cX4_plugBy 2 = .ok (.iconst (-1), 1) := by decide +kernel
theorem dX4_plugBy_3 : decode cX4_plugBy 3 = .ok (.iconst (-1), 1) := by decide +kernel
theorem dX4_plugBy_4 : decode cX4_plugBy 4 = .ok (.invokevirtual 173, 3) := by decide +kernel
theorem dX4_plugBy_7 : decode cX4_plugBy 7 = .ok (.ifCond .eq 5, 3) := by decide +kernel
theorem dX4_plugBy_10 : decode cX4_plugBy 10 = .ok (.iconst 0, 1) := by decide +kernel
theorem dX4_plugBy_11 : decode cX4_plugBy 11 = .ok (.ireturn, 1) := by decide +kernel
theorem dX4_plugBy_12 : decode cX4_plugBy 12 = .ok (.iconst 0, 1) := by decide +kernel
theorem dX4_plugBy_13 : decode cX4_plugBy 13 = .ok (.istore_n 2, 1) := by decide +kernel
theorem dX4_plugBy_14 : decode cX4_plugBy 14 = .ok (.iload_n 2, 1) := by decide +kernel
theorem dX4_plugBy_15 : decode cX4_plugBy 15 = .ok (.aload_n 0, 1) := by decide +kernel
theorem dX4_plugBy_16 : decode cX4_plugBy 16 = .ok (.getfield 72, 3) := by decide +kernel
theorem dX4_plugBy_19 : decode cX4_plugBy 19 = .ok (.if_icmp .ge 30, 3) := by decide +kernel
theorem dX4_plugBy_22 : decode cX4_plugBy 22 = .ok (.aload_n 0, 1) := by decide +kernel
theorem dX4_plugBy_23 : decode cX4_plugBy 23 = .ok (.iload_n 2, 1) := by decide +kernel
theorem dX4_plugBy_24 : decode cX4_plugBy 24 = .ok (.iload_n 1, 1) := by decide +kernel
theorem dX4_plugBy_25 : decode cX4_plugBy 25 = .ok (.invokevirtual 176, 3) := by decide +kernel
theorem dX4_plugBy_28 : decode cX4_plugBy 28 = .ok (.ifCond .eq 15, 3) := by decide +kernel
theorem dX4_plugBy_31 : decode cX4_plugBy 31 = .ok (.aload_n 0, 1) := by decide +kernel
theorem dX4_plugBy_32 : decode cX4_plugBy 32 = .ok (.iload_n 1, 1) := by decide +kernel
theorem dX4_plugBy_33 : decode cX4_plugBy 33 = .ok (.iload_n 2, 1) := by decide +kernel
theorem dX4_plugBy_34 : decode cX4_plugBy 34 = .ok (.iconst (-1), 1) := by decide +kernel
theorem dX4_plugBy_35 : decode cX4_plugBy 35 = .ok (.invokevirtual 173, 3) := by decide +kernel
theorem dX4_plugBy_38 : decode cX4_plugBy 38 = .ok (.ifCond .eq 5, 3) := by decide +kernel
theorem dX4_plugBy_41 : decode cX4_plugBy 41 = .ok (.iconst 1, 1) := by decide +kernel
theorem dX4_plugBy_42 : decode cX4_plugBy 42 = .ok (.ireturn, 1) := by decide +kernel
theorem dX4_plugBy_43 : decode cX4_plugBy 43 = .ok (.iinc 2 1, 3) := by decide +kernel
theorem dX4_plugBy_46 : decode cX4_plugBy 46 = .ok (.goto (-32), 3) := by decide +kernel
theorem dX4_plugBy_49 : decode cX4_plugBy 49 = .ok (.iconst 0, 1) := by decide +kernel
theorem dX4_plugBy_50 : decode cX4_plugBy 50 = .ok (.istore_n 2, 1) := by decide +kernel
theorem dX4_plugBy_51 : decode cX4_plugBy 51 = .ok (.iload_n 2, 1) := by decide +kernel
theorem dX4_plugBy_52 : decode cX4_plugBy 52 = .ok (.aload_n 0, 1) := by decide +kernel
theorem dX4_plugBy_53 : decode cX4_plugBy 53 = .ok (.getfield 72, 3) := by decide +kernel
theorem dX4_plugBy_56 : decode cX4_plugBy 56 = .ok (.if_icmp .ge 57, 3) := by decide +kernel
theorem dX4_plugBy_59 : decode cX4_plugBy 59 = .ok (.iload_n 2, 1) := by decide +kernel
theorem dX4_plugBy_60 : decode cX4_plugBy 60 = .ok (.iconst 1, 1) := by decide +kernel
theorem dX4_plugBy_61 : decode cX4_plugBy 61 = .ok (.iadd, 1) := by decide +kernel
theorem dX4_plugBy_62 : decode cX4_plugBy 62 = .ok (.istore_n 3, 1) := by decide +kernel
theorem dX4_plugBy_63 : decode cX4_plugBy 63 = .ok (.iload_n 3, 1) := by decide +kernel
theorem dX4_plugBy_64 : decode cX4_plugBy 64 = .ok (.aload_n 0, 1) := by decide +kernel
theorem dX4_plugBy_65 : decode cX4_plugBy 65 = .ok (.getfield 72, 3) := by decide +kernel
theorem dX4_plugBy_68 : decode cX4_plugBy 68 = .ok (.if_icmp .ge 39, 3) := by decide +kernel
theorem dX4_plugBy_71 : decode cX4_plugBy 71 = .ok (.aload_n 0, 1) := by decide +kernel
theorem dX4_plugBy_72 : decode cX4_plugBy 72 = .ok (.iload_n 2, 1) := by decide +kernel
theorem dX4_plugBy_73 : decode cX4_plugBy 73 = .ok (.iload_n 1, 1) := by decide +kernel
theorem dX4_plugBy_74 : decode cX4_plugBy 74 = .ok (.invokevirtual 176, 3) := by decide +kernel
theorem dX4_plugBy_77 : decode cX4_plugBy 77 = .ok (.ifCond .eq 24, 3) := by decide +kernel
theorem dX4_plugBy_80 : decode cX4_plugBy 80 = .ok (.aload_n 0, 1) := by decide +kernel
theorem dX4_plugBy_81 : decode cX4_plugBy 81 = .ok (.iload_n 3, 1) := by decide +kernel
theorem dX4_plugBy_82 : decode cX4_plugBy 82 = .ok (.iload_n 1, 1) := by decide +kernel
theorem dX4_plugBy_83 : decode cX4_plugBy 83 = .ok (.invokevirtual 176, 3) := by decide +kernel
theorem dX4_plugBy_86 : decode cX4_plugBy 86 = .ok (.ifCond .eq 15, 3) := by decide +kernel
theorem dX4_plugBy_89 : decode cX4_plugBy 89 = .ok (.aload_n 0, 1) := by decide +kernel
theorem dX4_plugBy_90 : decode cX4_plugBy 90 = .ok (.iload_n 1, 1) := by decide +kernel
theorem dX4_plugBy_91 : decode cX4_plugBy 91 = .ok (.iload_n 2, 1) := by decide +kernel
theorem dX4_plugBy_92 : decode cX4_plugBy 92 = .ok (.iload_n 3, 1) := by decide +kernel
theorem dX4_plugBy_93 : decode cX4_plugBy 93 = .ok (.invokevirtual 173, 3) := by decide +kernel
theorem dX4_plugBy_96 : decode cX4_plugBy 96 = .ok (.ifCond .eq 5, 3) := by decide +kernel
theorem dX4_plugBy_99 : decode cX4_plugBy 99 = .ok (.iconst 2, 1) := by decide +kernel
theorem dX4_plugBy_100 : decode cX4_plugBy 100 = .ok (.ireturn, 1) := by decide +kernel
theorem dX4_plugBy_101 : decode cX4_plugBy 101 = .ok (.iinc 3 1, 3) := by decide +kernel
theorem dX4_plugBy_104 : decode cX4_plugBy 104 = .ok (.goto (-41), 3) := by decide +kernel
theorem dX4_plugBy_107 : decode cX4_plugBy 107 = .ok (.iinc 2 1, 3) := by decide +kernel
theorem dX4_plugBy_110 : decode cX4_plugBy 110 = .ok (.goto (-59), 3) := by decide +kernel
theorem dX4_plugBy_113 : decode cX4_plugBy 113 = .ok (.iconst (-1), 1) := by decide +kernel
theorem dX4_plugBy_114 : decode cX4_plugBy 114 = .ok (.ireturn, 1) := by decide +kernel
theorem dX4_plugOf_0 : decode cX4_plugOf 0 = .ok (.aload_n 0, 1) := by decide +kernel
theorem dX4_plugOf_1 : decode cX4_plugOf 1 = .ok (.iload_n 1, 1) := by decide +kernel
theorem dX4_plugOf_2 : decode cX4_plugOf 2 = .ok (.invokevirtual 179, 3) := by decide +kernel
theorem dX4_plugOf_5 : decode cX4_plugOf 5 = .ok (.istore_n 3, 1) := by decide +kernel
theorem dX4_plugOf_6 : decode cX4_plugOf 6 = .ok (.iload_n 2, 1) := by decide +kernel
theorem dX4_plugOf_7 : decode cX4_plugOf 7 = .ok (.iconst (-1), 1) := by decide +kernel
theorem dX4_plugOf_8 : decode cX4_plugOf 8 = .ok (.if_icmp .ne 7, 3) := by decide +kernel
theorem dX4_plugOf_11 : decode cX4_plugOf 11 = .ok (.iload_n 3, 1) := by decide +kernel
theorem dX4_plugOf_12 : decode cX4_plugOf 12 = .ok (.goto 18, 3) := by decide +kernel
theorem dX4_plugOf_15 : decode cX4_plugOf 15 = .ok (.iload_n 2, 1) := by decide +kernel
theorem dX4_plugOf_16 : decode cX4_plugOf 16 = .ok (.iload_n 3, 1) := by decide +kernel
theorem dX4_plugOf_17 : decode cX4_plugOf 17 = .ok (.if_icmp .ge 12, 3) := by decide +kernel
theorem dX4_plugOf_20 : decode cX4_plugOf 20 = .ok (.aload_n 0, 1) := by decide +kernel
theorem dX4_plugOf_21 : decode cX4_plugOf 21 = .ok (.getfield 32, 3) := by decide +kernel
theorem dX4_plugOf_24 : decode cX4_plugOf 24 = .ok (.iload_n 2, 1) := by decide +kernel
theorem dX4_plugOf_25 : decode cX4_plugOf 25 = .ok (.iaload, 1) := by decide +kernel
theorem dX4_plugOf_26 : decode cX4_plugOf 26 = .ok (.goto 4, 3) := by decide +kernel
theorem dX4_plugOf_29 : decode cX4_plugOf 29 = .ok (.iconst (-1), 1) := by decide +kernel
theorem dX4_plugOf_30 : decode cX4_plugOf 30 = .ok (.ireturn, 1) := by decide +kernel
theorem dX4_plug_0 : decode cX4_plug 0 = .ok (.aload_n 0, 1) := by decide +kernel
theorem dX4_plug_1 : decode cX4_plug 1 = .ok (.iload_n 1, 1) := by decide +kernel
theorem dX4_plug_2 : decode cX4_plug 2 = .ok (.invokevirtual 102, 3) := by decide +kernel
theorem dX4_plug_5 : decode cX4_plug 5 = .ok (.ifCond .eq 21, 3) := by decide +kernel
theorem dX4_plug_8 : decode cX4_plug 8 = .ok (.iload_n 2, 1) := by decide +kernel
theorem dX4_plug_9 : decode cX4_plug 9 = .ok (.iconst (-1), 1) := by decide +kernel
theorem dX4_plug_10 : decode cX4_plug 10 = .ok (.iconst 1, 1) := by decide +kernel
theorem dX4_plug_11 : decode cX4_plug 11 = .ok (.invokestatic 65, 3) := by decide +kernel
theorem dX4_plug_14 : decode cX4_plug 14 = .ok (.ifCond .eq 12, 3) := by decide +kernel
theorem dX4_plug_17 : decode cX4_plug 17 = .ok (.aload_n 0, 1) := by decide +kernel
theorem dX4_plug_18 : decode cX4_plug 18 = .ok (.iload_n 1, 1) := by decide +kernel
theorem dX4_plug_19 : decode cX4_plug 19 = .ok (.iload_n 2, 1) := by decide +kernel
theorem dX4_plug_20 : decode cX4_plug 20 = .ok (.invokevirtual 182, 3) := by decide +kernel
theorem dX4_plug_23 : decode cX4_plug 23 = .ok (.goto 5, 3) := by decide +kernel
theorem dX4_plug_26 : decode cX4_plug 26 = .ok (.bipush (-2), 2) := by decide +kernel
theorem dX4_plug_28 : decode cX4_plug 28 = .ok (.ireturn, 1) := by decide +kernel
theorem dX4_plumb_0 : decode cX4_plumb 0 = .ok (.iload_n 1, 1) := by decide +kernel
theorem dX4_plumb_1 : decode cX4_plumb 1 = .ok (.iconst 0, 1) := by decide +kernel
theorem dX4_plumb_2 : decode cX4_plumb 2 = .ok (.iconst 4, 1) := by decide +kernel
theorem dX4_plumb_3 : decode cX4_plumb 3 = .ok (.invokestatic 65, 3) := by decide +kernel
theorem dX4_plumb_6 : decode cX4_plumb 6 = .ok (.ifCond .eq 12, 3) := by decide +kernel
theorem dX4_plumb_9 : decode cX4_plumb 9 = .ok (.iload_n 2, 1) := by decide +kernel
theorem dX4_plumb_10 : decode cX4_plumb 10 = .ok (.iconst 0, 1) := by decide +kernel
theorem dX4_plumb_11 : decode cX4_plumb 11 = .ok (.iconst 1, 1) := by decide +kernel
theorem dX4_plumb_12 : decode cX4_plumb 12 = .ok (.invokestatic 65, 3) := by decide +kernel
theorem dX4_plumb_15 : decode cX4_plumb 15 = .ok (.ifCond .ne 6, 3) := by decide +kernel
theorem dX4_plumb_18 : decode cX4_plumb 18 = .ok (.bipush (-2), 2) := by decide +kernel
theorem dX4_plumb_20 : decode cX4_plumb 20 = .ok (.ireturn, 1) := by decide +kernel
theorem dX4_plumb_21 : decode cX4_plumb 21 = .ok (.aload_n 0, 1) := by decide +kernel
theorem dX4_plumb_22 : decode cX4_plumb 22 = .ok (.getfield 185, 3) := by decide +kernel
theorem dX4_plumb_25 : decode cX4_plumb 25 = .ok (.bipush 8, 2) := by decide +kernel
theorem dX4_plumb_27 : decode cX4_plumb 27 = .ok (.if_icmp .ne 6, 3) := by decide +kernel
theorem dX4_plumb_30 : decode cX4_plumb 30 = .ok (.bipush (-4), 2) := by decide +kernel
theorem dX4_plumb_32 : decode cX4_plumb 32 = .ok (.ireturn, 1) := by decide +kernel
theorem dX4_plumb_33 : decode cX4_plumb 33 = .ok (.aload_n 0, 1) := by decide +kernel
theorem dX4_plumb_34 : decode cX4_plumb 34 = .ok (.getfield 35, 3) := by decide +kernel
theorem dX4_plumb_37 : decode cX4_plumb 37 = .ok (.aload_n 0, 1) := by decide +kernel
theorem dX4_plumb_38 : decode cX4_plumb 38 = .ok (.getfield 185, 3) := by decide +kernel
theorem dX4_plumb_41 : decode cX4_plumb 41 = .ok (.iload_n 1, 1) := by decide +kernel
theorem dX4_plumb_42 : decode cX4_plumb 42 = .ok (.iastore, 1) := by decide +kernel
theorem dX4_plumb_43 : decode cX4_plumb 43 = .ok (.aload_n 0, 1) := by decide +kernel
theorem dX4_plumb_44 : decode cX4_plumb 44 = .ok (.getfield 38, 3) := by decide +kernel
theorem dX4_plumb_47 : decode cX4_plumb 47 = .ok (.aload_n 0, 1) := by decide +kernel
theorem dX4_plumb_48 : decode cX4_plumb 48 = .ok (.getfield 185, 3) := by decide +kernel
theorem dX4_plumb_51 : decode cX4_plumb 51 = .ok (.iload_n 2, 1) := by decide +kernel
theorem dX4_plumb_52 : decode cX4_plumb 52 = .ok (.iastore, 1) := by decide +kernel
theorem dX4_plumb_53 : decode cX4_plumb 53 = .ok (.aload_n 0, 1) := by decide +kernel
theorem dX4_plumb_54 : decode cX4_plumb 54 = .ok (.dup, 1) := by decide +kernel
theorem dX4_plumb_55 : decode cX4_plumb 55 = .ok (.getfield 185, 3) := by decide +kernel
theorem dX4_plumb_58 : decode cX4_plumb 58 = .ok (.iconst 1, 1) := by decide +kernel
theorem dX4_plumb_59 : decode cX4_plumb 59 = .ok (.iadd, 1) := by decide +kernel
theorem dX4_plumb_60 : decode cX4_plumb 60 = .ok (.putfield 185, 3) := by decide +kernel
theorem dX4_plumb_63 : decode cX4_plumb 63 = .ok (.aload_n 0, 1) := by decide +kernel
theorem dX4_plumb_64 : decode cX4_plumb 64 = .ok (.getfield 185, 3) := by decide +kernel
theorem dX4_plumb_67 : decode cX4_plumb 67 = .ok (.ireturn, 1) := by decide +kernel
theorem dX4_forget_0 : decode cX4_forget 0 = .ok (.aload_n 0, 1) := by decide +kernel
theorem dX4_forget_1 : decode cX4_forget 1 = .ok (.getfield 185, 3) := by decide +kernel
theorem dX4_forget_4 : decode cX4_forget 4 = .ok (.istore_n 1, 1) := by decide +kernel
theorem dX4_forget_5 : decode cX4_forget 5 = .ok (.aload_n 0, 1) := by decide +kernel
theorem dX4_forget_6 : decode cX4_forget 6 = .ok (.iconst 0, 1) := by decide +kernel
theorem dX4_forget_7 : decode cX4_forget 7 = .ok (.putfield 185, 3) := by decide +kernel
theorem dX4_forget_10 : decode cX4_forget 10 = .ok (.iload_n 1, 1) := by decide +kernel
theorem dX4_forget_11 : decode cX4_forget 11 = .ok (.ireturn, 1) := by decide +kernel
theorem dX4_whereNow_0 : decode cX4_whereNow 0 = .ok (.iconst 0, 1) := by decide +kernel
theorem dX4_whereNow_1 : decode cX4_whereNow 1 = .ok (.istore_n 1, 1) := by decide +kernel
theorem dX4_whereNow_2 : decode cX4_whereNow 2 = .ok (.iconst 0, 1) := by decide +kernel
theorem dX4_whereNow_3 : decode cX4_whereNow 3 = .ok (.istore_n 2, 1) := by decide +kernel
theorem dX4_whereNow_4 : decode cX4_whereNow 4 = .ok (.iload_n 2, 1) := by decide +kernel
theorem dX4_whereNow_5 : decode cX4_whereNow 5 = .ok (.bipush 6, 2) := by decide +kernel
theorem dX4_whereNow_7 : decode cX4_whereNow 7 = .ok (.if_icmp .ge 88, 3) := by decide +kernel
theorem dX4_whereNow_10 : decode cX4_whereNow 10 = .ok (.iconst 1, 1) := by decide +kernel
theorem dX4_whereNow_11 : decode cX4_whereNow 11 = .ok (.istore_n 3, 1) := by decide +kernel
theorem dX4_whereNow_12 : decode cX4_whereNow 12 = .ok (.iconst 0, 1) := by decide +kernel
theorem dX4_whereNow_13 : decode cX4_whereNow 13 = .ok (.istore 4, 2) := by decide +kernel
theorem dX4_whereNow_15 : decode cX4_whereNow 15 = .ok (.iload 4, 2) := by decide +kernel
theorem dX4_whereNow_17 : decode cX4_whereNow 17 = .ok (.aload_n 0, 1) := by decide +kernel
theorem dX4_whereNow_18 : decode cX4_whereNow 18 = .ok (.getfield 185, 3) := by decide +kernel
theorem dX4_whereNow_21 : decode cX4_whereNow 21 = .ok (.if_icmp .ge 54, 3) := by decide +kernel
theorem dX4_whereNow_24 : decode cX4_whereNow 24 = .ok (.iload_n 3, 1) := by decide +kernel
theorem dX4_whereNow_25 : decode cX4_whereNow 25 = .ok (.ifCond .eq 42, 3) := by decide +kernel
theorem dX4_whereNow_28 : decode cX4_whereNow 28 = .ok (.aload_n 0, 1) := by decide +kernel
theorem dX4_whereNow_29 : decode cX4_whereNow 29 = .ok (.getfield 35, 3) := by decide +kernel
theorem dX4_whereNow_32 : decode cX4_whereNow 32 = .ok (.iload 4, 2) := by decide +kernel
theorem dX4_whereNow_34 : decode cX4_whereNow 34 = .ok (.iaload, 1) := by decide +kernel
theorem dX4_whereNow_35 : decode cX4_whereNow 35 = .ok (.iload_n 2, 1) := by decide +kernel
theorem dX4_whereNow_36 : decode cX4_whereNow 36 = .ok (.if_icmp .ge 7, 3) := by decide +kernel
theorem dX4_whereNow_39 : decode cX4_whereNow 39 = .ok (.iconst 1, 1) := by decide +kernel
theorem dX4_whereNow_40 : decode cX4_whereNow 40 = .ok (.goto 4, 3) := by decide +kernel
theorem dX4_whereNow_43 : decode cX4_whereNow 43 = .ok (.iconst 0, 1) := by decide +kernel
theorem dX4_whereNow_44 : decode cX4_whereNow 44 = .ok (.aload_n 0, 1) := by decide +kernel
theorem dX4_whereNow_45 : decode cX4_whereNow 45 = .ok (.getfield 38, 3) := by decide +kernel
theorem dX4_whereNow_48 : decode cX4_whereNow 48 = .ok (.iload 4, 2) := by decide +kernel
theorem dX4_whereNow_50 : decode cX4_whereNow 50 = .ok (.iaload, 1) := by decide +kernel
theorem dX4_whereNow_51 : decode cX4_whereNow 51 = .ok (.iconst 1, 1) := by decide +kernel
theorem dX4_whereNow_52 : decode cX4_whereNow 52 = .ok (.if_icmp .ne 7, 3) := by decide +kernel
theorem dX4_whereNow_55 : decode cX4_whereNow 55 = .ok (.iconst 1, 1) := by decide +kernel
theorem dX4_whereNow_56 : decode cX4_whereNow 56 = .ok (.goto 4, 3) := by decide +kernel
theorem dX4_whereNow_59 : decode cX4_whereNow 59 = .ok (.iconst 0, 1) := by decide +kernel
theorem dX4_whereNow_60 : decode cX4_whereNow 60 = .ok (.if_icmp .ne 7, 3) := by decide +kernel
theorem dX4_whereNow_63 : decode cX4_whereNow 63 = .ok (.iconst 1, 1) := by decide +kernel
theorem dX4_whereNow_64 : decode cX4_whereNow 64 = .ok (.goto 4, 3) := by decide +kernel
theorem dX4_whereNow_67 : decode cX4_whereNow 67 = .ok (.iconst 0, 1) := by decide +kernel
theorem dX4_whereNow_68 : decode cX4_whereNow 68 = .ok (.istore_n 3, 1) := by decide +kernel
theorem dX4_whereNow_69 : decode cX4_whereNow 69 = .ok (.iinc 4 1, 3) := by decide +kernel
theorem dX4_whereNow_72 : decode cX4_whereNow 72 = .ok (.goto (-57), 3) := by decide +kernel
theorem dX4_whereNow_75 : decode cX4_whereNow 75 = .ok (.iload_n 1, 1) := by decide +kernel
theorem dX4_whereNow_76 : decode cX4_whereNow 76 = .ok (.iload_n 3, 1) := by decide +kernel
theorem dX4_whereNow_77 : decode cX4_whereNow 77 = .ok (.ifCond .eq 9, 3) := by decide +kernel
theorem dX4_whereNow_80 : decode cX4_whereNow 80 = .ok (.iconst 1, 1) := by decide +kernel
theorem dX4_whereNow_81 : decode cX4_whereNow 81 = .ok (.iload_n 2, 1) := by decide +kernel
theorem dX4_whereNow_82 : decode cX4_whereNow 82 = .ok (.ishl, 1) := by decide +kernel
theorem dX4_whereNow_83 : decode cX4_whereNow 83 = .ok (.goto 4, 3) := by decide +kernel
theorem dX4_whereNow_86 : decode cX4_whereNow 86 = .ok (.iconst 0, 1) := by decide +kernel
theorem dX4_whereNow_87 : decode cX4_whereNow 87 = .ok (.ior, 1) := by decide +kernel
theorem dX4_whereNow_88 : decode cX4_whereNow 88 = .ok (.istore_n 1, 1) := by decide +kernel
theorem dX4_whereNow_89 : decode cX4_whereNow 89 = .ok (.iinc 2 1, 3) := by decide +kernel
theorem dX4_whereNow_92 : decode cX4_whereNow 92 = .ok (.goto (-88), 3) := by decide +kernel
theorem dX4_whereNow_95 : decode cX4_whereNow 95 = .ok (.iload_n 1, 1) := by decide +kernel
theorem dX4_whereNow_96 : decode cX4_whereNow 96 = .ok (.ireturn, 1) := by decide +kernel
theorem dX4_where_0 : decode cX4_where 0 = .ok (.aload_n 0, 1) := by decide +kernel
theorem dX4_where_1 : decode cX4_where 1 = .ok (.invokevirtual 188, 3) := by decide +kernel
theorem dX4_where_4 : decode cX4_where 4 = .ok (.ireturn, 1) := by decide +kernel
theorem dX4_hangNow_0 : decode cX4_hangNow 0 = .ok (.aload_n 0, 1) := by decide +kernel
theorem dX4_hangNow_1 : decode cX4_hangNow 1 = .ok (.invokevirtual 89, 3) := by decide +kernel
theorem dX4_hangNow_4 : decode cX4_hangNow 4 = .ok (.aload_n 0, 1) := by decide +kernel
theorem dX4_hangNow_5 : decode cX4_hangNow 5 = .ok (.invokevirtual 188, 3) := by decide +kernel
theorem dX4_hangNow_8 : decode cX4_hangNow 8 = .ok (.istore_n 1, 1) := by decide +kernel
theorem dX4_hangNow_9 : decode cX4_hangNow 9 = .ok (.iconst (-1), 1) := by decide +kernel
theorem dX4_hangNow_10 : decode cX4_hangNow 10 = .ok (.istore_n 2, 1) := by decide +kernel
theorem dX4_hangNow_11 : decode cX4_hangNow 11 = .ok (.iconst 0, 1) := by decide +kernel
theorem dX4_hangNow_12 : decode cX4_hangNow 12 = .ok (.istore_n 3, 1) := by decide +kernel
theorem dX4_hangNow_13 : decode cX4_hangNow 13 = .ok (.iconst 0, 1) := by decide +kernel
theorem dX4_hangNow_14 : decode cX4_hangNow 14 = .ok (.istore 4, 2) := by decide +kernel
theorem dX4_hangNow_16 : decode cX4_hangNow 16 = .ok (.iload 4, 2) := by decide +kernel
theorem dX4_hangNow_18 : decode cX4_hangNow 18 = .ok (.aload_n 0, 1) := by decide +kernel
theorem dX4_hangNow_19 : decode cX4_hangNow 19 = .ok (.getfield 75, 3) := by decide +kernel
theorem dX4_hangNow_22 : decode cX4_hangNow 22 = .ok (.if_icmp .ge 140, 3) := by decide +kernel
theorem dX4_hangNow_25 : decode cX4_hangNow 25 = .ok (.iconst 0, 1) := by decide +kernel
theorem dX4_hangNow_26 : decode cX4_hangNow 26 = .ok (.istore 5, 2) := by decide +kernel
theorem dX4_hangNow_28 : decode cX4_hangNow 28 = .ok (.iconst 0, 1) := by decide +kernel
theorem dX4_hangNow_29 : decode cX4_hangNow 29 = .ok (.istore 6, 2) := by decide +kernel
theorem dX4_hangNow_31 : decode cX4_hangNow 31 = .ok (.iconst 0, 1) := by decide +kernel
theorem dX4_hangNow_32 : decode cX4_hangNow 32 = .ok (.istore 7, 2) := by decide +kernel
theorem dX4_hangNow_34 : decode cX4_hangNow 34 = .ok (.iload 7, 2) := by decide +kernel
theorem dX4_hangNow_36 : decode cX4_hangNow 36 = .ok (.bipush 6, 2) := by decide +kernel
theorem dX4_hangNow_38 : decode cX4_hangNow 38 = .ok (.if_icmp .ge 54, 3) := by decide +kernel
theorem dX4_hangNow_41 : decode cX4_hangNow 41 = .ok (.iload 6, 2) := by decide +kernel
theorem dX4_hangNow_43 : decode cX4_hangNow 43 = .ok (.iload_n 1, 1) := by decide +kernel
theorem dX4_hangNow_44 : decode cX4_hangNow 44 = .ok (.iload 7, 2) := by decide +kernel
theorem dX4_hangNow_46 : decode cX4_hangNow 46 = .ok (.invokestatic 163, 3) := by decide +kernel
theorem dX4_hangNow_49 : decode cX4_hangNow 49 = .ok (.ifCond .eq 7, 3) := by decide +kernel
theorem dX4_hangNow_52 : decode cX4_hangNow 52 = .ok (.iconst 1, 1) := by decide +kernel
theorem dX4_hangNow_53 : decode cX4_hangNow 53 = .ok (.goto 4, 3) := by decide +kernel
theorem dX4_hangNow_56 : decode cX4_hangNow 56 = .ok (.iconst 0, 1) := by decide +kernel
theorem dX4_hangNow_57 : decode cX4_hangNow 57 = .ok (.iadd, 1) := by decide +kernel
theorem dX4_hangNow_58 : decode cX4_hangNow 58 = .ok (.istore 6, 2) := by decide +kernel
theorem dX4_hangNow_60 : decode cX4_hangNow 60 = .ok (.iload 5, 2) := by decide +kernel
theorem dX4_hangNow_62 : decode cX4_hangNow 62 = .ok (.iload_n 1, 1) := by decide +kernel
theorem dX4_hangNow_63 : decode cX4_hangNow 63 = .ok (.iload 7, 2) := by decide +kernel
theorem dX4_hangNow_65 : decode cX4_hangNow 65 = .ok (.invokestatic 163, 3) := by decide +kernel
theorem dX4_hangNow_68 : decode cX4_hangNow 68 = .ok (.ifCond .eq 14, 3) := by decide +kernel
theorem dX4_hangNow_71 : decode cX4_hangNow 71 = .ok (.iload 4, 2) := by decide +kernel
theorem dX4_hangNow_73 : decode cX4_hangNow 73 = .ok (.iload 7, 2) := by decide +kernel
theorem dX4_hangNow_75 : decode cX4_hangNow 75 = .ok (.if_icmp .ge 7, 3) := by decide +kernel
theorem dX4_hangNow_78 : decode cX4_hangNow 78 = .ok (.iconst 1, 1) := by decide +kernel
theorem dX4_hangNow_79 : decode cX4_hangNow 79 = .ok (.goto 4, 3) := by decide +kernel
theorem dX4_hangNow_82 : decode cX4_hangNow 82 = .ok (.iconst 0, 1) := by decide +kernel
theorem dX4_hangNow_83 : decode cX4_hangNow 83 = .ok (.iadd, 1) := by decide +kernel
theorem dX4_hangNow_84 : decode cX4_hangNow 84 = .ok (.istore 5, 2) := by decide +kernel
theorem dX4_hangNow_86 : decode cX4_hangNow 86 = .ok (.iinc 7 1, 3) := by decide +kernel
theorem dX4_hangNow_89 : decode cX4_hangNow 89 = .ok (.goto (-55), 3) := by decide +kernel
theorem dX4_hangNow_92 : decode cX4_hangNow 92 = .ok (.iload 5, 2) := by decide +kernel
theorem dX4_hangNow_94 : decode cX4_hangNow 94 = .ok (.iload 6, 2) := by decide +kernel
theorem dX4_hangNow_96 : decode cX4_hangNow 96 = .ok (.iload 5, 2) := by decide +kernel
theorem dX4_hangNow_98 : decode cX4_hangNow 98 = .ok (.isub, 1) := by decide +kernel
theorem dX4_hangNow_99 : decode cX4_hangNow 99 = .ok (.if_icmp .le 8, 3) := by decide +kernel
theorem dX4_hangNow_102 : decode cX4_hangNow 102 = .ok (.iload 5, 2) := by decide +kernel
theorem dX4_hangNow_104 : decode cX4_hangNow 104 = .ok (.goto 8, 3) := by decide +kernel
theorem dX4_hangNow_107 : decode cX4_hangNow 107 = .ok (.iload 6, 2) := by decide +kernel
theorem dX4_hangNow_109 : decode cX4_hangNow 109 = .ok (.iload 5, 2) := by decide +kernel
theorem dX4_hangNow_111 : decode cX4_hangNow 111 = .ok (.isub, 1) := by decide +kernel
theorem dX4_hangNow_112 : decode cX4_hangNow 112 = .ok (.istore 7, 2) := by decide +kernel
theorem dX4_hangNow_114 : decode cX4_hangNow 114 = .ok (.iload_n 2, 1) := by decide +kernel
theorem dX4_hangNow_115 : decode cX4_hangNow 115 = .ok (.iconst (-1), 1) := by decide +kernel
theorem dX4_hangNow_116 : decode cX4_hangNow 116 = .ok (.if_icmp .eq 9, 3) := by decide +kernel
theorem dX4_hangNow_119 : decode cX4_hangNow 119 = .ok (.iload 7, 2) := by decide +kernel
theorem dX4_hangNow_121 : decode cX4_hangNow 121 = .ok (.iload_n 3, 1) := by decide +kernel
theorem dX4_hangNow_122 : decode cX4_hangNow 122 = .ok (.if_icmp .ge 7, 3) := by decide +kernel
theorem dX4_hangNow_125 : decode cX4_hangNow 125 = .ok (.iconst 1, 1) := by decide +kernel
theorem dX4_hangNow_126 : decode cX4_hangNow 126 = .ok (.goto 4, 3) := by decide +kernel
theorem dX4_hangNow_129 : decode cX4_hangNow 129 = .ok (.iconst 0, 1) := by decide +kernel
theorem dX4_hangNow_130 : decode cX4_hangNow 130 = .ok (.istore 8, 2) := by decide +kernel
theorem dX4_hangNow_132 : decode cX4_hangNow 132 = .ok (.iload 8, 2) := by decide +kernel
theorem dX4_hangNow_134 : decode cX4_hangNow 134 = .ok (.ifCond .eq 8, 3) := by decide +kernel
theorem dX4_hangNow_137 : decode cX4_hangNow 137 = .ok (.iload 4, 2) := by decide +kernel
theorem dX4_hangNow_139 : decode cX4_hangNow 139 = .ok (.goto 4, 3) := by decide +kernel
theorem dX4_hangNow_142 : decode cX4_hangNow 142 = .ok (.iload_n 2, 1) := by decide +kernel
theorem dX4_hangNow_143 : decode cX4_hangNow 143 = .ok (.istore_n 2, 1) := by decide +kernel
theorem dX4_hangNow_144 : decode cX4_hangNow 144 = .ok (.iload 8, 2) := by decide +kernel
theorem dX4_hangNow_146 : decode cX4_hangNow 146 = .ok (.ifCond .eq 8, 3) := by decide +kernel
theorem dX4_hangNow_149 : decode cX4_hangNow 149 = .ok (.iload 7, 2) := by decide +kernel
theorem dX4_hangNow_151 : decode cX4_hangNow 151 = .ok (.goto 4, 3) := by decide +kernel
theorem dX4_hangNow_154 : decode cX4_hangNow 154 = .ok (.iload_n 3, 1) := by decide +kernel
theorem dX4_hangNow_155 : decode cX4_hangNow 155 = .ok (.istore_n 3, 1) := by decide +kernel
theorem dX4_hangNow_156 : decode cX4_hangNow 156 = .ok (.iinc 4 1, 3) := by decide +kernel
theorem dX4_hangNow_159 : decode cX4_hangNow 159 = .ok (.goto (-143), 3) := by decide +kernel
theorem dX4_hangNow_162 : decode cX4_hangNow 162 = .ok (.iload_n 2, 1) := by decide +kernel
theorem dX4_hangNow_163 : decode cX4_hangNow 163 = .ok (.ireturn, 1) := by decide +kernel
theorem dX4_hang_0 : decode cX4_hang 0 = .ok (.aload_n 0, 1) := by decide +kernel
theorem dX4_hang_1 : decode cX4_hang 1 = .ok (.invokevirtual 191, 3) := by decide +kernel
theorem dX4_hang_4 : decode cX4_hang 4 = .ok (.ireturn, 1) := by decide +kernel
theorem dX4_fromOf_0 : decode cX4_fromOf 0 = .ok (.iconst 0, 1) := by decide +kernel
theorem dX4_fromOf_1 : decode cX4_fromOf 1 = .ok (.istore 4, 2) := by decide +kernel
theorem dX4_fromOf_3 : decode cX4_fromOf 3 = .ok (.iconst (-1), 1) := by decide +kernel
theorem dX4_fromOf_4 : decode cX4_fromOf 4 = .ok (.istore 5, 2) := by decide +kernel
theorem dX4_fromOf_6 : decode cX4_fromOf 6 = .ok (.iconst 0, 1) := by decide +kernel
theorem dX4_fromOf_7 : decode cX4_fromOf 7 = .ok (.istore 6, 2) := by decide +kernel
theorem dX4_fromOf_9 : decode cX4_fromOf 9 = .ok (.iload 6, 2) := by decide +kernel
theorem dX4_fromOf_11 : decode cX4_fromOf 11 = .ok (.aload_n 0, 1) := by decide +kernel
theorem dX4_fromOf_12 : decode cX4_fromOf 12 = .ok (.getfield 72, 3) := by decide +kernel
theorem dX4_fromOf_15 : decode cX4_fromOf 15 = .ok (.if_icmp .ge 71, 3) := by decide +kernel
theorem dX4_fromOf_18 : decode cX4_fromOf 18 = .ok (.aload_n 0, 1) := by decide +kernel
theorem dX4_fromOf_19 : decode cX4_fromOf 19 = .ok (.iload 6, 2) := by decide +kernel
theorem dX4_fromOf_21 : decode cX4_fromOf 21 = .ok (.invokevirtual 99, 3) := by decide +kernel
theorem dX4_fromOf_24 : decode cX4_fromOf 24 = .ok (.ifCond .eq 18, 3) := by decide +kernel
theorem dX4_fromOf_27 : decode cX4_fromOf 27 = .ok (.aload_n 0, 1) := by decide +kernel
theorem dX4_fromOf_28 : decode cX4_fromOf 28 = .ok (.iload 6, 2) := by decide +kernel
theorem dX4_fromOf_30 : decode cX4_fromOf 30 = .ok (.iload_n 2, 1) := by decide +kernel
theorem dX4_fromOf_31 : decode cX4_fromOf 31 = .ok (.invokevirtual 121, 3) := by decide +kernel
theorem dX4_fromOf_34 : decode cX4_fromOf 34 = .ok (.iload_n 1, 1) := by decide +kernel
theorem dX4_fromOf_35 : decode cX4_fromOf 35 = .ok (.if_icmp .ne 7, 3) := by decide +kernel
theorem dX4_fromOf_38 : decode cX4_fromOf 38 = .ok (.iconst 1, 1) := by decide +kernel
theorem dX4_fromOf_39 : decode cX4_fromOf 39 = .ok (.goto 4, 3) := by decide +kernel
theorem dX4_fromOf_42 : decode cX4_fromOf 42 = .ok (.iconst 0, 1) := by decide +kernel
theorem dX4_fromOf_43 : decode cX4_fromOf 43 = .ok (.istore 7, 2) := by decide +kernel
theorem dX4_fromOf_45 : decode cX4_fromOf 45 = .ok (.iload 7, 2) := by decide +kernel
theorem dX4_fromOf_47 : decode cX4_fromOf 47 = .ok (.ifCond .eq 14, 3) := by decide +kernel
theorem dX4_fromOf_50 : decode cX4_fromOf 50 = .ok (.iload 4, 2) := by decide +kernel
theorem dX4_fromOf_52 : decode cX4_fromOf 52 = .ok (.iload_n 3, 1) := by decide +kernel
theorem dX4_fromOf_53 : decode cX4_fromOf 53 = .ok (.if_icmp .ne 8, 3) := by decide +kernel
theorem dX4_fromOf_56 : decode cX4_fromOf 56 = .ok (.iload 6, 2) := by decide +kernel
theorem dX4_fromOf_58 : decode cX4_fromOf 58 = .ok (.goto 5, 3) := by decide +kernel
theorem dX4_fromOf_61 : decode cX4_fromOf 61 = .ok (.iload 5, 2) := by decide +kernel
theorem dX4_fromOf_63 : decode cX4_fromOf 63 = .ok (.istore 5, 2) := by decide +kernel
theorem dX4_fromOf_65 : decode cX4_fromOf 65 = .ok (.iload 4, 2) := by decide +kernel
theorem dX4_fromOf_67 : decode cX4_fromOf 67 = .ok (.iload 7, 2) := by decide +kernel
theorem dX4_fromOf_69 : decode cX4_fromOf 69 = .ok (.ifCond .eq 7, 3) := by decide +kernel
theorem dX4_fromOf_72 : decode cX4_fromOf 72 = .ok (.iconst 1, 1) := by decide +kernel
theorem dX4_fromOf_73 : decode cX4_fromOf 73 = .ok (.goto 4, 3) := by decide +kernel
theorem dX4_fromOf_76 : decode cX4_fromOf 76 = .ok (.iconst 0, 1) := by decide +kernel
theorem dX4_fromOf_77 : decode cX4_fromOf 77 = .ok (.iadd, 1) := by decide +kernel
theorem dX4_fromOf_78 : decode cX4_fromOf 78 = .ok (.istore 4, 2) := by decide +kernel
theorem dX4_fromOf_80 : decode cX4_fromOf 80 = .ok (.iinc 6 1, 3) := by decide +kernel
theorem dX4_fromOf_83 : decode cX4_fromOf 83 = .ok (.goto (-74), 3) := by decide +kernel
theorem dX4_fromOf_86 : decode cX4_fromOf 86 = .ok (.iload_n 3, 1) := by decide +kernel
theorem dX4_fromOf_87 : decode cX4_fromOf 87 = .ok (.iconst (-1), 1) := by decide +kernel
theorem dX4_fromOf_88 : decode cX4_fromOf 88 = .ok (.if_icmp .ne 8, 3) := by decide +kernel
theorem dX4_fromOf_91 : decode cX4_fromOf 91 = .ok (.iload 4, 2) := by decide +kernel
theorem dX4_fromOf_93 : decode cX4_fromOf 93 = .ok (.goto 5, 3) := by decide +kernel
theorem dX4_fromOf_96 : decode cX4_fromOf 96 = .ok (.iload 5, 2) := by decide +kernel
theorem dX4_fromOf_98 : decode cX4_fromOf 98 = .ok (.ireturn, 1) := by decide +kernel
theorem dX4_from_0 : decode cX4_from 0 = .ok (.aload_n 0, 1) := by decide +kernel
theorem dX4_from_1 : decode cX4_from 1 = .ok (.iload_n 1, 1) := by decide +kernel
theorem dX4_from_2 : decode cX4_from 2 = .ok (.invokevirtual 102, 3) := by decide +kernel
theorem dX4_from_5 : decode cX4_from 5 = .ok (.ifCond .eq 33, 3) := by decide +kernel
theorem dX4_from_8 : decode cX4_from 8 = .ok (.iload_n 2, 1) := by decide +kernel
theorem dX4_from_9 : decode cX4_from 9 = .ok (.iconst 0, 1) := by decide +kernel
theorem dX4_from_10 : decode cX4_from 10 = .ok (.bipush 9, 2) := by decide +kernel
theorem dX4_from_12 : decode cX4_from 12 = .ok (.invokestatic 65, 3) := by decide +kernel
theorem dX4_from_15 : decode cX4_from 15 = .ok (.ifCond .eq 23, 3) := by decide +kernel
theorem dX4_from_18 : decode cX4_from 18 = .ok (.iload_n 3, 1) := by decide +kernel
theorem dX4_from_19 : decode cX4_from 19 = .ok (.iconst (-1), 1) := by decide +kernel
theorem dX4_from_20 : decode cX4_from 20 = .ok (.bipush 34, 2) := by decide +kernel
theorem dX4_from_22 : decode cX4_from 22 = .ok (.invokestatic 65, 3) := by decide +kernel
theorem dX4_from_25 : decode cX4_from 25 = .ok (.ifCond .eq 13, 3) := by decide +kernel
theorem dX4_from_28 : decode cX4_from 28 = .ok (.aload_n 0, 1) := by decide +kernel
theorem dX4_from_29 : decode cX4_from 29 = .ok (.iload_n 1, 1) := by decide +kernel
theorem dX4_from_30 : decode cX4_from 30 = .ok (.iload_n 2, 1) := by decide +kernel
theorem dX4_from_31 : decode cX4_from 31 = .ok (.iload_n 3, 1) := by decide +kernel
theorem dX4_from_32 : decode cX4_from 32 = .ok (.invokevirtual 194, 3) := by decide +kernel
theorem dX4_from_35 : decode cX4_from 35 = .ok (.goto 5, 3) := by decide +kernel
theorem dX4_from_38 : decode cX4_from 38 = .ok (.bipush (-2), 2) := by decide +kernel
theorem dX4_from_40 : decode cX4_from 40 = .ok (.ireturn, 1) := by decide +kernel
theorem dX4_joinedNow_0 : decode cX4_joinedNow 0 = .ok (.aload_n 0, 1) := by decide +kernel
theorem dX4_joinedNow_1 : decode cX4_joinedNow 1 = .ok (.invokevirtual 89, 3) := by decide +kernel
theorem dX4_joinedNow_4 : decode cX4_joinedNow 4 = .ok (.iconst 0, 1) := by decide +kernel
theorem dX4_joinedNow_5 : decode cX4_joinedNow 5 = .ok (.istore_n 1, 1) := by decide +kernel
theorem dX4_joinedNow_6 : decode cX4_joinedNow 6 = .ok (.iconst 0, 1) := by decide +kernel
theorem dX4_joinedNow_7 : decode cX4_joinedNow 7 = .ok (.istore_n 2, 1) := by decide +kernel
theorem dX4_joinedNow_8 : decode cX4_joinedNow 8 = .ok (.iload_n 2, 1) := by decide +kernel
theorem dX4_joinedNow_9 : decode cX4_joinedNow 9 = .ok (.aload_n 0, 1) := by decide +kernel
theorem dX4_joinedNow_10 : decode cX4_joinedNow 10 = .ok (.getfield 72, 3) := by decide +kernel
theorem dX4_joinedNow_13 : decode cX4_joinedNow 13 = .ok (.if_icmp .ge 39, 3) := by decide +kernel
theorem dX4_joinedNow_16 : decode cX4_joinedNow 16 = .ok (.iload_n 1, 1) := by decide +kernel
theorem dX4_joinedNow_17 : decode cX4_joinedNow 17 = .ok (.aload_n 0, 1) := by decide +kernel
theorem dX4_joinedNow_18 : decode cX4_joinedNow 18 = .ok (.getfield 13, 3) := by decide +kernel
theorem dX4_joinedNow_21 : decode cX4_joinedNow 21 = .ok (.iload_n 2, 1) := by decide +kernel
theorem dX4_joinedNow_22 : decode cX4_joinedNow 22 = .ok (.iaload, 1) := by decide +kernel
theorem dX4_joinedNow_23 : decode cX4_joinedNow 23 = .ok (.aload_n 0, 1) := by decide +kernel
theorem dX4_joinedNow_24 : decode cX4_joinedNow 24 = .ok (.getfield 13, 3) := by decide +kernel
theorem dX4_joinedNow_27 : decode cX4_joinedNow 27 = .ok (.aload_n 0, 1) := by decide +kernel
theorem dX4_joinedNow_28 : decode cX4_joinedNow 28 = .ok (.getfield 72, 3) := by decide +kernel
theorem dX4_joinedNow_31 : decode cX4_joinedNow 31 = .ok (.iconst 1, 1) := by decide +kernel
theorem dX4_joinedNow_32 : decode cX4_joinedNow 32 = .ok (.isub, 1) := by decide +kernel
theorem dX4_joinedNow_33 : decode cX4_joinedNow 33 = .ok (.iload_n 2, 1) := by decide +kernel
theorem dX4_joinedNow_34 : decode cX4_joinedNow 34 = .ok (.isub, 1) := by decide +kernel
theorem dX4_joinedNow_35 : decode cX4_joinedNow 35 = .ok (.iaload, 1) := by decide +kernel
theorem dX4_joinedNow_36 : decode cX4_joinedNow 36 = .ok (.if_icmp .eq 7, 3) := by decide +kernel
theorem dX4_joinedNow_39 : decode cX4_joinedNow 39 = .ok (.iconst 1, 1) := by decide +kernel
theorem dX4_joinedNow_40 : decode cX4_joinedNow 40 = .ok (.goto 4, 3) := by decide +kernel
theorem dX4_joinedNow_43 : decode cX4_joinedNow 43 = .ok (.iconst 0, 1) := by decide +kernel
theorem dX4_joinedNow_44 : decode cX4_joinedNow 44 = .ok (.iadd, 1) := by decide +kernel
theorem dX4_joinedNow_45 : decode cX4_joinedNow 45 = .ok (.istore_n 1, 1) := by decide +kernel
theorem dX4_joinedNow_46 : decode cX4_joinedNow 46 = .ok (.iinc 2 1, 3) := by decide +kernel
theorem dX4_joinedNow_49 : decode cX4_joinedNow 49 = .ok (.goto (-41), 3) := by decide +kernel
theorem dX4_joinedNow_52 : decode cX4_joinedNow 52 = .ok (.iload_n 1, 1) := by decide +kernel
theorem dX4_joinedNow_53 : decode cX4_joinedNow 53 = .ok (.ireturn, 1) := by decide +kernel
theorem dX4_joined_0 : decode cX4_joined 0 = .ok (.aload_n 0, 1) := by decide +kernel
theorem dX4_joined_1 : decode cX4_joined 1 = .ok (.invokevirtual 197, 3) := by decide +kernel
theorem dX4_joined_4 : decode cX4_joined 4 = .ok (.ireturn, 1) := by decide +kernel
theorem dX4_likeOf_0 : decode cX4_likeOf 0 = .ok (.aload_n 0, 1) := by decide +kernel
theorem dX4_likeOf_1 : decode cX4_likeOf 1 = .ok (.invokevirtual 89, 3) := by decide +kernel
theorem dX4_likeOf_4 : decode cX4_likeOf 4 = .ok (.iconst 0, 1) := by decide +kernel
theorem dX4_likeOf_5 : decode cX4_likeOf 5 = .ok (.istore_n 2, 1) := by decide +kernel
theorem dX4_likeOf_6 : decode cX4_likeOf 6 = .ok (.iconst 0, 1) := by decide +kernel
theorem dX4_likeOf_7 : decode cX4_likeOf 7 = .ok (.istore_n 3, 1) := by decide +kernel
theorem dX4_likeOf_8 : decode cX4_likeOf 8 = .ok (.iload_n 3, 1) := by decide +kernel
theorem dX4_likeOf_9 : decode cX4_likeOf 9 = .ok (.aload_n 0, 1) := by decide +kernel
theorem dX4_likeOf_10 : decode cX4_likeOf 10 = .ok (.getfield 72, 3) := by decide +kernel
theorem dX4_likeOf_13 : decode cX4_likeOf 13 = .ok (.if_icmp .ge 49, 3) := by decide +kernel
theorem dX4_likeOf_16 : decode cX4_likeOf 16 = .ok (.iload_n 2, 1) := by decide +kernel
theorem dX4_likeOf_17 : decode cX4_likeOf 17 = .ok (.iload_n 3, 1) := by decide +kernel
theorem dX4_likeOf_18 : decode cX4_likeOf 18 = .ok (.aload_n 0, 1) := by decide +kernel
theorem dX4_likeOf_19 : decode cX4_likeOf 19 = .ok (.getfield 78, 3) := by decide +kernel
theorem dX4_likeOf_22 : decode cX4_likeOf 22 = .ok (.irem, 1) := by decide +kernel
theorem dX4_likeOf_23 : decode cX4_likeOf 23 = .ok (.iload_n 1, 1) := by decide +kernel
theorem dX4_likeOf_24 : decode cX4_likeOf 24 = .ok (.iadd, 1) := by decide +kernel
theorem dX4_likeOf_25 : decode cX4_likeOf 25 = .ok (.aload_n 0, 1) := by decide +kernel
theorem dX4_likeOf_26 : decode cX4_likeOf 26 = .ok (.getfield 78, 3) := by decide +kernel
theorem dX4_likeOf_29 : decode cX4_likeOf 29 = .ok (.if_icmp .ge 24, 3) := by decide +kernel
theorem dX4_likeOf_32 : decode cX4_likeOf 32 = .ok (.aload_n 0, 1) := by decide +kernel
theorem dX4_likeOf_33 : decode cX4_likeOf 33 = .ok (.getfield 13, 3) := by decide +kernel
theorem dX4_likeOf_36 : decode cX4_likeOf 36 = .ok (.iload_n 3, 1) := by decide +kernel
theorem dX4_likeOf_37 : decode cX4_likeOf 37 = .ok (.iaload, 1) := by decide +kernel
theorem dX4_likeOf_38 : decode cX4_likeOf 38 = .ok (.aload_n 0, 1) := by decide +kernel
theorem dX4_likeOf_39 : decode cX4_likeOf 39 = .ok (.getfield 13, 3) := by decide +kernel
theorem dX4_likeOf_42 : decode cX4_likeOf 42 = .ok (.iload_n 3, 1) := by decide +kernel
theorem dX4_likeOf_43 : decode cX4_likeOf 43 = .ok (.iload_n 1, 1) := by decide +kernel
theorem dX4_likeOf_44 : decode cX4_likeOf 44 = .ok (.iadd, 1) := by decide +kernel
theorem dX4_likeOf_45 : decode cX4_likeOf 45 = .ok (.iaload, 1) := by decide +kernel
theorem dX4_likeOf_46 : decode cX4_likeOf 46 = .ok (.if_icmp .eq 7, 3) := by decide +kernel
theorem dX4_likeOf_49 : decode cX4_likeOf 49 = .ok (.iconst 1, 1) := by decide +kernel
theorem dX4_likeOf_50 : decode cX4_likeOf 50 = .ok (.goto 4, 3) := by decide +kernel
theorem dX4_likeOf_53 : decode cX4_likeOf 53 = .ok (.iconst 0, 1) := by decide +kernel
theorem dX4_likeOf_54 : decode cX4_likeOf 54 = .ok (.iadd, 1) := by decide +kernel
theorem dX4_likeOf_55 : decode cX4_likeOf 55 = .ok (.istore_n 2, 1) := by decide +kernel
theorem dX4_likeOf_56 : decode cX4_likeOf 56 = .ok (.iinc 3 1, 3) := by decide +kernel
theorem dX4_likeOf_59 : decode cX4_likeOf 59 = .ok (.goto (-51), 3) := by decide +kernel
theorem dX4_likeOf_62 : decode cX4_likeOf 62 = .ok (.iload_n 2, 1) := by decide +kernel
theorem dX4_likeOf_63 : decode cX4_likeOf 63 = .ok (.ireturn, 1) := by decide +kernel
theorem dX4_like_0 : decode cX4_like 0 = .ok (.iload_n 1, 1) := by decide +kernel
theorem dX4_like_1 : decode cX4_like 1 = .ok (.iconst 1, 1) := by decide +kernel
theorem dX4_like_2 : decode cX4_like 2 = .ok (.bipush 6, 2) := by decide +kernel
theorem dX4_like_4 : decode cX4_like 4 = .ok (.invokestatic 65, 3) := by decide +kernel
theorem dX4_like_7 : decode cX4_like 7 = .ok (.ifCond .eq 11, 3) := by decide +kernel
theorem dX4_like_10 : decode cX4_like 10 = .ok (.aload_n 0, 1) := by decide +kernel
theorem dX4_like_11 : decode cX4_like 11 = .ok (.iload_n 1, 1) := by decide +kernel
theorem dX4_like_12 : decode cX4_like 12 = .ok (.invokevirtual 200, 3) := by decide +kernel
theorem dX4_like_15 : decode cX4_like 15 = .ok (.goto 5, 3) := by decide +kernel
theorem dX4_like_18 : decode cX4_like 18 = .ok (.bipush (-2), 2) := by decide +kernel
theorem dX4_like_20 : decode cX4_like 20 = .ok (.ireturn, 1) := by decide +kernel
theorem dX4_springs_0 : decode cX4_springs 0 = .ok (.iconst 0, 1) := by decide +kernel
theorem dX4_springs_1 : decode cX4_springs 1 = .ok (.istore_n 1, 1) := by decide +kernel
theorem dX4_springs_2 : decode cX4_springs 2 = .ok (.iconst 0, 1) := by decide +kernel
theorem dX4_springs_3 : decode cX4_springs 3 = .ok (.istore_n 2, 1) := by decide +kernel
theorem dX4_springs_4 : decode cX4_springs 4 = .ok (.iload_n 2, 1) := by decide +kernel
theorem dX4_springs_5 : decode cX4_springs 5 = .ok (.aload_n 0, 1) := by decide +kernel
theorem dX4_springs_6 : decode cX4_springs 6 = .ok (.getfield 72, 3) := by decide +kernel
theorem dX4_springs_9 : decode cX4_springs 9 = .ok (.if_icmp .ge 27, 3) := by decide +kernel
theorem dX4_springs_12 : decode cX4_springs 12 = .ok (.iload_n 1, 1) := by decide +kernel
theorem dX4_springs_13 : decode cX4_springs 13 = .ok (.aload_n 0, 1) := by decide +kernel
theorem dX4_springs_14 : decode cX4_springs 14 = .ok (.getfield 13, 3) := by decide +kernel
theorem dX4_springs_17 : decode cX4_springs 17 = .ok (.iload_n 2, 1) := by decide +kernel
theorem dX4_springs_18 : decode cX4_springs 18 = .ok (.iaload, 1) := by decide +kernel
theorem dX4_springs_19 : decode cX4_springs 19 = .ok (.iconst 3, 1) := by decide +kernel
theorem dX4_springs_20 : decode cX4_springs 20 = .ok (.if_icmp .ne 7, 3) := by decide +kernel
theorem dX4_springs_23 : decode cX4_springs 23 = .ok (.iconst 1, 1) := by decide +kernel
theorem dX4_springs_24 : decode cX4_springs 24 = .ok (.goto 4, 3) := by decide +kernel
theorem dX4_springs_27 : decode cX4_springs 27 = .ok (.iconst 0, 1) := by decide +kernel
theorem dX4_springs_28 : decode cX4_springs 28 = .ok (.iadd, 1) := by decide +kernel
theorem dX4_springs_29 : decode cX4_springs 29 = .ok (.istore_n 1, 1) := by decide +kernel
theorem dX4_springs_30 : decode cX4_springs 30 = .ok (.iinc 2 1, 3) := by decide +kernel
theorem dX4_springs_33 : decode cX4_springs 33 = .ok (.goto (-29), 3) := by decide +kernel
theorem dX4_springs_36 : decode cX4_springs 36 = .ok (.iload_n 1, 1) := by decide +kernel
theorem dX4_springs_37 : decode cX4_springs 37 = .ok (.ireturn, 1) := by decide +kernel
theorem dX4_floodOf_0 : decode cX4_floodOf 0 = .ok (.aload_n 0, 1) := by decide +kernel
theorem dX4_floodOf_1 : decode cX4_floodOf 1 = .ok (.invokevirtual 203, 3) := by decide +kernel
theorem dX4_floodOf_4 : decode cX4_floodOf 4 = .ok (.istore 4, 2) := by decide +kernel
theorem dX4_floodOf_6 : decode cX4_floodOf 6 = .ok (.lconst 0, 1) := by decide +kernel
theorem dX4_floodOf_7 : decode cX4_floodOf 7 = .ok (.lstore 5, 2) := by decide +kernel
theorem dX4_floodOf_9 : decode cX4_floodOf 9 = .ok (.iconst 0, 1) := by decide +kernel
theorem dX4_floodOf_10 : decode cX4_floodOf 10 = .ok (.istore 7, 2) := by decide +kernel
theorem dX4_floodOf_12 : decode cX4_floodOf 12 = .ok (.iload 7, 2) := by decide +kernel
theorem dX4_floodOf_14 : decode cX4_floodOf 14 = .ok (.iconst 1, 1) := by decide +kernel
theorem dX4_floodOf_15 : decode cX4_floodOf 15 = .ok (.iload 4, 2) := by decide +kernel
theorem dX4_floodOf_17 : decode cX4_floodOf 17 = .ok (.ishl, 1) := by decide +kernel
theorem dX4_floodOf_18 : decode cX4_floodOf 18 = .ok (.if_icmp .ge 79, 3) := by decide +kernel
theorem dX4_floodOf_21 : decode cX4_floodOf 21 = .ok (.lconst 1, 1) := by decide +kernel
theorem dX4_floodOf_22 : decode cX4_floodOf 22 = .ok (.lstore 8, 2) := by decide +kernel
theorem dX4_floodOf_24 : decode cX4_floodOf 24 = .ok (.iconst 0, 1) := by decide +kernel
theorem dX4_floodOf_25 : decode cX4_floodOf 25 = .ok (.istore 10, 2) := by decide +kernel
theorem dX4_floodOf_27 : decode cX4_floodOf 27 = .ok (.iload 10, 2) := by decide +kernel
theorem dX4_floodOf_29 : decode cX4_floodOf 29 = .ok (.iload 4, 2) := by decide +kernel
theorem dX4_floodOf_31 : decode cX4_floodOf 31 = .ok (.if_icmp .ge 34, 3) := by decide +kernel
theorem dX4_floodOf_34 : decode cX4_floodOf 34 = .ok (.lload 8, 2) := by decide +kernel
theorem dX4_floodOf_36 : decode cX4_floodOf 36 = .ok (.iload 7, 2) := by decide +kernel
theorem dX4_floodOf_38 : decode cX4_floodOf 38 = .ok (.iload 10, 2) := by decide +kernel
theorem dX4_floodOf_40 : decode cX4_floodOf 40 = .ok (.invokestatic 163, 3) := by decide +kernel
theorem dX4_floodOf_43 : decode cX4_floodOf 43 = .ok (.ifCond .eq 8, 3) := by decide +kernel
theorem dX4_floodOf_46 : decode cX4_floodOf 46 = .ok (.iload_n 1, 1) := by decide +kernel
theorem dX4_floodOf_47 : decode cX4_floodOf 47 = .ok (.i2l, 1) := by decide +kernel
theorem dX4_floodOf_48 : decode cX4_floodOf 48 = .ok (.goto 8, 3) := by decide +kernel
theorem dX4_floodOf_51 : decode cX4_floodOf 51 = .ok (.bipush 16, 2) := by decide +kernel
theorem dX4_floodOf_53 : decode cX4_floodOf 53 = .ok (.iload_n 1, 1) := by decide +kernel
theorem dX4_floodOf_54 : decode cX4_floodOf 54 = .ok (.isub, 1) := by decide +kernel
theorem dX4_floodOf_55 : decode cX4_floodOf 55 = .ok (.i2l, 1) := by decide +kernel
theorem dX4_floodOf_56 : decode cX4_floodOf 56 = .ok (.lmul, 1) := by decide +kernel
theorem dX4_floodOf_57 : decode cX4_floodOf 57 = .ok (.lstore 8, 2) := by decide +kernel
theorem dX4_floodOf_59 : decode cX4_floodOf 59 = .ok (.iinc 10 1, 3) := by decide +kernel
theorem dX4_floodOf_62 : decode cX4_floodOf 62 = .ok (.goto (-35), 3) := by decide +kernel
theorem dX4_floodOf_65 : decode cX4_floodOf 65 = .ok (.aload_n 0, 1) := by decide +kernel
theorem dX4_floodOf_66 : decode cX4_floodOf 66 = .ok (.iload 7, 2) := by decide +kernel
theorem dX4_floodOf_68 : decode cX4_floodOf 68 = .ok (.invokevirtual 167, 3) := by decide +kernel
theorem dX4_floodOf_71 : decode cX4_floodOf 71 = .ok (.lload 5, 2) := by decide +kernel
theorem dX4_floodOf_73 : decode cX4_floodOf 73 = .ok (.aload_n 0, 1) := by decide +kernel
theorem dX4_floodOf_74 : decode cX4_floodOf 74 = .ok (.getfield 29, 3) := by decide +kernel
theorem dX4_floodOf_77 : decode cX4_floodOf 77 = .ok (.iload_n 2, 1) := by decide +kernel
theorem dX4_floodOf_78 : decode cX4_floodOf 78 = .ok (.baload, 1) := by decide +kernel
theorem dX4_floodOf_79 : decode cX4_floodOf 79 = .ok (.ifCond .eq 8, 3) := by decide +kernel
theorem dX4_floodOf_82 : decode cX4_floodOf 82 = .ok (.lload 8, 2) := by decide +kernel
theorem dX4_floodOf_84 : decode cX4_floodOf 84 = .ok (.goto 4, 3) := by decide +kernel
theorem dX4_floodOf_87 : decode cX4_floodOf 87 = .ok (.lconst 0, 1) := by decide +kernel
theorem dX4_floodOf_88 : decode cX4_floodOf 88 = .ok (.ladd, 1) := by decide +kernel
theorem dX4_floodOf_89 : decode cX4_floodOf 89 = .ok (.lstore 5, 2) := by decide +kernel
theorem dX4_floodOf_91 : decode cX4_floodOf 91 = .ok (.iinc 7 1, 3) := by decide +kernel
theorem dX4_floodOf_94 : decode cX4_floodOf 94 = .ok (.goto (-82), 3) := by decide +kernel
theorem dX4_floodOf_97 : decode cX4_floodOf 97 = .ok (.lload 5, 2) := by decide +kernel
theorem dX4_floodOf_99 : decode cX4_floodOf 99 = .ok (.lconst 1, 1) := by decide +kernel
theorem dX4_floodOf_100 : decode cX4_floodOf 100 = .ok (.iconst 4, 1) := by decide +kernel
theorem dX4_floodOf_101 : decode cX4_floodOf 101 = .ok (.iload 4, 2) := by decide +kernel
theorem dX4_floodOf_103 : decode cX4_floodOf 103 = .ok (.imul, 1) := by decide +kernel
theorem dX4_floodOf_104 : decode cX4_floodOf 104 = .ok (.lshl, 1) := by decide +kernel
theorem dX4_floodOf_105 : decode cX4_floodOf 105 = .ok (.iload_n 3, 1) := by decide +kernel
theorem dX4_floodOf_106 : decode cX4_floodOf 106 = .ok (.invokestatic 206, 3) := by decide +kernel
theorem dX4_floodOf_109 : decode cX4_floodOf 109 = .ok (.lreturn, 1) := by decide +kernel
theorem dX4_flood_0 : decode cX4_flood 0 = .ok (.iload_n 1, 1) := by decide +kernel
theorem dX4_flood_1 : decode cX4_flood 1 = .ok (.iconst 0, 1) := by decide +kernel
theorem dX4_flood_2 : decode cX4_flood 2 = .ok (.bipush 16, 2) := by decide +kernel
theorem dX4_flood_4 : decode cX4_flood 4 = .ok (.invokestatic 65, 3) := by decide +kernel
theorem dX4_flood_7 : decode cX4_flood 7 = .ok (.ifCond .eq 39, 3) := by decide +kernel
theorem dX4_flood_10 : decode cX4_flood 10 = .ok (.aload_n 0, 1) := by decide +kernel
theorem dX4_flood_11 : decode cX4_flood 11 = .ok (.iload_n 2, 1) := by decide +kernel
theorem dX4_flood_12 : decode cX4_flood 12 = .ok (.invokevirtual 102, 3) := by decide +kernel
theorem dX4_flood_15 : decode cX4_flood 15 = .ok (.ifCond .eq 31, 3) := by decide +kernel
theorem dX4_flood_18 : decode cX4_flood 18 = .ok (.iload_n 3, 1) := by decide +kernel
theorem dX4_flood_19 : decode cX4_flood 19 = .ok (.iconst 0, 1) := by decide +kernel
theorem dX4_flood_20 : decode cX4_flood 20 = .ok (.iconst 1, 1) := by decide +kernel
theorem dX4_flood_21 : decode cX4_flood 21 = .ok (.invokestatic 65, 3) := by decide +kernel
theorem dX4_flood_24 : decode cX4_flood 24 = .ok (.ifCond .eq 22, 3) := by decide +kernel
theorem dX4_flood_27 : decode cX4_flood 27 = .ok (.aload_n 0, 1) := by decide +kernel
theorem dX4_flood_28 : decode cX4_flood 28 = .ok (.invokevirtual 203, 3) := by decide +kernel
theorem dX4_flood_31 : decode cX4_flood 31 = .ok (.bipush 10, 2) := by decide +kernel
theorem dX4_flood_33 : decode cX4_flood 33 = .ok (.if_icmp .ge 13, 3) := by decide +kernel
theorem dX4_flood_36 : decode cX4_flood 36 = .ok (.aload_n 0, 1) := by decide +kernel
theorem dX4_flood_37 : decode cX4_flood 37 = .ok (.iload_n 1, 1) := by decide +kernel
theorem dX4_flood_38 : decode cX4_flood 38 = .ok (.iload_n 2, 1) := by decide +kernel
theorem dX4_flood_39 : decode cX4_flood 39 = .ok (.iload_n 3, 1) := by decide +kernel
theorem dX4_flood_40 : decode cX4_flood 40 = .ok (.invokevirtual 210, 3) := by decide +kernel
theorem dX4_flood_43 : decode cX4_flood 43 = .ok (.goto 8, 3) := by decide +kernel
theorem dX4_flood_46 : decode cX4_flood 46 = .ok (.bipush (-2), 2) := by decide +kernel
theorem dX4_flood_48 : decode cX4_flood 48 = .ok (.invokestatic 214, 3) := by decide +kernel
theorem dX4_flood_51 : decode cX4_flood 51 = .ok (.lreturn, 1) := by decide +kernel
theorem dX4_kicksOf_0 : decode cX4_kicksOf 0 = .ok (.iload_n 1, 1) := by decide +kernel
theorem dX4_kicksOf_1 : decode cX4_kicksOf 1 = .ok (.istore 4, 2) := by decide +kernel
theorem dX4_kicksOf_3 : decode cX4_kicksOf 3 = .ok (.iload_n 2, 1) := by decide +kernel
theorem dX4_kicksOf_4 : decode cX4_kicksOf 4 = .ok (.istore 5, 2) := by decide +kernel
theorem dX4_kicksOf_6 : decode cX4_kicksOf 6 = .ok (.iconst 0, 1) := by decide +kernel
theorem dX4_kicksOf_7 : decode cX4_kicksOf 7 = .ok (.istore 6, 2) := by decide +kernel
theorem dX4_kicksOf_9 : decode cX4_kicksOf 9 = .ok (.iload 6, 2) := by decide +kernel
theorem dX4_kicksOf_11 : decode cX4_kicksOf 11 = .ok (.iload_n 3, 1) := by decide +kernel
theorem dX4_kicksOf_12 : decode cX4_kicksOf 12 = .ok (.if_icmp .ge 89, 3) := by decide +kernel
theorem dX4_kicksOf_15 : decode cX4_kicksOf 15 = .ok (.aload_n 0, 1) := by decide +kernel
theorem dX4_kicksOf_16 : decode cX4_kicksOf 16 = .ok (.iload 5, 2) := by decide +kernel
theorem dX4_kicksOf_18 : decode cX4_kicksOf 18 = .ok (.invokevirtual 105, 3) := by decide +kernel
theorem dX4_kicksOf_21 : decode cX4_kicksOf 21 = .ok (.ifCond .ne 14, 3) := by decide +kernel
theorem dX4_kicksOf_24 : decode cX4_kicksOf 24 = .ok (.aload_n 0, 1) := by decide +kernel
theorem dX4_kicksOf_25 : decode cX4_kicksOf 25 = .ok (.iload 5, 2) := by decide +kernel
theorem dX4_kicksOf_27 : decode cX4_kicksOf 27 = .ok (.invokevirtual 96, 3) := by decide +kernel
theorem dX4_kicksOf_30 : decode cX4_kicksOf 30 = .ok (.istore 5, 2) := by decide +kernel
theorem dX4_kicksOf_32 : decode cX4_kicksOf 32 = .ok (.goto 63, 3) := by decide +kernel
theorem dX4_kicksOf_35 : decode cX4_kicksOf 35 = .ok (.ldc 218, 2) := by decide +kernel
theorem dX4_kicksOf_37 : decode cX4_kicksOf 37 = .ok (.iload 4, 2) := by decide +kernel
theorem dX4_kicksOf_39 : decode cX4_kicksOf 39 = .ok (.imul, 1) := by decide +kernel
theorem dX4_kicksOf_40 : decode cX4_kicksOf 40 = .ok (.sipush 12345, 3) := by decide +kernel
theorem dX4_kicksOf_43 : decode cX4_kicksOf 43 = .ok (.iadd, 1) := by decide +kernel
theorem dX4_kicksOf_44 : decode cX4_kicksOf 44 = .ok (.istore 4, 2) := by decide +kernel
theorem dX4_kicksOf_46 : decode cX4_kicksOf 46 = .ok (.iload 4, 2) := by decide +kernel
theorem dX4_kicksOf_48 : decode cX4_kicksOf 48 = .ok (.bipush 16, 2) := by decide +kernel
theorem dX4_kicksOf_50 : decode cX4_kicksOf 50 = .ok (.iushr, 1) := by decide +kernel
theorem dX4_kicksOf_51 : decode cX4_kicksOf 51 = .ok (.iconst 3, 1) := by decide +kernel
theorem dX4_kicksOf_52 : decode cX4_kicksOf 52 = .ok (.irem, 1) := by decide +kernel
theorem dX4_kicksOf_53 : decode cX4_kicksOf 53 = .ok (.istore 7, 2) := by decide +kernel
theorem dX4_kicksOf_55 : decode cX4_kicksOf 55 = .ok (.iload 7, 2) := by decide +kernel
theorem dX4_kicksOf_57 : decode cX4_kicksOf 57 = .ok (.ifCond .ne 8, 3) := by decide +kernel
theorem dX4_kicksOf_60 : decode cX4_kicksOf 60 = .ok (.iload 5, 2) := by decide +kernel
theorem dX4_kicksOf_62 : decode cX4_kicksOf 62 = .ok (.goto 13, 3) := by decide +kernel
theorem dX4_kicksOf_65 : decode cX4_kicksOf 65 = .ok (.aload_n 0, 1) := by decide +kernel
theorem dX4_kicksOf_66 : decode cX4_kicksOf 66 = .ok (.iload 5, 2) := by decide +kernel
theorem dX4_kicksOf_68 : decode cX4_kicksOf 68 = .ok (.iload 7, 2) := by decide +kernel
theorem dX4_kicksOf_70 : decode cX4_kicksOf 70 = .ok (.iconst 1, 1) := by decide +kernel
theorem dX4_kicksOf_71 : decode cX4_kicksOf 71 = .ok (.isub, 1) := by decide +kernel
theorem dX4_kicksOf_72 : decode cX4_kicksOf 72 = .ok (.invokevirtual 139, 3) := by decide +kernel
theorem dX4_kicksOf_75 : decode cX4_kicksOf 75 = .ok (.istore 8, 2) := by decide +kernel
theorem dX4_kicksOf_77 : decode cX4_kicksOf 77 = .ok (.aload_n 0, 1) := by decide +kernel
theorem dX4_kicksOf_78 : decode cX4_kicksOf 78 = .ok (.iload 8, 2) := by decide +kernel
theorem dX4_kicksOf_80 : decode cX4_kicksOf 80 = .ok (.invokevirtual 99, 3) := by decide +kernel
theorem dX4_kicksOf_83 : decode cX4_kicksOf 83 = .ok (.ifCond .eq 8, 3) := by decide +kernel
theorem dX4_kicksOf_86 : decode cX4_kicksOf 86 = .ok (.iload 8, 2) := by decide +kernel
theorem dX4_kicksOf_88 : decode cX4_kicksOf 88 = .ok (.goto 5, 3) := by decide +kernel
theorem dX4_kicksOf_91 : decode cX4_kicksOf 91 = .ok (.iload 5, 2) := by decide +kernel
theorem dX4_kicksOf_93 : decode cX4_kicksOf 93 = .ok (.istore 5, 2) := by decide +kernel
theorem dX4_kicksOf_95 : decode cX4_kicksOf 95 = .ok (.iinc 6 1, 3) := by decide +kernel
theorem dX4_kicksOf_98 : decode cX4_kicksOf 98 = .ok (.goto (-89), 3) := by decide +kernel
theorem dX4_kicksOf_101 : decode cX4_kicksOf 101 = .ok (.iload 5, 2) := by decide +kernel
theorem dX4_kicksOf_103 : decode cX4_kicksOf 103 = .ok (.ireturn, 1) := by decide +kernel
theorem dX4_kicks_0 : decode cX4_kicks 0 = .ok (.aload_n 0, 1) := by decide +kernel
theorem dX4_kicks_1 : decode cX4_kicks 1 = .ok (.iload_n 2, 1) := by decide +kernel
theorem dX4_kicks_2 : decode cX4_kicks 2 = .ok (.invokevirtual 102, 3) := by decide +kernel
theorem dX4_kicks_5 : decode cX4_kicks 5 = .ok (.ifCond .eq 31, 3) := by decide +kernel
theorem dX4_kicks_8 : decode cX4_kicks 8 = .ok (.aload_n 0, 1) := by decide +kernel
theorem dX4_kicks_9 : decode cX4_kicks 9 = .ok (.iload_n 2, 1) := by decide +kernel
theorem dX4_kicks_10 : decode cX4_kicks 10 = .ok (.invokevirtual 99, 3) := by decide +kernel
theorem dX4_kicks_13 : decode cX4_kicks 13 = .ok (.ifCond .eq 23, 3) := by decide +kernel
theorem dX4_kicks_16 : decode cX4_kicks 16 = .ok (.iload_n 3, 1) := by decide +kernel
theorem dX4_kicks_17 : decode cX4_kicks 17 = .ok (.iconst 1, 1) := by decide +kernel
theorem dX4_kicks_18 : decode cX4_kicks 18 = .ok (.bipush 40, 2) := by decide +kernel
theorem dX4_kicks_20 : decode cX4_kicks 20 = .ok (.invokestatic 65, 3) := by decide +kernel
theorem dX4_kicks_23 : decode cX4_kicks 23 = .ok (.ifCond .eq 13, 3) := by decide +kernel
theorem dX4_kicks_26 : decode cX4_kicks 26 = .ok (.aload_n 0, 1) := by decide +kernel
theorem dX4_kicks_27 : decode cX4_kicks 27 = .ok (.iload_n 1, 1) := by decide +kernel
theorem dX4_kicks_28 : decode cX4_kicks 28 = .ok (.iload_n 2, 1) := by decide +kernel
theorem dX4_kicks_29 : decode cX4_kicks 29 = .ok (.iload_n 3, 1) := by decide +kernel
theorem dX4_kicks_30 : decode cX4_kicks 30 = .ok (.invokevirtual 219, 3) := by decide +kernel
theorem dX4_kicks_33 : decode cX4_kicks 33 = .ok (.goto 5, 3) := by decide +kernel
theorem dX4_kicks_36 : decode cX4_kicks 36 = .ok (.bipush (-2), 2) := by decide +kernel
theorem dX4_kicks_38 : decode cX4_kicks 38 = .ok (.ireturn, 1) := by decide +kernel
theorem dX4_meets_0 : decode cX4_meets 0 = .ok (.aload_n 0, 1) := by decide +kernel
theorem dX4_meets_1 : decode cX4_meets 1 = .ok (.iload_n 1, 1) := by decide +kernel
theorem dX4_meets_2 : decode cX4_meets 2 = .ok (.putfield 222, 3) := by decide +kernel
theorem dX4_meets_5 : decode cX4_meets 5 = .ok (.bipush (-10), 2) := by decide +kernel
theorem dX4_meets_7 : decode cX4_meets 7 = .ok (.iload_n 1, 1) := by decide +kernel
theorem dX4_meets_8 : decode cX4_meets 8 = .ok (.isub, 1) := by decide +kernel
theorem dX4_meets_9 : decode cX4_meets 9 = .ok (.ireturn, 1) := by decide +kernel
theorem dX4_isSheet_0 : decode cX4_isSheet 0 = .ok (.iload_n 0, 1) := by decide +kernel
theorem dX4_isSheet_1 : decode cX4_isSheet 1 = .ok (.iconst 0, 1) := by decide +kernel
theorem dX4_isSheet_2 : decode cX4_isSheet 2 = .ok (.iconst 3, 1) := by decide +kernel
theorem dX4_isSheet_3 : decode cX4_isSheet 3 = .ok (.invokestatic 65, 3) := by decide +kernel
theorem dX4_isSheet_6 : decode cX4_isSheet 6 = .ok (.ireturn, 1) := by decide +kernel
theorem dX4_sheet_0 : decode cX4_sheet 0 = .ok (.iload_n 1, 1) := by decide +kernel
theorem dX4_sheet_1 : decode cX4_sheet 1 = .ok (.invokestatic 111, 3) := by decide +kernel
theorem dX4_sheet_4 : decode cX4_sheet 4 = .ok (.ifCond .eq 18, 3) := by decide +kernel
theorem dX4_sheet_7 : decode cX4_sheet 7 = .ok (.iload_n 2, 1) := by decide +kernel
theorem dX4_sheet_8 : decode cX4_sheet 8 = .ok (.iconst 0, 1) := by decide +kernel
theorem dX4_sheet_9 : decode cX4_sheet 9 = .ok (.iconst 2, 1) := by decide +kernel
theorem dX4_sheet_10 : decode cX4_sheet 10 = .ok (.invokestatic 65, 3) := by decide +kernel
theorem dX4_sheet_13 : decode cX4_sheet 13 = .ok (.ifCond .eq 9, 3) := by decide +kernel
theorem dX4_sheet_16 : decode cX4_sheet 16 = .ok (.iload_n 3, 1) := by decide +kernel
theorem dX4_sheet_17 : decode cX4_sheet 17 = .ok (.bipush 48, 2) := by decide +kernel
theorem dX4_sheet_19 : decode cX4_sheet 19 = .ok (.if_icmp .le 6, 3) := by decide +kernel
theorem dX4_sheet_22 : decode cX4_sheet 22 = .ok (.bipush (-2), 2) := by decide +kernel
theorem dX4_sheet_24 : decode cX4_sheet 24 = .ok (.ireturn, 1) := by decide +kernel
theorem dX4_sheet_25 : decode cX4_sheet 25 = .ok (.iload_n 3, 1) := by decide +kernel
theorem dX4_sheet_26 : decode cX4_sheet 26 = .ok (.ifCond .ge 9, 3) := by decide +kernel
theorem dX4_sheet_29 : decode cX4_sheet 29 = .ok (.aload_n 0, 1) := by decide +kernel
theorem dX4_sheet_30 : decode cX4_sheet 30 = .ok (.iconst 5, 1) := by decide +kernel
theorem dX4_sheet_31 : decode cX4_sheet 31 = .ok (.invokevirtual 114, 3) := by decide +kernel
theorem dX4_sheet_34 : decode cX4_sheet 34 = .ok (.ireturn, 1) := by decide +kernel
theorem dX4_sheet_35 : decode cX4_sheet 35 = .ok (.aload_n 0, 1) := by decide +kernel
theorem dX4_sheet_36 : decode cX4_sheet 36 = .ok (.getfield 41, 3) := by decide +kernel
theorem dX4_sheet_39 : decode cX4_sheet 39 = .ok (.iload_n 1, 1) := by decide +kernel
theorem dX4_sheet_40 : decode cX4_sheet 40 = .ok (.iconst 1, 1) := by decide +kernel
theorem dX4_sheet_41 : decode cX4_sheet 41 = .ok (.bastore, 1) := by decide +kernel
theorem dX4_sheet_42 : decode cX4_sheet 42 = .ok (.aload_n 0, 1) := by decide +kernel
theorem dX4_sheet_43 : decode cX4_sheet 43 = .ok (.getfield 44, 3) := by decide +kernel
theorem dX4_sheet_46 : decode cX4_sheet 46 = .ok (.iload_n 1, 1) := by decide +kernel
theorem dX4_sheet_47 : decode cX4_sheet 47 = .ok (.iload_n 2, 1) := by decide +kernel
theorem dX4_sheet_48 : decode cX4_sheet 48 = .ok (.iastore, 1) := by decide +kernel
theorem dX4_sheet_49 : decode cX4_sheet 49 = .ok (.aload_n 0, 1) := by decide +kernel
theorem dX4_sheet_50 : decode cX4_sheet 50 = .ok (.getfield 47, 3) := by decide +kernel
theorem dX4_sheet_53 : decode cX4_sheet 53 = .ok (.iload_n 1, 1) := by decide +kernel
theorem dX4_sheet_54 : decode cX4_sheet 54 = .ok (.iload_n 3, 1) := by decide +kernel
theorem dX4_sheet_55 : decode cX4_sheet 55 = .ok (.iastore, 1) := by decide +kernel
theorem dX4_sheet_56 : decode cX4_sheet 56 = .ok (.iconst 0, 1) := by decide +kernel
theorem dX4_sheet_57 : decode cX4_sheet 57 = .ok (.istore 4, 2) := by decide +kernel
theorem dX4_sheet_59 : decode cX4_sheet 59 = .ok (.iload 4, 2) := by decide +kernel
theorem dX4_sheet_61 : decode cX4_sheet 61 = .ok (.bipush 48, 2) := by decide +kernel
theorem dX4_sheet_63 : decode cX4_sheet 63 = .ok (.if_icmp .ge 22, 3) := by decide +kernel
theorem dX4_sheet_66 : decode cX4_sheet 66 = .ok (.aload_n 0, 1) := by decide +kernel
theorem dX4_sheet_67 : decode cX4_sheet 67 = .ok (.getfield 50, 3) := by decide +kernel
theorem dX4_sheet_70 : decode cX4_sheet 70 = .ok (.bipush 48, 2) := by decide +kernel
theorem dX4_sheet_72 : decode cX4_sheet 72 = .ok (.iload_n 1, 1) := by decide +kernel
theorem dX4_sheet_73 : decode cX4_sheet 73 = .ok (.imul, 1) := by decide +kernel
theorem dX4_sheet_74 : decode cX4_sheet 74 = .ok (.iload 4, 2) := by decide +kernel
theorem dX4_sheet_76 : decode cX4_sheet 76 = .ok (.iadd, 1) := by decide +kernel
theorem dX4_sheet_77 : decode cX4_sheet 77 = .ok (.iconst 0, 1) := by decide +kernel
theorem dX4_sheet_78 : decode cX4_sheet 78 = .ok (.iastore, 1) := by decide +kernel
theorem dX4_sheet_79 : decode cX4_sheet 79 = .ok (.iinc 4 1, 3) := by decide +kernel
theorem dX4_sheet_82 : decode cX4_sheet 82 = .ok (.goto (-23), 3) := by decide +kernel
theorem dX4_sheet_85 : decode cX4_sheet 85 = .ok (.iload_n 3, 1) := by decide +kernel
theorem dX4_sheet_86 : decode cX4_sheet 86 = .ok (.ireturn, 1) := by decide +kernel
theorem dX4_lose_0 : decode cX4_lose 0 = .ok (.iload_n 1, 1) := by decide +kernel
theorem dX4_lose_1 : decode cX4_lose 1 = .ok (.invokestatic 111, 3) := by decide +kernel
theorem dX4_lose_4 : decode cX4_lose 4 = .ok (.ifCond .ne 6, 3) := by decide +kernel
theorem dX4_lose_7 : decode cX4_lose 7 = .ok (.bipush (-2), 2) := by decide +kernel
theorem dX4_lose_9 : decode cX4_lose 9 = .ok (.ireturn, 1) := by decide +kernel
theorem dX4_lose_10 : decode cX4_lose 10 = .ok (.aload_n 0, 1) := by decide +kernel
theorem dX4_lose_11 : decode cX4_lose 11 = .ok (.getfield 41, 3) := by decide +kernel
theorem dX4_lose_14 : decode cX4_lose 14 = .ok (.iload_n 1, 1) := by decide +kernel
theorem dX4_lose_15 : decode cX4_lose 15 = .ok (.baload, 1) := by decide +kernel
theorem dX4_lose_16 : decode cX4_lose 16 = .ok (.ifCond .ne 9, 3) := by decide +kernel
theorem dX4_lose_19 : decode cX4_lose 19 = .ok (.aload_n 0, 1) := by decide +kernel
theorem dX4_lose_20 : decode cX4_lose 20 = .ok (.iconst 1, 1) := by decide +kernel
theorem dX4_lose_21 : decode cX4_lose 21 = .ok (.invokevirtual 114, 3) := by decide +kernel
theorem dX4_lose_24 : decode cX4_lose 24 = .ok (.ireturn, 1) := by decide +kernel
theorem dX4_lose_25 : decode cX4_lose 25 = .ok (.aload_n 0, 1) := by decide +kernel
theorem dX4_lose_26 : decode cX4_lose 26 = .ok (.getfield 41, 3) := by decide +kernel
theorem dX4_lose_29 : decode cX4_lose 29 = .ok (.iload_n 1, 1) := by decide +kernel
theorem dX4_lose_30 : decode cX4_lose 30 = .ok (.iconst 0, 1) := by decide +kernel
theorem dX4_lose_31 : decode cX4_lose 31 = .ok (.bastore, 1) := by decide +kernel
theorem dX4_lose_32 : decode cX4_lose 32 = .ok (.aload_n 0, 1) := by decide +kernel
theorem dX4_lose_33 : decode cX4_lose 33 = .ok (.getfield 47, 3) := by decide +kernel
theorem dX4_lose_36 : decode cX4_lose 36 = .ok (.iload_n 1, 1) := by decide +kernel
theorem dX4_lose_37 : decode cX4_lose 37 = .ok (.iaload, 1) := by decide +kernel
theorem dX4_lose_38 : decode cX4_lose 38 = .ok (.ireturn, 1) := by decide +kernel
theorem dX4_lacks_0 : decode cX4_lacks 0 = .ok (.aload_n 0, 1) := by decide +kernel
theorem dX4_lacks_1 : decode cX4_lacks 1 = .ok (.getfield 41, 3) := by decide +kernel
theorem dX4_lacks_4 : decode cX4_lacks 4 = .ok (.iload_n 1, 1) := by decide +kernel
theorem dX4_lacks_5 : decode cX4_lacks 5 = .ok (.baload, 1) := by decide +kernel
theorem dX4_lacks_6 : decode cX4_lacks 6 = .ok (.ifCond .ne 7, 3) := by decide +kernel
theorem dX4_lacks_9 : decode cX4_lacks 9 = .ok (.iconst 1, 1) := by decide +kernel
theorem dX4_lacks_10 : decode cX4_lacks 10 = .ok (.goto 38, 3) := by decide +kernel
theorem dX4_lacks_13 : decode cX4_lacks 13 = .ok (.aload_n 0, 1) := by decide +kernel
theorem dX4_lacks_14 : decode cX4_lacks 14 = .ok (.getfield 44, 3) := by decide +kernel
theorem dX4_lacks_17 : decode cX4_lacks 17 = .ok (.iload_n 1, 1) := by decide +kernel
theorem dX4_lacks_18 : decode cX4_lacks 18 = .ok (.iaload, 1) := by decide +kernel
theorem dX4_lacks_19 : decode cX4_lacks 19 = .ok (.iload_n 2, 1) := by decide +kernel
theorem dX4_lacks_20 : decode cX4_lacks 20 = .ok (.if_icmp .eq 7, 3) := by decide +kernel
theorem dX4_lacks_23 : decode cX4_lacks 23 = .ok (.iconst 3, 1) := by decide +kernel
theorem dX4_lacks_24 : decode cX4_lacks 24 = .ok (.goto 24, 3) := by decide +kernel
theorem dX4_lacks_27 : decode cX4_lacks 27 = .ok (.iload_n 3, 1) := by decide +kernel
theorem dX4_lacks_28 : decode cX4_lacks 28 = .ok (.iconst 0, 1) := by decide +kernel
theorem dX4_lacks_29 : decode cX4_lacks 29 = .ok (.aload_n 0, 1) := by decide +kernel
theorem dX4_lacks_30 : decode cX4_lacks 30 = .ok (.getfield 47, 3) := by decide +kernel
theorem dX4_lacks_33 : decode cX4_lacks 33 = .ok (.iload_n 1, 1) := by decide +kernel
theorem dX4_lacks_34 : decode cX4_lacks 34 = .ok (.iaload, 1) := by decide +kernel
theorem dX4_lacks_35 : decode cX4_lacks 35 = .ok (.iconst 1, 1) := by decide +kernel
theorem dX4_lacks_36 : decode cX4_lacks 36 = .ok (.isub, 1) := by decide +kernel
theorem dX4_lacks_37 : decode cX4_lacks 37 = .ok (.invokestatic 65, 3) := by decide +kernel
theorem dX4_lacks_40 : decode cX4_lacks 40 = .ok (.ifCond .eq 7, 3) := by decide +kernel
theorem dX4_lacks_43 : decode cX4_lacks 43 = .ok (.iconst 0, 1) := by decide +kernel
theorem dX4_lacks_44 : decode cX4_lacks 44 = .ok (.goto 4, 3) := by decide +kernel
theorem dX4_lacks_47 : decode cX4_lacks 47 = .ok (.iconst 2, 1) := by decide +kernel
theorem dX4_lacks_48 : decode cX4_lacks 48 = .ok (.ireturn, 1) := by decide +kernel
theorem dX4_keep_0 : decode cX4_keep 0 = .ok (.aload_n 0, 1) := by decide +kernel
theorem dX4_keep_1 : decode cX4_keep 1 = .ok (.getfield 50, 3) := by decide +kernel
theorem dX4_keep_4 : decode cX4_keep 4 = .ok (.bipush 48, 2) := by decide +kernel
theorem dX4_keep_6 : decode cX4_keep 6 = .ok (.iload_n 1, 1) := by decide +kernel
theorem dX4_keep_7 : decode cX4_keep 7 = .ok (.imul, 1) := by decide +kernel
theorem dX4_keep_8 : decode cX4_keep 8 = .ok (.iload_n 2, 1) := by decide +kernel
theorem dX4_keep_9 : decode cX4_keep 9 = .ok (.iadd, 1) := by decide +kernel
theorem dX4_keep_10 : decode cX4_keep 10 = .ok (.aload_n 0, 1) := by decide +kernel
theorem dX4_keep_11 : decode cX4_keep 11 = .ok (.getfield 44, 3) := by decide +kernel
theorem dX4_keep_14 : decode cX4_keep 14 = .ok (.iload_n 1, 1) := by decide +kernel
theorem dX4_keep_15 : decode cX4_keep 15 = .ok (.iaload, 1) := by decide +kernel
theorem dX4_keep_16 : decode cX4_keep 16 = .ok (.ifCond .ne 8, 3) := by decide +kernel
theorem dX4_keep_19 : decode cX4_keep 19 = .ok (.iload_n 3, 1) := by decide +kernel
theorem dX4_keep_20 : decode cX4_keep 20 = .ok (.i2b, 1) := by decide +kernel
theorem dX4_keep_21 : decode cX4_keep 21 = .ok (.goto 19, 3) := by decide +kernel
theorem dX4_keep_24 : decode cX4_keep 24 = .ok (.aload_n 0, 1) := by decide +kernel
theorem dX4_keep_25 : decode cX4_keep 25 = .ok (.getfield 44, 3) := by decide +kernel
theorem dX4_keep_28 : decode cX4_keep 28 = .ok (.iload_n 1, 1) := by decide +kernel
theorem dX4_keep_29 : decode cX4_keep 29 = .ok (.iaload, 1) := by decide +kernel
theorem dX4_keep_30 : decode cX4_keep 30 = .ok (.iconst 1, 1) := by decide +kernel
theorem dX4_keep_31 : decode cX4_keep 31 = .ok (.if_icmp .ne 8, 3) := by decide +kernel
theorem dX4_keep_34 : decode cX4_keep 34 = .ok (.iload_n 3, 1) := by decide +kernel
theorem dX4_keep_35 : decode cX4_keep 35 = .ok (.i2s, 1) := by decide +kernel
theorem dX4_keep_36 : decode cX4_keep 36 = .ok (.goto 4, 3) := by decide +kernel
theorem dX4_keep_39 : decode cX4_keep 39 = .ok (.iload_n 3, 1) := by decide +kernel
theorem dX4_keep_40 : decode cX4_keep 40 = .ok (.iastore, 1) := by decide +kernel
theorem dX4_keep_41 : decode cX4_keep 41 = .ok (.return_, 1) := by decide +kernel
theorem dX4_put_0 : decode cX4_put 0 = .ok (.iload_n 1, 1) := by decide +kernel
theorem dX4_put_1 : decode cX4_put 1 = .ok (.invokestatic 111, 3) := by decide +kernel
theorem dX4_put_4 : decode cX4_put 4 = .ok (.ifCond .eq 12, 3) := by decide +kernel
theorem dX4_put_7 : decode cX4_put 7 = .ok (.iload_n 2, 1) := by decide +kernel
theorem dX4_put_8 : decode cX4_put 8 = .ok (.iconst 0, 1) := by decide +kernel
theorem dX4_put_9 : decode cX4_put 9 = .ok (.iconst 2, 1) := by decide +kernel
theorem dX4_put_10 : decode cX4_put 10 = .ok (.invokestatic 65, 3) := by decide +kernel
theorem dX4_put_13 : decode cX4_put 13 = .ok (.ifCond .ne 6, 3) := by decide +kernel
theorem dX4_put_16 : decode cX4_put 16 = .ok (.bipush (-2), 2) := by decide +kernel
theorem dX4_put_18 : decode cX4_put 18 = .ok (.ireturn, 1) := by decide +kernel
theorem dX4_put_19 : decode cX4_put 19 = .ok (.aload_n 0, 1) := by decide +kernel
theorem dX4_put_20 : decode cX4_put 20 = .ok (.iload_n 1, 1) := by decide +kernel
theorem dX4_put_21 : decode cX4_put 21 = .ok (.iload_n 2, 1) := by decide +kernel
theorem dX4_put_22 : decode cX4_put 22 = .ok (.iload_n 3, 1) := by decide +kernel
theorem dX4_put_23 : decode cX4_put 23 = .ok (.invokevirtual 225, 3) := by decide +kernel
theorem dX4_put_26 : decode cX4_put 26 = .ok (.istore 5, 2) := by decide +kernel
theorem dX4_put_28 : decode cX4_put 28 = .ok (.iload 5, 2) := by decide +kernel
theorem dX4_put_30 : decode cX4_put 30 = .ok (.ifCond .le 10, 3) := by decide +kernel
theorem dX4_put_33 : decode cX4_put 33 = .ok (.aload_n 0, 1) := by decide +kernel
theorem dX4_put_34 : decode cX4_put 34 = .ok (.iload 5, 2) := by decide +kernel
theorem dX4_put_36 : decode cX4_put 36 = .ok (.invokevirtual 114, 3) := by decide +kernel
theorem dX4_put_39 : decode cX4_put 39 = .ok (.ireturn, 1) := by decide +kernel
theorem dX4_put_40 : decode cX4_put 40 = .ok (.aload_n 0, 1) := by decide +kernel
theorem dX4_put_41 : decode cX4_put 41 = .ok (.iload_n 1, 1) := by decide +kernel
theorem dX4_put_42 : decode cX4_put 42 = .ok (.iload_n 3, 1) := by decide +kernel
theorem dX4_put_43 : decode cX4_put 43 = .ok (.iload 4, 2) := by decide +kernel
theorem dX4_put_45 : decode cX4_put 45 = .ok (.invokevirtual 228, 3) := by decide +kernel
theorem dX4_put_48 : decode cX4_put 48 = .ok (.iconst 1, 1) := by decide +kernel
theorem dX4_put_49 : decode cX4_put 49 = .ok (.ireturn, 1) := by decide +kernel
theorem dX4_get_0 : decode cX4_get 0 = .ok (.iload_n 1, 1) := by decide +kernel
theorem dX4_get_1 : decode cX4_get 1 = .ok (.invokestatic 111, 3) := by decide +kernel
theorem dX4_get_4 : decode cX4_get 4 = .ok (.ifCond .eq 12, 3) := by decide +kernel
theorem dX4_get_7 : decode cX4_get 7 = .ok (.iload_n 2, 1) := by decide +kernel
theorem dX4_get_8 : decode cX4_get 8 = .ok (.iconst 0, 1) := by decide +kernel
theorem dX4_get_9 : decode cX4_get 9 = .ok (.iconst 2, 1) := by decide +kernel
theorem dX4_get_10 : decode cX4_get 10 = .ok (.invokestatic 65, 3) := by decide +kernel
theorem dX4_get_13 : decode cX4_get 13 = .ok (.ifCond .ne 6, 3) := by decide +kernel
theorem dX4_get_16 : decode cX4_get 16 = .ok (.ldc 232, 2) := by decide +kernel
theorem dX4_get_18 : decode cX4_get 18 = .ok (.ireturn, 1) := by decide +kernel
theorem dX4_get_19 : decode cX4_get 19 = .ok (.aload_n 0, 1) := by decide +kernel
theorem dX4_get_20 : decode cX4_get 20 = .ok (.iload_n 1, 1) := by decide +kernel
theorem dX4_get_21 : decode cX4_get 21 = .ok (.iload_n 2, 1) := by decide +kernel
theorem dX4_get_22 : decode cX4_get 22 = .ok (.iload_n 3, 1) := by decide +kernel
theorem dX4_get_23 : decode cX4_get 23 = .ok (.invokevirtual 225, 3) := by decide +kernel
theorem dX4_get_26 : decode cX4_get 26 = .ok (.istore 4, 2) := by decide +kernel
theorem dX4_get_28 : decode cX4_get 28 = .ok (.iload 4, 2) := by decide +kernel
theorem dX4_get_30 : decode cX4_get 30 = .ok (.ifCond .le 12, 3) := by decide +kernel
theorem dX4_get_33 : decode cX4_get 33 = .ok (.aload_n 0, 1) := by decide +kernel
theorem dX4_get_34 : decode cX4_get 34 = .ok (.iload 4, 2) := by decide +kernel
theorem dX4_get_36 : decode cX4_get 36 = .ok (.putfield 222, 3) := by decide +kernel
theorem dX4_get_39 : decode cX4_get 39 = .ok (.ldc 232, 2) := by decide +kernel
theorem dX4_get_41 : decode cX4_get 41 = .ok (.ireturn, 1) := by decide +kernel
theorem dX4_get_42 : decode cX4_get 42 = .ok (.aload_n 0, 1) := by decide +kernel
theorem dX4_get_43 : decode cX4_get 43 = .ok (.getfield 50, 3) := by decide +kernel
theorem dX4_get_46 : decode cX4_get 46 = .ok (.bipush 48, 2) := by decide +kernel
theorem dX4_get_48 : decode cX4_get 48 = .ok (.iload_n 1, 1) := by decide +kernel
theorem dX4_get_49 : decode cX4_get 49 = .ok (.imul, 1) := by decide +kernel
theorem dX4_get_50 : decode cX4_get 50 = .ok (.iload_n 3, 1) := by decide +kernel
theorem dX4_get_51 : decode cX4_get 51 = .ok (.iadd, 1) := by decide +kernel
theorem dX4_get_52 : decode cX4_get 52 = .ok (.iaload, 1) := by decide +kernel
theorem dX4_get_53 : decode cX4_get 53 = .ok (.ireturn, 1) := by decide +kernel
theorem dX4_copy_0 : decode cX4_copy 0 = .ok (.iload_n 1, 1) := by decide +kernel
theorem dX4_copy_1 : decode cX4_copy 1 = .ok (.invokestatic 111, 3) := by decide +kernel
theorem dX4_copy_4 : decode cX4_copy 4 = .ok (.ifCond .eq 10, 3) := by decide +kernel
theorem dX4_copy_7 : decode cX4_copy 7 = .ok (.iload_n 3, 1) := by decide +kernel
theorem dX4_copy_8 : decode cX4_copy 8 = .ok (.invokestatic 111, 3) := by decide +kernel
theorem dX4_copy_11 : decode cX4_copy 11 = .ok (.ifCond .ne 6, 3) := by decide +kernel
theorem dX4_copy_14 : decode cX4_copy 14 = .ok (.bipush (-2), 2) := by decide +kernel
theorem dX4_copy_16 : decode cX4_copy 16 = .ok (.ireturn, 1) := by decide +kernel
theorem dX4_copy_17 : decode cX4_copy 17 = .ok (.aload_n 0, 1) := by decide +kernel
theorem dX4_copy_18 : decode cX4_copy 18 = .ok (.getfield 41, 3) := by decide +kernel
theorem dX4_copy_21 : decode cX4_copy 21 = .ok (.iload_n 1, 1) := by decide +kernel
theorem dX4_copy_22 : decode cX4_copy 22 = .ok (.baload, 1) := by decide +kernel
theorem dX4_copy_23 : decode cX4_copy 23 = .ok (.ifCond .eq 12, 3) := by decide +kernel
theorem dX4_copy_26 : decode cX4_copy 26 = .ok (.aload_n 0, 1) := by decide +kernel
theorem dX4_copy_27 : decode cX4_copy 27 = .ok (.getfield 41, 3) := by decide +kernel
theorem dX4_copy_30 : decode cX4_copy 30 = .ok (.iload_n 3, 1) := by decide +kernel
theorem dX4_copy_31 : decode cX4_copy 31 = .ok (.baload, 1) := by decide +kernel
theorem dX4_copy_32 : decode cX4_copy 32 = .ok (.ifCond .ne 9, 3) := by decide +kernel
theorem dX4_copy_35 : decode cX4_copy 35 = .ok (.aload_n 0, 1) := by decide +kernel
theorem dX4_copy_36 : decode cX4_copy 36 = .ok (.iconst 1, 1) := by decide +kernel
theorem dX4_copy_37 : decode cX4_copy 37 = .ok (.invokevirtual 114, 3) := by decide +kernel
theorem dX4_copy_40 : decode cX4_copy 40 = .ok (.ireturn, 1) := by decide +kernel
